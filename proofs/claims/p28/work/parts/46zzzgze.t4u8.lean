/-- a search at its end -/
def srT (lat d h a : Int32) : Int32 := if lat < h then a else if d ≤ a then a else d
/-- passes one after the other -/
def srP (g : Int32 → Int32 → Int32) : Nat → Int32 → Int32 → Int32
  | 0, _, a => a
  | n + 1, p, a => srP g n (p + 1) (g p a)
def addV (v : Int32 → Bool) (x : Int32) : Int32 → Bool := fun y => v y || decide (y = x)
/-- what is LEFT at best, with k PASSES more -/
def srF (S : Nat → Int32) (L : Cls) (fe sa tgt lat : Int32) : Nat → (Int32 → Bool) → Int32 → Int32 → Int32 → Int32 → Int32
  | 0, _, u, d, h, a => if u = tgt then srT lat d h a else a
  | k + 1, v, u, d, h, a => if u = tgt then srT lat d h a else srP (fun p b => if oth S p u < 0 then b else if v (oth S p u) = true then b else srF S L fe sa tgt lat k (addV v (oth S p u)) (oth S p u) (crD 1 S L p (oth S p u) fe sa 0 d h) (crH S p h) b) (S 1).toNatClampNeg 0 a
def srG (S : Nat → Int32) (L : Cls) (fe sa tgt lat : Int32) (k : Nat) (v : Int32 → Bool) (u d h p b : Int32) : Int32 := if oth S p u < 0 then b else if v (oth S p u) = true then b else srF S L fe sa tgt lat k (addV v (oth S p u)) (oth S p u) (crD 1 S L p (oth S p u) fe sa 0 d h) (crH S p h) b
set_option maxHeartbeats 400000 in
theorem srF_t {S : Nat → Int32} {L : Cls} {fe sa tgt lat u d h a : Int32} {v : Int32 → Bool} (e : u = tgt) : ∀ k : Nat, srF S L fe sa tgt lat k v u d h a = srT lat d h a
  | 0 => if_pos e
  | _ + 1 => if_pos e
set_option maxHeartbeats 400000 in
theorem srF_0 {S : Nat → Int32} {L : Cls} {fe sa tgt lat u d h a : Int32} {v : Int32 → Bool} (e : ¬ u = tgt) : srF S L fe sa tgt lat 0 v u d h a = a := if_neg e
set_option maxHeartbeats 400000 in
theorem srF_s {S : Nat → Int32} {L : Cls} {fe sa tgt lat u d h a : Int32} {v : Int32 → Bool} {k : Nat} (e : ¬ u = tgt) : srF S L fe sa tgt lat (k + 1) v u d h a = srP (srG S L fe sa tgt lat k v u d h) (S 1).toNatClampNeg 0 a := if_neg e
set_option maxHeartbeats 400000 in
theorem srP_s {g : Int32 → Int32 → Int32} {n : Nat} {p a : Int32} : srP g (n + 1) p a = srP g n (p + 1) (g p a) := rfl
/-- where the path has been -/
def HVp (v : Int32 → Bool) (gN : Nat → Int32) (k : Int32) : Prop := ∀ x : Int32, v x = true ↔ ∃ i : Nat, (i : Int) ≤ k.toInt ∧ gN i = x
set_option maxHeartbeats 400000 in
theorem HVp_push {v : Int32 → Bool} {gN : Nat → Int32} {k x : Int32} (h : HVp v gN k) (k0 : 0 ≤ k.toInt) (k6 : k.toInt < 6) : HVp (addV v x) (upd gN (k + 1).toNatClampNeg x) (k + 1) := by
  have ek : (k + 1).toInt = k.toInt + 1 := zadd1 (by omega)
  have tk := tn_eq (show 0 ≤ (k + 1).toInt by omega)
  intro y
  unfold addV
  rw [Bool.or_eq_true, decide_eq_true_iff]
  constructor
  · rintro (q | q)
    · obtain ⟨i, hi, e⟩ := (h y).mp q
      exact ⟨i, by omega, by rw [upd_ne (by omega)]; exact e⟩
    · exact ⟨(k + 1).toNatClampNeg, by omega, by rw [pk_us]; exact q.symm⟩
  · rintro ⟨i, hi, e⟩
    by_cases q : (k + 1).toNatClampNeg = i
    · rw [← q, pk_us] at e
      exact Or.inr e.symm
    · rw [upd_ne q] at e
      exact Or.inl ((h y).mpr ⟨i, by omega, e⟩)
set_option maxHeartbeats 400000 in
theorem HVp_ag {v : Int32 → Bool} {f g : Nat → Int32} {k : Int32} (h : HVp v f k) (e : ∀ i : Nat, (i : Int) ≤ k.toInt → g i = f i) : HVp v g k := by
  intro x
  rw [h x]
  constructor
  · rintro ⟨i, hi, q⟩; exact ⟨i, hi, (e i hi).trans q⟩
  · rintro ⟨i, hi, q⟩; exact ⟨i, hi, (e i hi).symm.trans q⟩
set_option maxHeartbeats 400000 in
theorem was_l {g : Nat → Int32} {x k : Int32} (k0 : 0 ≤ k.toInt) (k6 : k.toInt ≤ 6) : ∀ (n N : Nat) (l : Int32), 0 ≤ l.toInt → l.toInt + n = k.toInt + 1 → n < N → (fl_mX11_wasAt_2 g x k (fun _ => 1) (fun _ => 0) N l = 0 ∧ ∀ i : Nat, l.toInt ≤ i → (i : Int) ≤ k.toInt → ¬ g i = x) ∨ (fl_mX11_wasAt_2 g x k (fun _ => 1) (fun _ => 0) N l = 1 ∧ ∃ i : Nat, (i : Int) ≤ k.toInt ∧ g i = x) := by
  intro n
  induction n with
  | zero =>
    intro N l l0 lz hN
    obtain ⟨N, rfl⟩ : ∃ m, N = m + 1 := ⟨N - 1, by omega⟩
    left
    refine ⟨?_, fun i h1 h2 => by omega⟩
    show fb_mX11_wasAt_2 g x k (fun _ => 1) (fun _ => 0) (fl_mX11_wasAt_2 g x k (fun _ => 1) (fun _ => 0) N) l = 0
    unfold fb_mX11_wasAt_2
    rw [if_pos (show k < l by rw [Int32.lt_iff_toInt_lt]; omega)]
  | succ n ih =>
    intro N l l0 lz hN
    obtain ⟨N, rfl⟩ : ∃ m, N = m + 1 := ⟨N - 1, by omega⟩
    have tl := tn_eq l0
    have el : (l + 1).toInt = l.toInt + 1 := zadd1 (by omega)
    have e : fl_mX11_wasAt_2 g x k (fun _ => 1) (fun _ => 0) (N + 1) l = if g l.toNatClampNeg = x then 1 else fl_mX11_wasAt_2 g x k (fun _ => 1) (fun _ => 0) N (l + 1) := by
      show fb_mX11_wasAt_2 g x k (fun _ => 1) (fun _ => 0) (fl_mX11_wasAt_2 g x k (fun _ => 1) (fun _ => 0) N) l = _
      unfold fb_mX11_wasAt_2
      rw [if_neg (show ¬ k < l by rw [Int32.lt_iff_toInt_lt]; omega), bnd_eq]
      by_cases q : g l.toNatClampNeg = x
      · rw [if_pos q, if_pos q]
      · rw [if_neg q, if_neg q, bnd_eq]
    rw [e]
    by_cases q : g l.toNatClampNeg = x
    · right
      rw [if_pos q]
      exact ⟨rfl, l.toNatClampNeg, by omega, q⟩
    · rw [if_neg q]
      rcases ih N (l + 1) (by omega) (by omega) (by omega) with ⟨r, r2⟩ | r
      · left
        refine ⟨r, fun i h1 h2 => ?_⟩
        by_cases z : i = l.toNatClampNeg
        · rw [z]; exact q
        · exact r2 i (by omega) h2
      · exact Or.inr r
set_option maxHeartbeats 400000 in
theorem was_v {v : Int32 → Bool} {g : Nat → Int32} {x k : Int32} (h : HVp v g k) (k0 : 0 ≤ k.toInt) (k6 : k.toInt ≤ 6) : (v x = true ∧ fX11_wasAt g x k = 1) ∨ ((¬ v x = true) ∧ fX11_wasAt g x k = 0) := by
  unfold fX11_wasAt
  rcases was_l (g := g) (x := x) k0 k6 (k.toInt + 1).toNat (((k : Int32).toInt + 1 - (0 : Int32).toInt).toNat + 1) 0 (by decide) (by rw [z_i0]; omega) (by rw [z_i0]; omega) with ⟨r, r2⟩ | ⟨r, r2⟩
  · right
    refine ⟨fun q => ?_, r⟩
    obtain ⟨i, hi, e⟩ := (h x).mp q
    exact r2 i (by rw [z_i0]; omega) hi e
  · exact Or.inl ⟨(h x).mpr r2, r⟩
set_option maxHeartbeats 400000 in
theorem cp_b {gP : Nat → Int32} {k : Int32} {E : (Nat → Int32) → Int32 → (Int32 × Int32 × Int32 × Int32 × Int32 × Int32 × Int32 × Int32 × Int32 × Int32 × (Nat → Int64) × (Nat → Int64) × (Nat → Int32) × (Nat → Int32) × (Nat → Int32) × (Nat → Int32) × (Nat → Int32) × (Nat → Int32))} (k6 : k.toInt ≤ 6) : ∀ (n N : Nat) (gB : Nat → Int32) (i : Int32), 0 ≤ i.toInt → i.toInt + n = k.toInt → n < N → ∃ kB, fl_mX11_searches_101 gP k E N gB i = E kB k := by
  intro n
  induction n with
  | zero =>
    intro N gB i i0 iz hN
    obtain ⟨N, rfl⟩ : ∃ m, N = m + 1 := ⟨N - 1, by omega⟩
    have e : i = k := Int32.toInt_inj.mp (by omega)
    refine ⟨gB, ?_⟩
    show fb_mX11_searches_101 gP k E (fl_mX11_searches_101 gP k E N) gB i = _
    unfold fb_mX11_searches_101
    rw [if_pos (by rw [e]; exact Int32.le_refl _), e]
  | succ n ih =>
    intro N gB i i0 iz hN
    obtain ⟨N, rfl⟩ : ∃ m, N = m + 1 := ⟨N - 1, by omega⟩
    have ei : (i + 1).toInt = i.toInt + 1 := zadd1 (by omega)
    obtain ⟨kB, r⟩ := ih N (upd gB i.toNatClampNeg (gP i.toNatClampNeg)) (i + 1) (by omega) (by omega) (by omega)
    refine ⟨kB, ?_⟩
    show fb_mX11_searches_101 gP k E (fl_mX11_searches_101 gP k E N) gB i = _
    unfold fb_mX11_searches_101
    rw [if_neg (show ¬ k ≤ i by rw [Int32.le_iff_toInt_le]; omega), bnd_eq, bnd_eq, bnd_eq]
    exact r
set_option maxHeartbeats 400000 in
theorem ref_sr {S sg cl cs : Nat → Int32} {law tgt q3 fe sa lat : Int32} {L : Cls} {E : Int32 → Int32 → Int32 → Int32 → Int32 → Int32 → Int32 → Int32 → Int32 → Int32 → (Nat → Int64) → (Nat → Int64) → (Nat → Int32) → (Nat → Int32) → (Nat → Int32) → (Nat → Int32) → (Nat → Int32) → (Nat → Int32) → Int32 → (Int32 × Int32 × Int32 × Int32 × Int32 × Int32 × Int32 × Int32 × Int32 × Int32 × (Nat → Int64) × (Nat → Int64) × (Nat → Int32) × (Nat → Int32) × (Nat → Int32) × (Nat → Int32) × (Nat → Int32) × (Nat → Int32))} (g : GD S) (hL : LWR sg cl cs law L) : ∀ (j N : Nat) (k : Int32) (v : Int32 → Bool) (u d h v0 v1 v2 v3 v4 v5 v6 a v8 v9 : Int32) (s1 s2 : Nat → Int64) (gN gD gH gX gP gB : Nat → Int32), 0 ≤ k.toInt → k.toInt + j = 6 → gN k.toNatClampNeg = u → gD k.toNatClampNeg = d → gH k.toNatClampNeg = h → gX k.toNatClampNeg = 0 → rN u → 0 ≤ d.toInt → d.toInt ≤ 99999 → HVp v gN k → NXI (S 1) k gX → sms (S 1) k gX < N → ∃ (N2 : Nat) (w0 w1 w2 w3 w4 w5 w6 w8 w9 : Int32) (t1 t2 : Nat → Int64) (kN kD kH kX kP kB : Nat → Int32), fl_mX11_searches_33 sg cl cs S (S 1) (S 6) law tgt q3 fe sa (-1) lat E N v0 v1 v2 v3 v4 v5 v6 a v8 v9 s1 s2 gN gD gH gX gP gB k = fl_mX11_searches_33 sg cl cs S (S 1) (S 6) law tgt q3 fe sa (-1) lat E N2 w0 w1 w2 w3 w4 w5 w6 (srF S L fe sa tgt lat j v u d h a) w8 w9 t1 t2 kN kD kH kX kP kB (k + (-1)) ∧ NXI (S 1) (k + (-1)) kX ∧ sms (S 1) (k + (-1)) kX < N2 ∧ ∀ i : Nat, (i : Int) < k.toInt → kN i = gN i ∧ kD i = gD i ∧ kH i = gH i ∧ kX i = gX i := by
  have b1 := GD_1 g
  have t1' := tn_eq b1.1
  have z0 : ¬ S 1 < 0 := z_nlt0 b1.1
  have z20 : ¬ 20 < S 1 := by rw [Int32.lt_iff_toInt_lt, show (20 : Int32).toInt = 20 from by decide]; omega
  intro j
  induction j with
  | zero =>
    intro N k v u d h v0 v1 v2 v3 v4 v5 v6 a v8 v9 s1 s2 gN gD gH gX gP gB k0 kj hN hD hH hX hu d0 d9 hv hx hm
    obtain ⟨N, rfl⟩ : ∃ m, N = m + 1 := ⟨N - 1, by omega⟩
    have k0n : ¬ k < 0 := z_nlt0 k0
    show ∃ (N2 : Nat) (w0 w1 w2 w3 w4 w5 w6 w8 w9 : Int32) (t1 t2 : Nat → Int64) (kN kD kH kX kP kB : Nat → Int32), fb_mX11_searches_33 sg cl cs S (S 1) (S 6) law tgt q3 fe sa (-1) lat E (fl_mX11_searches_33 sg cl cs S (S 1) (S 6) law tgt q3 fe sa (-1) lat E N) v0 v1 v2 v3 v4 v5 v6 a v8 v9 s1 s2 gN gD gH gX gP gB k = fl_mX11_searches_33 sg cl cs S (S 1) (S 6) law tgt q3 fe sa (-1) lat E N2 w0 w1 w2 w3 w4 w5 w6 (srF S L fe sa tgt lat 0 v u d h a) w8 w9 t1 t2 kN kD kH kX kP kB (k + (-1)) ∧ NXI (S 1) (k + (-1)) kX ∧ sms (S 1) (k + (-1)) kX < N2 ∧ ∀ i : Nat, (i : Int) < k.toInt → kN i = gN i ∧ kD i = gD i ∧ kH i = gH i ∧ kX i = gX i
    unfold fb_mX11_searches_33
    rw [if_neg k0n, bndv hN]
    by_cases c : u = tgt
    · rw [if_pos c, bndv hH, srF_t c]
      unfold srT
      by_cases c2 : lat < h
      · rw [if_pos c2, if_pos c2, bnd_eq]
        exact ⟨N, v0, v1, v2, v3, v4, v5, v6, v8, v9, s1, s2, gN, gD, gH, gX, gP, gB, rfl, NX_dec hx k0n rfl, sm_dec hm hx k0n rfl, fun i hi => ⟨rfl, rfl, rfl, rfl⟩⟩
      · rw [if_neg c2, if_neg c2, bndv hD]
        by_cases c3 : d ≤ a
        · rw [if_pos c3, if_pos c3, bnd_eq]
          exact ⟨N, v0, v1, v2, v3, v4, v5, v6, v8, v9, s1, s2, gN, gD, gH, gX, gP, gB, rfl, NX_dec hx k0n rfl, sm_dec hm hx k0n rfl, fun i hi => ⟨rfl, rfl, rfl, rfl⟩⟩
        · rw [if_neg c3, if_neg c3, bndv hD]
          obtain ⟨kB, r⟩ := cp_b (gP := gP) (k := k) (E := fun (w128_0_y33_0 : Nat → Int32) (w128_1_y33_0 : Int32) => bnd ((k + (-1))) (fun (xy33_78 : Int32) => fl_mX11_searches_33 sg cl cs S (S 1) (S 6) law tgt q3 fe sa (-1) lat E N v0 v1 v2 v3 v4 v5 v6 d q3 k s1 s2 gN gD gH gX gP w128_0_y33_0 xy33_78)) (by omega) k.toNatClampNeg (((k : Int32).toInt - (0 : Int32).toInt).toNat + 1) gB 0 (by decide) (by have := tn_eq k0; rw [z_i0]; omega) (by have := tn_eq k0; rw [z_i0]; omega)
          exact ⟨N, v0, v1, v2, v3, v4, v5, v6, q3, k, s1, s2, gN, gD, gH, gX, gP, kB, r, NX_dec hx k0n rfl, sm_dec hm hx k0n rfl, fun i hi => ⟨rfl, rfl, rfl, rfl⟩⟩
    · have e6 : k = 6 := Int32.toInt_inj.mp (by rw [show (6 : Int32).toInt = 6 from by decide]; omega)
      rw [if_neg c, if_pos e6, bnd_eq, srF_0 c]
      exact ⟨N, v0, v1, v2, v3, v4, v5, v6, v8, v9, s1, s2, gN, gD, gH, gX, gP, gB, rfl, NX_dec hx k0n rfl, sm_dec hm hx k0n rfl, fun i hi => ⟨rfl, rfl, rfl, rfl⟩⟩
  | succ j IH =>
    intro N k v u d h v0 v1 v2 v3 v4 v5 v6 a v8 v9 s1 s2 gN gD gH gX gP gB k0 kj hN hD hH hX hu d0 d9 hv hx hm
    have k0n : ¬ k < 0 := z_nlt0 k0
    by_cases c : u = tgt
    · obtain ⟨N, rfl⟩ : ∃ m, N = m + 1 := ⟨N - 1, by omega⟩
      show ∃ (N2 : Nat) (w0 w1 w2 w3 w4 w5 w6 w8 w9 : Int32) (t1 t2 : Nat → Int64) (kN kD kH kX kP kB : Nat → Int32), fb_mX11_searches_33 sg cl cs S (S 1) (S 6) law tgt q3 fe sa (-1) lat E (fl_mX11_searches_33 sg cl cs S (S 1) (S 6) law tgt q3 fe sa (-1) lat E N) v0 v1 v2 v3 v4 v5 v6 a v8 v9 s1 s2 gN gD gH gX gP gB k = fl_mX11_searches_33 sg cl cs S (S 1) (S 6) law tgt q3 fe sa (-1) lat E N2 w0 w1 w2 w3 w4 w5 w6 (srF S L fe sa tgt lat (j + 1) v u d h a) w8 w9 t1 t2 kN kD kH kX kP kB (k + (-1)) ∧ NXI (S 1) (k + (-1)) kX ∧ sms (S 1) (k + (-1)) kX < N2 ∧ ∀ i : Nat, (i : Int) < k.toInt → kN i = gN i ∧ kD i = gD i ∧ kH i = gH i ∧ kX i = gX i
      unfold fb_mX11_searches_33
      rw [if_neg k0n, bndv hN]
      rw [if_pos c, bndv hH, srF_t c]
      unfold srT
      by_cases c2 : lat < h
      · rw [if_pos c2, if_pos c2, bnd_eq]
        exact ⟨N, v0, v1, v2, v3, v4, v5, v6, v8, v9, s1, s2, gN, gD, gH, gX, gP, gB, rfl, NX_dec hx k0n rfl, sm_dec hm hx k0n rfl, fun i hi => ⟨rfl, rfl, rfl, rfl⟩⟩
      · rw [if_neg c2, if_neg c2, bndv hD]
        by_cases c3 : d ≤ a
        · rw [if_pos c3, if_pos c3, bnd_eq]
          exact ⟨N, v0, v1, v2, v3, v4, v5, v6, v8, v9, s1, s2, gN, gD, gH, gX, gP, gB, rfl, NX_dec hx k0n rfl, sm_dec hm hx k0n rfl, fun i hi => ⟨rfl, rfl, rfl, rfl⟩⟩
        · rw [if_neg c3, if_neg c3, bndv hD]
          obtain ⟨kB, r⟩ := cp_b (gP := gP) (k := k) (E := fun (w128_0_y33_0 : Nat → Int32) (w128_1_y33_0 : Int32) => bnd ((k + (-1))) (fun (xy33_78 : Int32) => fl_mX11_searches_33 sg cl cs S (S 1) (S 6) law tgt q3 fe sa (-1) lat E N v0 v1 v2 v3 v4 v5 v6 d q3 k s1 s2 gN gD gH gX gP w128_0_y33_0 xy33_78)) (by omega) k.toNatClampNeg (((k : Int32).toInt - (0 : Int32).toInt).toNat + 1) gB 0 (by decide) (by have := tn_eq k0; rw [z_i0]; omega) (by have := tn_eq k0; rw [z_i0]; omega)
          exact ⟨N, v0, v1, v2, v3, v4, v5, v6, q3, k, s1, s2, gN, gD, gH, gX, gP, kB, r, NX_dec hx k0n rfl, sm_dec hm hx k0n rfl, fun i hi => ⟨rfl, rfl, rfl, rfl⟩⟩
    · rw [srF_s c]
      have ne6 : ¬ k = 6 := by intro e; rw [e, show (6 : Int32).toInt = 6 from by decide] at kj; omega
      have k6n : ¬ 6 ≤ k := by rw [Int32.le_iff_toInt_le, show (6 : Int32).toInt = 6 from by decide]; omega
      have tk := tn_eq k0
      have ek : (k + 1).toInt = k.toInt + 1 := zadd1 (by omega)
      have tk1 := tn_eq (show 0 ≤ (k + 1).toInt by omega)
      have ekb : k + 1 + (-1) = k := Int32.toInt_inj.mp (by rw [zsub1 (by omega)]; omega)
      suffices INN : ∀ (n N : Nat) (p v0 v1 v2 v3 v4 v5 v6 a v8 v9 : Int32) (s1 s2 : Nat → Int64) (gN gD gH gX gP gB : Nat → Int32), 0 ≤ p.toInt → p.toInt + n = (S 1).toInt → gN k.toNatClampNeg = u → gD k.toNatClampNeg = d → gH k.toNatClampNeg = h → gX k.toNatClampNeg = p → HVp v gN k → NXI (S 1) k gX → sms (S 1) k gX < N → ∃ (N2 : Nat) (w0 w1 w2 w3 w4 w5 w6 w8 w9 : Int32) (t1 t2 : Nat → Int64) (kN kD kH kX kP kB : Nat → Int32), fl_mX11_searches_33 sg cl cs S (S 1) (S 6) law tgt q3 fe sa (-1) lat E N v0 v1 v2 v3 v4 v5 v6 a v8 v9 s1 s2 gN gD gH gX gP gB k = fl_mX11_searches_33 sg cl cs S (S 1) (S 6) law tgt q3 fe sa (-1) lat E N2 w0 w1 w2 w3 w4 w5 w6 (srP (srG S L fe sa tgt lat j v u d h) n p a) w8 w9 t1 t2 kN kD kH kX kP kB (k + (-1)) ∧ NXI (S 1) (k + (-1)) kX ∧ sms (S 1) (k + (-1)) kX < N2 ∧ ∀ i : Nat, (i : Int) < k.toInt → kN i = gN i ∧ kD i = gD i ∧ kH i = gH i ∧ kX i = gX i from
        INN (S 1).toNatClampNeg N 0 v0 v1 v2 v3 v4 v5 v6 a v8 v9 s1 s2 gN gD gH gX gP gB (by decide) (by rw [z_i0]; omega) hN hD hH hX hv hx hm
      intro n
      induction n with
      | zero =>
        intro N p v0 v1 v2 v3 v4 v5 v6 a v8 v9 s1 s2 gN gD gH gX gP gB p0 pz hN hD hH hX hv hx hm
        obtain ⟨N, rfl⟩ : ∃ m, N = m + 1 := ⟨N - 1, by omega⟩
        have ep : p = S 1 := Int32.toInt_inj.mp (by omega)
        show ∃ (N2 : Nat) (w0 w1 w2 w3 w4 w5 w6 w8 w9 : Int32) (t1 t2 : Nat → Int64) (kN kD kH kX kP kB : Nat → Int32), fb_mX11_searches_33 sg cl cs S (S 1) (S 6) law tgt q3 fe sa (-1) lat E (fl_mX11_searches_33 sg cl cs S (S 1) (S 6) law tgt q3 fe sa (-1) lat E N) v0 v1 v2 v3 v4 v5 v6 a v8 v9 s1 s2 gN gD gH gX gP gB k = fl_mX11_searches_33 sg cl cs S (S 1) (S 6) law tgt q3 fe sa (-1) lat E N2 w0 w1 w2 w3 w4 w5 w6 (srP (srG S L fe sa tgt lat j v u d h) 0 p a) w8 w9 t1 t2 kN kD kH kX kP kB (k + (-1)) ∧ NXI (S 1) (k + (-1)) kX ∧ sms (S 1) (k + (-1)) kX < N2 ∧ ∀ i : Nat, (i : Int) < k.toInt → kN i = gN i ∧ kD i = gD i ∧ kH i = gH i ∧ kX i = gX i
        unfold fb_mX11_searches_33
        rw [if_neg k0n, bndv hN, if_neg c, if_neg ne6, bndv hX, if_pos ep, bnd_eq]
        exact ⟨N, v0, v1, v2, v3, v4, v5, v6, v8, v9, s1, s2, gN, gD, gH, gX, gP, gB, rfl, NX_dec hx k0n rfl, sm_dec hm hx k0n rfl, fun i hi => ⟨rfl, rfl, rfl, rfl⟩⟩
      | succ n ih =>
        intro N p v0 v1 v2 v3 v4 v5 v6 a v8 v9 s1 s2 gN gD gH gX gP gB p0 pz hN hD hH hX hv hx hm
        obtain ⟨N, rfl⟩ : ∃ m, N = m + 1 := ⟨N - 1, by omega⟩
        have np : ¬ p = S 1 := by intro e; rw [e] at pz; omega
        have nb : ¬ p = -1 := by intro e; rw [e, show (-1 : Int32).toInt = -1 from by decide] at p0; omega
        have ep1 : (p + 1).toInt = p.toInt + 1 := zadd1 (by omega)
        have hs0 : ¬ hs p (S 1) = 0 := hs_in (z_nlt0 p0) (by rw [Int32.le_iff_toInt_le]; omega)
        have hrp := rP_of (GD_sp g) hs0
        have hxi := NX_inc hx k0n z20 hX.symm np hX.symm rfl
        have hmi := sm_inc hm hx k0n z20 hX.symm np hX.symm rfl
        have skip : srG S L fe sa tgt lat j v u d h p a = a → ∃ (N2 : Nat) (w0 w1 w2 w3 w4 w5 w6 w8 w9 : Int32) (t1 t2 : Nat → Int64) (kN kD kH kX kP kB : Nat → Int32), fl_mX11_searches_33 sg cl cs S (S 1) (S 6) law tgt q3 fe sa (-1) lat E N v0 v1 v2 v3 v4 v5 v6 a v8 v9 s1 s2 gN gD gH (upd gX k.toNatClampNeg (p + 1)) gP gB k = fl_mX11_searches_33 sg cl cs S (S 1) (S 6) law tgt q3 fe sa (-1) lat E N2 w0 w1 w2 w3 w4 w5 w6 (srP (srG S L fe sa tgt lat j v u d h) (n + 1) p a) w8 w9 t1 t2 kN kD kH kX kP kB (k + (-1)) ∧ NXI (S 1) (k + (-1)) kX ∧ sms (S 1) (k + (-1)) kX < N2 ∧ ∀ i : Nat, (i : Int) < k.toInt → kN i = gN i ∧ kD i = gD i ∧ kH i = gH i ∧ kX i = gX i := by
          intro ea
          rw [srP_s, ea]
          obtain ⟨N2, w0, w1, w2, w3, w4, w5, w6, w8, w9, t1, t2, kN, kD, kH, kX, kP, kB, r1, r2, r3, r4⟩ := ih N (p + 1) v0 v1 v2 v3 v4 v5 v6 a v8 v9 s1 s2 gN gD gH (upd gX k.toNatClampNeg (p + 1)) gP gB (by omega) (by omega) hN hD hH pk_us hv hxi hmi
          exact ⟨N2, w0, w1, w2, w3, w4, w5, w6, w8, w9, t1, t2, kN, kD, kH, kX, kP, kB, r1, r2, r3, fun i hi => by
            have r := r4 i hi
            rw [upd_ne (show k.toNatClampNeg ≠ i by omega)] at r
            exact r⟩
        show ∃ (N2 : Nat) (w0 w1 w2 w3 w4 w5 w6 w8 w9 : Int32) (t1 t2 : Nat → Int64) (kN kD kH kX kP kB : Nat → Int32), fb_mX11_searches_33 sg cl cs S (S 1) (S 6) law tgt q3 fe sa (-1) lat E (fl_mX11_searches_33 sg cl cs S (S 1) (S 6) law tgt q3 fe sa (-1) lat E N) v0 v1 v2 v3 v4 v5 v6 a v8 v9 s1 s2 gN gD gH gX gP gB k = fl_mX11_searches_33 sg cl cs S (S 1) (S 6) law tgt q3 fe sa (-1) lat E N2 w0 w1 w2 w3 w4 w5 w6 (srP (srG S L fe sa tgt lat j v u d h) (n + 1) p a) w8 w9 t1 t2 kN kD kH kX kP kB (k + (-1)) ∧ NXI (S 1) (k + (-1)) kX ∧ sms (S 1) (k + (-1)) kX < N2 ∧ ∀ i : Nat, (i : Int) < k.toInt → kN i = gN i ∧ kD i = gD i ∧ kH i = gH i ∧ kX i = gX i
        unfold fb_mX11_searches_33
        rw [if_neg k0n, bndv hN, if_neg c, if_neg ne6, bndv hX, if_neg np, bndv hX, bndv hX, bnd_eq, bndv hN, bnd_eq, if_neg nb]
        by_cases c1 : oth S p u < 0
        · rw [if_pos c1]
          exact skip (if_pos c1)
        · rw [if_neg c1]
          rcases was_v (x := oth S p u) hv k0 (by omega) with ⟨q1, q2⟩ | ⟨q1, q2⟩
          · rw [bndv q2, if_neg (by decide)]
            exact skip (by unfold srG; rw [if_neg c1, if_pos q1])
          · have o0 : 0 ≤ (oth S p u).toInt := by
              rw [Int32.lt_iff_toInt_lt, z_i0] at c1
              omega
            obtain ⟨ro1, ro2⟩ := oth_in (GD_sp g) hrp o0
            obtain ⟨x1, x2, x3, q⟩ := ref_travels (sk := s1) (wd := s2) (top := v0) (node := u) (mo := 0) (fe := fe) (sa := sa) (h := h) hL hrp ro1 ro2 d0 d9
            have da := crD_in (nd := 1) (S := S) (L := L) (pass := p) (to := oth S p u) (fe := fe) (sa := sa) (mo := 0) (h := h) d0 d9
            rw [bndv q2, if_pos rfl, bndv hN, bndv hD, bndv hH, bndv (show fX11_sets u d h fe sa = (u, d, h, fe, sa, 0) from rfl), bnd_eq, bnd_eq, bnd_eq, bnd_eq, bnd_eq, bnd_eq, bndv q, bnd_eq, bnd_eq, bnd_eq, bnd_eq, bnd_eq, bnd_eq, bnd_eq, bnd_eq, bnd_eq, bnd_eq, bnd_eq, bnd_eq]
            have hxp := NX_push hx k0n k6n z0 z20 hX.symm np hX.symm rfl rfl rfl
            have hmp := sm_push hm hx k0n k6n z0 z20 hX.symm np hX.symm rfl rfl rfl
            have nk : (k + 1).toNatClampNeg ≠ k.toNatClampNeg := by omega
            obtain ⟨N2, w0, w1, w2, w3, w4, w5, w6, w8, w9, t1, t2, kN, kD, kH, kX, kP, kB, r1, r2, r3, r4⟩ := IH N (k + 1) (addV v (oth S p u)) (oth S p u) (crD 1 S L p (oth S p u) fe sa 0 d h) (crH S p h) x1 (oth S p u) (crD 1 S L p (oth S p u) fe sa 0 d h) (crH S p h) fe sa 0 a v8 v9 x2 x3 (upd gN (k + 1).toNatClampNeg (oth S p u)) (upd gD (k + 1).toNatClampNeg (crD 1 S L p (oth S p u) fe sa 0 d h)) (upd gH (k + 1).toNatClampNeg (crH S p h)) (upd (upd gX k.toNatClampNeg (p + 1)) (k + 1).toNatClampNeg 0) (upd gP k.toNatClampNeg p) gB (by omega) (by omega) pk_us pk_us pk_us pk_us ro1 da.1 (by omega) (HVp_push hv k0 (by omega)) hxp hmp
            rw [ekb] at r1 r2 r3
            have eg : srG S L fe sa tgt lat j v u d h p a = srF S L fe sa tgt lat j (addV v (oth S p u)) (oth S p u) (crD 1 S L p (oth S p u) fe sa 0 d h) (crH S p h) a := by
              unfold srG
              rw [if_neg c1, if_neg q1]
            have low : ∀ i : Nat, (i : Int) < k.toInt + 1 → kN i = gN i ∧ kD i = gD i ∧ kH i = gH i ∧ kX i = upd gX k.toNatClampNeg (p + 1) i := by
              intro i hi
              have r := r4 i (by omega)
              have ne : (k + 1).toNatClampNeg ≠ i := by omega
              rw [upd_ne ne, upd_ne ne, upd_ne ne, upd_ne ne] at r
              exact r
            obtain ⟨l1, l2, l3, l4⟩ := low k.toNatClampNeg (by omega)
            rw [pk_us] at l4
            obtain ⟨N3, y0, y1, y2, y3, y4, y5, y6, y8, y9, e1, e2, mN, mD, mH, mX, mP, mB, f1, f2, f3, f4⟩ := ih N2 (p + 1) w0 w1 w2 w3 w4 w5 w6 (srF S L fe sa tgt lat j (addV v (oth S p u)) (oth S p u) (crD 1 S L p (oth S p u) fe sa 0 d h) (crH S p h) a) w8 w9 t1 t2 kN kD kH kX kP kB (by omega) (by omega) (l1.trans hN) (l2.trans hD) (l3.trans hH) l4 (HVp_ag hv (fun i hi => (low i (by omega)).1)) r2 r3
            rw [srP_s, eg]
            refine ⟨N3, y0, y1, y2, y3, y4, y5, y6, y8, y9, e1, e2, mN, mD, mH, mX, mP, mB, r1.trans f1, f2, f3, fun i hi => ?_⟩
            obtain ⟨m1, m2, m3, m4⟩ := f4 i hi
            obtain ⟨n1, n2, n3, n4⟩ := low i (by omega)
            rw [upd_ne (show k.toNatClampNeg ≠ i by omega)] at n4
            exact ⟨m1.trans n1, m2.trans n2, m3.trans n3, m4.trans n4⟩
