set_option maxHeartbeats 400000 in
theorem img_5 {S f5 : Nat → Int32} {p v : Int32} : ∀ (n N : Nat) (g : Nat → Int32) (i : Int32), 0 ≤ i.toInt → i.toInt + n = 360 → n < N → (fl_mX11_image_in_23 S p (fun w _ => (w, f5, v)) N g i).2.2 = v := by
  intro n
  induction n with
  | zero =>
    intro N g i i0 iz hN
    obtain ⟨N, rfl⟩ : ∃ m, N = m + 1 := ⟨N - 1, by omega⟩
    have e : i = 360 := Int32.toInt_inj.mp (by rw [k360]; omega)
    show (fb_mX11_image_in_23 S p (fun w _ => (w, f5, v)) (fl_mX11_image_in_23 S p (fun w _ => (w, f5, v)) N) g i).2.2 = v
    unfold fb_mX11_image_in_23
    rw [e, if_pos (by decide)]
  | succ n ih =>
    intro N g i i0 iz hN
    obtain ⟨N, rfl⟩ : ∃ m, N = m + 1 := ⟨N - 1, by omega⟩
    have ei : (i + 1).toInt = i.toInt + 1 := zadd1 (by omega)
    show (fb_mX11_image_in_23 S p (fun w _ => (w, f5, v)) (fl_mX11_image_in_23 S p (fun w _ => (w, f5, v)) N) g i).2.2 = v
    unfold fb_mX11_image_in_23
    rw [if_neg (show ¬ 360 ≤ i by rw [Int32.le_iff_toInt_le, k360]; omega), bnd_eq, bnd_eq, bnd_eq]
    exact ih N _ (i + 1) (by omega) (by omega) (by omega)
set_option maxHeartbeats 400000 in
theorem img_a {S f g : Nat → Int32} {p : Int32} : (fX11_image_in S f g p).2.2 = S 5 := by
  unfold fX11_image_in
  rw [bnd_eq]
  exact img_5 360 _ f 0 (by decide) (by decide) (by decide)
def tkSS (S : Nat → Int32) (LL : Nat → Cls) (im : Nat → Option (Nat → Int32)) (p q : Int32) : Nat → Int32 := if hs p (gI im 0) = 0 then S else tkS S (LL p.toNatClampNeg) (chn 0 (LL p.toNatClampNeg)) q
def tkAA (S : Nat → Int32) (LL : Nat → Cls) (im : Nat → Option (Nat → Int32)) (p q : Int32) : Int32 := if hs p (gI im 0) = 0 then -1 else tkA S (LL p.toNatClampNeg) (chn 0 (LL p.toNatClampNeg)) q
def meAA (S : Nat → Int32) (LL : Nat → Cls) (im : Nat → Option (Nat → Int32)) (p q : Int32) : Int32 := if hs p (gI im 0) = 0 then -1 else meA S (LL p.toNatClampNeg) q
def ahAA (S : Nat → Int32) (LL : Nat → Cls) (im : Nat → Option (Nat → Int32)) (p q w : Int32) : Int32 := if hs p (gI im 0) = 0 then -1 else ahA S (LL p.toNatClampNeg) (chn 0 (LL p.toNatClampNeg)) q w
set_option maxHeartbeats 400000 in
theorem tkSS_iv {S : Nat → Int32} {LL : Nat → Cls} {im : Nat → Option (Nat → Int32)} {p q : Int32} (g : GD S) : IV (tkSS S LL im p q) ∧ (tkSS S LL im p q 5).toInt ≤ 99999 := by
  unfold tkSS
  split
  · exact g.2
  · exact (tkS_at g).2
set_option maxHeartbeats 400000 in
theorem ref_tickw {S sg cl cs cf : Nat → Int32} {sk wd : Nat → Int64} {laws top p q : Int32} {LL : Nat → Cls} {im : Nat → Option (Nat → Int32)} {w : Int32 × (Nat → Int64) × (Nat → Int64) × (Nat → Int32) × Int32} (g : GD S) (hr : RLW laws sg cl cs cf LL) (h6 : ¬ 6 < laws) (h0 : laws = gI im 0) (e : w = fX11_tick laws top sg cl cs cf sk wd S (S 0) (S 2) (S 6) p q) : w.2.2.2.1 = tkSS S LL im p q ∧ w.2.2.2.2 = tkAA S LL im p q := by
  unfold tkSS tkAA
  rw [← h0]
  by_cases hl : hs p laws = 0
  · have q1 : fX11_tick laws top sg cl cs cf sk wd S (S 0) (S 2) (S 6) p q = (top, sk, wd, S, -1) := by
      unfold fX11_tick
      rw [if_pos hl]
    rw [q1] at e
    subst e
    rw [if_pos hl, if_pos hl]
    exact ⟨rfl, rfl⟩
  · obtain ⟨hR, hc⟩ := RLW_R hr h6 hl
    obtain ⟨v', g1', g2', q1⟩ := ref_tick (sk := sk) (wd := wd) (top := top) (p := q) hR hc g.2.1 rfl rfl rfl hl
    rw [q1] at e
    subst e
    rw [if_neg hl, if_neg hl]
    exact ⟨rfl, rfl⟩
set_option maxHeartbeats 400000 in
theorem ref_meltw {S sg cl cs cf : Nat → Int32} {sk wd : Nat → Int64} {laws top p j : Int32} {LL : Nat → Cls} {im : Nat → Option (Nat → Int32)} (g : GD S) (hr : RLW laws sg cl cs cf LL) (h6 : ¬ 6 < laws) (h0 : laws = gI im 0) : (fX11_melt laws top sg cl cs sk wd S (S 2) (S 6) p j).2.2.2 = meAA S LL im p j := by
  unfold meAA
  rw [← h0]
  by_cases hl : hs p laws = 0
  · rw [if_pos hl]
    unfold fX11_melt
    rw [if_pos hl]
  · rw [if_neg hl]
    exact melt_r g (RLW_R hr h6 hl).1 hl
set_option maxHeartbeats 400000 in
theorem ref_aheadw {S sg cl cs cf kp : Nat → Int32} {sk wd : Nat → Int64} {laws top p q r : Int32} {LL : Nat → Cls} {im : Nat → Option (Nat → Int32)} {w : Int32 × (Nat → Int64) × (Nat → Int64) × (Nat → Int32) × (Nat → Int32) × Int32} (g : GD S) (hr : RLW laws sg cl cs cf LL) (h6 : ¬ 6 < laws) (h0 : laws = gI im 0) (e : w = fX11_ahead laws top sg cl cs cf sk wd S kp (S 0) (S 2) (S 6) p q r) : w.2.2.2.1 = S ∧ w.2.2.2.2.2 = ahAA S LL im p q r := by
  unfold ahAA
  rw [← h0]
  by_cases hl : hs p laws = 0
  · have q1 : fX11_ahead laws top sg cl cs cf sk wd S kp (S 0) (S 2) (S 6) p q r = (top, sk, wd, S, kp, -1) := by
      unfold fX11_ahead
      rw [if_pos hl]
    rw [q1] at e
    subst e
    rw [if_pos hl]
    exact ⟨rfl, rfl⟩
  · obtain ⟨hR, hc⟩ := RLW_R hr h6 hl
    obtain ⟨v', g1', g2', kp', q1⟩ := ref_ahead (kp := kp) (sk := sk) (wd := wd) (top := top) (p := q) (q := r) hR hc g.2.1 g.2.2 rfl rfl rfl hl
    rw [q1] at e
    subst e
    rw [if_neg hl]
    exact ⟨rfl, rfl⟩
/-- the start -/
def S0_ : Nat → Int32 := upd (fun _ => 0) 8 (-1)
set_option maxHeartbeats 400000 in
theorem S0_at {i : Nat} (h : i ≠ 8) : S0_ i = 0 := upd_ne (fun q => h q.symm)
set_option maxHeartbeats 400000 in
theorem iv_0 : IV S0_ := by
  have z : (0 : Int32).toInt = 0 := z_i0
  refine ⟨fun j hj => ⟨?_, ?_, fun w => ?_⟩, fun k hk => ?_, fun j hj => ?_, fun j j0 j1 => ?_, ?_, ?_, ?_, ?_⟩
  · rw [S0_at (by omega), z]; omega
  · rw [S0_at (by omega), z]; omega
  · rw [S0_at (by omega)] at w; exact absurd w (by decide)
  · rw [S0_at (by omega), z]; omega
  · rw [S0_at (by omega), z]; omega
  · rw [S0_at (by omega), z] at j1; omega
  · rw [S0_at (by omega), z]; omega
  · rw [S0_at (by omega), z]; omega
  · rw [S0_at (by omega), z]; omega
  · rw [S0_at (by omega), z]; omega
set_option maxHeartbeats 400000 in
theorem GD_0_ : GD S0_ := ⟨SC_whole SC_new2, iv_0, by rw [S0_at (by omega), z_i0]; omega⟩
set_option maxHeartbeats 400000 in
theorem X4_0_ : X4 S0_ 0 0 0 0 0 0 0 0 (-1) 0 (fun _ => 0) (fun _ => 0) (fun _ => 0) (fun _ => 0) (fun _ => 0) (fun _ => 0) := by
  have a : ∀ i : Nat, i ≠ 8 → (0 : Int32) = S0_ i := fun i hi => (S0_at hi).symm
  exact ⟨⟨a 0 (by omega), a 1 (by omega), a 2 (by omega), a 3 (by omega), a 4 (by omega)⟩, ⟨a 5 (by omega), a 6 (by omega), a 7 (by omega), pk_us.symm, a 9 (by omega)⟩, fun i hi => a _ (by omega), fun i hi => a _ (by omega), fun j c hj hc => a _ (by omega), fun i hi => a _ (by omega), fun i hi => a _ (by omega), fun i hi => a _ (by omega)⟩
