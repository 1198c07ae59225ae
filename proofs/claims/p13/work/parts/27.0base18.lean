theorem CodeOK_cg {f g : Nat → Int32} {t b e : Int32} (h : CodeOK f t b e) (hg : ∀ j : Nat, j < 400 * t.toNatClampNeg + e.toNatClampNeg → g j = f j) : CodeOK g t b e := by
  obtain ⟨h1, ⟨b0, b1, b2⟩, hs, hd, hv⟩ := h
  have e0 : ¬ e < 0 := by grind
  have cb := zc_eq b0
  have ce := zc_eq e0
  have g1 := mt Int32.lt_iff_toInt_lt.mpr b1
  have same : ∀ k : Nat, k < e.toNatClampNeg - b.toNatClampNeg → g (400 * t.toNatClampNeg + b.toNatClampNeg + k) = f (400 * t.toNatClampNeg + b.toNatClampNeg + k) := fun k hk => hg _ (by omega)
  exact ⟨h1, ⟨b0, b1, b2⟩, Snd_congr hs same, by rw [dpt_congr _ same]; exact hd, by rw [vls_congr _ same]; exact hv⟩
theorem KI_code {f0 f lf : Nat → Int32} {t b made : Int32} {d : Nat} (h : KI f0 f lf t b d made) (hd : d = 1) (hm : ¬ 60 < made) : CodeOK f t b (lf t.toNatClampNeg) := by
  obtain ⟨a1, a2, a3, a4, a5, a6⟩ := h
  have g := mt Int32.lt_iff_toInt_lt.mpr hm
  rw [show (60 : Int32).toInt = 60 from by decide] at g
  exact ⟨a1, a2, a4, by rw [a5, hd], by omega⟩
/-- places of a clause -/
theorem a_60 {t c a k : Int32} {n : Nat} (ht : (¬ t < 0) ∧ ¬ 6 ≤ t) (hc : (¬ c < 0) ∧ ¬ 12 ≤ c) (ea : a = 60 * t + 5 * c) (hk : k.toInt = n) (hn : n ≤ 4) : (a + k).toNatClampNeg = 60 * t.toNatClampNeg + 5 * c.toNatClampNeg + n := by
  have g0 := mt Int32.lt_iff_toInt_lt.mpr ht.1
  have g1 := mt Int32.le_iff_toInt_le.mpr ht.2
  have g2 := mt Int32.lt_iff_toInt_lt.mpr hc.1
  have g3 := mt Int32.le_iff_toInt_le.mpr hc.2
  rw [z_i0] at g0 g2
  rw [show (6 : Int32).toInt = 6 from by decide] at g1
  rw [show (12 : Int32).toInt = 12 from by decide] at g3
  have e60 : (60 : Int32).toInt = 60 := by decide
  have e5 : (5 : Int32).toInt = 5 := by decide
  have m1 : (60 * t).toInt = 60 * t.toInt := by rw [zmul (by rw [e60]; omega) (by rw [e60]; omega), e60]
  have m2 : (5 * c).toInt = 5 * c.toInt := by rw [zmul (by rw [e5]; omega) (by rw [e5]; omega), e5]
  have m3 : a.toInt = 60 * t.toInt + 5 * c.toInt := by rw [ea, zadd (by rw [m1, m2]; omega) (by rw [m1, m2]; omega), m1, m2]
  have m4 : (a + k).toInt = 60 * t.toInt + 5 * c.toInt + n := by rw [zadd (by rw [m3, hk]; omega) (by rw [m3, hk]; omega), m3, hk]
  show (a + k).toInt.toNat = 60 * t.toInt.toNat + 5 * c.toInt.toNat + n
  omega
theorem a_60z {t c a : Int32} (ht : (¬ t < 0) ∧ ¬ 6 ≤ t) (hc : (¬ c < 0) ∧ ¬ 12 ≤ c) (ea : a = 60 * t + 5 * c) : a.toNatClampNeg = 60 * t.toNatClampNeg + 5 * c.toNatClampNeg := by
  have := a_60 ht hc ea (k := 0) (n := 0) (by decide) (by decide)
  rw [Int32.add_zero] at this
  exact this
/-- the clauses of the law that is being read -/
def KC (f lf cl cs : Nat → Int32) (t : Int32) : Prop := ((¬ t < 0) ∧ ¬ 6 ≤ t) ∧ ((¬ lf t.toNatClampNeg < 0) ∧ ¬ 400 < lf t.toNatClampNeg) ∧ ((¬ cs t.toNatClampNeg < 0) ∧ ¬ 12 < cs t.toNatClampNeg) ∧
  ∀ c a : Int32, (¬ c < 0) → (¬ cs t.toNatClampNeg ≤ c) → a = 60 * t + 5 * c → (CodeOK f t (cl (a + 1).toNatClampNeg) (cl (a + 2).toNatClampNeg) ∧ ¬ lf t.toNatClampNeg < cl (a + 2).toNatClampNeg) ∧ ((¬ cl (a + 3).toNatClampNeg < 0) → CodeOK f t (cl (a + 3).toNatClampNeg) (cl (a + 4).toNatClampNeg) ∧ ¬ lf t.toNatClampNeg < cl (a + 4).toNatClampNeg)
theorem KC_0 {f lf cl cs : Nat → Int32} {t : Int32} (ht : (¬ t < 0) ∧ ¬ 6 ≤ t) (hl : lf t.toNatClampNeg = 0) (hc : cs t.toNatClampNeg = 0) : KC f lf cl cs t := by
  refine ⟨ht, ⟨by rw [hl]; decide, by rw [hl]; decide⟩, ⟨by rw [hc]; decide, by rw [hc]; decide⟩, fun c a h0 h1 _ => ?_⟩
  rw [hc] at h1
  exact absurd (by grind) h1
theorem c_le {x y : Int32} (h : ¬ y < x) (x0 : ¬ x < 0) : x.toNatClampNeg ≤ y.toNatClampNeg := by
  have g := mt Int32.lt_iff_toInt_lt.mpr h
  show x.toInt.toNat ≤ y.toInt.toNat
  omega
theorem KC_put {f lf cl cs f2 lf2 cl2 cs2 : Nat → Int32} {t a : Int32} (h : KC f lf cl cs t) (hc : ¬ 12 ≤ cs t.toNatClampNeg) (ea : a = 60 * t + 5 * cs t.toNatClampNeg)
    (hfr : ∀ j : Nat, j < 400 * t.toNatClampNeg + (lf t.toNatClampNeg).toNatClampNeg → f2 j = f j) (hl : (¬ lf2 t.toNatClampNeg < lf t.toNatClampNeg) ∧ ¬ 400 < lf2 t.toNatClampNeg)
    (hcl : ∀ j : Nat, j < 60 * t.toNatClampNeg + 5 * (cs t.toNatClampNeg).toNatClampNeg → cl2 j = cl j) (ecs : cs2 = upd cs t.toNatClampNeg (cs t.toNatClampNeg + 1))
    (new : (CodeOK f2 t (cl2 (a + 1).toNatClampNeg) (cl2 (a + 2).toNatClampNeg) ∧ ¬ lf2 t.toNatClampNeg < cl2 (a + 2).toNatClampNeg) ∧ ((¬ cl2 (a + 3).toNatClampNeg < 0) → CodeOK f2 t (cl2 (a + 3).toNatClampNeg) (cl2 (a + 4).toNatClampNeg) ∧ ¬ lf2 t.toNatClampNeg < cl2 (a + 4).toNatClampNeg)) : KC f2 lf2 cl2 cs2 t := by
  obtain ⟨ht, ⟨l0, l4⟩, ⟨c0, c12⟩, hk⟩ := h
  have e2 : cs2 t.toNatClampNeg = cs t.toNatClampNeg + 1 := by rw [ecs]; exact pk_us
  refine ⟨ht, ⟨by grind, hl.2⟩, ⟨by rw [e2]; grind, by rw [e2]; grind⟩, fun c b h0 h1 eb => ?_⟩
  rw [e2] at h1
  by_cases q : c = cs t.toNatClampNeg
  · have : b = a := by rw [eb, ea, q]
    rw [this]; exact new
  · have hlt : ¬ cs t.toNatClampNeg ≤ c := by grind
    have h12 : (¬ c < 0) ∧ ¬ 12 ≤ c := ⟨h0, by grind⟩
    obtain ⟨⟨k1, k2⟩, k3⟩ := hk c b h0 hlt eb
    have lt : c.toNatClampNeg < (cs t.toNatClampNeg).toNatClampNeg := by
      have x1 := mt Int32.le_iff_toInt_le.mpr hlt
      have x2 := zc_eq h0
      have x3 := zc_eq c0
      omega
    have s1 : cl2 (b + 1).toNatClampNeg = cl (b + 1).toNatClampNeg := hcl _ (by rw [a_60 ht h12 eb (n := 1) (by decide) (by decide)]; omega)
    have s2 : cl2 (b + 2).toNatClampNeg = cl (b + 2).toNatClampNeg := hcl _ (by rw [a_60 ht h12 eb (n := 2) (by decide) (by decide)]; omega)
    have s3 : cl2 (b + 3).toNatClampNeg = cl (b + 3).toNatClampNeg := hcl _ (by rw [a_60 ht h12 eb (n := 3) (by decide) (by decide)]; omega)
    have s4 : cl2 (b + 4).toNatClampNeg = cl (b + 4).toNatClampNeg := hcl _ (by rw [a_60 ht h12 eb (n := 4) (by decide) (by decide)]; omega)
    rw [s1, s2, s3, s4]
    have up : ∀ e : Int32, ∀ d : Int32, CodeOK f t d e → (¬ lf t.toNatClampNeg < e) → CodeOK f2 t d e ∧ ¬ lf2 t.toNatClampNeg < e := fun e d q1 q2 => by
      have e0 : ¬ e < 0 := by
        have := q1.2.1
        grind
      have le := c_le q2 e0
      exact ⟨CodeOK_cg q1 (fun j hj => hfr j (by omega)), by grind⟩
    exact ⟨up _ _ k1 k2, fun q3 => up _ _ (k3 q3).1 (k3 q3).2⟩
/-- a clause without a test -/
theorem KC_add {f lf cl cs f1 lf1 c1 c2 c3 c4 c5 cs2 : Nat → Int32} {t a s L0 L1 L2 v m1 x : Int32} (h : KC f lf cl cs t) (hc : ¬ 12 ≤ cs t.toNatClampNeg) (ea : a = 60 * t + 5 * cs t.toNatClampNeg)
    (e1 : c1 = upd cl a.toNatClampNeg s) (e2 : c2 = upd c1 (a + 1).toNatClampNeg L0) (h0 : L0 = lf t.toNatClampNeg) (k1 : KI f f1 lf1 t (lf t.toNatClampNeg) (0 + 1) m1) (hm : ¬ 60 < m1)
    (e3 : c3 = upd c2 (a + 2).toNatClampNeg L1) (h1 : L1 = lf1 t.toNatClampNeg) (e4 : c4 = upd c3 (a + 3).toNatClampNeg (-1)) (e5 : c5 = upd c4 (a + 4).toNatClampNeg L2) (ecs : cs2 = upd cs t.toNatClampNeg v) (hv : v = x + 1) (hx : x = cs t.toNatClampNeg) : KC f1 lf1 c5 cs2 t := by
  have h9 := h
  obtain ⟨ht, ⟨l0, l4⟩, ⟨c0, c12⟩, hk⟩ := h
  have hcc : (¬ cs t.toNatClampNeg < 0) ∧ ¬ 12 ≤ cs t.toNatClampNeg := ⟨c0, hc⟩
  have a0 := a_60z ht hcc ea
  have a1 := a_60 ht hcc ea (k := 1) (n := 1) (by decide) (by decide)
  have a2 := a_60 ht hcc ea (k := 2) (n := 2) (by decide) (by decide)
  have a3 := a_60 ht hcc ea (k := 3) (n := 3) (by decide) (by decide)
  have a4 := a_60 ht hcc ea (k := 4) (n := 4) (by decide) (by decide)
  have r1 : c5 (a + 1).toNatClampNeg = lf t.toNatClampNeg := by
    rw [e5, upd_ne (by omega), e4, upd_ne (by omega), e3, upd_ne (by omega), e2, ← h0]; exact pk_us
  have r2 : c5 (a + 2).toNatClampNeg = lf1 t.toNatClampNeg := by
    rw [e5, upd_ne (by omega), e4, upd_ne (by omega), e3, ← h1]; exact pk_us
  have r3 : c5 (a + 3).toNatClampNeg = -1 := by
    rw [e5, upd_ne (by omega), e4]; exact pk_us
  refine KC_put h9 hc ea k1.2.2.1 ⟨k1.2.1.2.1, k1.2.1.2.2⟩ (fun j hj => ?_) (by rw [ecs, hv, hx]) ⟨⟨?_, ?_⟩, fun q => ?_⟩
  · rw [e5, upd_ne (by omega), e4, upd_ne (by omega), e3, upd_ne (by omega), e2, upd_ne (by omega), e1, upd_ne (by omega)]
  · rw [r1, r2]; exact KI_code k1 rfl hm
  · rw [r2]; grind
  · rw [r3] at q; exact absurd (by decide) q
/-- a clause with a test -/
theorem KC_add2 {f lf cl cs f1 lf1 f2 lf2 c1 c2 c3 c4 c6 c5 cs2 : Nat → Int32} {t a s L0 L1 L2 L3 v m1 m2 x : Int32} (h : KC f lf cl cs t) (hc : ¬ 12 ≤ cs t.toNatClampNeg) (ea : a = 60 * t + 5 * cs t.toNatClampNeg)
    (e1 : c1 = upd cl a.toNatClampNeg s) (e2 : c2 = upd c1 (a + 1).toNatClampNeg L0) (h0 : L0 = lf t.toNatClampNeg) (k1 : KI f f1 lf1 t (lf t.toNatClampNeg) (0 + 1) m1) (hm : ¬ 60 < m1)
    (e3 : c3 = upd c2 (a + 2).toNatClampNeg L1) (h1 : L1 = lf1 t.toNatClampNeg) (e4 : c4 = upd c3 (a + 3).toNatClampNeg (-1)) (e6 : c6 = upd c4 (a + 3).toNatClampNeg L3) (h3 : L3 = lf1 t.toNatClampNeg) (k2 : KI f1 f2 lf2 t (lf1 t.toNatClampNeg) 1 m2) (hm2 : ¬ 60 < m2)
    (e5 : c5 = upd c6 (a + 4).toNatClampNeg L2) (h2 : L2 = lf2 t.toNatClampNeg) (ecs : cs2 = upd cs t.toNatClampNeg v) (hv : v = x + 1) (hx : x = cs t.toNatClampNeg) : KC f2 lf2 c5 cs2 t := by
  have h9 := h
  obtain ⟨ht, ⟨l0, l4⟩, ⟨c0, c12⟩, hk⟩ := h
  have hcc : (¬ cs t.toNatClampNeg < 0) ∧ ¬ 12 ≤ cs t.toNatClampNeg := ⟨c0, hc⟩
  have a0 := a_60z ht hcc ea
  have a1 := a_60 ht hcc ea (k := 1) (n := 1) (by decide) (by decide)
  have a2 := a_60 ht hcc ea (k := 2) (n := 2) (by decide) (by decide)
  have a3 := a_60 ht hcc ea (k := 3) (n := 3) (by decide) (by decide)
  have a4 := a_60 ht hcc ea (k := 4) (n := 4) (by decide) (by decide)
  have r1 : c5 (a + 1).toNatClampNeg = lf t.toNatClampNeg := by
    rw [e5, upd_ne (by omega), e6, upd_ne (by omega), e4, upd_ne (by omega), e3, upd_ne (by omega), e2, ← h0]; exact pk_us
  have r2 : c5 (a + 2).toNatClampNeg = lf1 t.toNatClampNeg := by
    rw [e5, upd_ne (by omega), e6, upd_ne (by omega), e4, upd_ne (by omega), e3, ← h1]; exact pk_us
  have r3 : c5 (a + 3).toNatClampNeg = lf1 t.toNatClampNeg := by
    rw [e5, upd_ne (by omega), e6, ← h3]; exact pk_us
  have r4 : c5 (a + 4).toNatClampNeg = lf2 t.toNatClampNeg := by
    rw [e5, ← h2]; exact pk_us
  have b1 := k1.2.1.2.1
  have b2 := k2.2.1.2.1
  have b0 := k2.2.1.1
  have lc := c_le b1 l0
  have o1 := KI_code k1 rfl hm
  have o2 : CodeOK f2 t (lf t.toNatClampNeg) (lf1 t.toNatClampNeg) := CodeOK_cg o1 (fun j hj => k2.2.2.1 j hj)
  refine KC_put h9 hc ea (fun j hj => (k2.2.2.1 j (by omega)).trans (k1.2.2.1 j hj)) ⟨by grind, k2.2.1.2.2⟩ (fun j hj => ?_) (by rw [ecs, hv, hx]) ⟨⟨?_, ?_⟩, fun _ => ⟨?_, ?_⟩⟩
  · rw [e5, upd_ne (by omega), e6, upd_ne (by omega), e4, upd_ne (by omega), e3, upd_ne (by omega), e2, upd_ne (by omega), e1, upd_ne (by omega)]
  · rw [r1, r2]; exact o2
  · rw [r2]; exact b2
  · rw [r3, r4]; exact KI_code k2 rfl hm2
  · rw [r4]; grind
/-- clauses of earlier laws stay -/
def FC (f g : Nat → Int32) (t : Int32) : Prop := ∀ j : Nat, j < 60 * t.toNatClampNeg → g j = f j
theorem FC_rf (f : Nat → Int32) (t : Int32) : FC f f t := fun _ _ => rfl
theorem FC_tr {f g h : Nat → Int32} {t : Int32} (a : FC f g t) (b : FC g h t) : FC f h t := fun j hj => (b j hj).trans (a j hj)
theorem FC_u {f g h : Nat → Int32} {t i v : Int32} (a : FC f g t) (e : h = upd g i.toNatClampNeg v) (ht : (¬ t < 0) ∧ ¬ 6 ≤ t) (hi : ¬ i < 60 * t) : FC f h t := fun j hj => by
  have g0 := mt Int32.lt_iff_toInt_lt.mpr ht.1
  have g1 := mt Int32.le_iff_toInt_le.mpr ht.2
  have g2 := mt Int32.lt_iff_toInt_lt.mpr hi
  rw [z_i0] at g0
  rw [show (6 : Int32).toInt = 6 from by decide] at g1
  have e60 : (60 : Int32).toInt = 60 := by decide
  have m1 : (60 * t).toInt = 60 * t.toInt := by rw [zmul (by rw [e60]; omega) (by rw [e60]; omega), e60]
  rw [m1] at g2
  have hj2 : j < 60 * t.toInt.toNat := hj
  have ne : i.toNatClampNeg ≠ j := (show i.toInt.toNat ≠ j from by omega)
  rw [e, upd_ne ne]
  exact a j hj
def FS (f g : Nat → Int32) (t : Int32) : Prop := ∀ j : Nat, j < t.toNatClampNeg → g j = f j
theorem FS_rf (f : Nat → Int32) (t : Int32) : FS f f t := fun _ _ => rfl
theorem FS_tr {f g h : Nat → Int32} {t : Int32} (a : FS f g t) (b : FS g h t) : FS f h t := fun j hj => (b j hj).trans (a j hj)
theorem FS_u {f g h : Nat → Int32} {t v : Int32} (a : FS f g t) (e : h = upd g t.toNatClampNeg v) : FS f h t := fun j hj => by
  rw [e, upd_ne (by omega)]; exact a j hj
/-- earlier laws are as they were -/
theorem LK_same {f cl cs f2 cl2 cs2 : Nat → Int32} {t : Int32} (h : Linv t f cl cs) (a : FR f f2 t) (b : FC cl cl2 t) (c : FS cs cs2 t) : Linv t f2 cl2 cs2 := by
  refine ⟨h.1, fun u u0 u1 => ?_⟩
  obtain ⟨⟨k1, k2⟩, k3⟩ := h.2 u u0 u1
  have t0 := zc_eq h.1.1
  have v0 := zc_eq u0
  have lt := mt Int32.le_iff_toInt_le.mpr u1
  have u6 : (¬ u < 0) ∧ ¬ 6 ≤ u := ⟨u0, by have := h.1.2; grind⟩
  have es : cs2 u.toNatClampNeg = cs u.toNatClampNeg := c _ (by omega)
  rw [es]
  refine ⟨⟨k1, k2⟩, fun q d q0 q1 ed => ?_⟩
  have q12 : (¬ q < 0) ∧ ¬ 12 ≤ q := ⟨q0, by grind⟩
  have c0 := zc_eq q0
  have c1 := mt Int32.le_iff_toInt_le.mpr q12.2
  rw [show (12 : Int32).toInt = 12 from by decide] at c1
  have s1 : cl2 (d + 1).toNatClampNeg = cl (d + 1).toNatClampNeg := b _ (by rw [a_60 u6 q12 ed (n := 1) (by decide) (by decide)]; omega)
  have s2 : cl2 (d + 2).toNatClampNeg = cl (d + 2).toNatClampNeg := b _ (by rw [a_60 u6 q12 ed (n := 2) (by decide) (by decide)]; omega)
  have s3 : cl2 (d + 3).toNatClampNeg = cl (d + 3).toNatClampNeg := b _ (by rw [a_60 u6 q12 ed (n := 3) (by decide) (by decide)]; omega)
  have s4 : cl2 (d + 4).toNatClampNeg = cl (d + 4).toNatClampNeg := b _ (by rw [a_60 u6 q12 ed (n := 4) (by decide) (by decide)]; omega)
  rw [s1, s2, s3, s4]
  have up : ∀ x y : Int32, CodeOK f u x y → CodeOK f2 u x y := fun x y hc => CodeOK_cg hc (fun j hj => a j (by
    have y4 := hc.2.1.2.2
    have y0 : ¬ y < 0 := by
      have := hc.2.1
      grind
    have z1 := zc_eq y0
    have z2 := mt Int32.lt_iff_toInt_lt.mpr y4
    rw [show (400 : Int32).toInt = 400 from by decide] at z2
    omega))
  exact ⟨up _ _ (k3 q d q0 q1 ed).1, fun q3 => up _ _ ((k3 q d q0 q1 ed).2 q3)⟩
/-- one law more -/
theorem LK_more {f lf cl cs : Nat → Int32} {t u : Int32} (h : Linv t f cl cs) (k : KC f lf cl cs t) (eu : u = t + 1) : Linv u f cl cs := by
  obtain ⟨ht, hl, hc, hk⟩ := k
  refine ⟨⟨by rw [eu]; grind, by rw [eu]; grind⟩, fun v v0 v1 => ?_⟩
  by_cases q : v = t
  · rw [q]
    exact ⟨hc, fun c a c0 c1 ea => ⟨(hk c a c0 c1 ea).1.1, fun q3 => ((hk c a c0 c1 ea).2 q3).1⟩⟩
  · exact h.2 v v0 (by grind)
