abbrev jarT (S : Nat → Int32) (L : Cls) (j : Int32) : Nat → Int32 := upd (upd S (168 + 9 * j.toNatClampNeg + 4) (S (168 + 9 * j.toNatClampNeg + 4) - mel S L j)) (168 + 9 * j.toNatClampNeg + 7) (S (168 + 9 * j.toNatClampNeg + 7) + 1)
set_option maxHeartbeats 400000 in
theorem jT_at {S : Nat → Int32} {L : Cls} {j : Int32} {i : Nat} (h4 : i ≠ (168 + 9 * j.toNatClampNeg + 4)) (h7 : i ≠ (168 + 9 * j.toNatClampNeg + 7)) : jarT S L j i = S i := by
  unfold jarT
  rw [upd_ne (by omega), upd_ne (by omega)]
set_option maxHeartbeats 400000 in
theorem JOK_of {S : Nat → Int32} {j : Int32} (h : JI1 S j) : JOK S j := by
  obtain ⟨h1, h2, h3⟩ := h
  refine ⟨fun w => ⟨(h3 w).1, (h3 w).2.1, (h3 w).2.2.1⟩, fun w w13 => ⟨h2.1, ?_⟩⟩
  have a : ¬ (S (168 + 9 * j.toNatClampNeg + 5)).toInt = 12 := fun y => w (Int32.toInt_inj.mp (y.trans c12.symm))
  have b : ¬ (S (168 + 9 * j.toNatClampNeg + 5)).toInt = 13 := fun y => w13 (Int32.toInt_inj.mp (y.trans c13.symm))
  omega
set_option maxHeartbeats 400000 in
theorem AOK_t {S : Nat → Int32} {L : Cls} {j : Int32} (h : IV S) (hj : rJ j) (w : S (168 + 9 * j.toNatClampNeg + 5) = 12) : AOK (jarT S L j) j := by
  have tj := tn_eq hj.1
  obtain ⟨i1, i2, i3⟩ := h.1 j hj
  obtain ⟨r1, r2, r3, r4, r5⟩ := i3 w
  have m := mel_in (L := L) i1
  have p20 : (S (168 + 9 * j.toNatClampNeg + 6)).toInt < 20 := by have := r1.2.1; have := r1.2.2.1; omega
  have e8 : jarT S L j (168 + 9 * j.toNatClampNeg + 8) = S (168 + 9 * j.toNatClampNeg + 8) := jT_at (by omega) (by omega)
  have e6 : jarT S L j (168 + 9 * j.toNatClampNeg + 6) = S (168 + 9 * j.toNatClampNeg + 6) := jT_at (by omega) (by omega)
  have e4 : jarT S L j (168 + 9 * j.toNatClampNeg + 4) = S (168 + 9 * j.toNatClampNeg + 4) - mel S L j := by
    unfold jarT
    rw [upd_ne (by omega), pk_us]
  have lt := arN_lt (S := S) (j := j) r2
  have eN : arN (jarT S L j) j = arN S j := by
    unfold arN
    rw [e8]
  unfold AOK
  rw [e8, e6, e4, eN, jT_at (i := arN S j) (by omega) (by omega), jT_at (i := 7) (by omega) (by omega)]
  exact ⟨hj, r2, ⟨r1.1, p20⟩, m, h.2.1 _ r2, h.2.2.2.2.1⟩
set_option maxHeartbeats 400000 in
theorem PLC_t {S : Nat → Int32} {L : Cls} {j : Int32} (h : PLC S) : PLC (jarT S L j) := fun i hi => by
  rw [jT_at (by omega) (by omega)]
  exact h i hi
set_option maxHeartbeats 400000 in
theorem ref_jst {cf sg cl cs S : Nat → Int32} {E K : Int32 → (Nat → Int64) → (Nat → Int64) → (Nat → Int32) → Int32 → (Int32 × (Nat → Int64) × (Nat → Int64) × (Nat → Int32))} {v z m law j ch : Int32} {g1 g2 : Nat → Int64} {L : Cls} (hL : LWR sg cl cs law L) (hc : cf law.toNatClampNeg = ch) (h : IV S) (ez : S 2 = z) (em : S 6 = m) (hj : rJ j) (hjz : j.toInt < z.toInt) : ∃ v' g1' g2', fb_mX11_hour_2 sg cl cs cf z m law E K v g1 g2 S j = K v' g1' g2' (jarS S L ch z j) (j + 1) := by
  subst em
  obtain ⟨i1, i2, i3⟩ := h.1 j hj
  have tj := tn_eq hj.1
  unfold fb_mX11_hour_2
  rw [if_neg (show ¬ z ≤ j by rw [Int32.le_iff_toInt_le]; omega), cj5 hj]
  by_cases w13 : S (168 + 9 * j.toNatClampNeg + 5) = 13
  · have ej : jarS S L ch z j = S := by unfold jarS; rw [if_pos w13]
    rw [if_pos w13, bnd_eq, ej]
    exact ⟨_, _, _, rfl⟩
  · have eM := ref_mel (sk := g1) (wd := g2) (top := v) hL hj (JOK_of (h.1 j hj)) w13
    rw [if_neg w13, bndv (congrArg S (cj4 hj)), bnd_eq]
    generalize fX11_meltOf v sg cl cs g1 g2 S (S 6) law j = q at eM ⊢
    have f1 : upd S (168 + 9 * j + 4).toNatClampNeg (S (168 + 9 * j.toNatClampNeg + 4) - mel S L j) = upd S (168 + 9 * j.toNatClampNeg + 4) (S (168 + 9 * j.toNatClampNeg + 4) - mel S L j) := by rw [cj4 hj]
    rw [bnd_eq, bnd_eq, bnd_eq, bndv eM, bndv f1, upd_ne (f := S) (i := (168 + 9 * j.toNatClampNeg + 4)) (j := (168 + 9 * j.toNatClampNeg + 5)) (by omega)]
    by_cases w : S (168 + 9 * j.toNatClampNeg + 5) = 12
    · obtain ⟨r1, r2, r3, r4, r5⟩ := i3 w
      have p20 : (S (168 + 9 * j.toNatClampNeg + 6)).toInt < 20 := by have := r1.2.1; have := r1.2.2.1; omega
      have tp := tn_eq r1.1
      have v7 : upd S (168 + 9 * j.toNatClampNeg + 4) (S (168 + 9 * j.toNatClampNeg + 4) - mel S L j) (168 + 9 * j + 7).toNatClampNeg = S (168 + 9 * j.toNatClampNeg + 7) := by
        rw [cj7 hj, upd_ne (by omega)]
      have f2 : upd (upd S (168 + 9 * j.toNatClampNeg + 4) (S (168 + 9 * j.toNatClampNeg + 4) - mel S L j)) (168 + 9 * j + 7).toNatClampNeg (S (168 + 9 * j.toNatClampNeg + 7) + 1) = jarT S L j := by rw [cj7 hj]
      have e7 : jarT S L j (168 + 9 * j + 7).toNatClampNeg = S (168 + 9 * j.toNatClampNeg + 7) + 1 := by rw [cj7 hj]; exact pk_us
      have e6 : jarT S L j (168 + 9 * j + 6).toNatClampNeg = S (168 + 9 * j.toNatClampNeg + 6) := by rw [cj6 hj]; exact jT_at (by omega) (by omega)
      have ep : jarT S L j (68 + 5 * S (168 + 9 * j.toNatClampNeg + 6) + 2).toNatClampNeg = S (68 + 5 * (S (168 + 9 * j.toNatClampNeg + 6)).toNatClampNeg + 2) := by
        rw [c_ps (c := 2) r1.1 p20 (by decide) (by decide)]
        exact jT_at (by omega) (by omega)
      rw [if_pos w, bndv v7, bndv f2, e7, e6, ep]
      by_cases e : S (168 + 9 * j.toNatClampNeg + 7) + 1 = S (68 + 5 * (S (168 + 9 * j.toNatClampNeg + 6)).toNatClampNeg + 2)
      · have ej : jarS S L ch z j = arr (jarT S L j) L ch z j := by unfold jarS; rw [if_neg w13, if_pos w, if_pos e]
        have hz := h.2.2.2.2.2.2.1
        rw [ez] at hz
        have ec := ref_com (S := jarT S L j) (sk := q.2.1) (wd := q.2.2.1) (top := q.1) (z := z) hL hc (AOK_t h hj w) (PLC_t h.2.2.1) hz.2 hz.1
        rw [jT_at (i := 6) (by omega) (by omega)] at ec
        rw [if_pos e, bnd_eq]
        generalize fX11_comes q.1 sg cl cs cf q.2.1 q.2.2.1 (jarT S L j) z (S 6) law j = q2 at ec ⊢
        rw [bnd_eq, bnd_eq, bnd_eq, bndv ec, bnd_eq, ej]
        exact ⟨_, _, _, rfl⟩
      · have ej : jarS S L ch z j = jarT S L j := by unfold jarS; rw [if_neg w13, if_pos w, if_neg e]
        rw [if_neg e, bnd_eq, ej]
        exact ⟨_, _, _, rfl⟩
    · have ej : jarS S L ch z j = upd S (168 + 9 * j.toNatClampNeg + 4) (S (168 + 9 * j.toNatClampNeg + 4) - mel S L j) := by unfold jarS; rw [if_neg w13, if_neg w]
      rw [if_neg w, bnd_eq, ej]
      exact ⟨_, _, _, rfl⟩
def SJP (r : Int32 × Int32 × Int32 × (Nat → Int32) × Int32 × (Nat → Int32) × (Nat → Int32)) (U : Nat → Int32) : Prop := r.2.2.2.2.1 = U 7 ∧ NE r.2.2.2.2.2.1 U ∧ JE r.2.2.2.2.2.2 U
set_option maxHeartbeats 400000 in
theorem SJP_of {q2 : (Nat → Int32) × Int32 × (Nat → Int32) × (Nat → Int32)} {U : Nat → Int32} {x1 x2 x3 : Int32} (h : ARP q2 U) : SJP (x1, x2, x3, q2.1, q2.2.1, q2.2.2.1, q2.2.2.2) U := ⟨h.1, h.2.1, h.2.2⟩
set_option maxHeartbeats 400000 in
theorem cls_sj {cF nF pF jF S so s1 s2 t1 t2 yj yo y1 y2 y3 y4 y5 : Nat → Int32} {cb cc co zp z ch yc j : Int32} {L : Cls} (hL : LWX so s1 s2 t1 t2 yj yo y1 y2 y3 y4 y5 yc L) (hn : NE nF S) (hp : PE pF S) (hJ : JE jF S) (h : IV S) (ez : S 2 = z) (ezp : zp = S 1) (hj : rJ j) (hjz : j.toInt < z.toInt) (w13 : ¬ S (168 + 9 * j.toNatClampNeg + 5) = 13) : SJP (fX0_stepJar cF cb cc co nF zp pF z jF (S 5) (S 6) (S 7) so s1 s2 t1 t2 yj yo y1 y2 y3 y4 y5 ch yc j) (jarS S L ch z j) := by
  obtain ⟨i1, i2, i3⟩ := h.1 j hj
  have tj := tn_eq hj.1
  have eM := cls_mel (cF := cF) (cb := cb) (ch := cc) (co := co) hL hn hp hJ ezp rfl rfl hj (JOK_of (h.1 j hj)) w13
  unfold fX0_stepJar
  rw [bndv (jg0 hJ hj), bnd_eq]
  generalize fX0_meltOf cF cb cc co nF zp pF jF (S 5) (S 6) so s1 s2 t1 t2 yj yo y1 y2 y3 y4 y5 yc j = q at eM ⊢
  rw [bnd_eq, bnd_eq, bnd_eq, bnd_eq, bndv eM, bnd_eq]
  have h22 : JE (fX6_put_144 9 jF j 0 (S (168 + 9 * j.toNatClampNeg + 4) - mel S L j)) (upd S (168 + 9 * j.toNatClampNeg + 4) (S (168 + 9 * j.toNatClampNeg + 4) - mel S L j)) := jp0 hJ hj
  generalize fX6_put_144 9 jF j 0 (S (168 + 9 * j.toNatClampNeg + 4) - mel S L j) = G22 at h22 ⊢
  rw [bndv ((jg1 h22 hj).trans (upd_ne (by omega)))]
  by_cases w : S (168 + 9 * j.toNatClampNeg + 5) = 12
  · obtain ⟨r1, r2, r3, r4, r5⟩ := i3 w
    have p20 : (S (168 + 9 * j.toNatClampNeg + 6)).toInt < 20 := by have := r1.2.1; have := r1.2.2.1; omega
    have tp := tn_eq r1.1
    have r24 := r1.2.2.2.2
    have g1 : (S (168 + 9 * j.toNatClampNeg + 7) + 1).toInt = (S (168 + 9 * j.toNatClampNeg + 7)).toInt + 1 := zadd1 (by omega)
    rw [if_pos w, bndv ((jg3 h22 hj).trans (upd_ne (by omega))), bnd_eq, bnd_eq]
    have h44 : JE (fX6_put_144 9 G22 j 3 (S (168 + 9 * j.toNatClampNeg + 7) + 1)) (jarT S L j) := jp3 h22 hj
    generalize fX6_put_144 9 G22 j 3 (S (168 + 9 * j.toNatClampNeg + 7) + 1) = G44 at h44 ⊢
    rw [bndv ((jg2 h44 hj).trans (jT_at (by omega) (by omega))), bndv (pget (c := 2) hp r1.1 p20 (by decide) (by decide))]
    have n44 : NE nF (jarT S L j) := NE_ag hn (fun i _ _ => jT_at (by omega) (by omega))
    have p44 : PE pF (jarT S L j) := PE_ag hp (fun i _ _ => jT_at (by omega) (by omega))
    by_cases e : S (168 + 9 * j.toNatClampNeg + 7) + 1 = S (68 + 5 * (S (168 + 9 * j.toNatClampNeg + 6)).toNatClampNeg + 2)
    · have ej : jarS S L ch z j = arr (jarT S L j) L ch z j := by unfold jarS; rw [if_neg w13, if_pos w, if_pos e]
      have hz := h.2.2.2.2.2.2.1
      rw [ez] at hz
      have hA : PAS (stS (jarT S L j) j (jarT S L j (168 + 9 * j.toNatClampNeg + 8))) z := by
        intro k k0 k1 hk
        by_cases q : k.toNatClampNeg = j.toNatClampNeg
        · rw [q]; exact st_6
        · rw [st_at (by omega), jT_at (by omega) (by omega)] at hk
          rw [st_at (by omega), jT_at (by omega) (by omega)]
          exact h.2.2.2.1 k k0 (by rw [ez]; exact k1) hk
      have ea := cls_arr (cF := q.2.2.2.1) (S := jarT S L j) (ch := ch) (z := z) hL n44 p44 h44 (AOK_t h hj w) (PLC_t h.2.2.1) hA hz.2 hjz
      rw [jT_at (i := 5) (by omega) (by omega), jT_at (i := 6) (by omega) (by omega), jT_at (i := 7) (by omega) (by omega)] at ea
      rw [if_neg (show ¬ S (168 + 9 * j.toNatClampNeg + 7) + 1 < S (68 + 5 * (S (168 + 9 * j.toNatClampNeg + 6)).toNatClampNeg + 2) by rw [e, Int32.lt_iff_toInt_lt]; omega), bnd_eq]
      generalize fX0_arrive q.2.2.2.1 nF pF z G44 (S 5) (S 6) (S 7) so s1 s2 t1 t2 yj yo y1 y2 y3 y4 y5 ch yc j = q2 at ea ⊢
      rw [bnd_eq, bnd_eq, bnd_eq, bnd_eq]
      rw [ej]
      exact SJP_of ea
    · have ej : jarS S L ch z j = jarT S L j := by unfold jarS; rw [if_neg w13, if_pos w, if_neg e]
      have ne : ¬ (S (168 + 9 * j.toNatClampNeg + 7) + 1).toInt = (S (68 + 5 * (S (168 + 9 * j.toNatClampNeg + 6)).toNatClampNeg + 2)).toInt := fun y => e (Int32.toInt_inj.mp y)
      rw [if_pos (show S (168 + 9 * j.toNatClampNeg + 7) + 1 < S (68 + 5 * (S (168 + 9 * j.toNatClampNeg + 6)).toNatClampNeg + 2) by rw [Int32.lt_iff_toInt_lt]; omega), ej]
      exact ⟨(jT_at (by omega) (by omega)).symm, n44, h44⟩
  · have ej : jarS S L ch z j = upd S (168 + 9 * j.toNatClampNeg + 4) (S (168 + 9 * j.toNatClampNeg + 4) - mel S L j) := by unfold jarS; rw [if_neg w13, if_neg w]
    rw [if_neg w, ej]
    exact ⟨(upd_ne (by omega)).symm, NE_o hn (Or.inr (by omega)), h22⟩
set_option maxHeartbeats 400000 in
theorem bs_hi {ch node pass z : Int32} {i : Nat} (hz : z.toInt ≤ 16) (z0 : 0 ≤ z.toInt) (hi : i < 168 ∨ 312 ≤ i) : ∀ (n : Nat) (last : Int32) (S : Nat → Int32), rJ last → bsS ch node pass z n last S i = S i := by
  intro n
  induction n with
  | zero => intro last S _; rfl
  | succ n ih =>
    intro last S hl
    have tl := tn_eq hl.1
    have ll := hl.2
    have hb := nb_all (S := S) (node := node) (pass := pass) (last := last) hz z0
    unfold bsS
    generalize nbS S node pass last z.toNatClampNeg 0 (-1) = b at hb ⊢
    rcases hb with rfl | ⟨h1, h2, h3⟩
    · rw [if_pos (by decide)]
      exact goS_at (by omega)
    · rw [if_neg (z_nlt0 h1.1)]
      split
      · exact goS_at (by omega)
      · rw [ih _ _ h1, goS_at (by omega)]
set_option maxHeartbeats 400000 in
theorem arr_at {S : Nat → Int32} {L : Cls} {ch z j : Int32} {i : Nat} (hj : rJ j) (hz : z.toInt ≤ 16) (z0 : 0 ≤ z.toInt) (h8 : rN (S (168 + 9 * j.toNatClampNeg + 8))) (h7 : i ≠ 7) (hi : i < 20 ∨ (68 ≤ i ∧ i < 168) ∨ 312 ≤ i) : arr S L ch z j i = S i := by
  have := arN_lt h8
  have tj := tn_eq hj.1
  have lj := hj.2
  unfold arr
  repeat' split
  · exact ar4_at (by omega) (by omega) h7
  · rw [bs_hi hz z0 (by omega) _ _ _ hj]
    exact ar4_at (by omega) (by omega) h7
  · rw [goS_at (by omega)]
    exact ar3_at (by omega) (by omega) h7
set_option maxHeartbeats 400000 in
theorem jarS_at {S : Nat → Int32} {L : Cls} {ch z j : Int32} {i : Nat} (h : IV S) (hj : rJ j) (hz : z.toInt ≤ 16) (z0 : 0 ≤ z.toInt) (h7 : i ≠ 7) (hi : i < 20 ∨ (68 ≤ i ∧ i < 168) ∨ 312 ≤ i) : jarS S L ch z j i = S i := by
  obtain ⟨i1, i2, i3⟩ := h.1 j hj
  have tj := tn_eq hj.1
  have lj := hj.2
  unfold jarS
  by_cases w13 : S (168 + 9 * j.toNatClampNeg + 5) = 13
  · rw [if_pos w13]
  · rw [if_neg w13]
    by_cases w : S (168 + 9 * j.toNatClampNeg + 5) = 12
    · rw [if_pos w]
      split
      · have e8 : jarT S L j (168 + 9 * j.toNatClampNeg + 8) = S (168 + 9 * j.toNatClampNeg + 8) := jT_at (by omega) (by omega)
        exact (arr_at (S := jarT S L j) hj hz z0 (by rw [e8]; exact (i3 w).2.1) h7 hi).trans (jT_at (by omega) (by omega))
      · exact jT_at (by omega) (by omega)
    · rw [if_neg w, upd_ne (by omega)]
def jarsS (L : Cls) (ch z : Int32) : Nat → Int32 → (Nat → Int32) → (Nat → Int32)
  | 0, _, S => S
  | n + 1, k, S => jarsS L ch z n (k + 1) (jarS S L ch z k)
set_option maxHeartbeats 400000 in
theorem jars_iv {L : Cls} {ch z : Int32} (hz : z.toInt ≤ 16) : ∀ (n : Nat) (k : Int32) (S : Nat → Int32), IV S → S 2 = z → 0 ≤ k.toInt → k.toInt + n = z.toInt → IV (jarsS L ch z n k S) ∧ ∀ i : Nat, i ≠ 7 → (i < 20 ∨ (68 ≤ i ∧ i < 168) ∨ 312 ≤ i) → jarsS L ch z n k S i = S i := by
  intro n
  induction n with
  | zero => intro k S h _ _ _; exact ⟨h, fun _ _ _ => rfl⟩
  | succ n ih =>
    intro k S h e2 k0 kz
    have ek : (k + 1).toInt = k.toInt + 1 := zadd1 (by omega)
    have hk : rJ k := ⟨k0, by omega⟩
    have h1 := IV_jar (L := L) (ch := ch) h hk
    rw [e2] at h1
    have a := fun (i : Nat) (n7 : i ≠ 7) (hi : i < 20 ∨ (68 ≤ i ∧ i < 168) ∨ 312 ≤ i) => jarS_at (L := L) (ch := ch) (z := z) h hk hz (by omega) n7 hi
    obtain ⟨b1, b2⟩ := ih (k + 1) _ h1 ((a 2 (by decide) (Or.inl (by decide))).trans e2) (by omega) (by omega)
    exact ⟨b1, fun i n7 hi => (b2 i n7 hi).trans (a i n7 hi)⟩
set_option maxHeartbeats 400000 in
theorem ref_jars {cf sg cl cs : Nat → Int32} {E : Int32 → (Nat → Int64) → (Nat → Int64) → (Nat → Int32) → Int32 → (Int32 × (Nat → Int64) × (Nat → Int64) × (Nat → Int32))} {z m law ch : Int32} {L : Cls} (hL : LWR sg cl cs law L) (hc : cf law.toNatClampNeg = ch) (hz : z.toInt ≤ 16) : ∀ (n N : Nat) (v : Int32) (g1 g2 : Nat → Int64) (S : Nat → Int32) (k : Int32), IV S → S 2 = z → S 6 = m → 0 ≤ k.toInt → k.toInt + n = z.toInt → n < N → ∃ v' g1' g2', fl_mX11_hour_2 sg cl cs cf z m law E N v g1 g2 S k = E v' g1' g2' (jarsS L ch z n k S) z := by
  intro n
  induction n with
  | zero =>
    intro N v g1 g2 S k h e2 e6 k0 kz hN
    obtain ⟨N, rfl⟩ : ∃ m, N = m + 1 := ⟨N - 1, by omega⟩
    have e : k = z := Int32.toInt_inj.mp (by omega)
    refine ⟨v, g1, g2, ?_⟩
    show fb_mX11_hour_2 sg cl cs cf z m law E (fl_mX11_hour_2 sg cl cs cf z m law E N) v g1 g2 S k = _
    unfold fb_mX11_hour_2
    rw [if_pos (show z ≤ k by rw [e]; exact Int32.le_refl _), e]
    rfl
  | succ n ih =>
    intro N v g1 g2 S k h e2 e6 k0 kz hN
    obtain ⟨N, rfl⟩ : ∃ m, N = m + 1 := ⟨N - 1, by omega⟩
    have ek : (k + 1).toInt = k.toInt + 1 := zadd1 (by omega)
    have hk : rJ k := ⟨k0, by omega⟩
    have h1 := IV_jar (L := L) (ch := ch) h hk
    rw [e2] at h1
    obtain ⟨v1, a1, a2, ea⟩ := ref_jst (E := E) (K := fl_mX11_hour_2 sg cl cs cf z m law E N) (v := v) (g1 := g1) (g2 := g2) hL hc h e2 e6 hk (by omega)
    obtain ⟨v2, b1, b2, eb⟩ := ih N v1 a1 a2 (jarS S L ch z k) (k + 1) h1 ((jarS_at h hk hz (by omega) (by decide) (Or.inl (by decide))).trans e2) ((jarS_at h hk hz (by omega) (by decide) (Or.inl (by decide))).trans e6) (by omega) (by omega) (by omega)
    exact ⟨v2, b1, b2, (show fb_mX11_hour_2 sg cl cs cf z m law E (fl_mX11_hour_2 sg cl cs cf z m law E N) v g1 g2 S k = _ from ea).trans eb⟩
set_option maxHeartbeats 400000 in
theorem cls_jars {pF so s1 s2 t1 t2 yj yo y1 y2 y3 y4 y5 : Nat → Int32} {E : Int32 → Int32 → Int32 → (Nat → Int32) → Int32 → (Nat → Int32) → (Nat → Int32) → Int32 → (Int32 × Int32 × Int32 × (Nat → Int32) × Int32 × Int32 × (Nat → Int32) × (Nat → Int32))} {zp z now fm ch yc : Int32} {L : Cls} (hL : LWX so s1 s2 t1 t2 yj yo y1 y2 y3 y4 y5 yc L) (hz : z.toInt ≤ 16) : ∀ (n N : Nat) (cb cc co : Int32) (cF nF jF S : Nat → Int32) (k : Int32), IV S → S 2 = z → S 5 = now → S 6 = fm → S 1 = zp → NE nF S → PE pF S → JE jF S → 0 ≤ k.toInt → k.toInt + n = z.toInt → n < N → ∃ cb' cc' co' cF' nF' jF', fl_mX0_step_2 zp pF z now fm so s1 s2 t1 t2 yj yo y1 y2 y3 y4 y5 ch yc E N cb cc co cF (S 7) nF jF k = E cb' cc' co' cF' (jarsS L ch z n k S 7) nF' jF' z ∧ NE nF' (jarsS L ch z n k S) ∧ JE jF' (jarsS L ch z n k S) := by
  intro n
  induction n with
  | zero =>
    intro N cb cc co cF nF jF S k h e2 e5 e6 e1 hn hp hJ k0 kz hN
    obtain ⟨N, rfl⟩ : ∃ m, N = m + 1 := ⟨N - 1, by omega⟩
    have e : k = z := Int32.toInt_inj.mp (by omega)
    refine ⟨cb, cc, co, cF, nF, jF, ?_, hn, hJ⟩
    show fb_mX0_step_2 zp pF z now fm so s1 s2 t1 t2 yj yo y1 y2 y3 y4 y5 ch yc E (fl_mX0_step_2 zp pF z now fm so s1 s2 t1 t2 yj yo y1 y2 y3 y4 y5 ch yc E N) cb cc co cF (S 7) nF jF k = _
    unfold fb_mX0_step_2
    rw [if_pos (show z ≤ k by rw [e]; exact Int32.le_refl _), e]
    rfl
  | succ n ih =>
    intro N cb cc co cF nF jF S j h e2 e5 e6 e1 hn hp hJ k0 kz hN
    obtain ⟨N, rfl⟩ : ∃ m, N = m + 1 := ⟨N - 1, by omega⟩
    have ek : (j + 1).toInt = j.toInt + 1 := zadd1 (by omega)
    have hk : rJ j := ⟨k0, by omega⟩
    have h1 := IV_jar (L := L) (ch := ch) h hk
    rw [e2] at h1
    have a := fun (i : Nat) (n7 : i ≠ 7) (hi : i < 20 ∨ (68 ≤ i ∧ i < 168) ∨ 312 ≤ i) => jarS_at (L := L) (ch := ch) (z := z) h hk hz (by omega) n7 hi
    have p1 : PE pF (jarS S L ch z j) := PE_ag hp (fun i i0 i1 => a i (by omega) (Or.inr (Or.inl ⟨i0, i1⟩)))
    have go := fun (cb cc co : Int32) (cF nF jF : Nat → Int32) (hn : NE nF (jarS S L ch z j)) (hJ : JE jF (jarS S L ch z j)) => ih N cb cc co cF nF jF (jarS S L ch z j) (j + 1) h1 ((a 2 (by decide) (Or.inl (by decide))).trans e2) ((a 5 (by decide) (Or.inl (by decide))).trans e5) ((a 6 (by decide) (Or.inl (by decide))).trans e6) ((a 1 (by decide) (Or.inl (by decide))).trans e1) hn p1 hJ (by omega) (by omega) (by omega)
    show ∃ cb' cc' co' cF' nF' jF', fb_mX0_step_2 zp pF z now fm so s1 s2 t1 t2 yj yo y1 y2 y3 y4 y5 ch yc E (fl_mX0_step_2 zp pF z now fm so s1 s2 t1 t2 yj yo y1 y2 y3 y4 y5 ch yc E N) cb cc co cF (S 7) nF jF j = E cb' cc' co' cF' (jarsS L ch z n (j + 1) (jarS S L ch z j) 7) nF' jF' z ∧ NE nF' (jarsS L ch z n (j + 1) (jarS S L ch z j)) ∧ JE jF' (jarsS L ch z n (j + 1) (jarS S L ch z j))
    generalize fl_mX0_step_2 zp pF z now fm so s1 s2 t1 t2 yj yo y1 y2 y3 y4 y5 ch yc E N = K at go ⊢
    unfold fb_mX0_step_2
    rw [if_neg (show ¬ z ≤ j by rw [Int32.le_iff_toInt_le]; omega), bndv (jg1 hJ hk)]
    by_cases w13 : S (168 + 9 * j.toNatClampNeg + 5) = 13
    · have ej : jarS S L ch z j = S := by unfold jarS; rw [if_pos w13]
      rw [ej] at go ⊢
      rw [if_pos w13, bnd_eq]
      exact go cb cc co cF nF jF hn hJ
    · have es := cls_sj (cF := cF) (cb := cb) (cc := cc) (co := co) (ch := ch) hL hn hp hJ h e2 e1.symm hk (by omega) w13
      rw [e5, e6] at es
      rw [if_neg w13, bnd_eq]
      generalize fX0_stepJar cF cb cc co nF zp pF z jF now fm (S 7) so s1 s2 t1 t2 yj yo y1 y2 y3 y4 y5 ch yc j = q at es ⊢
      obtain ⟨x7, nq, jq⟩ := es
      rw [bnd_eq, bnd_eq, bnd_eq, bnd_eq, bndv x7, bnd_eq, bnd_eq, bnd_eq]
      exact go _ _ _ _ _ _ nq jq
/-- a node's HOUR -/
def nodS (S : Nat → Int32) (L : Cls) (k : Int32) : Nat → Int32 := upd S (20 + 4 * k.toNatClampNeg + 3) (S (20 + 4 * k.toNatClampNeg + 3) - rst S L k (S 5) (S (20 + 4 * k.toNatClampNeg + 3)))
def nodsS (L : Cls) : Nat → Int32 → (Nat → Int32) → (Nat → Int32)
  | 0, _, S => S
  | n + 1, k, S => nodsS L n (k + 1) (nodS S L k)
set_option maxHeartbeats 400000 in
theorem nodS_at {S : Nat → Int32} {L : Cls} {k : Int32} {i : Nat} (hk : rN k) (hi : i < 20 ∨ 68 ≤ i) : nodS S L k i = S i := by
  have := tn_eq hk.1
  have := hk.2
  unfold nodS
  exact upd_ne (by omega)
set_option maxHeartbeats 400000 in
theorem IV_st {S U : Nat → Int32} (h : IV S) (a : ∀ i : Nat, (i < 20 ∨ 68 ≤ i) → U i = S i) (hn : NI U) : IV U := by
  obtain ⟨i1, i2, i3, i4, i5, i6, i7, i8⟩ := h
  refine ⟨fun k hk => JI1_ag (i1 k hk) (a 1 (Or.inl (by decide))) (fun i l0 l1 => a i (Or.inr l0)) (fun q hq => a _ (Or.inr (by omega))), hn, fun k hk => ?_, ?_, ?_, ?_, ?_, ?_⟩
  · rw [a _ (Or.inr (by omega))]; exact i3 k hk
  · rw [a 2 (Or.inl (by decide))]
    intro k k0 k1 hk
    rw [a _ (Or.inr (by omega))] at hk
    rw [a _ (Or.inr (by omega))]
    exact i4 k k0 k1 hk
  · rw [a 7 (Or.inl (by decide))]; exact i5
  · rw [a 5 (Or.inl (by decide))]; exact i6
  · rw [a 2 (Or.inl (by decide))]; exact i7
  · rw [a 0 (Or.inl (by decide))]; exact i8
set_option maxHeartbeats 400000 in
theorem NI_u {S : Nat → Int32} {k v : Int32} (h : NI S) (hk : rN k) (v0 : 0 ≤ v.toInt) (v9 : v.toInt ≤ 999999) : NI (upd S (20 + 4 * k.toNatClampNeg + 3) v) := by
  intro z hz
  by_cases q : 20 + 4 * k.toNatClampNeg + 3 = 20 + 4 * z.toNatClampNeg + 3
  · rw [← q, pk_us]; exact ⟨v0, v9⟩
  · rw [upd_ne q]; exact h z hz
set_option maxHeartbeats 400000 in
theorem rst_in {S : Nat → Int32} {L : Cls} {k h has : Int32} (s0 : 0 ≤ has.toInt) (s9 : has.toInt ≤ 999999) : 0 ≤ (has - rst S L k h has).toInt ∧ (has - rst S L k h has).toInt ≤ 999999 := by
  have m := held_in (x := lsm (nwd S h k has 0 0) 1 L) (m := has) s0
  have e : (has - rst S L k h has).toInt = has.toInt - (rst S L k h has).toInt := by
    unfold rst
    exact zsub (by omega) (by omega)
  rw [e]
  unfold rst
  omega
set_option maxHeartbeats 400000 in
theorem IV_nod {S : Nat → Int32} {L : Cls} {k : Int32} (h : IV S) (hk : rN k) : IV (nodS S L k) := by
  have n := h.2.1 k hk
  have r := rst_in (S := S) (L := L) (k := k) (h := S 5) n.1 n.2
  exact IV_st h (fun i hi => nodS_at hk hi) (NI_u h.2.1 hk r.1 r.2)
set_option maxHeartbeats 400000 in
theorem nods_iv {L : Cls} {z : Int32} (hz : z.toInt ≤ 12) : ∀ (n : Nat) (k : Int32) (S : Nat → Int32), IV S → 0 ≤ k.toInt → k.toInt + n = z.toInt → IV (nodsS L n k S) ∧ ∀ i : Nat, (i < 20 ∨ 68 ≤ i) → nodsS L n k S i = S i := by
  intro n
  induction n with
  | zero => intro k S h _ _; exact ⟨h, fun _ _ => rfl⟩
  | succ n ih =>
    intro k S h k0 kz
    have ek : (k + 1).toInt = k.toInt + 1 := zadd1 (by omega)
    have hk : rN k := ⟨k0, by omega⟩
    obtain ⟨b1, b2⟩ := ih (k + 1) _ (IV_nod (L := L) h hk) (by omega) (by omega)
    exact ⟨b1, fun i hi => (b2 i hi).trans (nodS_at hk hi)⟩
set_option maxHeartbeats 400000 in
theorem ref_nods {sg cl cs : Nat → Int32} {E : Int32 → (Nat → Int64) → (Nat → Int64) → (Nat → Int32) → Int32 → (Int32 × (Nat → Int64) × (Nat → Int64) × (Nat → Int32))} {z m law : Int32} {L : Cls} (hL : LWR sg cl cs law L) (hz : z.toInt ≤ 12) : ∀ (n N : Nat) (v : Int32) (g1 g2 : Nat → Int64) (S : Nat → Int32) (k : Int32), S 6 = m → 0 ≤ k.toInt → k.toInt + n = z.toInt → n < N → ∃ v' g1' g2', fl_mX11_hour_120 sg cl cs z m law E N v g1 g2 S k = E v' g1' g2' (nodsS L n k S) z := by
  intro n
  induction n with
  | zero =>
    intro N v g1 g2 S k e6 k0 kz hN
    obtain ⟨N, rfl⟩ : ∃ m, N = m + 1 := ⟨N - 1, by omega⟩
    have e : k = z := Int32.toInt_inj.mp (by omega)
    refine ⟨v, g1, g2, ?_⟩
    show fb_mX11_hour_120 sg cl cs z m law E (fl_mX11_hour_120 sg cl cs z m law E N) v g1 g2 S k = _
    unfold fb_mX11_hour_120
    rw [if_pos (show z ≤ k by rw [e]; exact Int32.le_refl _), e]
    rfl
  | succ n ih =>
    intro N v g1 g2 S k e6 k0 kz hN
    obtain ⟨N, rfl⟩ : ∃ m, N = m + 1 := ⟨N - 1, by omega⟩
    have ek : (k + 1).toInt = k.toInt + 1 := zadd1 (by omega)
    have hk : rN k := ⟨k0, by omega⟩
    have c3 := c_nd (q := 3) (c := 3) hk (by decide) (by decide)
    have go := fun (v : Int32) (g1 g2 : Nat → Int64) => ih N v g1 g2 (nodS S L k) (k + 1) ((nodS_at hk (Or.inl (by decide))).trans e6) (by omega) (by omega) (by omega)
    show ∃ v' g1' g2', fb_mX11_hour_120 sg cl cs z m law E (fl_mX11_hour_120 sg cl cs z m law E N) v g1 g2 S k = E v' g1' g2' (nodsS L n (k + 1) (nodS S L k)) z
    generalize fl_mX11_hour_120 sg cl cs z m law E N = K at go ⊢
    subst e6
    have er := ref_rst (S := S) (sk := g1) (wd := g2) (top := v) (hour := S 5) (has := S (20 + 4 * k.toNatClampNeg + 3)) hL hk
    unfold fb_mX11_hour_120
    rw [if_neg (show ¬ z ≤ k by rw [Int32.le_iff_toInt_le]; omega), bndv (congrArg S c3), bnd_eq]
    generalize fX11_nodeWords g2 S (S 6) (S 5) k (S (20 + 4 * k.toNatClampNeg + 3)) 0 0 = o17 at er ⊢
    rw [bndv (congrArg S c3), bnd_eq]
    generalize fX11_summed v sg cl cs g1 o17 law 1 = q at er ⊢
    have f1 : upd S (20 + 4 * k + 3).toNatClampNeg (S (20 + 4 * k.toNatClampNeg + 3) - rst S L k (S 5) (S (20 + 4 * k.toNatClampNeg + 3))) = nodS S L k := by rw [c3]; rfl
    rw [bnd_eq, bnd_eq, bnd_eq, bnd_eq, bndv er, bndv f1, bnd_eq]
    exact go _ _ _
set_option maxHeartbeats 400000 in
theorem cls_nods {so s1 s2 t1 t2 yj yo y1 y2 y3 y4 y5 : Nat → Int32} {E : (Nat → Int32) → (Nat → Int32) → Int32 → (Int32 × Int32 × Int32 × (Nat → Int32) × Int32 × Int32 × (Nat → Int32) × (Nat → Int32))} {z now fm yc : Int32} {L : Cls} (hL : LWX so s1 s2 t1 t2 yj yo y1 y2 y3 y4 y5 yc L) (hz : z.toInt ≤ 12) : ∀ (n N : Nat) (cF nF S : Nat → Int32) (k : Int32), S 5 = now → S 6 = fm → NE nF S → 0 ≤ k.toInt → k.toInt + n = z.toInt → n < N → ∃ cF' nF', fl_mX0_step_42 z now fm so s1 s2 t1 t2 yj yo y1 y2 y3 y4 y5 yc E N cF nF k = E cF' nF' z ∧ NE nF' (nodsS L n k S) := by
  intro n
  induction n with
  | zero =>
    intro N cF nF S k e5 e6 hn k0 kz hN
    obtain ⟨N, rfl⟩ : ∃ m, N = m + 1 := ⟨N - 1, by omega⟩
    have e : k = z := Int32.toInt_inj.mp (by omega)
    refine ⟨cF, nF, ?_, hn⟩
    show fb_mX0_step_42 z now fm so s1 s2 t1 t2 yj yo y1 y2 y3 y4 y5 yc E (fl_mX0_step_42 z now fm so s1 s2 t1 t2 yj yo y1 y2 y3 y4 y5 yc E N) cF nF k = _
    unfold fb_mX0_step_42
    rw [if_pos (show z ≤ k by rw [e]; exact Int32.le_refl _), e]
  | succ n ih =>
    intro N cF nF S k e5 e6 hn k0 kz hN
    obtain ⟨N, rfl⟩ : ∃ m, N = m + 1 := ⟨N - 1, by omega⟩
    have ek : (k + 1).toInt = k.toInt + 1 := zadd1 (by omega)
    have hk : rN k := ⟨k0, by omega⟩
    have go := fun (cF nF : Nat → Int32) (h : NE nF (nodS S L k)) => ih N cF nF (nodS S L k) (k + 1) ((nodS_at hk (Or.inl (by decide))).trans e5) ((nodS_at hk (Or.inl (by decide))).trans e6) h (by omega) (by omega) (by omega)
    show ∃ cF' nF', fb_mX0_step_42 z now fm so s1 s2 t1 t2 yj yo y1 y2 y3 y4 y5 yc E (fl_mX0_step_42 z now fm so s1 s2 t1 t2 yj yo y1 y2 y3 y4 y5 yc E N) cF nF k = E cF' nF' z ∧ NE nF' (nodsS L n (k + 1) (nodS S L k))
    generalize fl_mX0_step_42 z now fm so s1 s2 t1 t2 yj yo y1 y2 y3 y4 y5 yc E N = K at go ⊢
    have er := cls_rst (cF := cF) (hour := now) (has := S (20 + 4 * k.toNatClampNeg + 3)) hL hn e6.symm hk
    unfold fb_mX0_step_42
    rw [if_neg (show ¬ z ≤ k by rw [Int32.le_iff_toInt_le]; omega), bndv (nget (c := 3) hn hk (by decide) (by decide)), bnd_eq]
    generalize fX0_restOf cF nF fm so s1 s2 t1 t2 yj yo y1 y2 y3 y4 y5 yc k now (S (20 + 4 * k.toNatClampNeg + 3)) = q at er ⊢
    rw [bnd_eq, bndv er, bnd_eq, bnd_eq]
    refine go _ _ ?_
    have p := nput (v := S (20 + 4 * k.toNatClampNeg + 3) - rst S L k now (S (20 + 4 * k.toNatClampNeg + 3))) (q := 3) (c := 3) hn hk (by decide) (by decide)
    unfold nodS
    rw [e5]
    exact p
/-- the HOUR -/
def hourS (S : Nat → Int32) (L : Cls) (ch : Int32) : Nat → Int32 := upd (nodsS L (S 0).toNatClampNeg 0 (jarsS L ch (S 2) (S 2).toNatClampNeg 0 S)) 5 (S 5 + 1)
set_option maxHeartbeats 400000 in
theorem hour_iv {S : Nat → Int32} {L : Cls} {ch : Int32} (h : IV S) (h5 : (S 5).toInt < 199999) : IV (hourS S L ch) ∧ (∀ i : Nat, i ≠ 7 → i ≠ 5 → (i < 20 ∨ (68 ≤ i ∧ i < 168) ∨ 312 ≤ i) → hourS S L ch i = S i) ∧ hourS S L ch 5 = S 5 + 1 := by
  have hz := h.2.2.2.2.2.2.1
  have h0 := h.2.2.2.2.2.2.2
  have t2 := tn_eq hz.1
  have t0 := tn_eq h0.1
  obtain ⟨a1, a2⟩ := jars_iv (L := L) (ch := ch) hz.2 (S 2).toNatClampNeg 0 S h rfl (by decide) (by rw [z_i0]; omega)
  obtain ⟨b1, b2⟩ := nods_iv (L := L) h0.2 (S 0).toNatClampNeg 0 _ a1 (by decide) (by rw [z_i0]; omega)
  have e : ∀ i : Nat, i ≠ 5 → hourS S L ch i = nodsS L (S 0).toNatClampNeg 0 (jarsS L ch (S 2) (S 2).toNatClampNeg 0 S) i := fun i hi => by
    unfold hourS
    exact upd_ne (by omega)
  have e5 : hourS S L ch 5 = S 5 + 1 := by unfold hourS; exact pk_us
  refine ⟨?_, fun i n7 n5 hi => ?_, e5⟩
  · obtain ⟨i1, i2, i3, i4, i5, i6, i7, i8⟩ := b1
    have s5 := zadd1 (v := S 5) (by omega)
    have p5 := h.2.2.2.2.2.1.1
    refine ⟨fun k hk => JI1_ag (i1 k hk) (e 1 (by decide)) (fun i l0 l1 => e i (by omega)) (fun q hq => e _ (by omega)), fun w hw => ?_, fun k hk => ?_, ?_, ?_, ?_, ?_, ?_⟩
    · rw [e _ (by omega)]; exact i2 w hw
    · rw [e _ (by omega)]; exact i3 k hk
    · rw [e 2 (by decide)]
      intro k k0 k1 hk
      rw [e _ (by omega)] at hk
      rw [e _ (by omega)]
      exact i4 k k0 k1 hk
    · rw [e 7 (by decide)]; exact i5
    · rw [e5, s5]; omega
    · rw [e 2 (by decide)]; exact i7
    · rw [e 0 (by decide)]; exact i8
  · rw [e i n5, b2 i (by omega), a2 i n7 hi]
set_option maxHeartbeats 400000 in
theorem ref_hour {cf sg cl cs S : Nat → Int32} {sk wd : Nat → Int64} {top zn z m law ch : Int32} {L : Cls} (hL : LWR sg cl cs law L) (hc : cf law.toNatClampNeg = ch) (h : IV S) (e0 : S 0 = zn) (e2 : S 2 = z) (e6 : S 6 = m) : ∃ v' g1' g2', fX11_hour top sg cl cs cf sk wd S zn z m law = (v', g1', g2', hourS S L ch) := by
  subst e0
  subst e2
  subst e6
  have hz := h.2.2.2.2.2.2.1
  have h0 := h.2.2.2.2.2.2.2
  have t2 := tn_eq hz.1
  have t0 := tn_eq h0.1
  obtain ⟨a1, a2⟩ := jars_iv (L := L) (ch := ch) hz.2 (S 2).toNatClampNeg 0 S h rfl (by decide) (by rw [z_i0]; omega)
  obtain ⟨b1, b2⟩ := nods_iv (L := L) h0.2 (S 0).toNatClampNeg 0 _ a1 (by decide) (by rw [z_i0]; omega)
  have f5 : nodsS L (S 0).toNatClampNeg 0 (jarsS L ch (S 2) (S 2).toNatClampNeg 0 S) 5 = S 5 := (b2 5 (Or.inl (by decide))).trans (a2 5 (by decide) (Or.inl (by decide)))
  unfold fX11_hour
  obtain ⟨v1, g1, g2, e1⟩ := ref_jars (m := S 6) (E := (fun (w118_0_0 : Int32) (w118_1_0 : Nat → Int64) (w118_2_0 : Nat → Int64) (w118_3_0 : Nat → Int32) (w118_4_0 : Int32) => fl_mX11_hour_120 sg cl cs (S 0) (S 6) law (fun (w186_0_1 : Int32) (w186_1_1 : Nat → Int64) (w186_2_1 : Nat → Int64) (w186_3_1 : Nat → Int32) (w186_4_1 : Int32) => bnd ((upd w186_3_1 (5 : Int32).toNatClampNeg ((w186_3_1 5) + 1))) (fun (f41 : Nat → Int32) => (w186_0_1, w186_1_1, w186_2_1, f41))) (((S 0 : Int32).toInt - (0 : Int32).toInt).toNat + 1) w118_0_0 w118_1_0 w118_2_0 w118_3_0 0)) hL hc hz.2 (S 2).toNatClampNeg (((S 2 : Int32).toInt - (0 : Int32).toInt).toNat + 1) top sk wd S 0 h rfl rfl (by decide) (by rw [z_i0]; omega) (by rw [z_i0]; omega)
  obtain ⟨v3, g3, g4, e3⟩ := ref_nods (m := S 6) (E := (fun (w186_0_1 : Int32) (w186_1_1 : Nat → Int64) (w186_2_1 : Nat → Int64) (w186_3_1 : Nat → Int32) (w186_4_1 : Int32) => bnd ((upd w186_3_1 (5 : Int32).toNatClampNeg ((w186_3_1 5) + 1))) (fun (f41 : Nat → Int32) => (w186_0_1, w186_1_1, w186_2_1, f41)))) hL h0.2 (S 0).toNatClampNeg (((S 0 : Int32).toInt - (0 : Int32).toInt).toNat + 1) v1 g1 g2 (jarsS L ch (S 2) (S 2).toNatClampNeg 0 S) 0 (a2 6 (by decide) (Or.inl (by decide))) (by decide) (by rw [z_i0]; omega) (by rw [z_i0]; omega)
  refine ⟨v3, g3, g4, e1.trans (e3.trans ?_)⟩
  show bnd (upd (nodsS L (S 0).toNatClampNeg 0 (jarsS L ch (S 2) (S 2).toNatClampNeg 0 S)) (5 : Int32).toNatClampNeg (nodsS L (S 0).toNatClampNeg 0 (jarsS L ch (S 2) (S 2).toNatClampNeg 0 S) 5 + 1)) (fun (f41 : Nat → Int32) => (v3, g3, g4, f41)) = _
  rw [bnd_eq, f5]
  rfl
set_option maxHeartbeats 400000 in
theorem cls_step {cF nF pF jF S so s1 s2 t1 t2 yj yo y1 y2 y3 y4 y5 : Nat → Int32} {cb cc co zn zp z now fm x ch yc : Int32} {L : Cls} (hL : LWX so s1 s2 t1 t2 yj yo y1 y2 y3 y4 y5 yc L) (h : IV S) (e0 : S 0 = zn) (e1 : S 1 = zp) (e2 : S 2 = z) (e5 : S 5 = now) (e6 : S 6 = fm) (e7 : S 7 = x) (hn : NE nF S) (hp : PE pF S) (hJ : JE jF S) : ∃ cb' cc' co' cF' nF' jF', fX0_step cF cb cc co zn nF zp pF z jF now fm x so s1 s2 t1 t2 yj yo y1 y2 y3 y4 y5 ch yc = (cb', cc', co', cF', hourS S L ch 5, hourS S L ch 7, nF', jF') ∧ NE nF' (hourS S L ch) ∧ PE pF (hourS S L ch) ∧ JE jF' (hourS S L ch) := by
  subst e0
  subst e2
  subst e7
  have hz := h.2.2.2.2.2.2.1
  have h0 := h.2.2.2.2.2.2.2
  have u2 := tn_eq hz.1
  have u0 := tn_eq h0.1
  obtain ⟨a1, a2⟩ := jars_iv (L := L) (ch := ch) hz.2 (S 2).toNatClampNeg 0 S h rfl (by decide) (by rw [z_i0]; omega)
  obtain ⟨b1, b2⟩ := nods_iv (L := L) h0.2 (S 0).toNatClampNeg 0 _ a1 (by decide) (by rw [z_i0]; omega)
  unfold fX0_step
  obtain ⟨c1, c2, c3, c4, n1, j1, ea, hn1, hj1⟩ := cls_jars (ch := ch) (E := (fun (w40_0_0 : Int32) (w40_1_0 : Int32) (w40_2_0 : Int32) (w40_3_0 : Nat → Int32) (w40_4_0 : Int32) (w40_5_0 : Nat → Int32) (w40_6_0 : Nat → Int32) (w40_7_0 : Int32) => fl_mX0_step_42 (S 0) now fm so s1 s2 t1 t2 yj yo y1 y2 y3 y4 y5 yc (fun (w95_0_1 : Nat → Int32) (w95_1_1 : Nat → Int32) (w95_2_1 : Int32) => bnd ((now + 1)) (fun (x1 : Int32) => (w40_0_0, w40_1_0, w40_2_0, w95_0_1, x1, w40_4_0, w95_1_1, w40_6_0))) (((S 0 : Int32).toInt - (0 : Int32).toInt).toNat + 1) w40_3_0 w40_5_0 0)) hL hz.2 (S 2).toNatClampNeg (((S 2 : Int32).toInt - (0 : Int32).toInt).toNat + 1) cb cc co cF nF jF S 0 h rfl e5 e6 e1 hn hp hJ (by decide) (by rw [z_i0]; omega) (by rw [z_i0]; omega)
  obtain ⟨d4, n2, eb, hn2⟩ := cls_nods (E := (fun (w95_0_1 : Nat → Int32) (w95_1_1 : Nat → Int32) (w95_2_1 : Int32) => bnd ((now + 1)) (fun (x1 : Int32) => (c1, c2, c3, w95_0_1, x1, jarsS L ch (S 2) (S 2).toNatClampNeg 0 S 7, w95_1_1, j1)))) hL h0.2 (S 0).toNatClampNeg (((S 0 : Int32).toInt - (0 : Int32).toInt).toNat + 1) c4 n1 (jarsS L ch (S 2) (S 2).toNatClampNeg 0 S) 0 ((a2 5 (by decide) (Or.inl (by decide))).trans e5) ((a2 6 (by decide) (Or.inl (by decide))).trans e6) hn1 (by decide) (by rw [z_i0]; omega) (by rw [z_i0]; omega)
  have x7 : hourS S L ch 7 = jarsS L ch (S 2) (S 2).toNatClampNeg 0 S 7 := by
    unfold hourS
    rw [upd_ne (by decide), b2 7 (Or.inl (by decide))]
  have x5 : hourS S L ch 5 = now + 1 := by
    unfold hourS
    rw [pk_us, e5]
  refine ⟨c1, c2, c3, d4, n2, j1, ?_, ?_, ?_, ?_⟩
  · refine ea.trans (eb.trans ?_)
    rw [x5, x7]
    rfl
  · exact NE_o hn2 (Or.inl (by decide))
  · refine PE_ag hp (fun i i0 i1 => ?_)
    unfold hourS
    rw [upd_ne (by omega), b2 i (Or.inr i0), a2 i (by omega) (Or.inr (Or.inl ⟨i0, i1⟩))]
  · refine JE_o ?_ (Or.inl (by decide))
    intro jj c hjj hc
    have := jcl_lt hc
    rw [hj1 jj c hjj hc, b2 _ (Or.inr (by omega))]
