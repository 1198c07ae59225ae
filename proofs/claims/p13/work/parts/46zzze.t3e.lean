theorem r_clhk {Pk : Prop} {x tF : Nat → Int32} {T a p num text md deep lines opd ch : Int32} {sg lg cl cs cf op : Nat → Int32} (H : LXH x tF T) (h : AT x T a p) (m0 : ¬ md < 0) (m6 : ¬ 60 < md) (l0 : ¬ lines < 0) (l6 : ¬ 12 < lines) (hch : cf text.toNatClampNeg < 0 ↔ ch = 0) (kk : ∀ u r, fX11_clauseHere T a 0 num text md deep lines opd tF sg lg cl cs cf op = u → scl (tk x T) (nx x T) lines ch p md = r → HR x T a lines text r u → Pk) : Pk := kk _ _ rfl rfl (r_clhe H h m0 m6 l0 l6 hch)
theorem bnd_eq {α β : Type} {v : α} {b : α → β} : bnd v b = b v := rfl
theorem c_read {tk nx : Int32 → Int32} {t0 q0 s1 s2 s3 s4 s5 yj yo y1 y2 y3 y4 y5 xt : Nat → Int32} {ln : Int32} (hl : ¬ 400 < ln) (h : CH tk nx (fX2_cut t0 q0 xt ln).1 (fX2_cut t0 q0 xt ln).2.1 (fX2_cut t0 q0 xt ln).2.2) (h0 : 0 < (fX2_cut t0 q0 xt ln).1) : RV (srt tk nx ((fX2_cut t0 q0 xt ln).2.2 0)) ((fX2_read t0 q0 s1 s2 s3 s4 s5 yj yo y1 y2 y3 y4 y5 xt ln).2.2.2.2.2.2.2.2.2.2.2.2.2.2.2.2.2.2.2.2.2.2.2.2) := by
  have e0 : (fX2_cut t0 q0 xt ln).2.2 0 = (fX2_cut t0 q0 xt ln).2.2 (0 : Int32).toNatClampNeg := congrArg _ (show 0 = (0 : Int32).toNatClampNeg from by decide)
  unfold srt
  rw [e0]
  unfold fX2_read
  generalize hN : (((12 : Int32).toInt + 1 - (0 : Int32).toInt).toNat + 1) = N
  rw [if_neg hl, bnd_eq, bnd_eq, bnd_eq, bnd_eq, bnd_eq, bnd_eq, bnd_eq, bnd_eq, bnd_eq, bnd_eq, bnd_eq]
  generalize fX2_cut t0 q0 xt ln = w at h h0 ⊢
  exact c_readL h (fun _ _ _ _ _ _ _ _ _ _ _ _ _ _ _ _ _ _ _ _ _ _ => rfl) (fun _ _ _ _ _ _ _ _ _ _ _ _ _ _ _ _ _ _ _ _ _ _ => rfl) 13 _ s1 s2 s3 s4 s5 yj yo y1 y2 y3 y4 y5 0 0 0 _ _ _ _ _ 0 (by decide) h0 (by decide) (by decide) (by decide) (by decide) (by decide) (by rw [← hN]; decide)
def LE (m_taped m_laws : Int32) (tapeF : Nat → Int32) (w105_0_0 : Int32) (w105_1_0 : Int32) (w105_2_0 : Int32) (w105_3_0 : Int32) (w105_4_0 : Int32) (w105_5_0 : Int32) (w105_6_0 : Int32) (w105_7_0 : Nat → Int32) (w105_8_0 : Nat → Int32) (w105_9_0 : Nat → Int32) (w105_10_0 : Nat → Int32) (w105_11_0 : Nat → Int32) (w105_12_0 : Nat → Int32) (w105_13_0 : Int32) : Int32 × Int32 × Int32 × Int32 × Int32 × Int32 × Int32 × Int32 × Int32 × Int32 × (Nat → Int32) × (Nat → Int32) × (Nat → Int32) × (Nat → Int32) × (Nat → Int32) × (Nat → Int32) × Int32 := if w105_13_0 = 0 then (if w105_1_0 ≤ 0 then (bnd (w105_11_0 m_laws.toNatClampNeg) (fun (x45 : Int32) => if 0 ≤ x45 then (bnd ((m_laws + 1)) (fun (x47 : Int32) => (0, x47, w105_0_0, w105_1_0, w105_2_0, m_laws, w105_3_0, w105_4_0, w105_5_0, w105_6_0, w105_7_0, w105_8_0, w105_9_0, w105_10_0, w105_11_0, w105_12_0, (x47 - 1)))) else (bnd ((upd w105_11_0 m_laws.toNatClampNeg 0)) (fun (f48 : Nat → Int32) => bnd ((m_laws + 1)) (fun (x50 : Int32) => (0, x50, w105_0_0, w105_1_0, w105_2_0, m_laws, w105_3_0, w105_4_0, w105_5_0, w105_6_0, w105_7_0, w105_8_0, w105_9_0, w105_10_0, f48, w105_12_0, (x50 - 1))))))) else ((0, m_laws, w105_0_0, w105_1_0, w105_2_0, m_laws, w105_3_0, w105_4_0, w105_5_0, w105_6_0, w105_7_0, w105_8_0, w105_9_0, w105_10_0, w105_11_0, w105_12_0, ((-2) - w105_1_0)))) else (bnd (fX11_see m_taped w105_0_0 tapeF) (fun (q62 : Int32 × Int32) => bnd (q62.1) (fun (o55 : Int32) => bnd (q62.2) (fun (r54 : Int32) => if r54 = (-1) then (if w105_1_0 ≤ 0 then (bnd (w105_11_0 m_laws.toNatClampNeg) (fun (x65 : Int32) => if 0 ≤ x65 then (bnd ((m_laws + 1)) (fun (x67 : Int32) => (0, x67, o55, w105_1_0, w105_2_0, m_laws, w105_3_0, w105_4_0, w105_5_0, w105_6_0, w105_7_0, w105_8_0, w105_9_0, w105_10_0, w105_11_0, w105_12_0, (x67 - 1)))) else (bnd ((upd w105_11_0 m_laws.toNatClampNeg 0)) (fun (f68 : Nat → Int32) => bnd ((m_laws + 1)) (fun (x70 : Int32) => (0, x70, o55, w105_1_0, w105_2_0, m_laws, w105_3_0, w105_4_0, w105_5_0, w105_6_0, w105_7_0, w105_8_0, w105_9_0, w105_10_0, f68, w105_12_0, (x70 - 1))))))) else ((0, m_laws, o55, w105_1_0, w105_2_0, m_laws, w105_3_0, w105_4_0, w105_5_0, w105_6_0, w105_7_0, w105_8_0, w105_9_0, w105_10_0, w105_11_0, w105_12_0, ((-2) - w105_1_0)))) else (bnd (fX11_fails w105_1_0 0 o55) (fun (o75 : Int32) => if o75 ≤ 0 then (bnd (w105_11_0 m_laws.toNatClampNeg) (fun (x80 : Int32) => if 0 ≤ x80 then (bnd ((m_laws + 1)) (fun (x82 : Int32) => (0, x82, o55, o75, w105_2_0, m_laws, w105_3_0, w105_4_0, w105_5_0, w105_6_0, w105_7_0, w105_8_0, w105_9_0, w105_10_0, w105_11_0, w105_12_0, (x82 - 1)))) else (bnd ((upd w105_11_0 m_laws.toNatClampNeg 0)) (fun (f83 : Nat → Int32) => bnd ((m_laws + 1)) (fun (x85 : Int32) => (0, x85, o55, o75, w105_2_0, m_laws, w105_3_0, w105_4_0, w105_5_0, w105_6_0, w105_7_0, w105_8_0, w105_9_0, w105_10_0, f83, w105_12_0, (x85 - 1))))))) else ((0, m_laws, o55, o75, w105_2_0, m_laws, w105_3_0, w105_4_0, w105_5_0, w105_6_0, w105_7_0, w105_8_0, w105_9_0, w105_10_0, w105_11_0, w105_12_0, ((-2) - o75)))))))))
def FO (laws : Int32) (r : Except Int32 (List (Int32 × Int32 × List (Int32 × Int32) × Option (List (Int32 × List (Int32 × Int32) × List (Int32 × Int32)))))) (u : Int32 × Int32 × Int32 × Int32 × Int32 × Int32 × Int32 × Int32 × Int32 × Int32 × (Nat → Int32) × (Nat → Int32) × (Nat → Int32) × (Nat → Int32) × (Nat → Int32) × (Nat → Int32) × Int32) : Prop := (match r with
  | .error e => u.1 = 0 ∧ u.2.1 = laws ∧ u.2.2.2.2.2.2.2.2.2.2.2.2.2.2.2.2 = -2 - e
  | .ok _ => u.1 = 0 ∧ u.2.1 = laws + 1 ∧ u.2.2.2.2.2.2.2.2.2.2.2.2.2.2.2.2 = laws + 1 - 1) ∧ True
theorem LE_bad {T laws a e num md deep lines opd : Int32} {tF sg lg cl cs cf op : Nat → Int32} (he : 0 < e) : FO laws (.error e) (LE T laws tF a e num md deep lines opd sg lg cl cs cf op 0) := by
  unfold LE
  rw [if_pos rfl, if_neg (show ¬ e ≤ 0 by grind)]
  exact ⟨⟨rfl, rfl, rfl⟩, trivial⟩
theorem LE_ok {x tF : Nat → Int32} {T laws a q num md deep lines opd : Int32} {sg lg cl cs cf op : Nat → Int32} (H : LXH x tF T) (h : AT x T a q) (hq : T ≤ q) : FO laws (.ok []) (LE T laws tF a 0 num md deep lines opd sg lg cl cs cf op 1) := by
  unfold LE
  simp only [bnd, AT_see H h]
  rw [if_neg (by decide), if_pos (show cA x T q = -1 by unfold cA; rw [if_pos hq]), if_pos (by decide)]
  by_cases c : 0 ≤ cf laws.toNatClampNeg
  · rw [if_pos c]
    exact ⟨⟨rfl, rfl, rfl⟩, trivial⟩
  · rw [if_neg c]
    exact ⟨⟨rfl, rfl, rfl⟩, trivial⟩
theorem LE_no {x tF : Nat → Int32} {T laws a q num md deep lines opd : Int32} {sg lg cl cs cf op : Nat → Int32} (H : LXH x tF T) (h : AT x T a q) (hq : ¬ T ≤ q) : FO laws (.error (flt q 0)) (LE T laws tF a 0 num md deep lines opd sg lg cl cs cf op 1) := by
  obtain ⟨q1, q2, q3, hqq⟩ := AT_in h
  have T4 := H.2.1
  have hb := LXH_b H q3 hq
  unfold LE
  simp only [bnd, AT_see H h, fails0]
  rw [if_neg (by decide), if_neg (show ¬ cA x T q = -1 by unfold cA; rw [if_neg hq]; grind), if_neg (show ¬ flt q 0 ≤ 0 by
    have := flt_pos (kd := 0) q3 (show ¬ 400 < q by grind) (by decide) (by decide)
    grind)]
  exact ⟨⟨rfl, rfl, rfl⟩, trivial⟩
theorem law_exit {T laws a e num md deep lines opd : Int32} {tF sg lg cl cs cf op : Nat → Int32} {N : Nat} (he : 0 < e) : FO laws (.error e) (fl_mX11_law_74 T laws tF (LE T laws tF) (N + 1) a e num md deep lines opd sg lg cl cs cf op 0) := by
  have h0 : fl_mX11_law_74 T laws tF (LE T laws tF) (N + 1) a e num md deep lines opd sg lg cl cs cf op 0 = fb_mX11_law_74 T laws tF (LE T laws tF) (fl_mX11_law_74 T laws tF (LE T laws tF) N) a e num md deep lines opd sg lg cl cs cf op 0 := rfl
  rw [h0]
  unfold fb_mX11_law_74
  rw [if_pos rfl]
  exact LE_bad he
def sR (tk nx : Int32 → Int32) (m : Nat) (num ch q n : Int32) : Except Int32 (List (Int32 × Int32 × List (Int32 × Int32) × Option (List (Int32 × List (Int32 × Int32) × List (Int32 × Int32))))) := if tk q = 258 then .ok [] else if tk q = 59 then srd tk nx m num ch (nx q) n else .error (flt q 0)
def sq (tk nx : Int32 → Int32) (r s : Except Int32 (List (Int32 × Int32 × List (Int32 × Int32) × Option (List (Int32 × List (Int32 × Int32) × List (Int32 × Int32)))))) : Prop := (∀ e, r = .error e ↔ s = .error e)
theorem FO_c {laws : Int32} {r s : Except Int32 (List (Int32 × Int32 × List (Int32 × Int32) × Option (List (Int32 × List (Int32 × Int32) × List (Int32 × Int32)))))} {u : Int32 × Int32 × Int32 × Int32 × Int32 × Int32 × Int32 × Int32 × Int32 × Int32 × (Nat → Int32) × (Nat → Int32) × (Nat → Int32) × (Nat → Int32) × (Nat → Int32) × (Nat → Int32) × Int32} (h : ∀ e, r = .error e ↔ s = .error e) (hr : FO laws r u) : FO laws s u := by
  cases r with
  | error e =>
    have := (h e).mp rfl
    rw [this]
    exact hr
  | ok v =>
    cases s with
    | error e => exact absurd ((h e).mpr rfl) (fun g => by cases g)
    | ok w => exact hr
theorem srd_sR {tk nx : Int32 → Int32} {m : Nat} {num ch p n : Int32} {w : Int32 × Int32 × Int32 × Int32 × Int32 × List (Int32 × Int32) × Option (List (Int32 × List (Int32 × Int32) × List (Int32 × Int32)))} (h : scl tk nx num ch p n = .ok w) : ∀ e, sR tk nx m (num + 1) w.2.2.1 w.1 w.2.1 = .error e ↔ srd tk nx (m + 1) num ch p n = .error e := by
  intro e
  rw [srd_s, h, exb_ok]
  unfold sR
  by_cases t : tk w.1 = 258
  · rw [if_pos t, if_pos t]
    exact ⟨fun g => (by cases g), fun g => (by cases g)⟩
  · rw [if_neg t, if_neg t]
    by_cases s : tk w.1 = 59
    · rw [if_pos s, if_pos s]
      cases srd tk nx m (num + 1) w.2.2.1 (nx w.1) w.2.1 with
      | error e2 => exact Iff.rfl
      | ok l => exact ⟨fun g => (by cases g), fun g => (by cases g)⟩
    · rw [if_neg s, if_neg s]
theorem scl_num {tk nx : Int32 → Int32} {num ch p n : Int32} {w : Int32 × Int32 × Int32 × Int32 × Int32 × List (Int32 × Int32) × Option (List (Int32 × List (Int32 × Int32) × List (Int32 × Int32)))} (hw : scl tk nx num ch p n = .ok w) : ¬ (12 : Int32) ≤ num := by
  intro c
  unfold scl at hw
  rw [if_pos c] at hw
  repeat' split at hw
  all_goals cases hw
def KN (K : Int32 → Int32 → Int32 → Int32 → Int32 → Int32 → Int32 → (Nat → Int32) → (Nat → Int32) → (Nat → Int32) → (Nat → Int32) → (Nat → Int32) → (Nat → Int32) → Int32 → Int32 × Int32 × Int32 × Int32 × Int32 × Int32 × Int32 × Int32 × Int32 × Int32 × (Nat → Int32) × (Nat → Int32) × (Nat → Int32) × (Nat → Int32) × (Nat → Int32) × (Nat → Int32) × Int32) (u : Int32 × Int32 × Int32 × Int32 × Int32 × Int32 × Int32 × (Nat → Int32) × (Nat → Int32) × (Nat → Int32) × (Nat → Int32) × (Nat → Int32) × (Nat → Int32) × Int32) : Int32 × Int32 × Int32 × Int32 × Int32 × Int32 × Int32 × Int32 × Int32 × Int32 × (Nat → Int32) × (Nat → Int32) × (Nat → Int32) × (Nat → Int32) × (Nat → Int32) × (Nat → Int32) × Int32 := K u.1 u.2.1 u.2.2.1 u.2.2.2.1 u.2.2.2.2.1 u.2.2.2.2.2.1 u.2.2.2.2.2.2.1 u.2.2.2.2.2.2.2.1 u.2.2.2.2.2.2.2.2.1 u.2.2.2.2.2.2.2.2.2.1 u.2.2.2.2.2.2.2.2.2.2.1 u.2.2.2.2.2.2.2.2.2.2.2.1 u.2.2.2.2.2.2.2.2.2.2.2.2.1 u.2.2.2.2.2.2.2.2.2.2.2.2.2
theorem law_bd {x tF : Nat → Int32} {T laws a q num md deep lines opd : Int32} {sg lg cl cs cf op : Nat → Int32} (H : LXH x tF T) (h : AT x T a q) (E K : Int32 → Int32 → Int32 → Int32 → Int32 → Int32 → Int32 → (Nat → Int32) → (Nat → Int32) → (Nat → Int32) → (Nat → Int32) → (Nat → Int32) → (Nat → Int32) → Int32 → Int32 × Int32 × Int32 × Int32 × Int32 × Int32 × Int32 × Int32 × Int32 × Int32 × (Nat → Int32) × (Nat → Int32) × (Nat → Int32) × (Nat → Int32) × (Nat → Int32) × (Nat → Int32) × Int32) : fb_mX11_law_74 T laws tF E K a 0 num md deep lines opd sg lg cl cs cf op 1 = if cA x T q = 59 then KN K (fX11_clauseHere T (q + 1) 0 num laws md deep lines opd tF sg lg cl cs cf op) else E q 0 num md deep lines opd sg lg cl cs cf op 1 := by
  unfold fb_mX11_law_74
  rw [if_neg (by decide)]
  simp only [bnd, AT_see H h]
  rfl
theorem law_step {x tF : Nat → Int32} {T laws aa lines : Int32} {N : Nat} {r : Except Int32 (Int32 × Int32 × Int32 × Int32 × Int32 × List (Int32 × Int32) × Option (List (Int32 × List (Int32 × Int32) × List (Int32 × Int32))))} {R : Except Int32 (List (Int32 × Int32 × List (Int32 × Int32) × Option (List (Int32 × List (Int32 × Int32) × List (Int32 × Int32)))))} {u : Int32 × Int32 × Int32 × Int32 × Int32 × Int32 × Int32 × (Nat → Int32) × (Nat → Int32) × (Nat → Int32) × (Nat → Int32) × (Nat → Int32) × (Nat → Int32) × Int32} (hv : HR x T aa lines laws r u) (hN1 : 0 < N) (he : ∀ e, r = .error e → R = .error e ∧ 0 < e) (hk : ∀ w, r = .ok w → AT x T u.1 w.1 → aa < u.1 → ¬ w.2.1 < 0 → ¬ 60 < w.2.1 → (u.2.2.2.2.2.2.2.2.2.2.2.1 laws.toNatClampNeg < 0 ↔ w.2.2.1 = 0) → FO laws R (fl_mX11_law_74 T laws tF (LE T laws tF) N u.1 0 u.2.2.1 w.2.1 u.2.2.2.2.1 (lines + 1) u.2.2.2.2.2.2.1 u.2.2.2.2.2.2.2.1 u.2.2.2.2.2.2.2.2.1 u.2.2.2.2.2.2.2.2.2.1 u.2.2.2.2.2.2.2.2.2.2.1 u.2.2.2.2.2.2.2.2.2.2.2.1 u.2.2.2.2.2.2.2.2.2.2.2.2.1 1)) : FO laws R (KN (fl_mX11_law_74 T laws tF (LE T laws tF) N) u) := by
  unfold KN
  cases r with
  | error e =>
    obtain ⟨⟨z1, z2⟩, _⟩ := hv
    obtain ⟨e1, hp⟩ := he e rfl
    rw [e1, z1, z2]
    cases N with
    | zero => exact absurd hN1 (Nat.lt_irrefl _)
    | succ N => exact law_exit hp
  | ok w =>
    obtain ⟨⟨z1, z2, z3, z4, z5, z6, z7, z8, z9⟩, _⟩ := hv
    rw [z3, z4, z7, z9]
    exact hk w rfl z1 z2 z5 z6 z8
theorem li_1 {l : Int32} (h0 : ¬ l < 0) (h : ¬ 12 ≤ l) : (¬ l + 1 < 0) ∧ ¬ 12 < l + 1 := by grind
theorem li_2 {l : Int32} {m : Nat} (h0 : ¬ l < 0) (h : ¬ 12 ≤ l) (hm : (12 - l.toInt).toNat < m + 1) : (12 - (l + 1).toInt).toNat < m := by
  have e : (12 : Int32).toInt = 12 := by decide
  rw [Int32.le_iff_toInt_le] at h
  have jl : (l + 1).toInt = l.toInt + 1 := zadd1 (by omega)
  rw [jl]
  omega
theorem lj_3 {T a b : Int32} {N : Nat} (h : a < b) (h2 : ¬ T < b) (hN : (T.toInt - a.toInt).toNat < N + 1) : (T.toInt - b.toInt).toNat < N := f_dn h h2 hN
theorem li_4 {T a q : Int32} {N : Nat} (b1 : ¬ T ≤ q) (q1 : ¬ q < a) (hN : (T.toInt - a.toInt).toNat < N + 1) : 0 < N := by
  rw [Int32.le_iff_toInt_le] at b1
  rw [Int32.lt_iff_toInt_lt] at q1
  omega
theorem sR_er {tk nx : Int32 → Int32} {m : Nat} {num ch p n e : Int32} {r : Except Int32 (Int32 × Int32 × Int32 × Int32 × Int32 × List (Int32 × Int32) × Option (List (Int32 × List (Int32 × Int32) × List (Int32 × Int32))))} (hr : scl tk nx num ch p n = r) (hX : r = .error e) : srd tk nx (m + 1) num ch p n = .error e := by
  rw [srd_s, hr, hX, exb_er]
theorem sR_t {tk nx : Int32 → Int32} {m : Nat} {num ch q n : Int32} (t : tk q = 59) : sR tk nx m num ch q n = srd tk nx m num ch (nx q) n := by
  unfold sR
  rw [if_neg (by rw [t]; decide), if_pos t]
theorem sR_e {tk nx : Int32 → Int32} {m : Nat} {num ch q n : Int32} (t : tk q = 258) : sR tk nx m num ch q n = .ok [] := by
  unfold sR
  rw [if_pos t]
theorem sR_n {tk nx : Int32 → Int32} {m : Nat} {num ch q n : Int32} (t : ¬ tk q = 258) (t2 : ¬ tk q = 59) : sR tk nx m num ch q n = .error (flt q 0) := by
  unfold sR
  rw [if_neg t, if_neg t2]
def PLw (x tF : Nat → Int32) (T laws : Int32) (m : Nat) : Prop := ∀ (N : Nat) (a q num md deep lines opd ch : Int32) (sg lg cl cs cf op : Nat → Int32), AT x T a q → ¬ md < 0 → ¬ 60 < md → ¬ lines < 0 → ¬ 12 < lines → (cf laws.toNatClampNeg < 0 ↔ ch = 0) → (∀ e, sR (tk x T) (nx x T) m lines ch q md = .error e → 0 < e) → (12 - lines.toInt).toNat < m → (T.toInt - a.toInt).toNat < N → FO laws (sR (tk x T) (nx x T) m lines ch q md) (fl_mX11_law_74 T laws tF (LE T laws tF) N a 0 num md deep lines opd sg lg cl cs cf op 1)
set_option maxHeartbeats 4000000 in
theorem law_t {x tF : Nat → Int32} {T laws : Int32} (H : LXH x tF T) {m : Nat} (ih : PLw x tF T laws m) {N : Nat} {a q num md deep lines opd ch : Int32} {sg lg cl cs cf op : Nat → Int32} (q1 : ¬ q < a) (b1 : ¬ T ≤ q) (b2 : q < q + 1) (b3 : AT x T (q + 1) (nx x T q)) (m0 : ¬ md < 0) (m6 : ¬ 60 < md) (l0 : ¬ lines < 0) (l6 : ¬ 12 < lines) (hch : cf laws.toNatClampNeg < 0 ↔ ch = 0) (hpos : ∀ e, srd (tk x T) (nx x T) (m + 1) lines ch (nx x T q) md = .error e → 0 < e) (hm : (12 - lines.toInt).toNat < m + 1) (hN : (T.toInt - a.toInt).toNat < N + 1) : FO laws (srd (tk x T) (nx x T) (m + 1) lines ch (nx x T q) md) (KN (fl_mX11_law_74 T laws tF (LE T laws tF) N) (fX11_clauseHere T (q + 1) 0 num laws md deep lines opd tF sg lg cl cs cf op)) := by
  refine r_clhk (num := num) (deep := deep) (opd := opd) (sg := sg) (lg := lg) (cl := cl) (cs := cs) (op := op) H b3 m0 m6 l0 l6 hch (fun u r hu hr hv => ?_)
  rw [hu]
  refine law_step hv (li_4 b1 q1 hN) (fun e hX => ⟨sR_er hr hX, hpos e (sR_er hr hX)⟩) ?_
  intro w hX z1 z2 z5 z6 z8
  have hs := srd_sR (m := m) (hr.trans hX)
  have hl := scl_num (hr.trans hX)
  refine FO_c hs ?_
  exact ih N u.1 w.1 u.2.2.1 w.2.1 u.2.2.2.2.1 (lines + 1) u.2.2.2.2.2.2.1 w.2.2.1 u.2.2.2.2.2.2.2.1 u.2.2.2.2.2.2.2.2.1 u.2.2.2.2.2.2.2.2.2.1 u.2.2.2.2.2.2.2.2.2.2.1 u.2.2.2.2.2.2.2.2.2.2.2.1 u.2.2.2.2.2.2.2.2.2.2.2.2.1 z1 z5 z6 (li_1 l0 hl).1 (li_1 l0 hl).2 z8 (fun e g => hpos e ((hs e).mp g)) (li_2 l0 hl hm) (lj_3 (i_trans3 (i_tr4 q1 b2) (i_as z2)) z1.2.1 hN)
theorem r_lawL {x tF : Nat → Int32} {T laws : Int32} (H : LXH x tF T) : ∀ (m : Nat), PLw x tF T laws m := by
  intro m
  induction m with
  | zero => intro N a q num md deep lines opd ch sg lg cl cs cf op _ _ _ _ _ _ _ hm; exact absurd hm (Nat.not_lt_zero _)
  | succ m ih =>
    intro N a q num md deep lines opd ch sg lg cl cs cf op h m0 m6 l0 l6 hch hpos hm hN
    obtain ⟨q1, q2, q3, hq⟩ := AT_in h
    cases N with
    | zero => exact absurd hN (Nat.not_lt_zero _)
    | succ N =>
      have h0 : fl_mX11_law_74 T laws tF (LE T laws tF) (N + 1) a 0 num md deep lines opd sg lg cl cs cf op 1 = fb_mX11_law_74 T laws tF (LE T laws tF) (fl_mX11_law_74 T laws tF (LE T laws tF) N) a 0 num md deep lines opd sg lg cl cs cf op 1 := rfl
      rw [h0, law_bd H h]
      obtain ⟨k1, k2⟩ := cA_tk (c := 59) H hq ⟨by decide, by decide, by decide, by decide, by decide, by decide⟩
      by_cases t : tk x T q = 59
      · obtain ⟨b1, b2, b3, b4⟩ := k2 t
        rw [if_pos (k1.mpr t), sR_t t]
        rw [sR_t t] at hpos
        exact law_t H ih q1 b1 b2 b3 m0 m6 l0 l6 hch hpos hm hN
      · rw [if_neg (fun g => t (k1.mp g))]
        by_cases hqT : T ≤ q
        · rw [sR_e (tk_T hqT)]
          exact LE_ok H hq hqT
        · rw [sR_n (tk_258 H q3 hq.2.2 hqT) t]
          exact LE_no H hq hqT
set_option maxHeartbeats 4000000 in
theorem law_u0 {T laws nxt wr num text md deep lines opd : Int32} {tF sg lg cl cs cf op : Nat → Int32} (hl : ¬ laws = 6) : fX11_law T laws nxt wr num text md deep lines opd tF sg lg cl cs cf op = KN (fl_mX11_law_74 T laws tF (LE T laws tF) ((T.toInt - (fX11_clauseHere T 0 0 num laws 0 deep 0 opd tF sg (upd lg laws.toNatClampNeg 0) cl (upd cs laws.toNatClampNeg 0) (upd cf laws.toNatClampNeg (-1)) op).1.toInt).toNat + 1)) (fX11_clauseHere T 0 0 num laws 0 deep 0 opd tF sg (upd lg laws.toNatClampNeg 0) cl (upd cs laws.toNatClampNeg 0) (upd cf laws.toNatClampNeg (-1)) op) := by
  unfold fX11_law
  rw [if_neg hl, bnd_eq, bnd_eq, bnd_eq, bnd_eq, bnd_eq, bnd_eq, bnd_eq, bnd_eq, bnd_eq, bnd_eq, bnd_eq, bnd_eq, bnd_eq, bnd_eq, bnd_eq, bnd_eq, bnd_eq, bnd_eq]
  delta KN LE
  rfl
theorem r_law {x tF : Nat → Int32} {T laws nxt wr num text md deep lines opd : Int32} {sg lg cl cs cf op : Nat → Int32} (H : LXH x tF T) (hl : ¬ laws = 6) (hpos : ∀ e, srt (tk x T) (nx x T) (sp x T 0) = .error e → 0 < e) : FO laws (srt (tk x T) (nx x T) (sp x T 0)) (fX11_law T laws nxt wr num text md deep lines opd tF sg lg cl cs cf op) := by
  have h0 : AT x T 0 (sp x T 0) := ⟨by decide, H.1, rfl⟩
  have hch : (upd cf laws.toNatClampNeg (-1)) laws.toNatClampNeg < 0 ↔ (0 : Int32) = 0 := by
    rw [pk_us]
    exact ⟨fun _ => rfl, fun _ => by decide⟩
  rw [law_u0 hl]
  obtain ⟨u, r, hu, hr, hv⟩ := r_clhq (num := num) (deep := deep) (lines := 0) (opd := opd) (sg := sg) (lg := upd lg laws.toNatClampNeg 0) (cl := cl) (cs := upd cs laws.toNatClampNeg 0) (op := op) (md := 0) H h0 (by decide) (by decide) (by decide) (by decide) hch
  rw [hu]
  have hdef : srt (tk x T) (nx x T) (sp x T 0) = srd (tk x T) (nx x T) 13 0 0 (sp x T 0) 0 := rfl
  rw [hdef] at hpos ⊢
  refine law_step hv (Nat.succ_pos _) (fun e hX => ⟨sR_er hr hX, hpos e (sR_er hr hX)⟩) ?_
  intro w hX z1 z2 z5 z6 z8
  have hs := srd_sR (m := 12) (hr.trans hX)
  refine FO_c hs ?_
  exact r_lawL H 12 _ u.1 w.1 u.2.2.1 w.2.1 u.2.2.2.2.1 (0 + 1) u.2.2.2.2.2.2.1 w.2.2.1 u.2.2.2.2.2.2.2.1 u.2.2.2.2.2.2.2.2.1 u.2.2.2.2.2.2.2.2.2.1 u.2.2.2.2.2.2.2.2.2.2.1 u.2.2.2.2.2.2.2.2.2.2.2.1 u.2.2.2.2.2.2.2.2.2.2.2.2.1 z1 z5 z6 (by decide) (by decide) z8 (fun e g => hpos e ((hs e).mp g)) (by decide) (Nat.lt_succ_self _)
theorem RV_pos {r : Except Int32 (List (Int32 × Int32 × List (Int32 × Int32) × Option (List (Int32 × List (Int32 × Int32) × List (Int32 × Int32)))))} {y : Int32} (h : RV r y) : ∀ e, r = .error e → 0 < e := by
  intro e g
  rw [g] at h
  exact h.2
theorem law_eq {x tF t0 q0 s1 s2 s3 s4 s5 yj yo y1 y2 y3 y4 y5 : Nat → Int32} {T laws nxt wr num text md deep lines opd : Int32} {sg lg cl cs cf op : Nat → Int32} (H : LXH x tF T) (hl : ¬ laws = 6) : (fX11_law T laws nxt wr num text md deep lines opd tF sg lg cl cs cf op).1 = 0 ∧ (fX11_law T laws nxt wr num text md deep lines opd tF sg lg cl cs cf op).2.1 = (if (fX2_read t0 q0 s1 s2 s3 s4 s5 yj yo y1 y2 y3 y4 y5 x T).2.2.2.2.2.2.2.2.2.2.2.2.2.2.2.2.2.2.2.2.2.2.2.2 = 0 then laws + 1 else laws) ∧ (fX11_law T laws nxt wr num text md deep lines opd tF sg lg cl cs cf op).2.2.2.2.2.2.2.2.2.2.2.2.2.2.2.2 = (if (fX2_read t0 q0 s1 s2 s3 s4 s5 yj yo y1 y2 y3 y4 y5 x T).2.2.2.2.2.2.2.2.2.2.2.2.2.2.2.2.2.2.2.2.2.2.2.2 = 0 then laws + 1 - 1 else -2 - (fX2_read t0 q0 s1 s2 s3 s4 s5 yj yo y1 y2 y3 y4 y5 x T).2.2.2.2.2.2.2.2.2.2.2.2.2.2.2.2.2.2.2.2.2.2.2.2) := by
  obtain ⟨h1, h2, h3⟩ := c_cut (x := x) (tf := t0) (pf := q0) H.1 H.2.1
  have hc := c_read (s1 := s1) (s2 := s2) (s3 := s3) (s4 := s4) (s5 := s5) (yj := yj) (yo := yo) (y1 := y1) (y2 := y2) (y3 := y3) (y4 := y4) (y5 := y5) H.2.1 h1 h2
  rw [h3] at hc
  have hr := r_law (nxt := nxt) (wr := wr) (num := num) (text := text) (md := md) (deep := deep) (lines := lines) (opd := opd) (sg := sg) (lg := lg) (cl := cl) (cs := cs) (cf := cf) (op := op) H hl (RV_pos hc)
  generalize (fX2_read t0 q0 s1 s2 s3 s4 s5 yj yo y1 y2 y3 y4 y5 x T).2.2.2.2.2.2.2.2.2.2.2.2.2.2.2.2.2.2.2.2.2.2.2.2 = y at hc ⊢
  generalize fX11_law T laws nxt wr num text md deep lines opd tF sg lg cl cs cf op = u at hr ⊢
  generalize srt (tk x T) (nx x T) (sp x T 0) = r at hc hr
  cases r with
  | error e =>
    obtain ⟨c1, c2⟩ := hc
    obtain ⟨⟨g1, g2, g3⟩, _⟩ := hr
    rw [if_neg (show ¬ y = 0 by grind), if_neg (show ¬ y = 0 by grind), c1]
    exact ⟨g1, g2, g3⟩
  | ok l =>
    have c1 : y = 0 := hc
    obtain ⟨⟨g1, g2, g3⟩, _⟩ := hr
    rw [if_pos c1, if_pos c1]
    exact ⟨g1, g2, g3⟩
theorem sr_toInt {v : Int32} {k : Int32} {n : Nat} (hk : k.toBitVec.smod 32 = BitVec.ofNat 32 n) (hn : n < 32) : (v >>> k).toInt = v.toInt / ((2 ^ n : Nat) : Int) := by
  show (v >>> k).toBitVec.toInt = _
  rw [Int32.toBitVec_shiftRight, hk, BitVec.sshiftRight_eq', BitVec.toInt_sshiftRight, Int.shiftRight_eq_div_pow]
  rw [BitVec.toNat_ofNat, Nat.mod_eq_of_lt (by omega)]
  rfl
theorem nar_toInt (v : Int32) : (vp_nar .byte (v.toInt8.toInt32)).toInt = v.toInt.bmod 256 := by
  rw [vp_nar_byte]
  have e1 : ∀ y : Int8, y.toInt32.toInt = y.toInt := fun y => Int8.toInt_toInt32 y
  rw [e1, Int32.toInt_toInt8, e1, Int32.toInt_toInt8]
  exact Int.bmod_bmod
theorem and_255 (b : Int32) : (b &&& 255).toInt = ((b.toBitVec.toNat % 256 : Nat) : Int) := by
  have e : (b &&& 255).toBitVec.toNat = b.toBitVec.toNat % 256 := by
    rw [Int32.toBitVec_and, BitVec.toNat_and]
    exact Nat.and_two_pow_sub_one_eq_mod _ 8
  have h : ¬ (b &&& 255) < 0 := by
    rw [Int32.lt_iff_toInt_lt, z_i0]
    show ¬ (b &&& 255).toBitVec.toInt < 0
    rw [BitVec.toInt_eq_toNat_cond, e, if_pos (by omega)]
    omega
  rw [z_tn h, e]
theorem us_nat {v : Int32} {k : UInt32} {n : Nat} (hk : k.toBitVec.toNat % 32 = n) : ((v.toUInt32 >>> k).toInt32).toBitVec.toNat = v.toBitVec.toNat / 2 ^ n := by
  show (v.toUInt32 >>> k).toBitVec.toNat = _
  rw [UInt32.toBitVec_shiftRight, BitVec.ushiftRight_eq', BitVec.toNat_ushiftRight, Nat.shiftRight_eq_div_pow, BitVec.toNat_umod]
  show _ / 2 ^ (k.toBitVec.toNat % 32) = _
  rw [hk]
  rfl
theorem v_nat (v : Int32) : v.toInt = (v.toBitVec.toNat : Int) ∨ v.toInt = (v.toBitVec.toNat : Int) - 4294967296 := by
  show v.toBitVec.toInt = _ ∨ v.toBitVec.toInt = _
  rw [BitVec.toInt_eq_toNat_cond]
  split
  · exact Or.inl rfl
  · exact Or.inr rfl
theorem b_nat {b : Int32} (h0 : -128 ≤ b.toInt) (h1 : b.toInt ≤ 127) : ((b.toBitVec.toNat % 256 : Nat) : Int) = b.toInt % 256 := by
  have := b.toBitVec.isLt
  rcases v_nat b with h | h <;> omega
theorem byte_k {v k : Int32} {u : UInt32} {n : Nat} (hn : n = 24 ∨ n = 16 ∨ n = 8 ∨ n = 0) (hk : k.toBitVec.smod 32 = BitVec.ofNat 32 n) (hu : u.toBitVec.toNat % 32 = n) : ((v.toUInt32 >>> u).toInt32 &&& 255) = (vp_nar .byte ((v >>> k).toInt8.toInt32)) &&& 255 ∧ (¬ vp_nar .byte ((v >>> k).toInt8.toInt32) < -128) ∧ ¬ 127 < vp_nar .byte ((v >>> k).toInt8.toInt32) := by
  have hn2 : n < 32 := by omega
  have t := nar_toInt (v >>> k)
  rw [sr_toInt hk hn2] at t
  have b1 : -128 ≤ (v.toInt / ((2 ^ n : Nat) : Int)).bmod 256 := Int.le_bmod (by decide)
  have b2 : (v.toInt / ((2 ^ n : Nat) : Int)).bmod 256 < 128 := Int.bmod_lt (by decide)
  have e1 : (-128 : Int32).toInt = -128 := by decide
  have e2 : (127 : Int32).toInt = 127 := by decide
  refine ⟨?_, ?_, ?_⟩
  · apply Int32.toInt_inj.mp
    rw [and_255, and_255, us_nat hu, b_nat (by rw [t]; exact b1) (by rw [t]; omega), t]
    have hm : (v.toInt / ((2 ^ n : Nat) : Int)).bmod 256 % 256 = (v.toInt / ((2 ^ n : Nat) : Int)) % 256 := Int.bmod_emod
    rw [hm]
    have hl := v.toBitVec.isLt
    rcases hn with r | r | r | r <;> subst r <;> rcases v_nat v with h | h <;> rw [h] <;> simp only [show (2 : Nat) ^ 24 = 16777216 from by decide, show (2 : Nat) ^ 16 = 65536 from by decide, show (2 : Nat) ^ 8 = 256 from by decide, show (2 : Nat) ^ 0 = 1 from by decide] <;> omega
  · rw [Int32.lt_iff_toInt_lt, t, e1]; omega
  · rw [Int32.lt_iff_toInt_lt, t, e2]; omega
theorem LXH_1 {x tF : Nat → Int32} {T a b : Int32} (H : LXH x tF T) (h : ¬ 400 ≤ T) (hb : a = b &&& 255 ∧ (¬ b < -128) ∧ ¬ 127 < b) : LXH (upd x T.toNatClampNeg a) (upd tF T.toNatClampNeg b) (T + 1) := by
  obtain ⟨T0, T4, hx⟩ := H
  refine ⟨by grind, by grind, fun i i0 iT => ?_⟩
  rcases k_or (k := i) T0 T4 (by grind) with g | g
  · rw [upd_ne (kn_ne i0 g), upd_ne (kn_ne i0 g)]
    exact hx i i0 (by grind)
  · subst g
    rw [pk_us, pk_us]
    exact hb
theorem four_eq {x tF : Nat → Int32} {T v : Int32} (H : LXH x tF T) (h : ¬ 396 < T) : (fX10_writeBytes T x v).1 = T + 1 + 1 + 1 + 1 ∧ (fX11_four T tF v).1 = T + 1 + 1 + 1 + 1 ∧ LXH (fX10_writeBytes T x v).2 (fX11_four T tF v).2 (T + 1 + 1 + 1 + 1) := by
  have T0 := H.1
  have h0 : ¬ 400 ≤ T := by grind
  have h1 : ¬ 400 ≤ T + 1 := by grind
  have h2 : ¬ 400 ≤ T + 1 + 1 := by grind
  have h3 : ¬ 400 ≤ T + 1 + 1 + 1 := by grind
  unfold fX10_writeBytes fX11_four
  simp only [bnd, if_neg h0, if_neg h1, if_neg h2, if_neg h3]
  refine ⟨trivial, trivial, ?_⟩
  have k24 := byte_k (v := v) (k := 24 &&& 31) (u := (24 : Int32).toUInt32 &&& Int32.toUInt32 31) (n := 24) (Or.inl rfl) (by decide) (by decide)
  have k16 := byte_k (v := v) (k := 16 &&& 31) (u := (16 : Int32).toUInt32 &&& Int32.toUInt32 31) (n := 16) (Or.inr (Or.inl rfl)) (by decide) (by decide)
  have k8 := byte_k (v := v) (k := 8 &&& 31) (u := (8 : Int32).toUInt32 &&& Int32.toUInt32 31) (n := 8) (Or.inr (Or.inr (Or.inl rfl))) (by decide) (by decide)
  have k0 := byte_k (v := v) (k := 0 &&& 31) (u := (0 : Int32).toUInt32 &&& Int32.toUInt32 31) (n := 0) (Or.inr (Or.inr (Or.inr rfl))) (by decide) (by decide)
  exact LXH_1 (LXH_1 (LXH_1 (LXH_1 H h0 k24) h1 k16) h2 k8) h3 k0
theorem feed_eq {x tF : Nat → Int32} {T p0 p1 p2 p3 p4 : Int32} (H : LXH x tF T) : (fX11_feed T tF p0 p1 p2 p3 p4).1 = (fX10_feed T x p0 p1 p2 p3 p4).1 ∧ (fX11_feed T tF p0 p1 p2 p3 p4).2.2 = (fX10_feed T x p0 p1 p2 p3 p4).2.2 ∧ LXH (fX10_feed T x p0 p1 p2 p3 p4).2.1 (fX11_feed T tF p0 p1 p2 p3 p4).2.1 (fX11_feed T tF p0 p1 p2 p3 p4).1 := by
  have T0 := H.1
  have T4 := H.2.1
  unfold fX10_feed fX11_feed
  simp only [bnd]
  by_cases h : T + 20 ≤ 400
  · rw [if_pos h, if_pos h]
    obtain ⟨a1, b1, c1⟩ := four_eq (v := p0) H (by grind)
    generalize fX10_writeBytes T x p0 = u1 at a1 c1 ⊢
    generalize fX11_four T tF p0 = w1 at b1 c1 ⊢
    rw [a1, b1]
    obtain ⟨a2, b2, c2⟩ := four_eq (v := p1) c1 (by grind)
    generalize fX10_writeBytes (T + 1 + 1 + 1 + 1) u1.2 p1 = u2 at a2 c2 ⊢
    generalize fX11_four (T + 1 + 1 + 1 + 1) w1.2 p1 = w2 at b2 c2 ⊢
    rw [a2, b2]
    generalize hT2 : T + 1 + 1 + 1 + 1 + 1 + 1 + 1 + 1 = T2 at a2 b2 c2 ⊢
    obtain ⟨a3, b3, c3⟩ := four_eq (v := p2) c2 (by grind)
    generalize fX10_writeBytes T2 u2.2 p2 = u3 at a3 c3 ⊢
    generalize fX11_four T2 w2.2 p2 = w3 at b3 c3 ⊢
    rw [a3, b3]
    generalize hT3 : T2 + 1 + 1 + 1 + 1 = T3 at a3 b3 c3 ⊢
    obtain ⟨a4, b4, c4⟩ := four_eq (v := p3) c3 (by grind)
    generalize fX10_writeBytes T3 u3.2 p3 = u4 at a4 c4 ⊢
    generalize fX11_four T3 w3.2 p3 = w4 at b4 c4 ⊢
    rw [a4, b4]
    generalize hT4 : T3 + 1 + 1 + 1 + 1 = T5 at a4 b4 c4 ⊢
    obtain ⟨a5, b5, c5⟩ := four_eq (v := p4) c4 (by grind)
    generalize fX10_writeBytes T5 u4.2 p4 = u5 at a5 c5 ⊢
    generalize fX11_four T5 w4.2 p4 = w5 at b5 c5 ⊢
    rw [a5, b5]
    exact ⟨rfl, rfl, c5⟩
  · rw [if_neg h, if_neg h]
    exact ⟨rfl, rfl, H⟩
theorem LXH_le {x tF : Nat → Int32} {T S : Int32} (H : LXH x tF T) (h0 : ¬ S < 0) (h1 : S ≤ T) : LXH x tF S := ⟨h0, by have := H.2.1; grind, fun i i0 iS => H.2.2 i i0 (by grind)⟩
theorem end_eq {x tF : Nat → Int32} {T p : Int32} (H : LXH x tF T) : fX11_end T p = fX10_end T p ∧ LXH x tF (fX11_end T p).1 := by
  unfold fX11_end fX10_end wi
  by_cases a : p < 0
  · rw [if_pos a, if_pos a, if_pos rfl]
    exact ⟨rfl, H⟩
  · rw [if_neg a, if_neg a]
    by_cases b : p ≤ T
    · rw [if_pos b, if_neg (show ¬ T < p by grind), if_neg (by decide)]
      exact ⟨rfl, LXH_le H a b⟩
    · rw [if_neg b, if_pos (show T < p by grind), if_pos rfl]
      exact ⟨rfl, H⟩
def gI (im : Nat → Option (Nat → Int32)) : Nat → Int32 := (im 4).getD (fun _ => 0)
def tp (g : Nat → Int32) : Nat → Int32 := fun i => g (i + 2)
def mkG (lc tl : Int32) (t : Nat → Int32) : Nat → Int32 := fun j => if j = 0 then lc else if j = 1 then tl else t (j - 2)
theorem gI_up {im : Nat → Option (Nat → Int32)} {g : Nat → Int32} : gI (iup im 4 g) = g := by
  unfold gI
  rw [iup_at]
  rfl
theorem gI_ne {im : Nat → Option (Nat → Int32)} {k : Nat} {c : Nat → Int32} (h : k < 4) : gI (iup im k c) = gI im := by
  unfold gI
  rw [iup_ne (by omega)]
theorem mkt {lc tl : Int32} {t : Nat → Int32} : tp (mkG lc tl t) = t := by
  funext i
  show (if i + 2 = 0 then lc else if i + 2 = 1 then tl else t (i + 2 - 2)) = t i
  rw [if_neg (by omega), if_neg (by omega), Nat.add_sub_cancel]
def XG (im : Nat → Option (Nat → Int32)) (lc tl : Int32) (t : Nat → Int32) : Prop := lc = gI im 0 ∧ tl = gI im 1 ∧ t = tp (gI im)
def MG (im : Nat → Option (Nat → Int32)) (ls tl : Int32) (t : Nat → Int32) : Prop := ls = gI im 0 ∧ tl = gI im 1 ∧ LXH (tp (gI im)) t tl
theorem XG_ne {im : Nat → Option (Nat → Int32)} {k : Nat} {c t : Nat → Int32} {lc tl : Int32} (hk : k < 4) (h : XG im lc tl t) : XG (iup im k c) lc tl t := by
  unfold XG
  rw [gI_ne hk]
  exact h
theorem MG_ne {im : Nat → Option (Nat → Int32)} {k : Nat} {c t : Nat → Int32} {lc tl : Int32} (hk : k < 4) (h : MG im lc tl t) : MG (iup im k c) lc tl t := by
  unfold MG
  rw [gI_ne hk]
  exact h
theorem XG_up {im : Nat → Option (Nat → Int32)} {a b lc tl : Int32} {t t2 : Nat → Int32} (e1 : lc = a) (e2 : tl = b) (e3 : t = t2) : XG (iup im 4 (mkG a b t2)) lc tl t := by
  unfold XG
  rw [gI_up, mkt]
  exact ⟨e1, e2, e3⟩
theorem MG_up {im : Nat → Option (Nat → Int32)} {a b lc tl : Int32} {t t2 : Nat → Int32} (e1 : lc = a) (e2 : tl = b) (e3 : LXH t2 t tl) : MG (iup im 4 (mkG a b t2)) lc tl t := by
  unfold MG
  rw [gI_up, mkt]
  exact ⟨e1, e2, e3⟩
theorem XG_0 : XG (fun _ => none) 0 0 (fun _ => 0) := ⟨rfl, rfl, rfl⟩
theorem MG_0 : MG (fun _ => none) 0 0 (fun _ => 0) := ⟨rfl, rfl, by decide, by decide, fun i i0 iT => absurd (i_le_of i0) iT⟩
def fdF (im : Nat → Option (Nat → Int32)) (p0 p1 p2 p3 p4 : Int32) : Int32 × (Nat → Int32) × Int32 := fX10_feed (gI im 1) (tp (gI im)) p0 p1 p2 p3 p4
def fd_r (im : Nat → Option (Nat → Int32)) (p0 p1 p2 p3 p4 : Int32) : Int32 := (fdF im p0 p1 p2 p3 p4).2.2
def fd_im (im : Nat → Option (Nat → Int32)) (p0 p1 p2 p3 p4 : Int32) : Nat → Option (Nat → Int32) := iup im 4 (mkG (gI im 0) (fdF im p0 p1 p2 p3 p4).1 (fdF im p0 p1 p2 p3 p4).2.1)
theorem fd_x {im : Nat → Option (Nat → Int32)} {p0 p1 p2 p3 p4 lc tl a r : Int32} {t b : Nat → Int32} (h : XG im lc tl t) (e : (a, b, r) = fX10_feed tl t p0 p1 p2 p3 p4) : r = fd_r im p0 p1 p2 p3 p4 ∧ XG (fd_im im p0 p1 p2 p3 p4) lc a b := by
  have e2 : (a, b, r) = fdF im p0 p1 p2 p3 p4 := by
    unfold fdF
    rw [← h.2.1, ← h.2.2]
    exact e
  exact ⟨congrArg (fun z => z.2.2) e2, XG_up h.1 (congrArg (fun z => z.1) e2) (congrArg (fun z => z.2.1) e2)⟩
theorem fd_m {im : Nat → Option (Nat → Int32)} {p0 p1 p2 p3 p4 lc tl a r : Int32} {t b : Nat → Int32} (h : MG im lc tl t) (e : (a, b, r) = fX11_feed tl t p0 p1 p2 p3 p4) : r = fd_r im p0 p1 p2 p3 p4 ∧ MG (fd_im im p0 p1 p2 p3 p4) lc a b := by
  obtain ⟨f1, f2, f3⟩ := feed_eq (p0 := p0) (p1 := p1) (p2 := p2) (p3 := p3) (p4 := p4) h.2.2
  rw [← e, h.2.1] at f1 f2 f3
  exact ⟨f2, MG_up h.1 f1 f3⟩
def en_r (im : Nat → Option (Nat → Int32)) (p : Int32) : Int32 := (fX10_end (gI im 1) p).2
def en_im (im : Nat → Option (Nat → Int32)) (p : Int32) : Nat → Option (Nat → Int32) := iup im 4 (mkG (gI im 0) (fX10_end (gI im 1) p).1 (tp (gI im)))
theorem en_x {im : Nat → Option (Nat → Int32)} {p lc tl a r : Int32} {t : Nat → Int32} (h : XG im lc tl t) (e : (a, r) = fX10_end tl p) : r = en_r im p ∧ XG (en_im im p) lc a t := by
  rw [h.2.1] at e
  exact ⟨congrArg (fun z => z.2) e, XG_up h.1 (congrArg (fun z => z.1) e) h.2.2⟩
theorem en_m {im : Nat → Option (Nat → Int32)} {p lc tl a r : Int32} {t : Nat → Int32} (h : MG im lc tl t) (e : (a, r) = fX11_end tl p) : r = en_r im p ∧ MG (en_im im p) lc a t := by
  obtain ⟨f1, f2⟩ := end_eq (p := p) h.2.2
  rw [← e] at f1 f2
  rw [h.2.1] at f1
  exact ⟨congrArg (fun z => z.2) f1, MG_up h.1 (congrArg (fun z => z.1) f1) f2⟩
def lwY (x : Nat → Int32) (T : Int32) : Int32 := match srt (tk x T) (nx x T) (sp x T 0) with
  | .error e => e
  | .ok _ => 0
def la_r (im : Nat → Option (Nat → Int32)) : Int32 := if 6 ≤ gI im 0 then -1 else if lwY (tp (gI im)) (gI im 1) = 0 then gI im 0 + 1 - 1 else -2 - lwY (tp (gI im)) (gI im 1)
def la_im (im : Nat → Option (Nat → Int32)) : Nat → Option (Nat → Int32) := if 6 ≤ gI im 0 then im else iup im 4 (mkG (if lwY (tp (gI im)) (gI im 1) = 0 then gI im 0 + 1 else gI im 0) 0 (tp (gI im)))
theorem rd_Y {x t0 q0 s1 s2 s3 s4 s5 yj yo y1 y2 y3 y4 y5 : Nat → Int32} {T : Int32} (T0 : ¬ T < 0) (T4 : ¬ 400 < T) : (fX2_read t0 q0 s1 s2 s3 s4 s5 yj yo y1 y2 y3 y4 y5 x T).2.2.2.2.2.2.2.2.2.2.2.2.2.2.2.2.2.2.2.2.2.2.2.2 = lwY x T ∧ ∀ e, srt (tk x T) (nx x T) (sp x T 0) = .error e → 0 < e := by
  obtain ⟨h1, h2, h3⟩ := c_cut (x := x) (tf := t0) (pf := q0) T0 T4
  have hc := c_read (s1 := s1) (s2 := s2) (s3 := s3) (s4 := s4) (s5 := s5) (yj := yj) (yo := yo) (y1 := y1) (y2 := y2) (y3 := y3) (y4 := y4) (y5 := y5) T4 h1 h2
  rw [h3] at hc
  refine ⟨?_, RV_pos hc⟩
  unfold lwY
  generalize (fX2_read t0 q0 s1 s2 s3 s4 s5 yj yo y1 y2 y3 y4 y5 x T).2.2.2.2.2.2.2.2.2.2.2.2.2.2.2.2.2.2.2.2.2.2.2.2 = y at hc ⊢
  generalize srt (tk x T) (nx x T) (sp x T 0) = r at hc ⊢
  cases r with
  | error e => exact hc.1
  | ok l => exact hc
theorem lo_eq {x t0 q0 s1 s2 s3 s4 s5 yj yo y1 y2 y3 y4 y5 : Nat → Int32} {tl lc : Int32} : (fX10_law_old tl lc x t0 q0 s1 s2 s3 s4 s5 yj yo y1 y2 y3 y4 y5).2.2.2.2.2.2.2.2.2.2.2.2.2.2.2.2.2.2.2.2.2.2.2.2.1 = (if (fX2_read t0 q0 s1 s2 s3 s4 s5 yj yo y1 y2 y3 y4 y5 x tl).2.2.2.2.2.2.2.2.2.2.2.2.2.2.2.2.2.2.2.2.2.2.2.2 = 0 then lc + 1 else lc) ∧ (fX10_law_old tl lc x t0 q0 s1 s2 s3 s4 s5 yj yo y1 y2 y3 y4 y5).2.2.2.2.2.2.2.2.2.2.2.2.2.2.2.2.2.2.2.2.2.2.2.2.2 = (if (fX2_read t0 q0 s1 s2 s3 s4 s5 yj yo y1 y2 y3 y4 y5 x tl).2.2.2.2.2.2.2.2.2.2.2.2.2.2.2.2.2.2.2.2.2.2.2.2 = 0 then lc + 1 - 1 else -2 - (fX2_read t0 q0 s1 s2 s3 s4 s5 yj yo y1 y2 y3 y4 y5 x tl).2.2.2.2.2.2.2.2.2.2.2.2.2.2.2.2.2.2.2.2.2.2.2.2) := by
  unfold fX10_law_old
  simp only [bnd]
  generalize fX2_read t0 q0 s1 s2 s3 s4 s5 yj yo y1 y2 y3 y4 y5 x tl = v
  by_cases c : v.2.2.2.2.2.2.2.2.2.2.2.2.2.2.2.2.2.2.2.2.2.2.2.2 = 0
  · rw [if_pos c, if_pos c, if_pos c]
    exact ⟨rfl, rfl⟩
  · rw [if_neg c, if_neg c, if_neg c]
    exact ⟨rfl, rfl⟩
theorem ln_eq {x t0 q0 : Nat → Int32} {tl lc : Int32} : fX10_law_new tl lc x t0 q0 = fX10_law_old tl lc x t0 q0 (fun _ => 0) (fun _ => 0) (fun _ => 0) (fun _ => 0) (fun _ => 0) (fun _ => 0) (fun _ => 0) (fun _ => 0) (fun _ => 0) (fun _ => 0) (fun _ => 0) (fun _ => 0) := rfl
def GR (im : Nat → Option (Nat → Int32)) : Prop := (¬ gI im 1 < 0) ∧ ¬ 400 < gI im 1
theorem la_x {im : Nat → Option (Nat → Int32)} {lc tl lc2 r : Int32} {t t0 q0 s1 s2 s3 s4 s5 yj yo y1 y2 y3 y4 y5 : Nat → Int32} (h : XG im lc tl t) (hg : GR im) (h6 : ¬ 6 ≤ lc) (e1 : lc2 = (fX10_law_old tl lc t t0 q0 s1 s2 s3 s4 s5 yj yo y1 y2 y3 y4 y5).2.2.2.2.2.2.2.2.2.2.2.2.2.2.2.2.2.2.2.2.2.2.2.2.1) (e2 : r = (fX10_law_old tl lc t t0 q0 s1 s2 s3 s4 s5 yj yo y1 y2 y3 y4 y5).2.2.2.2.2.2.2.2.2.2.2.2.2.2.2.2.2.2.2.2.2.2.2.2.2) : r = la_r im ∧ XG (la_im im) lc2 0 t := by
  obtain ⟨h0, h1, h2⟩ := h
  have hy := (rd_Y (x := t) (t0 := t0) (q0 := q0) (s1 := s1) (s2 := s2) (s3 := s3) (s4 := s4) (s5 := s5) (yj := yj) (yo := yo) (y1 := y1) (y2 := y2) (y3 := y3) (y4 := y4) (y5 := y5) (T := tl) (by rw [h1]; exact hg.1) (by rw [h1]; exact hg.2)).1
  obtain ⟨l1, l2⟩ := lo_eq (x := t) (t0 := t0) (q0 := q0) (s1 := s1) (s2 := s2) (s3 := s3) (s4 := s4) (s5 := s5) (yj := yj) (yo := yo) (y1 := y1) (y2 := y2) (y3 := y3) (y4 := y4) (y5 := y5) (tl := tl) (lc := lc)
  rw [l1, hy, h2, h1, h0] at e1
  rw [l2, hy, h2, h1, h0] at e2
  rw [h0] at h6
  unfold la_r la_im
  rw [if_neg h6, if_neg h6]
  exact ⟨e2, XG_up e1 rfl h2⟩
theorem la_xn {im : Nat → Option (Nat → Int32)} {lc tl lc2 r : Int32} {t t0 q0 : Nat → Int32} (h : XG im lc tl t) (hg : GR im) (h6 : ¬ 6 ≤ lc) (e1 : lc2 = (fX10_law_new tl lc t t0 q0).2.2.2.2.2.2.2.2.2.2.2.2.2.2.2.2.2.2.2.2.2.2.2.2.1) (e2 : r = (fX10_law_new tl lc t t0 q0).2.2.2.2.2.2.2.2.2.2.2.2.2.2.2.2.2.2.2.2.2.2.2.2.2) : r = la_r im ∧ XG (la_im im) lc2 0 t := by
  rw [ln_eq] at e1 e2
  exact la_x h hg h6 e1 e2
theorem la_xf {im : Nat → Option (Nat → Int32)} {lc tl : Int32} {t : Nat → Int32} (h : XG im lc tl t) (h6 : 6 ≤ lc) : (-1 : Int32) = la_r im ∧ XG (la_im im) lc tl t := by
  have h6' := h6
  rw [h.1] at h6'
  unfold la_r la_im
  rw [if_pos h6', if_pos h6']
  exact ⟨rfl, h⟩
theorem la_m {im : Nat → Option (Nat → Int32)} {laws tl nxt wr num text md deep lines opd : Int32} {t sg lg cl cs cf op : Nat → Int32} (h : MG im laws tl t) (h6 : ¬ 6 < laws) : (fX11_law tl laws nxt wr num text md deep lines opd t sg lg cl cs cf op).2.2.2.2.2.2.2.2.2.2.2.2.2.2.2.2 = la_r im ∧ MG (la_im im) (fX11_law tl laws nxt wr num text md deep lines opd t sg lg cl cs cf op).2.1 (fX11_law tl laws nxt wr num text md deep lines opd t sg lg cl cs cf op).1 t := by
  have hh := h
  obtain ⟨h0, h1, H⟩ := hh
  by_cases g : laws = 6
  · have g6 : 6 ≤ gI im 0 := by rw [← h0, g]; decide
    have e : fX11_law tl laws nxt wr num text md deep lines opd t sg lg cl cs cf op = (tl, laws, nxt, wr, num, text, md, deep, lines, opd, sg, lg, cl, cs, cf, op, -1) := by
      unfold fX11_law
      rw [if_pos g]
    rw [e]
    unfold la_r la_im
    rw [if_pos g6, if_pos g6]
    exact ⟨rfl, h⟩
  · have g6 : ¬ 6 ≤ gI im 0 := by rw [← h0]; grind
    obtain ⟨y1, y2⟩ := rd_Y (x := tp (gI im)) (t0 := fun _ => 0) (q0 := fun _ => 0) (s1 := fun _ => 0) (s2 := fun _ => 0) (s3 := fun _ => 0) (s4 := fun _ => 0) (s5 := fun _ => 0) (yj := fun _ => 0) (yo := fun _ => 0) (y1 := fun _ => 0) (y2 := fun _ => 0) (y3 := fun _ => 0) (y4 := fun _ => 0) (y5 := fun _ => 0) H.1 H.2.1
    have hr := r_law (laws := laws) (nxt := nxt) (wr := wr) (num := num) (text := text) (md := md) (deep := deep) (lines := lines) (opd := opd) (sg := sg) (lg := lg) (cl := cl) (cs := cs) (cf := cf) (op := op) H g y2
    generalize fX11_law tl laws nxt wr num text md deep lines opd t sg lg cl cs cf op = u at hr ⊢
    unfold la_r la_im lwY
    rw [if_neg g6, if_neg g6, ← h1]
    generalize hz : srt (tk (tp (gI im)) tl) (nx (tp (gI im)) tl) (sp (tp (gI im)) tl 0) = r at hr y2 ⊢
    have LX0 : LXH (tp (gI im)) t 0 := ⟨by decide, by decide, fun i i0 iT => absurd (i_le_of i0) iT⟩
    cases r with
    | error e =>
      obtain ⟨⟨r1, r2, r3⟩, _⟩ := hr
      have e0 : ¬ e = 0 := by have := y2 e rfl; grind
      simp only [if_neg e0]
      refine ⟨r3, ?_⟩
      rw [r1, r2]
      exact MG_up h0 rfl LX0
    | ok l =>
      obtain ⟨⟨r1, r2, r3⟩, _⟩ := hr
      simp only [if_true]
      refine ⟨by rw [r3, h0], ?_⟩
      rw [r1, r2]
      exact MG_up (by rw [h0]) rfl LX0
theorem la_m2 {im : Nat → Option (Nat → Int32)} {laws tl nxt wr num text md deep lines opd a1 a2 a3 a4 a5 a6 a7 a8 a9 a10 r : Int32} {t sg lg cl cs cf op b1 b2 b3 b4 b5 b6 : Nat → Int32} (h : MG im laws tl t) (h6 : ¬ 6 < laws) (e : (a1, a2, a3, a4, a5, a6, a7, a8, a9, a10, b1, b2, b3, b4, b5, b6, r) = fX11_law tl laws nxt wr num text md deep lines opd t sg lg cl cs cf op) : r = la_r im ∧ MG (la_im im) a2 a1 t := by
  have q := la_m (nxt := nxt) (wr := wr) (num := num) (text := text) (md := md) (deep := deep) (lines := lines) (opd := opd) (sg := sg) (lg := lg) (cl := cl) (cs := cs) (cf := cf) (op := op) h h6
  rw [← e] at q
  exact q
