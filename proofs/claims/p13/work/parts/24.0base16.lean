def IFN (r : Int32) (P : Prop) : Prop := ¬ r = 0 → P
theorem IFN_0 {P : Prop} : IFN 0 P := fun q => absurd rfl q
theorem IFN_1 {r : Int32} {P : Prop} (h : P) : IFN r P := fun _ => h
/-- a letter, a digit of the tape -/
def isl (f : Nat → Int32) (t k : Int32) : Int32 := if t ≤ k then 0 else if f k.toNatClampNeg < 97 then 0 else if 122 < f k.toNatClampNeg then 0 else 1
def isd (f : Nat → Int32) (t k : Int32) : Int32 := if t ≤ k then 0 else if f k.toNatClampNeg < 48 then 0 else if 57 < f k.toNatClampNeg then 0 else 1
theorem isl_ne {f : Nat → Int32} {t k : Int32} (h : ¬ isl f t k = 0) : (¬ t ≤ k) ∧ ¬ f k.toNatClampNeg < 97 := by
  unfold isl at h
  by_cases a : t ≤ k
  · rw [if_pos a] at h; exact absurd rfl h
  · rw [if_neg a] at h
    by_cases b : f k.toNatClampNeg < 97
    · rw [if_pos b] at h; exact absurd rfl h
    · exact ⟨a, b⟩
theorem isd_ne {f : Nat → Int32} {t k : Int32} (h : ¬ isd f t k = 0) : (¬ t ≤ k) ∧ ¬ f k.toNatClampNeg < 48 := by
  unfold isd at h
  by_cases a : t ≤ k
  · rw [if_pos a] at h; exact absurd rfl h
  · rw [if_neg a] at h
    by_cases b : f k.toNatClampNeg < 48
    · rw [if_pos b] at h; exact absurd rfl h
    · exact ⟨a, b⟩
theorem isl_0 {f : Nat → Int32} {t k n : Int32} (hn : n = 0) (h : ¬ isl f t (k + n) = 0) : ¬ isl f t k = 0 := by
  rw [hn, Int32.add_zero] at h; exact h
theorem zm_up {T a b : Int32} {n : Nat} (hn : (T.toInt - a.toInt).toNat < n + 1) (h : a < b ∧ ¬ T < b) : (T.toInt - b.toInt).toNat < n := by
  have g := Int32.lt_iff_toInt_lt.mp h.1
  have g1 := mt Int32.lt_iff_toInt_lt.mpr h.2
  omega
theorem zm_upm {T a b m0 m : Int32} {n : Nat} (hn : 2 * (T.toInt - a.toInt).toNat + mb m0 < n + 1) (h0 : ¬ m0 = 0) (h : (m = 0 ∨ a < b) ∧ (¬ b < a) ∧ ¬ T < b) : 2 * (T.toInt - b.toInt).toNat + mb m < n := by
  have e0 : mb m0 = 1 := if_neg h0
  have g1 := mt Int32.lt_iff_toInt_lt.mpr h.2.1
  have g2 := mt Int32.lt_iff_toInt_lt.mpr h.2.2
  rcases h.1 with q | q
  · have e1 : mb m = 0 := if_pos q
    omega
  · have e1 : mb m ≤ 1 := by unfold mb; split <;> decide
    have g := Int32.lt_iff_toInt_lt.mp q
    omega
/-- what puts writes -/
def PT (f lf f2 lf2 : Nat → Int32) (t s v : Int32) : Prop := f2 = upd f (400 * t + lf t.toNatClampNeg).toNatClampNeg (s + 16 * v) ∧ lf2 = upd lf t.toNatClampNeg (lf t.toNatClampNeg + 1)
/-- code that is being written -/
def KI (f0 f lf : Nat → Int32) (t b : Int32) (d : Nat) (made : Int32) : Prop :=
  ((¬ t < 0) ∧ ¬ 6 ≤ t) ∧ ((¬ b < 0) ∧ (¬ lf t.toNatClampNeg < b) ∧ ¬ 400 < lf t.toNatClampNeg) ∧ (∀ j : Nat, j < 400 * t.toNatClampNeg + b.toNatClampNeg → f j = f0 j) ∧
  Snd f (400 * t.toNatClampNeg + b.toNatClampNeg) ((lf t.toNatClampNeg).toNatClampNeg - b.toNatClampNeg) ∧ dpt f (400 * t.toNatClampNeg + b.toNatClampNeg) ((lf t.toNatClampNeg).toNatClampNeg - b.toNatClampNeg) = d ∧
  (vls f (400 * t.toNatClampNeg + b.toNatClampNeg) ((lf t.toNatClampNeg).toNatClampNeg - b.toNatClampNeg) : Int) ≤ made.toInt
theorem KI_start {f lf : Nat → Int32} {t made : Int32} (ht : (¬ t < 0) ∧ ¬ 6 ≤ t) (hl : (¬ lf t.toNatClampNeg < 0) ∧ ¬ 400 < lf t.toNatClampNeg) (hm : ¬ made < 0) : KI f f lf t (lf t.toNatClampNeg) 0 made := by
  refine ⟨ht, ⟨hl.1, by grind, hl.2⟩, fun _ _ => rfl, fun k hk => by omega, ?_, ?_⟩
  · rw [Nat.sub_self]; rfl
  · rw [Nat.sub_self]
    have g := mt Int32.lt_iff_toInt_lt.mpr hm
    rw [z_i0] at g
    show ((0 : Nat) : Int) ≤ _
    omega
theorem KI.made {f0 f lf : Nat → Int32} {t b m m2 : Int32} {d : Nat} (h : KI f0 f lf t b d m) (hm : ¬ m2 < m) : KI f0 f lf t b d m2 := by
  obtain ⟨a1, a2, a3, a4, a5, a6⟩ := h
  have g := mt Int32.lt_iff_toInt_lt.mpr hm
  exact ⟨a1, a2, a3, a4, a5, by omega⟩
theorem dpt_congr {f g : Nat → Int32} {b : Nat} : ∀ n : Nat, (∀ k : Nat, k < n → g (b + k) = f (b + k)) → dpt g b n = dpt f b n
  | 0, _ => rfl
  | n + 1, h => by
    show cs_d (g (b + n)) (dpt g b n) = cs_d (f (b + n)) (dpt f b n)
    rw [dpt_congr n (fun k hk => h k (by omega)), h n (by omega)]
theorem vls_congr {f g : Nat → Int32} {b : Nat} : ∀ n : Nat, (∀ k : Nat, k < n → g (b + k) = f (b + k)) → vls g b n = vls f b n
  | 0, _ => rfl
  | n + 1, h => by
    show cs_v (g (b + n)) (vls g b n) = cs_v (f (b + n)) (vls f b n)
    rw [vls_congr n (fun k hk => h k (by omega)), h n (by omega)]
theorem Snd_congr {f g : Nat → Int32} {b n : Nat} (hs : Snd f b n) (h : ∀ k : Nat, k < n → g (b + k) = f (b + k)) : Snd g b n := fun k hk => by
  rw [h k hk, dpt_congr k (fun j hj => h j (by omega))]; exact hs k hk
/-- one sign more -/
theorem KI_put {f0 f lf f2 lf2 : Nat → Int32} {t b made m2 s v : Int32} {d : Nat} (h : KI f0 f lf t b d made) (hp : PT f lf f2 lf2 t s v) (hl : lf t.toNatClampNeg < 400) (hok : cs_ok (s + 16 * v) d) (hm : ¬ m2 < made) (hv : ∀ u : Nat, (u : Int) ≤ made.toInt → (cs_v (s + 16 * v) u : Int) ≤ m2.toInt) :
    KI f0 f2 lf2 t b (cs_d (s + 16 * v) d) m2 := by
  obtain ⟨⟨t0, t1⟩, ⟨b0, b1, b2⟩, a3, a4, a5, a6⟩ := h
  obtain ⟨p1, p2⟩ := hp
  have l0 : ¬ lf t.toNatClampNeg < 0 := by grind
  have cb := zc_eq b0
  have cL := zc_eq l0
  have gb := mt Int32.lt_iff_toInt_lt.mpr b1
  rw [c_400 t0 t1 l0 b2] at p1
  have e2 : lf2 t.toNatClampNeg = lf t.toNatClampNeg + 1 := by rw [p2]; exact pk_us
  have e3 : (lf2 t.toNatClampNeg).toNatClampNeg = (lf t.toNatClampNeg).toNatClampNeg + 1 := by rw [e2]; exact c_inc l0 b2
  have n1 : ((lf t.toNatClampNeg).toNatClampNeg + 1) - b.toNatClampNeg = ((lf t.toNatClampNeg).toNatClampNeg - b.toNatClampNeg) + 1 := by omega
  have same : ∀ k : Nat, k < (lf t.toNatClampNeg).toNatClampNeg - b.toNatClampNeg → f2 (400 * t.toNatClampNeg + b.toNatClampNeg + k) = f (400 * t.toNatClampNeg + b.toNatClampNeg + k) := fun k hk => by
    rw [p1, upd_ne (by omega)]
  have here : f2 (400 * t.toNatClampNeg + b.toNatClampNeg + ((lf t.toNatClampNeg).toNatClampNeg - b.toNatClampNeg)) = s + 16 * v := by
    rw [p1, show 400 * t.toNatClampNeg + b.toNatClampNeg + ((lf t.toNatClampNeg).toNatClampNeg - b.toNatClampNeg) = 400 * t.toNatClampNeg + (lf t.toNatClampNeg).toNatClampNeg from by omega]
    exact pk_us
  have dd := dpt_congr (f := f) (g := f2) (b := 400 * t.toNatClampNeg + b.toNatClampNeg) _ same
  have vv := vls_congr (f := f) (g := f2) (b := 400 * t.toNatClampNeg + b.toNatClampNeg) _ same
  refine ⟨⟨t0, t1⟩, ⟨b0, by rw [e2]; grind, by rw [e2]; grind⟩, fun j hj => by rw [p1, upd_ne (by omega)]; exact a3 j hj, ?_, ?_, ?_⟩
  · rw [e3, n1]
    intro k hk
    by_cases q : k = (lf t.toNatClampNeg).toNatClampNeg - b.toNatClampNeg
    · rw [q, here, dd, a5]; exact hok
    · exact Snd_congr a4 same k (by omega)
  · rw [e3, n1]
    show cs_d (f2 _) (dpt f2 _ _) = _
    rw [here, dd, a5]
  · rw [e3, n1]
    show ((cs_v (f2 _) (vls f2 _ _) : Nat) : Int) ≤ _
    rw [here, vv]
    exact hv _ a6
theorem sg_and {s v : Int32} (hs : s.toBitVec.toNat < 16) : (s + 16 * v) &&& 15 = s := by
  apply Int32.toBitVec_inj.mp
  apply BitVec.eq_of_toNat_eq
  have e : ((s + 16 * v) &&& 15).toBitVec = (s.toBitVec + 16#32 * v.toBitVec) &&& 15#32 := rfl
  rw [e, BitVec.toNat_and, BitVec.toNat_add, BitVec.toNat_mul]
  have e15 : (15#32).toNat = 2 ^ 4 - 1 := rfl
  have e16 : (16#32).toNat = 16 := rfl
  rw [e15, Nat.and_two_pow_sub_one_eq_mod, e16]
  omega
theorem KI_num {f0 f lf f2 lf2 : Nat → Int32} {t b made m2 v : Int32} {d : Nat} (h : KI f0 f lf t b d made) (hp : PT f lf f2 lf2 t 0 v) (hl : lf t.toNatClampNeg < 400) (hm : m2 = made + 1 ∧ (¬ made < 0) ∧ ¬ 60 < made) : KI f0 f2 lf2 t b (d + 1) m2 := by
  have e : (0 + 16 * v) &&& 15 = 0 := sg_and (by decide)
  have g0 : ¬ m2 < made := by grind
  have g1 : made < m2 := by grind
  have g2 := Int32.lt_iff_toInt_lt.mp g1
  have r := KI_put h hp hl (Or.inl e) g0 (fun u hu => by unfold cs_v; rw [if_pos e]; omega)
  unfold cs_d at r
  rw [if_pos e] at r
  exact r
theorem wd_at {v : Int32} (h : (¬ v < 0) ∧ ¬ 10 < v) : (¬ ((1 + 16 * v) >>> (4 &&& 31) : Int32) < 0) ∧ ¬ (11 : Int32) ≤ ((1 + 16 * v) >>> (4 &&& 31) : Int32) := by
  obtain ⟨j, hj, e⟩ := nI_of2 (x := v) (M := 10) (n := 10) (by decide) h.1 (Int32.not_lt.mp h.2)
  rw [e]
  exact co_dec (N := 11) (P := fun j => (¬ ((1 + 16 * nI j) >>> (4 &&& 31) : Int32) < 0) ∧ ¬ (11 : Int32) ≤ ((1 + 16 * nI j) >>> (4 &&& 31) : Int32)) (by decide +kernel) (by omega)
theorem KI_wrd {f0 f lf f2 lf2 : Nat → Int32} {t b made m2 v : Int32} {d : Nat} (h : KI f0 f lf t b d made) (hp : PT f lf f2 lf2 t 1 v) (hl : lf t.toNatClampNeg < 400) (hv : (¬ v < 0) ∧ ¬ 10 < v) (hm : m2 = made + 1 ∧ (¬ made < 0) ∧ ¬ 60 < made) : KI f0 f2 lf2 t b (d + 1) m2 := by
  have e : (1 + 16 * v) &&& 15 = 1 := sg_and (by decide)
  have ne0 : ¬ (1 + 16 * v) &&& 15 = 0 := by rw [e]; decide
  have g0 : ¬ m2 < made := by grind
  have g1 : made < m2 := by grind
  have g2 := Int32.lt_iff_toInt_lt.mp g1
  have r := KI_put h hp hl (Or.inr (Or.inl ⟨e, wd_at hv⟩)) g0 (fun u hu => by unfold cs_v; rw [if_neg ne0, if_pos e]; omega)
  unfold cs_d at r
  rw [if_neg ne0, if_pos e] at r
  exact r
theorem KI_bin {f0 f lf f2 lf2 : Nat → Int32} {t b made s : Int32} {d : Nat} (h : KI f0 f lf t b (d + 1 + 1) made) (hp : PT f lf f2 lf2 t s 0) (hl : lf t.toNatClampNeg < 400) (hs : s.toBitVec.toNat < 16 ∧ (¬ s = 0) ∧ (¬ s = 1) ∧ ¬ s = 11) : KI f0 f2 lf2 t b (d + 1) made := by
  have e : (s + 16 * 0) &&& 15 = s := sg_and hs.1
  have n0 : ¬ (s + 16 * 0) &&& 15 = 0 := by rw [e]; exact hs.2.1
  have n1 : ¬ (s + 16 * 0) &&& 15 = 1 := by rw [e]; exact hs.2.2.1
  have n2 : ¬ (s + 16 * 0) &&& 15 = 11 := by rw [e]; exact hs.2.2.2
  have r := KI_put h hp hl (Or.inr (Or.inr (Or.inr ⟨n0, n1, n2, by omega⟩))) (m2 := made) (by grind) (fun u hu => by unfold cs_v; rw [if_neg n0, if_neg n1]; exact hu)
  unfold cs_d at r
  rw [if_neg n0, if_neg n1, if_neg n2] at r
  exact r
theorem KI_not {f0 f lf f2 lf2 : Nat → Int32} {t b made : Int32} {d : Nat} (h : KI f0 f lf t b (d + 1) made) (hp : PT f lf f2 lf2 t 11 0) (hl : lf t.toNatClampNeg < 400) : KI f0 f2 lf2 t b (d + 1) made := by
  have e : ((11 : Int32) + 16 * 0) &&& 15 = 11 := sg_and (by decide)
  have n0 : ¬ ((11 : Int32) + 16 * 0) &&& 15 = 0 := by rw [e]; decide
  have n1 : ¬ ((11 : Int32) + 16 * 0) &&& 15 = 1 := by rw [e]; decide
  have r := KI_put h hp hl (Or.inr (Or.inr (Or.inl ⟨e, by omega⟩))) (m2 := made) (by grind) (fun u hu => by unfold cs_v; rw [if_neg n0, if_neg n1]; exact hu)
  unfold cs_d at r
  rw [if_neg n0, if_neg n1, if_pos e] at r
  exact r
/-- how strong a sign on the open row is -/
def stg (s : Int32) : Int32 := if s = 13 then 1 else if s = 12 then 2 else if s = 11 then 3 else 0
theorem stg_ge {s least : Int32} (h : ¬ stg s < least) (hl : ¬ least < 1) : s = 11 ∨ s = 12 ∨ s = 13 := by
  unfold stg at h
  by_cases a : s = 13
  · exact Or.inr (Or.inr a)
  · by_cases b : s = 12
    · exact Or.inr (Or.inl b)
    · by_cases c : s = 11
      · exact Or.inl c
      · rw [if_neg a, if_neg b, if_neg c] at h; grind
def ao (s : Int32) : Nat := if s = 12 then 1 else if s = 13 then 1 else 0
/-- how many 'and' and 'or' lie open -/
def ca (f : Nat → Int32) (n : Int32) : Nat := ss ao f n.toNatClampNeg
/-- what lies open -/
def OI (f : Nat → Int32) (n : Int32) : Prop := ∀ k : Nat, (k : Int) < n.toInt → f k = 11 ∨ f k = 12 ∨ f k = 13 ∨ f k = 91
def OP (f g : Nat → Int32) (n m s : Int32) : Prop := g = upd f n.toNatClampNeg s ∧ m = n + 1
theorem ca_0 (f : Nat → Int32) : ca f 0 = 0 := rfl
theorem OI_0 (f : Nat → Int32) : OI f 0 := fun k hk => by rw [z_i0] at hk; omega
theorem ca_push {f g : Nat → Int32} {n m s : Int32} (h : OP f g n m s) (n0 : ¬ n < 0) (n4 : ¬ 400 < n) : ca g m = ca f n + ao s := by
  obtain ⟨e1, e2⟩ := h
  unfold ca
  rw [e2, c_inc n0 n4, e1]
  show ss ao (upd f n.toNatClampNeg s) n.toNatClampNeg + ao (upd f n.toNatClampNeg s n.toNatClampNeg) = _
  rw [ss_same _ (Nat.le_refl _), pk_us]
theorem OI_push {f g : Nat → Int32} {n m s : Int32} (h : OP f g n m s) (hi : OI f n) (n0 : ¬ n < 0) (n4 : ¬ 400 < n) (hs : s = 11 ∨ s = 12 ∨ s = 13 ∨ s = 91) : OI g m := fun k hk => by
  obtain ⟨e1, e2⟩ := h
  have c := zc_eq n0
  have g4 := mt Int32.lt_iff_toInt_lt.mpr n4
  rw [show (400 : Int32).toInt = 400 from by decide] at g4
  rw [e2, zadd1 (by omega)] at hk
  rw [e1]
  by_cases q : n.toNatClampNeg = k
  · rw [← q, pk_us]; exact hs
  · rw [upd_ne q]; exact hi k (by omega)
theorem ca_pop {f : Nat → Int32} {n m x : Int32} (n1 : ¬ n < 1) (em : m = n - 1) (ex : x = f m.toNatClampNeg) : ca f n = ca f m + ao x := by
  have g := mt Int32.lt_iff_toInt_lt.mpr n1
  have b1 : (1 : Int32).toInt = 1 := by decide
  rw [b1] at g
  have z := z32 n
  have m1 : m.toInt = n.toInt - 1 := by rw [em, zsub (by rw [b1]; omega) (by rw [b1]; omega), b1]
  have e : n.toNatClampNeg = m.toNatClampNeg + 1 := by
    show n.toInt.toNat = m.toInt.toNat + 1
    omega
  unfold ca
  rw [e, ex]
  rfl
theorem OI_pop {f : Nat → Int32} {n m : Int32} (h : OI f n) (hm : ¬ n < m) : OI f m := fun k hk => h k (by
  have g := mt Int32.lt_iff_toInt_lt.mpr hm
  omega)
theorem OI_at {f : Nat → Int32} {n m x : Int32} (h : OI f n) (hm : m < n) (m0 : ¬ m < 0) (ex : x = f m.toNatClampNeg) : x = 11 ∨ x = 12 ∨ x = 13 ∨ x = 91 := by
  rw [ex]
  have g := Int32.lt_iff_toInt_lt.mp hm
  have c := zc_eq m0
  exact h _ (by omega)
/-- no bracket is passed -/
def BK (f : Nat → Int32) (n m : Int32) : Prop := ∀ k : Nat, (k : Int) < n.toInt → f k = 91 → (k : Int) < m.toInt
theorem BK_rf (f : Nat → Int32) (n : Int32) : BK f n n := fun _ h _ => h
theorem BK_s {f : Nat → Int32} {n m m2 x : Int32} (h : BK f n m) (m1 : ¬ m < 1) (em : m2 = m - 1) (ex : x = f m2.toNatClampNeg) (hx : ¬ x = 91) : BK f n m2 := fun k hk h9 => by
  have g := mt Int32.lt_iff_toInt_lt.mpr m1
  have b1 : (1 : Int32).toInt = 1 := by decide
  rw [b1] at g
  have z := z32 m
  have e1 : m2.toInt = m.toInt - 1 := by rw [em, zsub (by rw [b1]; omega) (by rw [b1]; omega), b1]
  have a := h k hk h9
  by_cases q : k = m2.toNatClampNeg
  · rw [q, ← ex] at h9; exact absurd h9 hx
  · have c : (m2.toNatClampNeg : Int) = m2.toInt := by
      show ((m2.toInt.toNat : Nat) : Int) = m2.toInt
      omega
    omega
def NB (f : Nat → Int32) (n : Int32) : Prop := ∀ k : Nat, (k : Int) < n.toInt → ¬ f k = 91
theorem NB_0 (f : Nat → Int32) : NB f 0 := fun k hk => by rw [z_i0] at hk; omega
theorem NB_s {f : Nat → Int32} {n m x : Int32} (h : NB f n) (n0 : ¬ n < 0) (n4 : ¬ 400 ≤ n) (ex : x = f n.toNatClampNeg) (hx : ¬ x = 91) (em : m = n + 1) : NB f m := fun k hk => by
  have c := zc_eq n0
  have g4 := mt Int32.le_iff_toInt_le.mpr n4
  rw [show (400 : Int32).toInt = 400 from by decide] at g4
  rw [em, zadd1 (by omega)] at hk
  by_cases q : k = n.toNatClampNeg
  · rw [q, ← ex]; exact hx
  · exact h k (by omega)
theorem NB_le {f : Nat → Int32} {n m : Int32} (h : NB f n) (hm : m ≤ n) : NB f m := fun k hk => h k (by
  have g := Int32.le_iff_toInt_le.mp hm
  omega)
/-- is a bracket open -/
def IN (f : Nat → Int32) (n r : Int32) : Prop := (r = 0 ∧ NB f n) ∨ ((¬ r = 0) ∧ ∃ k : Nat, (k : Int) < n.toInt ∧ f k = 91)
theorem IN_1 {f : Nat → Int32} {n k x : Int32} (k0 : ¬ k < 0) (hk : ¬ n ≤ k) (ex : x = f k.toNatClampNeg) (hx : x = 91) : IN f n 1 := by
  refine Or.inr ⟨by decide, k.toNatClampNeg, ?_, by rw [← ex]; exact hx⟩
  have c := zc_eq k0
  have g := mt Int32.le_iff_toInt_le.mpr hk
  omega
theorem IN_0 {f : Nat → Int32} {n k : Int32} (h : NB f k) (hk : n ≤ k) : IN f n 0 := Or.inl ⟨rfl, NB_le h hk⟩
theorem IN_bk {f : Nat → Int32} {n m r : Int32} (h : IN f n r) (hr : ¬ r = 0) (b : BK f n m) : ¬ m < 1 := by
  rcases h with h | h
  · exact absurd h.1 hr
  · obtain ⟨k, h1, h2⟩ := h.2
    have := b k h1 h2
    rw [Int32.lt_iff_toInt_lt, show (1 : Int32).toInt = 1 from by decide]
    omega
theorem IN_no {f : Nat → Int32} {n r : Int32} (h : IN f n r) (hr : r = 0) : NB f n := by
  rcases h with h | h
  · exact h.2
  · exact absurd hr h.1
/-- nothing but brackets is so weak -/
theorem top91 {f : Nat → Int32} {n m x : Int32} (hi : OI f n) (n1 : ¬ n < 1) (em : m = n - 1) (ex : x = f m.toNatClampNeg) (hw : stg x < 1) : x = 91 := by
  have m1 : m < n ∧ ¬ m < 0 := by grind
  rcases OI_at hi m1.1 m1.2 ex with q | q | q | q
  · rw [q] at hw; exact absurd hw (by decide)
  · rw [q] at hw; exact absurd hw (by decide)
  · rw [q] at hw; exact absurd hw (by decide)
  · exact q
/-- the end of a row of weak signs -/
def WK (f : Nat → Int32) (n least : Int32) : Prop := n = 0 ∨ stg (f (n - 1).toNatClampNeg) < least
