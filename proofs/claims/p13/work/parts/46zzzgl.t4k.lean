/-- the class's tables, as said[] spells them -/
def jcl (c : Nat) : Nat := if c < 5 then c + 4 else c - 5
def NE (F S : Nat → Int32) : Prop := ∀ i : Nat, i < 48 → F i = S (20 + i)
def JE (F S : Nat → Int32) : Prop := ∀ j c : Nat, j < 16 → c < 9 → F (9 * j + c) = S (168 + 9 * j + jcl c)
set_option maxHeartbeats 400000 in
theorem NE_u {F S : Nat → Int32} {a : Nat} {v : Int32} (h : NE F S) : NE (upd F a v) (upd S (20 + a) v) := by
  intro i hi
  by_cases q : a = i
  · subst q; rw [pk_us, pk_us]
  · rw [upd_ne q, upd_ne (by omega)]; exact h i hi
set_option maxHeartbeats 400000 in
theorem NE_o {F S : Nat → Int32} {b : Nat} {v : Int32} (h : NE F S) (hb : b < 20 ∨ 68 ≤ b) : NE F (upd S b v) := fun i hi => (h i hi).trans (upd_ne (by omega)).symm
set_option maxHeartbeats 400000 in
theorem PE_o {F S : Nat → Int32} {b : Nat} {v : Int32} (h : PE F S) (hb : b < 68 ∨ 168 ≤ b) : PE F (upd S b v) := fun i hi => (h i hi).trans (upd_ne (by omega)).symm
set_option maxHeartbeats 400000 in
theorem jcl_inj {c d : Nat} (hc : c < 9) (hd : d < 9) (h : jcl c = jcl d) : c = d := by
  unfold jcl at h
  split at h <;> split at h <;> omega
set_option maxHeartbeats 400000 in
theorem jcl_lt {c : Nat} (hc : c < 9) : jcl c < 9 := by unfold jcl; split <;> omega
set_option maxHeartbeats 400000 in
theorem JE_u {F S : Nat → Int32} {j c : Nat} {v : Int32} (h : JE F S) (hj : j < 16) (hc : c < 9) : JE (upd F (9 * j + c) v) (upd S (168 + 9 * j + jcl c) v) := by
  intro i d hi hd
  have lc := jcl_lt hc
  have ld := jcl_lt hd
  by_cases q : 9 * j + c = 9 * i + d
  · have e1 : j = i := by omega
    have e2 : c = d := by omega
    subst e1; subst e2
    rw [pk_us, pk_us]
  · have q2 : 168 + 9 * j + jcl c ≠ 168 + 9 * i + jcl d := by
      intro z
      have e1 : j = i := by omega
      subst e1
      exact q (by rw [jcl_inj hc hd (by omega)])
    rw [upd_ne q, upd_ne q2]
    exact h i d hi hd
set_option maxHeartbeats 400000 in
theorem JE_o {F S : Nat → Int32} {b : Nat} {v : Int32} (h : JE F S) (hb : b < 168 ∨ 312 ≤ b) : JE F (upd S b v) := fun j c hj hc => (h j c hj hc).trans (upd_ne (by have := jcl_lt hc; omega)).symm
set_option maxHeartbeats 400000 in
theorem tab_g {z q w : Int32} {W R : Int} (hw : w.toInt = W) (hW : 0 < W ∧ W ≤ 9) (hR : R ≤ 20) (h0 : 0 ≤ z.toInt) (h1 : z.toInt < R) (q0 : 0 ≤ q.toInt) (q1 : q.toInt < W) : (z * w + q).toInt = z.toInt * W + q.toInt := by
  have b1 : z.toInt * W ≤ 20 * 9 := Int.mul_le_mul (by omega) hW.2 (by omega) (by omega)
  have b0 : 0 ≤ z.toInt * W := Int.mul_nonneg h0 (by omega)
  have e1 : (z * w).toInt = z.toInt * W := by rw [zmul (by rw [hw]; omega) (by rw [hw]; omega), hw]
  rw [zadd (by rw [e1]; omega) (by rw [e1]; omega), e1]
set_option maxHeartbeats 400000 in
theorem get_4 {F : Nat → Int32} {z q : Int32} (h0 : 0 ≤ z.toInt) (h1 : z.toInt < 12) (q0 : 0 ≤ q.toInt) (q1 : q.toInt < 4) : fX6_get_48 4 F z q = F (4 * z.toNatClampNeg + q.toNatClampNeg) := by
  have e := tab_g (w := 4) (W := 4) (R := 12) (by decide) (by decide) (by decide) h0 h1 q0 q1
  have n1 := tn_eq h0
  have n2 := tn_eq q0
  unfold fX6_get_48
  simp only [bnd]
  rw [if_neg (by rw [Int32.lt_iff_toInt_lt, e, z_i0]; omega), if_neg (by rw [Int32.le_iff_toInt_le, e, show (48 : Int32).toInt = 48 from by decide]; omega)]
  exact congrArg F (by show (z * 4 + q).toInt.toNat = _; rw [e]; omega)
set_option maxHeartbeats 400000 in
theorem put_4 {F : Nat → Int32} {z q v : Int32} (h0 : 0 ≤ z.toInt) (h1 : z.toInt < 12) (q0 : 0 ≤ q.toInt) (q1 : q.toInt < 4) : fX6_put_48 4 F z q v = upd F (4 * z.toNatClampNeg + q.toNatClampNeg) v := by
  have e := tab_g (w := 4) (W := 4) (R := 12) (by decide) (by decide) (by decide) h0 h1 q0 q1
  have n1 := tn_eq h0
  have n2 := tn_eq q0
  unfold fX6_put_48
  simp only [bnd]
  rw [if_neg (by rw [Int32.lt_iff_toInt_lt, e, z_i0]; omega), if_neg (by rw [Int32.le_iff_toInt_le, e, show (48 : Int32).toInt = 48 from by decide]; omega)]
  exact congrArg (fun k => upd F k v) (by show (z * 4 + q).toInt.toNat = _; rw [e]; omega)
set_option maxHeartbeats 400000 in
theorem get_9 {F : Nat → Int32} {z q : Int32} (h0 : 0 ≤ z.toInt) (h1 : z.toInt < 16) (q0 : 0 ≤ q.toInt) (q1 : q.toInt < 9) : fX6_get_144 9 F z q = F (9 * z.toNatClampNeg + q.toNatClampNeg) := by
  have e := tab_g (w := 9) (W := 9) (R := 16) (by decide) (by decide) (by decide) h0 h1 q0 q1
  have n1 := tn_eq h0
  have n2 := tn_eq q0
  unfold fX6_get_144
  simp only [bnd]
  rw [if_neg (by rw [Int32.lt_iff_toInt_lt, e, z_i0]; omega), if_neg (by rw [Int32.le_iff_toInt_le, e, show (144 : Int32).toInt = 144 from by decide]; omega)]
  exact congrArg F (by show (z * 9 + q).toInt.toNat = _; rw [e]; omega)
set_option maxHeartbeats 400000 in
theorem put_9 {F : Nat → Int32} {z q v : Int32} (h0 : 0 ≤ z.toInt) (h1 : z.toInt < 16) (q0 : 0 ≤ q.toInt) (q1 : q.toInt < 9) : fX6_put_144 9 F z q v = upd F (9 * z.toNatClampNeg + q.toNatClampNeg) v := by
  have e := tab_g (w := 9) (W := 9) (R := 16) (by decide) (by decide) (by decide) h0 h1 q0 q1
  have n1 := tn_eq h0
  have n2 := tn_eq q0
  unfold fX6_put_144
  simp only [bnd]
  rw [if_neg (by rw [Int32.lt_iff_toInt_lt, e, z_i0]; omega), if_neg (by rw [Int32.le_iff_toInt_le, e, show (144 : Int32).toInt = 144 from by decide]; omega)]
  exact congrArg (fun k => upd F k v) (by show (z * 9 + q).toInt.toNat = _; rw [e]; omega)
/-- a node's, a jar's column, read and written -/
def rN (z : Int32) : Prop := 0 ≤ z.toInt ∧ z.toInt < 12
def rJ (z : Int32) : Prop := 0 ≤ z.toInt ∧ z.toInt < 16
set_option maxHeartbeats 400000 in
theorem nget {F S : Nat → Int32} {z q : Int32} {c : Nat} (h : NE F S) (hz : rN z) (hq : q.toInt = (c : Int)) (hc : c < 4) : fX6_get_48 4 F z q = S (20 + 4 * z.toNatClampNeg + c) := by
  have n1 := tn_eq hz.1
  have n2 : q.toNatClampNeg = c := by show q.toInt.toNat = c; omega
  rw [get_4 hz.1 hz.2 (by omega) (by omega), n2, h _ (by have := hz.2; omega), Nat.add_assoc]
set_option maxHeartbeats 400000 in
theorem nput {F S : Nat → Int32} {z q v : Int32} {c : Nat} (h : NE F S) (hz : rN z) (hq : q.toInt = (c : Int)) (hc : c < 4) : NE (fX6_put_48 4 F z q v) (upd S (20 + 4 * z.toNatClampNeg + c) v) := by
  have n2 : q.toNatClampNeg = c := by show q.toInt.toNat = c; omega
  rw [put_4 hz.1 hz.2 (by omega) (by omega), n2, Nat.add_assoc]
  exact NE_u h
set_option maxHeartbeats 400000 in
theorem jget {F S : Nat → Int32} {z q : Int32} {c : Nat} (h : JE F S) (hz : rJ z) (hq : q.toInt = (c : Int)) (hc : c < 9) : fX6_get_144 9 F z q = S (168 + 9 * z.toNatClampNeg + jcl c) := by
  have n1 := tn_eq hz.1
  have n2 : q.toNatClampNeg = c := by show q.toInt.toNat = c; omega
  rw [get_9 hz.1 hz.2 (by omega) (by omega), n2]
  exact h _ _ (by have := hz.2; omega) hc
set_option maxHeartbeats 400000 in
theorem jput {F S : Nat → Int32} {z q v : Int32} {c : Nat} (h : JE F S) (hz : rJ z) (hq : q.toInt = (c : Int)) (hc : c < 9) : JE (fX6_put_144 9 F z q v) (upd S (168 + 9 * z.toNatClampNeg + jcl c) v) := by
  have n1 := tn_eq hz.1
  have n2 : q.toNatClampNeg = c := by show q.toInt.toNat = c; omega
  rw [put_9 hz.1 hz.2 (by omega) (by omega), n2]
  exact JE_u h (by have := hz.2; omega) hc
set_option maxHeartbeats 400000 in
theorem pget {F S : Nat → Int32} {z q : Int32} {c : Nat} (h : PE F S) (h0 : 0 ≤ z.toInt) (h1 : z.toInt < 20) (hq : q.toInt = (c : Int)) (hc : c < 5) : fX6_get_100 5 F z q = S (68 + 5 * z.toNatClampNeg + c) := by
  have n2 : q.toNatClampNeg = c := by show q.toInt.toNat = c; omega
  rw [get_5 h (z_nlt0 h0) (by rw [Int32.le_iff_toInt_le, show (20 : Int32).toInt = 20 from by decide]; omega) (z_nlt0 (by omega)) (by rw [Int32.lt_iff_toInt_lt, show (4 : Int32).toInt = 4 from by decide]; omega), c_pass (z_nlt0 h0) (by rw [Int32.le_iff_toInt_le, show (20 : Int32).toInt = 20 from by decide]; omega) (z_nlt0 (by omega)) (by rw [Int32.lt_iff_toInt_lt, show (4 : Int32).toInt = 4 from by decide]; omega), n2]
set_option maxHeartbeats 400000 in
theorem c_nd {z q : Int32} {c : Nat} (hz : rN z) (hq : q.toInt = (c : Int)) (hc : c < 4) : (20 + 4 * z + q).toNatClampNeg = 20 + 4 * z.toNatClampNeg + c := by
  show (20 + 4 * z + q).toInt.toNat = 20 + 4 * z.toInt.toNat + c
  obtain ⟨h0, h1⟩ := hz
  rw [z_lin (B := 20) (K := 4) (by decide) (by decide) (by omega) (by omega) (by omega) (by omega)]
  omega
set_option maxHeartbeats 400000 in
theorem c_jr {z q : Int32} {c : Nat} (hz : rJ z) (hq : q.toInt = (c : Int)) (hc : c < 9) : (168 + 9 * z + q).toNatClampNeg = 168 + 9 * z.toNatClampNeg + c := by
  show (168 + 9 * z + q).toInt.toNat = 168 + 9 * z.toInt.toNat + c
  obtain ⟨h0, h1⟩ := hz
  rw [z_lin (B := 168) (K := 9) (by decide) (by decide) (by omega) (by omega) (by omega) (by omega)]
  omega
set_option maxHeartbeats 400000 in
theorem c_jr0 {z : Int32} (hz : rJ z) : (168 + 9 * z).toNatClampNeg = 168 + 9 * z.toNatClampNeg := by
  have := c_jr (q := 0) (c := 0) hz (by decide) (by decide)
  rw [Int32.add_zero] at this
  exact this
set_option maxHeartbeats 400000 in
theorem c_ps {z q : Int32} {c : Nat} (h0 : 0 ≤ z.toInt) (h1 : z.toInt < 20) (hq : q.toInt = (c : Int)) (hc : c < 5) : (68 + 5 * z + q).toNatClampNeg = 68 + 5 * z.toNatClampNeg + c := by
  show (68 + 5 * z + q).toInt.toNat = 68 + 5 * z.toInt.toNat + c
  rw [z_lin (B := 68) (K := 5) (by decide) (by decide) (by omega) (by omega) (by omega) (by omega)]
  omega
/-- the WORDS -/
def wds (m h d ht su co nd dr fe sa go : Int32) (i : Nat) : Int32 := if i = 0 then m else if i = 1 then h else if i = 2 then d else if i = 3 then ht else if i = 4 then su else if i = 5 then co else if i = 6 then nd else if i = 7 then dr else if i = 8 then fe else if i = 9 then sa else go
set_option maxHeartbeats 400000 in
theorem w11 {f : Nat → Int32} {m h d ht su co nd dr fe sa go : Int32} (h0 : f 0 = m) (h1 : f 1 = h) (h2 : f 2 = d) (h3 : f 3 = ht) (h4 : f 4 = su) (h5 : f 5 = co) (h6 : f 6 = nd) (h7 : f 7 = dr) (h8 : f 8 = fe) (h9 : f 9 = sa) (h10 : f 10 = go) : ∀ i : Nat, i < 11 → f i = wds m h d ht su co nd dr fe sa go i
  | 0, _ => h0 | 1, _ => h1 | 2, _ => h2 | 3, _ => h3 | 4, _ => h4 | 5, _ => h5 | 6, _ => h6 | 7, _ => h7 | 8, _ => h8 | 9, _ => h9 | 10, _ => h10 | n + 11, hn => absurd hn (by omega)
set_option maxHeartbeats 400000 in
theorem w11L {f : Nat → Int64} {m h d ht su co nd dr fe sa go : Int32} (h0 : f 0 = m.toInt64) (h1 : f 1 = h.toInt64) (h2 : f 2 = d.toInt64) (h3 : f 3 = ht.toInt64) (h4 : f 4 = su.toInt64) (h5 : f 5 = co.toInt64) (h6 : f 6 = nd.toInt64) (h7 : f 7 = dr.toInt64) (h8 : f 8 = fe.toInt64) (h9 : f 9 = sa.toInt64) (h10 : f 10 = go.toInt64) : ∀ i : Nat, i < 11 → f i = (wds m h d ht su co nd dr fe sa go i).toInt64
  | 0, _ => h0 | 1, _ => h1 | 2, _ => h2 | 3, _ => h3 | 4, _ => h4 | 5, _ => h5 | 6, _ => h6 | 7, _ => h7 | 8, _ => h8 | 9, _ => h9 | 10, _ => h10 | n + 11, hn => absurd hn (by omega)
def nwd (S : Nat → Int32) (hour node dr fe sa : Int32) : Nat → Int32 := wds (fX9_monthAt (S 6) hour) (hour - hour / 24 * 24) (hour / 24) (S (20 + 4 * node.toNatClampNeg)) 0 (S (20 + 4 * node.toNatClampNeg + 2)) node dr fe sa 0
def pht (S : Nat → Int32) (pass to gone : Int32) : Int32 := (S (20 + 4 * (oth S pass to).toNatClampNeg) * (S (68 + 5 * pass.toNatClampNeg + 2) - gone) + S (20 + 4 * to.toNatClampNeg) * gone) / S (68 + 5 * pass.toNatClampNeg + 2)
def pwd (S : Nat → Int32) (hour pass to gone dr fe sa : Int32) : Nat → Int32 := wds (fX9_monthAt (S 6) hour) (hour - hour / 24 * 24) (hour / 24) (pht S pass to gone) (S (68 + 5 * pass.toNatClampNeg + 3)) 0 12 dr fe sa gone
set_option maxHeartbeats 400000 in
theorem c_k10 : (10 : Int32).toNatClampNeg = 10 := by decide
set_option maxHeartbeats 400000 in
theorem c_k9 : (9 : Int32).toNatClampNeg = 9 := by decide
set_option maxHeartbeats 400000 in
theorem cls_nw {cF nF S : Nat → Int32} {z hour node dr fe sa : Int32} (h : NE nF S) (hz : z = S 6) (hn : rN node) : ∀ i : Nat, i < 11 → fX4_setLoad (fX4_setHour (fX4_setNode cF nF node) z hour) dr fe sa i = nwd S hour node dr fe sa i := by
  have g0 := nget (q := 0) (c := 0) h hn (by decide) (by decide)
  have g2 := nget (q := 2) (c := 2) h hn (by decide) (by decide)
  rw [Nat.add_zero] at g0
  unfold fX4_setLoad fX4_setHour fX4_setNode nwd
  simp only [bnd, c_k0, c_k1, c_k2, c_k3, c_k4, c_k5, c_k6, c_k7, c_k8, c_k9, c_k10, g0, g2, hz]
  exact w11 rfl rfl rfl rfl rfl rfl rfl rfl rfl rfl rfl
set_option maxHeartbeats 400000 in
theorem cls_nw2 {cF nF S : Nat → Int32} {z hour node dr fe sa : Int32} (h : NE nF S) (hz : z = S 6) (hn : rN node) : ∀ i : Nat, i < 11 → fX4_setLoad (fX4_setNode (fX4_setHour cF z hour) nF node) dr fe sa i = nwd S hour node dr fe sa i := by
  have g0 := nget (q := 0) (c := 0) h hn (by decide) (by decide)
  have g2 := nget (q := 2) (c := 2) h hn (by decide) (by decide)
  rw [Nat.add_zero] at g0
  unfold fX4_setLoad fX4_setHour fX4_setNode nwd
  simp only [bnd, c_k0, c_k1, c_k2, c_k3, c_k4, c_k5, c_k6, c_k7, c_k8, c_k9, c_k10, g0, g2, hz]
  exact w11 rfl rfl rfl rfl rfl rfl rfl rfl rfl rfl rfl
set_option maxHeartbeats 400000 in
theorem ref_nw {w : Nat → Int64} {S : Nat → Int32} {hour node dr fe sa : Int32} (hn : rN node) : ∀ i : Nat, i < 11 → fX11_nodeWords w S (S 6) hour node dr fe sa i = (nwd S hour node dr fe sa i).toInt64 := by
  have g0 := c_nd (q := 0) (c := 0) hn (by decide) (by decide)
  have g2 := c_nd (q := 2) (c := 2) hn (by decide) (by decide)
  rw [Nat.add_zero] at g0
  unfold fX11_nodeWords fX11_hourWords nwd
  simp only [bnd, c_k0, c_k1, c_k2, c_k3, c_k4, c_k5, c_k6, c_k7, c_k8, c_k9, c_k10, g0, g2]
  exact w11L rfl rfl rfl rfl rfl rfl rfl rfl rfl rfl rfl
/-- a pass with its ends, and one of them -/
def rP (S : Nat → Int32) (pass : Int32) : Prop := 0 ≤ pass.toInt ∧ pass.toInt < (S 1).toInt ∧ (S 1).toInt ≤ 20 ∧ 1 ≤ (S (68 + 5 * pass.toNatClampNeg + 2)).toInt ∧ (S (68 + 5 * pass.toNatClampNeg + 2)).toInt ≤ 24
set_option maxHeartbeats 400000 in
theorem cls_pw {cF nF pF S : Nat → Int32} {z zp hour pass to gone dr fe sa cb ch co : Int32} (h : NE nF S) (hp : PE pF S) (hz : z = S 6) (hzp : zp = S 1) (hr : rP S pass) (ht : rN to) (hb : rN (oth S pass to)) : ∀ i : Nat, i < 11 → fX4_setLoad (fX4_setHour (fX4_setGone (fX4_setPass cF nF zp pF pass to).2.2.2 (fX4_setPass cF nF zp pF pass to).1 (fX4_setPass cF nF zp pF pass to).2.1 (fX4_setPass cF nF zp pF pass to).2.2.1 gone) z hour) dr fe sa i = pwd S hour pass to gone dr fe sa i := by
  obtain ⟨r0, r1, r2, r3, r4⟩ := hr
  have e0 := oe_in (n := to) hp hzp (by rw [Int32.lt_iff_toInt_lt, show (20 : Int32).toInt = 20 from by decide]; omega) (hs_in (p := pass) (z := zp) (z_nlt0 r0) (by rw [Int32.le_iff_toInt_le, hzp]; omega))
  have g0 := nget (q := 0) (c := 0) h hb (by decide) (by decide)
  have g1 := nget (q := 0) (c := 0) h ht (by decide) (by decide)
  have g2 := pget (q := 2) (c := 2) hp r0 (by omega) (by decide) (by decide)
  have g3 := pget (q := 3) (c := 3) hp r0 (by omega) (by decide) (by decide)
  rw [Nat.add_zero] at g0 g1
  unfold fX4_setLoad fX4_setHour fX4_setGone fX4_setPass pwd pht
  simp only [bnd, e0, g0, g1, g2, g3, c_k0, c_k1, c_k2, c_k3, c_k4, c_k5, c_k6, c_k7, c_k8, c_k9, c_k10, hz]
  rw [if_neg (show ¬ S (68 + 5 * pass.toNatClampNeg + 2) ≤ 0 by rw [Int32.le_iff_toInt_le, z_i0]; omega)]
  exact w11 rfl rfl rfl rfl rfl rfl rfl rfl rfl rfl rfl
set_option maxHeartbeats 400000 in
theorem ref_pw {w : Nat → Int64} {S : Nat → Int32} {hour pass to gone dr fe sa : Int32} (hr : rP S pass) (ht : rN to) (hb : rN (oth S pass to)) : ∀ i : Nat, i < 11 → fX11_passWords w S (S 6) hour pass to gone dr fe sa i = (pwd S hour pass to gone dr fe sa i).toInt64 := by
  obtain ⟨r0, r1, r2, r3, r4⟩ := hr
  have g0 := c_nd (q := 0) (c := 0) hb (by decide) (by decide)
  have g1 := c_nd (q := 0) (c := 0) ht (by decide) (by decide)
  have g2 := c_ps (q := 2) (c := 2) r0 (by omega) (by decide) (by decide)
  have g3 := c_ps (q := 3) (c := 3) r0 (by omega) (by decide) (by decide)
  rw [Nat.add_zero] at g0 g1
  unfold fX11_passWords fX11_hourWords pwd pht
  simp only [bnd, c_k0, c_k1, c_k2, c_k3, c_k4, c_k5, c_k6, c_k7, c_k8, c_k9, c_k10, g0, g1, g2, g3]
  exact w11L rfl rfl rfl rfl rfl rfl rfl rfl rfl rfl rfl
set_option maxHeartbeats 400000 in
theorem held_0 (x : Int64) : fX10_held x 0 = 0 := by
  unfold fX10_held
  by_cases a : 0 ≤ lg_cmp x 0
  · rw [if_pos a]
    by_cases b : lg_cmp x (0 : Int32).toInt64 ≤ 0
    · rw [if_pos b]
      have h1 := (lg_cmp_ge x 0).mp a
      have h2 := (lg_cmp_le x (0 : Int32).toInt64).mp b
      have : x = 0 := Int64.le_antisymm h2 h1
      rw [this]
      rfl
    · rw [if_neg b]
  · rw [if_neg a]
set_option maxHeartbeats 400000 in
theorem bnd_held (x : Int64) (m : Int32) : (fX11_bounded x 0 m.toInt64).toInt32 = fX10_held x m := by
  unfold fX11_bounded fX10_held
  by_cases a : 0 ≤ lg_cmp x 0
  · rw [if_pos a, if_pos a]
    by_cases b : lg_cmp x m.toInt64 ≤ 0
    · rw [if_pos b, if_pos b]
      rfl
    · rw [if_neg b, if_neg b, Int32.toInt32_toInt64]
  · rw [if_neg a, if_neg a]
    rfl
