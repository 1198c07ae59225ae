def OE (F S : Nat → Int32) : Prop := ∀ i : Nat, i < 24 → F i = S (312 + i)
def FE (F S : Nat → Int32) : Prop := ∀ i : Nat, i < 24 → F i = S (336 + i)
set_option maxHeartbeats 400000 in
theorem OE_ag {F S U : Nat → Int32} (h : OE F S) (e : ∀ i : Nat, 312 ≤ i → i < 336 → U i = S i) : OE F U := fun i hi => (h i hi).trans (e (312 + i) (by omega) (by omega)).symm
set_option maxHeartbeats 400000 in
theorem FE_ag {F S U : Nat → Int32} (h : FE F S) (e : ∀ i : Nat, 336 ≤ i → i < 360 → U i = S i) : FE F U := fun i hi => (h i hi).trans (e (336 + i) (by omega) (by omega)).symm
set_option maxHeartbeats 400000 in
theorem WE_ag {F S U : Nat → Int32} (h : WE F S) (e : ∀ i : Nat, 10 ≤ i → i < 16 → U i = S i) : WE F U := fun i hi => (h i hi).trans (e (10 + i) (by omega) (by omega)).symm
set_option maxHeartbeats 400000 in
theorem JE_ag {F S U : Nat → Int32} (h : JE F S) (e : ∀ i : Nat, 168 ≤ i → i < 312 → U i = S i) : JE F U := fun j c hj hc => (h j c hj hc).trans (e _ (by omega) (by have := jcl_lt hc; omega)).symm
set_option maxHeartbeats 400000 in
theorem OE_u {F S : Nat → Int32} {a : Nat} {v : Int32} (h : OE F S) : OE (upd F a v) (upd S (312 + a) v) := by
  intro i hi
  by_cases q : a = i
  · subst q; rw [pk_us, pk_us]
  · rw [upd_ne q, upd_ne (by omega)]; exact h i hi
set_option maxHeartbeats 400000 in
theorem FE_u {F S : Nat → Int32} {a : Nat} {v : Int32} (h : FE F S) : FE (upd F a v) (upd S (336 + a) v) := by
  intro i hi
  by_cases q : a = i
  · subst q; rw [pk_us, pk_us]
  · rw [upd_ne q, upd_ne (by omega)]; exact h i hi
set_option maxHeartbeats 400000 in
theorem put_or {F : Nat → Int32} {z q v : Int32} (h0 : 0 ≤ z.toInt) (h1 : z.toInt < 6) (q0 : 0 ≤ q.toInt) (q1 : q.toInt < 4) : fX6_put_24 4 F z q v = upd F (4 * z.toNatClampNeg + q.toNatClampNeg) v := by
  have e := tab_g (w := 4) (W := 4) (R := 6) (by decide) (by decide) (by decide) h0 h1 q0 q1
  have n1 := tn_eq h0
  have n2 := tn_eq q0
  unfold fX6_put_24
  simp only [bnd]
  rw [if_neg (by rw [Int32.lt_iff_toInt_lt, e, z_i0]; omega), if_neg (by rw [Int32.le_iff_toInt_le, e, show (24 : Int32).toInt = 24 from by decide]; omega)]
  exact congrArg (fun k => upd F k v) (by show (z * 4 + q).toInt.toNat = _; rw [e]; omega)
set_option maxHeartbeats 400000 in
theorem put_fe {F : Nat → Int32} {z q v : Int32} (h0 : 0 ≤ z.toInt) (h1 : z.toInt < 8) (q0 : 0 ≤ q.toInt) (q1 : q.toInt < 3) : fX6_put_24 3 F z q v = upd F (3 * z.toNatClampNeg + q.toNatClampNeg) v := by
  have e := tab_g (w := 3) (W := 3) (R := 8) (by decide) (by decide) (by decide) h0 h1 q0 q1
  have n1 := tn_eq h0
  have n2 := tn_eq q0
  unfold fX6_put_24
  simp only [bnd]
  rw [if_neg (by rw [Int32.lt_iff_toInt_lt, e, z_i0]; omega), if_neg (by rw [Int32.le_iff_toInt_le, e, show (24 : Int32).toInt = 24 from by decide]; omega)]
  exact congrArg (fun k => upd F k v) (by show (z * 3 + q).toInt.toNat = _; rw [e]; omega)
set_option maxHeartbeats 400000 in
theorem c_or {z q : Int32} {c : Nat} (h0 : 0 ≤ z.toInt) (h1 : z.toInt < 6) (hq : q.toInt = (c : Int)) (hc : c < 4) : (312 + 4 * z + q).toNatClampNeg = 312 + (4 * z.toNatClampNeg + c) := by
  show (312 + 4 * z + q).toInt.toNat = 312 + (4 * z.toInt.toNat + c)
  rw [z_lin (B := 312) (K := 4) (by decide) (by decide) (by omega) (by omega) (by omega) (by omega)]
  omega
set_option maxHeartbeats 400000 in
theorem c_fe {z q : Int32} {c : Nat} (h0 : 0 ≤ z.toInt) (h1 : z.toInt < 8) (hq : q.toInt = (c : Int)) (hc : c < 3) : (336 + 3 * z + q).toNatClampNeg = 336 + (3 * z.toNatClampNeg + c) := by
  show (336 + 3 * z + q).toInt.toNat = 336 + (3 * z.toInt.toNat + c)
  rw [z_lin (B := 336) (K := 3) (by decide) (by decide) (by omega) (by omega) (by omega) (by omega)]
  omega
set_option maxHeartbeats 400000 in
theorem oput {F S : Nat → Int32} {z q v : Int32} {c : Nat} (h : OE F S) (h0 : 0 ≤ z.toInt) (h1 : z.toInt < 6) (hq : q.toInt = (c : Int)) (hc : c < 4) : OE (fX6_put_24 4 F z q v) (upd S (312 + (4 * z.toNatClampNeg + c)) v) := by
  have n2 : q.toNatClampNeg = c := by show q.toInt.toNat = c; omega
  rw [put_or h0 h1 (by omega) (by omega), n2]
  exact OE_u h
set_option maxHeartbeats 400000 in
theorem fput {F S : Nat → Int32} {z q v : Int32} {c : Nat} (h : FE F S) (h0 : 0 ≤ z.toInt) (h1 : z.toInt < 8) (hq : q.toInt = (c : Int)) (hc : c < 3) : FE (fX6_put_24 3 F z q v) (upd S (336 + (3 * z.toNatClampNeg + c)) v) := by
  have n2 : q.toNatClampNeg = c := by show q.toInt.toNat = c; omega
  rw [put_fe h0 h1 (by omega) (by omega), n2]
  exact FE_u h
set_option maxHeartbeats 400000 in
theorem c_nd0 {z : Int32} (hz : rN z) : (20 + 4 * z).toNatClampNeg = 20 + 4 * z.toNatClampNeg := by
  have := c_nd (q := 0) (c := 0) hz (by decide) (by decide)
  rw [Int32.add_zero] at this
  exact this
set_option maxHeartbeats 400000 in
theorem ne_of_lt {z m : Int32} (h : z.toInt < m.toInt) : ¬ z = m := fun q => by rw [q] at h; omega
set_option maxHeartbeats 400000 in
theorem ne_m1 {z : Int32} (h : 0 ≤ z.toInt) : ¬ z = -1 := fun q => by rw [q] at h; exact absurd h (by decide)
set_option maxHeartbeats 400000 in
/-- a NODE more -/
theorem cls_node {nF S : Nat → Int32} {z p0 p1 p2 : Int32} (hn : NE nF S) (ez : z = S 0) (hz : rN z) : (fX10_node_ok z nF p0 p1 p2).1 = fX11_node S z p0 p1 p2 0 ∧ NE (fX10_node_ok z nF p0 p1 p2).2 (fX11_node S z p0 p1 p2) := by
  unfold fX10_node_ok fX11_node
  rw [li_wj (hi := 400) (by decide), li_wj (hi := 4095) (by decide), li_wj (hi := 9) (by decide), if_neg (ne_of_lt (z := z) (m := 12) hz.2)]
  by_cases a : wi p0 400 = 0
  · rw [if_pos a, if_pos a]; exact ⟨ez, hn⟩
  · rw [if_neg a, if_neg a]
    by_cases b : wi p1 4095 = 0
    · rw [if_pos b, if_pos b]; exact ⟨ez, hn⟩
    · rw [if_neg b, if_neg b]
      by_cases c : wi p2 9 = 0
      · rw [if_pos c, if_pos c]; exact ⟨ez, hn⟩
      · rw [if_neg c, if_neg c, bnd_eq, if_neg (ne_m1 hz.1), bnd_eq, bnd_eq, bnd_eq, bnd_eq, bnd_eq, c_nd0 hz, c_nd (q := 1) (c := 1) hz (by decide) (by decide), c_nd (q := 2) (c := 2) hz (by decide) (by decide), c_nd (q := 3) (c := 3) hz (by decide) (by decide), bnd_eq, bnd_eq, bnd_eq, bnd_eq, bnd_eq, c_k0]
        exact ⟨(show z + 1 = _ from pk_us.symm), NE_o (nput (c := 3) (nput (c := 2) (nput (c := 1) (nput (c := 0) hn hz (by decide) (by decide)) hz (by decide) (by decide)) hz (by decide) (by decide)) hz (by decide) (by decide)) (Or.inl (by decide))⟩
set_option maxHeartbeats 400000 in
theorem node_at {S : Nat → Int32} {z p0 p1 p2 : Int32} {i : Nat} (hz : rN z) (h0 : i ≠ 0) (hi : i < 20 + 4 * z.toNatClampNeg ∨ 20 + 4 * z.toNatClampNeg + 3 < i) : fX11_node S z p0 p1 p2 i = S i := by
  unfold fX11_node
  repeat' split
  all_goals first | rfl | skip
  rw [bnd_eq, bnd_eq, bnd_eq, bnd_eq, bnd_eq, bnd_eq, c_nd0 hz, c_nd (q := 1) (c := 1) hz (by decide) (by decide), c_nd (q := 2) (c := 2) hz (by decide) (by decide), c_nd (q := 3) (c := 3) hz (by decide) (by decide), c_k0]
  rw [upd_ne (by omega), upd_ne (by omega), upd_ne (by omega), upd_ne (by omega), upd_ne (by omega)]
set_option maxHeartbeats 400000 in
/-- an ORDER, a FEAST more -/
theorem cls_order {oF S : Nat → Int32} {n z p0 p1 p2 p3 : Int32} (hn : OE oF S) (ez : z = S 3) (z0 : 0 ≤ z.toInt) (z6 : z.toInt < 6) : (fX10_order_ok n z oF p0 p1 p2 p3).1 = fX11_order S n z p0 p1 p2 p3 3 ∧ OE (fX10_order_ok n z oF p0 p1 p2 p3).2 (fX11_order S n z p0 p1 p2 p3) := by
  unfold fX10_order_ok fX11_order
  rw [li_wj (hi := 99999) (by decide), li_wj (hi := 9999) (by decide), li_wsh, if_neg (ne_of_lt (z := z) (m := 6) z6)]
  by_cases d : hs p0 n = 0
  · rw [if_pos d, if_pos d]
    split
    · exact ⟨ez, hn⟩
    · split
      · exact ⟨ez, hn⟩
      · split <;> exact ⟨ez, hn⟩
  · rw [if_neg d, if_neg d]
    by_cases a : wi p1 99999 = 0
    · rw [if_pos a, if_pos a]; exact ⟨ez, hn⟩
    · rw [if_neg a, if_neg a]
      by_cases b : wsh p2 = 0
      · rw [if_pos b, if_pos b]; exact ⟨ez, hn⟩
      · rw [if_neg b, if_neg b]
        by_cases c : wi p3 9999 = 0
        · rw [if_pos c, if_pos c]; exact ⟨ez, hn⟩
        · have e0 := c_or (q := 0) (c := 0) z0 z6 (by decide) (by decide)
          rw [Int32.add_zero] at e0
          rw [if_neg c, if_neg c, bnd_eq, bnd_eq, bnd_eq, bnd_eq, bnd_eq, bnd_eq, e0, c_or (q := 1) (c := 1) z0 z6 (by decide) (by decide), c_or (q := 2) (c := 2) z0 z6 (by decide) (by decide), c_or (q := 3) (c := 3) z0 z6 (by decide) (by decide), bnd_eq, bnd_eq, bnd_eq, bnd_eq, bnd_eq]
          exact ⟨(show z + 1 = _ from pk_us.symm), OE_ag (oput (c := 3) (oput (c := 2) (oput (c := 1) (oput (c := 0) hn z0 z6 (by decide) (by decide)) z0 z6 (by decide) (by decide)) z0 z6 (by decide) (by decide)) z0 z6 (by decide) (by decide)) (fun i i0 i1 => upd_ne (by rw [show (3 : Int32).toNatClampNeg = 3 from by decide]; omega))⟩
set_option maxHeartbeats 400000 in
theorem cls_feast {oF S : Nat → Int32} {n z p0 p1 p2 : Int32} (hn : FE oF S) (ez : z = S 4) (z0 : 0 ≤ z.toInt) (z6 : z.toInt < 8) : (fX10_feast_ok n z oF p0 p1 p2).1 = fX11_feast S n z p0 p1 p2 4 ∧ FE (fX10_feast_ok n z oF p0 p1 p2).2 (fX11_feast S n z p0 p1 p2) := by
  unfold fX10_feast_ok fX11_feast
  rw [li_wj (hi := 4166) (by decide), li_wsh, if_neg (ne_of_lt (z := z) (m := 8) z6)]
  by_cases d : hs p0 n = 0
  · rw [if_pos d, if_pos d]
    split
    · exact ⟨ez, hn⟩
    · split <;> exact ⟨ez, hn⟩
  · rw [if_neg d, if_neg d]
    by_cases a : wi p1 4166 = 0
    · rw [if_pos a, if_pos a]; exact ⟨ez, hn⟩
    · rw [if_neg a, if_neg a]
      by_cases b : wsh p2 = 0
      · rw [if_pos b, if_pos b]; exact ⟨ez, hn⟩
      · have e0 := c_fe (q := 0) (c := 0) z0 z6 (by decide) (by decide)
        rw [Int32.add_zero] at e0
        rw [if_neg b, if_neg b, bnd_eq, bnd_eq, bnd_eq, bnd_eq, bnd_eq, e0, c_fe (q := 1) (c := 1) z0 z6 (by decide) (by decide), c_fe (q := 2) (c := 2) z0 z6 (by decide) (by decide), bnd_eq, bnd_eq, bnd_eq, bnd_eq]
        exact ⟨(show z + 1 = _ from pk_us.symm), FE_ag (fput (c := 2) (fput (c := 1) (fput (c := 0) hn z0 z6 (by decide) (by decide)) z0 z6 (by decide) (by decide)) z0 z6 (by decide) (by decide)) (fun i i0 i1 => upd_ne (by rw [show (4 : Int32).toNatClampNeg = 4 from by decide]; omega))⟩
set_option maxHeartbeats 400000 in
theorem order_at {S : Nat → Int32} {n z p0 p1 p2 p3 : Int32} {i : Nat} (z0 : 0 ≤ z.toInt) (z6 : z.toInt < 6) (h0 : i ≠ 3) (hi : i < 312 ∨ 336 ≤ i) : fX11_order S n z p0 p1 p2 p3 i = S i := by
  have e0 := c_or (q := 0) (c := 0) z0 z6 (by decide) (by decide)
  rw [Int32.add_zero] at e0
  have := tn_eq z0
  unfold fX11_order
  repeat' split
  all_goals first | rfl | skip
  rw [bnd_eq, bnd_eq, bnd_eq, bnd_eq, bnd_eq, bnd_eq, e0, c_or (q := 1) (c := 1) z0 z6 (by decide) (by decide), c_or (q := 2) (c := 2) z0 z6 (by decide) (by decide), c_or (q := 3) (c := 3) z0 z6 (by decide) (by decide), show (3 : Int32).toNatClampNeg = 3 from by decide]
  rw [upd_ne (by omega), upd_ne (by omega), upd_ne (by omega), upd_ne (by omega), upd_ne (by omega)]
set_option maxHeartbeats 400000 in
theorem feast_at {S : Nat → Int32} {n z p0 p1 p2 : Int32} {i : Nat} (z0 : 0 ≤ z.toInt) (z6 : z.toInt < 8) (h0 : i ≠ 4) (hi : i < 336 ∨ 360 ≤ i) : fX11_feast S n z p0 p1 p2 i = S i := by
  have e0 := c_fe (q := 0) (c := 0) z0 z6 (by decide) (by decide)
  rw [Int32.add_zero] at e0
  have := tn_eq z0
  unfold fX11_feast
  repeat' split
  all_goals first | rfl | skip
  rw [bnd_eq, bnd_eq, bnd_eq, bnd_eq, bnd_eq, e0, c_fe (q := 1) (c := 1) z0 z6 (by decide) (by decide), c_fe (q := 2) (c := 2) z0 z6 (by decide) (by decide), show (4 : Int32).toNatClampNeg = 4 from by decide]
  rw [upd_ne (by omega), upd_ne (by omega), upd_ne (by omega), upd_ne (by omega)]
set_option maxHeartbeats 400000 in
/-- a JAR more -/
theorem cv_0 {a b : Int32} : (cv a b = 0) ↔ (wi a 9 = 0 ∨ wi b 9 = 0) := by
  unfold cv
  by_cases h : wi a 9 = 0
  · rw [if_pos h]; exact ⟨fun _ => Or.inl h, fun _ => rfl⟩
  · rw [if_neg h]
    by_cases k : wi b 9 = 0
    · rw [if_pos k]; exact ⟨fun _ => Or.inr k, fun _ => rfl⟩
    · rw [if_neg k]; exact ⟨fun q => absurd q (by decide), fun q => q.elim (fun x => absurd x h) (fun x => absurd x k)⟩
/-- the row of a new jar -/
def njS (S : Nat → Int32) (j p0 p1 p2 p3 p4 : Int32) : Nat → Int32 := upd (upd (upd (upd (upd (upd (upd (upd (upd (upd S (168 + 9 * j.toNatClampNeg + 0) p1) (168 + 9 * j.toNatClampNeg + 1) p2) (168 + 9 * j.toNatClampNeg + 2) p3) (168 + 9 * j.toNatClampNeg + 3) p4) (168 + 9 * j.toNatClampNeg + 4) 0) (168 + 9 * j.toNatClampNeg + 5) p0) (168 + 9 * j.toNatClampNeg + 6) (-1)) (168 + 9 * j.toNatClampNeg + 7) 0) (168 + 9 * j.toNatClampNeg + 8) (-1)) 2 (j + 1)
set_option maxHeartbeats 400000 in
theorem ref_jar {S : Nat → Int32} {n j p0 p1 p2 p3 p4 : Int32} (hj : rJ j) : fX11_jar S n j p0 p1 p2 p3 p4 = if cv p1 p2 = 0 then S else if wi p3 7 = 0 then S else if wi p4 15 = 0 then S else if hs p0 n = 0 then S else njS S j p0 p1 p2 p3 p4 := by
  unfold fX11_jar
  rw [li_wj (hi := 9) (by decide), li_wj (hi := 9) (by decide), li_wj (hi := 7) (by decide), li_wj (hi := 15) (by decide), if_neg (ne_of_lt (z := j) (m := 16) hj.2)]
  by_cases d : hs p0 n = 0
  · rw [if_pos d, if_pos d, ite_self, ite_self, ite_self]
  · rw [if_neg d, if_neg d]
    by_cases a : wi p1 9 = 0
    · rw [if_pos a, if_pos (cv_0.mpr (Or.inl a))]
    · rw [if_neg a]
      by_cases b : wi p2 9 = 0
      · rw [if_pos b, if_pos (cv_0.mpr (Or.inr b))]
      · rw [if_neg b, if_neg (fun q => (cv_0.mp q).elim a b)]
        by_cases c : wi p3 7 = 0
        · rw [if_pos c, if_pos c]
        · rw [if_neg c, if_neg c]
          by_cases e : wi p4 15 = 0
          · rw [if_pos e, if_pos e]
          · rw [if_neg e, if_neg e, bnd_eq, bnd_eq, bnd_eq, bnd_eq, bnd_eq, bnd_eq, bnd_eq, bnd_eq, bnd_eq, bnd_eq, bnd_eq, c_jr0 hj, cj1 hj, cj2 hj, cj3 hj, cj4 hj, cj5 hj, cj6 hj, cj7 hj, cj8 hj]
            rfl
set_option maxHeartbeats 400000 in
theorem cls_jar {jF S : Nat → Int32} {n j p0 p1 p2 p3 p4 : Int32} (hJ : JE jF S) (ez : j = S 2) (hj : rJ j) : (fX10_jar_ok n j jF p0 p1 p2 p3 p4).1 = fX11_jar S n j p0 p1 p2 p3 p4 2 ∧ JE (fX10_jar_ok n j jF p0 p1 p2 p3 p4).2 (fX11_jar S n j p0 p1 p2 p3 p4) := by
  rw [ref_jar hj]
  unfold fX10_jar_ok
  by_cases a : cv p1 p2 = 0
  · rw [if_pos a, if_pos a]; exact ⟨ez, hJ⟩
  · rw [if_neg a, if_neg a]
    by_cases b : wi p3 7 = 0
    · rw [if_pos b, if_pos b]; exact ⟨ez, hJ⟩
    · rw [if_neg b, if_neg b]
      by_cases c : wi p4 15 = 0
      · rw [if_pos c, if_pos c]; exact ⟨ez, hJ⟩
      · rw [if_neg c, if_neg c]
        by_cases d : hs p0 n = 0
        · rw [if_pos d, if_pos d]; exact ⟨ez, hJ⟩
        · rw [if_neg d, if_neg d, bnd_eq, if_neg (ne_m1 hj.1), bnd_eq, bnd_eq]
          have h1 : JE (fX9_standAt (fX6_put_144 9 jF j 0 0) j p0) (stS (upd S (168 + 9 * j.toNatClampNeg + 4) 0) j p0) := cls_stand (jp0 hJ hj) hj
          generalize fX9_standAt (fX6_put_144 9 jF j 0 0) j p0 = G at h1 ⊢
          rw [bnd_eq, bnd_eq, bnd_eq, bnd_eq]
          have h2 : JE (fX6_put_144 9 (fX6_put_144 9 (fX6_put_144 9 (fX6_put_144 9 G j 5 p1) j 6 p2) j 7 p3) j 8 p4) (upd (upd (upd (upd (stS (upd S (168 + 9 * j.toNatClampNeg + 4) 0) j p0) (168 + 9 * j.toNatClampNeg + 0) p1) (168 + 9 * j.toNatClampNeg + 1) p2) (168 + 9 * j.toNatClampNeg + 2) p3) (168 + 9 * j.toNatClampNeg + 3) p4) := jput (c := 8) (jput (c := 7) (jput (c := 6) (jput (c := 5) h1 hj (by decide) (by decide)) hj (by decide) (by decide)) hj (by decide) (by decide)) hj (by decide) (by decide)
          refine ⟨(show j + 1 = _ from pk_us.symm), JE_o ?_ (Or.inl (by decide))⟩
          rw [st_c (a := (168 + 9 * j.toNatClampNeg + 0)) (by omega), st_c (a := (168 + 9 * j.toNatClampNeg + 1)) (by omega), st_c (a := (168 + 9 * j.toNatClampNeg + 2)) (by omega), st_c (a := (168 + 9 * j.toNatClampNeg + 3)) (by omega), upd_comm (k := (168 + 9 * j.toNatClampNeg + 4)) (l := (168 + 9 * j.toNatClampNeg + 0)) (by omega), upd_comm (k := (168 + 9 * j.toNatClampNeg + 4)) (l := (168 + 9 * j.toNatClampNeg + 1)) (by omega), upd_comm (k := (168 + 9 * j.toNatClampNeg + 4)) (l := (168 + 9 * j.toNatClampNeg + 2)) (by omega), upd_comm (k := (168 + 9 * j.toNatClampNeg + 4)) (l := (168 + 9 * j.toNatClampNeg + 3)) (by omega)] at h2
          exact h2
set_option maxHeartbeats 400000 in
theorem jar_at {S : Nat → Int32} {n j p0 p1 p2 p3 p4 : Int32} {i : Nat} (hj : rJ j) (h2 : i ≠ 2) (hi : i < (168 + 9 * j.toNatClampNeg + 0) ∨ (168 + 9 * j.toNatClampNeg + 8) < i) : fX11_jar S n j p0 p1 p2 p3 p4 i = S i := by
  rw [ref_jar hj]
  repeat' split
  all_goals first | rfl | skip
  unfold njS
  rw [upd_ne (by omega), upd_ne (by omega), upd_ne (by omega), upd_ne (by omega), upd_ne (by omega), upd_ne (by omega), upd_ne (by omega), upd_ne (by omega), upd_ne (by omega), upd_ne (by omega)]
set_option maxHeartbeats 400000 in
/-- what IV needs of a change elsewhere -/
theorem IV_fr {S U : Nat → Int32} (h : IV S) (a : ∀ i : Nat, (i = 1 ∨ i = 2 ∨ i = 5 ∨ (20 ≤ i ∧ i < 312)) → U i = S i) (h0 : 0 ≤ (U 0).toInt ∧ (U 0).toInt ≤ 12) (hx : 0 ≤ (U 7).toInt) : IV U := by
  obtain ⟨i1, i2, i3, i4, i5, i6, i7, i8⟩ := h
  refine ⟨fun k hk => ?_, ?_, fun k hk => ?_, ?_, hx, ?_, ?_, h0⟩
  · have := tn_eq hk.1
    have := hk.2
    exact JI1_ag (i1 k hk) (a 1 (by omega)) (fun i l0 l1 => a i (by omega)) (fun q hq => a _ (by omega))
  · exact NI_ag i2 (fun i l0 l1 => a i (by omega))
  · rw [a _ (by omega)]; exact i3 k hk
  · rw [a 2 (by omega)]
    intro k k0 k1 hk
    have := tn_eq k0
    have := i7.2
    rw [a _ (by omega)] at hk
    rw [a _ (by omega)]
    exact i4 k k0 k1 hk
  · rw [a 5 (by omega)]; exact i6
  · rw [a 2 (by omega)]; exact i7
