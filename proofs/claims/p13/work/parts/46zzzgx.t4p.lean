set_option maxHeartbeats 400000 in
theorem pput {F S : Nat → Int32} {z q v : Int32} {c : Nat} (h : PE F S) (h0 : 0 ≤ z.toInt) (h1 : z.toInt < 20) (hq : q.toInt = (c : Int)) (hc : c < 5) : PE (fX6_put_100 5 F z q v) (upd S (68 + 5 * z.toNatClampNeg + c) v) := by
  have n2 : q.toNatClampNeg = c := by show q.toInt.toNat = c; omega
  rw [put_5 (z_nlt0 h0) (by rw [Int32.le_iff_toInt_le, show (20 : Int32).toInt = 20 from by decide]; omega) (z_nlt0 (by omega)) (by rw [Int32.lt_iff_toInt_lt, show (4 : Int32).toInt = 4 from by decide]; omega), n2, Nat.add_assoc]
  exact PE_u h
set_option maxHeartbeats 400000 in
theorem cls_pass4 {S F : Nat → Int32} {n z p0 p1 p2 p3 p4 : Int32} (hF : PE F S) (hz : z = S 1) (h0 : 0 ≤ z.toInt) (h1 : z.toInt < 20) : (fX10_pass_ok n z F p0 p1 p2 p3 p4).1 = fX11_pass S n z p0 p1 p2 p3 p4 1 ∧ PE (fX10_pass_ok n z F p0 p1 p2 p3 p4).2 (fX11_pass S n z p0 p1 p2 p3 p4) := by
  have hz20 : ¬ z = 20 := ne_of_lt (z := z) (m := 20) h1
  have hh := And.intro hz hF
  unfold fX10_pass_ok fX11_pass
  rw [li_124, li_wj (hi := 9) (by decide), li_wj (hi := 1000) (by decide), if_neg hz20]
  by_cases a1 : hs p0 n = 0
  · simpa only [a1, if_true, ite_self] using hh
  · by_cases a2 : hs p1 n = 0
    · simpa only [a1, a2, if_true, if_false, ite_self] using hh
    · by_cases a3 : p0 = p1
      · rw [if_neg a1, if_neg a2, if_pos a3, if_neg a1, if_neg a2, if_pos a3]
        simpa only [ite_self] using hh
      · rw [if_neg a1, if_neg a2, if_neg a3, if_neg a1, if_neg a2, if_neg a3]
        by_cases a4 : p2 < 1
        · rw [if_pos a4, if_pos a4, if_pos rfl]; exact hh
        · rw [if_neg a4, if_neg a4, wi_24 a4]
          by_cases a5 : 24 < p2
          · rw [if_pos a5, if_pos rfl, if_pos rfl]; exact hh
          · rw [if_neg a5, if_neg (show ¬ (1 : Int32) = 0 by decide), if_neg (show ¬ (1 : Int32) = 0 by decide)]
            by_cases a6 : wi p3 9 = 0
            · rw [if_pos a6, if_pos a6]; exact hh
            · rw [if_neg a6, if_neg a6]
              by_cases a7 : wi p4 1000 = 0
              · rw [if_pos a7, if_pos a7]; exact hh
              · have e0 := c_ps (q := 0) (c := 0) h0 h1 (by decide) (by decide)
                rw [Int32.add_zero] at e0
                rw [if_neg a7, if_neg a7, bnd_eq, if_neg (ne_m1 h0), bnd_eq, bnd_eq, bnd_eq, bnd_eq, bnd_eq, bnd_eq, e0, c_ps (q := 1) (c := 1) h0 h1 (by decide) (by decide), c_ps (q := 2) (c := 2) h0 h1 (by decide) (by decide), c_ps (q := 3) (c := 3) h0 h1 (by decide) (by decide), c_ps (q := 4) (c := 4) h0 h1 (by decide) (by decide), bnd_eq, bnd_eq, bnd_eq, bnd_eq, bnd_eq, bnd_eq, c_k1]
                exact ⟨(show z + 1 = _ from pk_us.symm), PE_ag (pput (c := 4) (pput (c := 3) (pput (c := 2) (pput (c := 1) (pput (c := 0) hF h0 h1 (by decide) (by decide)) h0 h1 (by decide) (by decide)) h0 h1 (by decide) (by decide)) h0 h1 (by decide) (by decide)) h0 h1 (by decide) (by decide)) (fun i i0 i1 => upd_ne (by omega))⟩
/-- the class's world, as said[] spells it -/
def X4 (S : Nat → Int32) (zn zp zj zo zf nw fm x ws zw : Int32) (nF pF jF oF fF wF : Nat → Int32) : Prop := (zn = S 0 ∧ zp = S 1 ∧ zj = S 2 ∧ zo = S 3 ∧ zf = S 4) ∧ (nw = S 5 ∧ fm = S 6 ∧ x = S 7 ∧ ws = S 8 ∧ zw = S 9) ∧ NE nF S ∧ PE pF S ∧ JE jF S ∧ OE oF S ∧ FE fF S ∧ WE wF S
/-- what said[] keeps to -/
def GD (S : Nat → Int32) : Prop := SC S (S 0) (S 1) (S 2) (S 3) (S 4) (S 6) (S 8) (S 9) S ∧ IV S ∧ (S 5).toInt ≤ 99999
set_option maxHeartbeats 400000 in
theorem GD_of {e U pd : Nat → Int32} {a b c d g h zk zw : Int32} (he : e = U) (hs : SC e a b c d g h zk zw pd) (iv : IV U) (h5 : (U 5).toInt ≤ 99999) : GD U := by
  subst he
  exact ⟨SC_whole hs, iv, h5⟩
set_option maxHeartbeats 400000 in
theorem i_ge {x m : Int32} (h : ¬ x < m) : m.toInt ≤ x.toInt := by
  rw [Int32.lt_iff_toInt_lt] at h
  omega
set_option maxHeartbeats 400000 in
theorem i_le {x m : Int32} (h : ¬ m < x) : x.toInt ≤ m.toInt := by
  rw [Int32.lt_iff_toInt_lt] at h
  omega
set_option maxHeartbeats 400000 in
theorem i_lt {x m : Int32} (h : x.toInt ≤ m.toInt) (hn : ¬ x = m) : x.toInt < m.toInt := by
  have : ¬ x.toInt = m.toInt := fun q => hn (Int32.toInt_inj.mp q)
  omega
set_option maxHeartbeats 400000 in
theorem GD_0 {S : Nat → Int32} (g : GD S) : 0 ≤ (S 0).toInt ∧ (S 0).toInt ≤ 12 := ⟨i_ge g.1.2.1.1, i_le g.1.2.1.2⟩
set_option maxHeartbeats 400000 in
theorem GD_1 {S : Nat → Int32} (g : GD S) : 0 ≤ (S 1).toInt ∧ (S 1).toInt ≤ 20 := ⟨i_ge g.1.2.2.1.1, i_le g.1.2.2.1.2⟩
set_option maxHeartbeats 400000 in
theorem GD_2 {S : Nat → Int32} (g : GD S) : 0 ≤ (S 2).toInt ∧ (S 2).toInt ≤ 16 := ⟨i_ge g.1.2.2.2.1.1, i_le g.1.2.2.2.1.2⟩
set_option maxHeartbeats 400000 in
theorem GD_3 {S : Nat → Int32} (g : GD S) : 0 ≤ (S 3).toInt ∧ (S 3).toInt ≤ 6 := ⟨i_ge g.1.2.2.2.2.1.1, i_le g.1.2.2.2.2.1.2⟩
set_option maxHeartbeats 400000 in
theorem GD_4 {S : Nat → Int32} (g : GD S) : 0 ≤ (S 4).toInt ∧ (S 4).toInt ≤ 8 := ⟨i_ge g.1.2.2.2.2.2.1.1, i_le g.1.2.2.2.2.2.1.2⟩
set_option maxHeartbeats 400000 in
theorem GD_9 {S : Nat → Int32} (g : GD S) : 0 ≤ (S 9).toInt ∧ (S 9).toInt ≤ 6 := ⟨i_ge g.1.2.2.2.2.2.2.2.1.1, i_le g.1.2.2.2.2.2.2.2.1.2⟩
set_option maxHeartbeats 400000 in
theorem GD_wr {S : Nat → Int32} (g : GD S) : WRc S := SC_wr g.1
set_option maxHeartbeats 400000 in
theorem GD_sp {S : Nat → Int32} (g : GD S) : SRp S := SRp_of g.1
set_option maxHeartbeats 400000 in
theorem GD_5 {S : Nat → Int32} (g : GD S) : 0 ≤ (S 5).toInt := g.2.1.2.2.2.2.2.1.1
set_option maxHeartbeats 400000 in
theorem x4_node {S : Nat → Int32} {zn zp zj zo zf nw fm x ws zw : Int32} {nF pF jF oF fF wF : Nat → Int32} {a' : Int32} {F' : Nat → Int32} {p0 p1 p2 : Int32} (h : X4 S zn zp zj zo zf nw fm x ws zw nF pF jF oF fF wF) (g : GD S) (hz : ¬ zn = 12) (e : (a', F') = fX10_node_ok zn nF p0 p1 p2) : X4 (fX11_node S (S 0) p0 p1 p2) a' zp zj zo zf nw fm x ws zw F' pF jF oF fF wF := by
  obtain ⟨⟨h0, h1, h2, h3, h4⟩, ⟨h5, h6, h7, h8, h9⟩, hnF, hpF, hjF, hoF, hfF, hwF⟩ := h
  have b := GD_0 g
  have bz : 0 ≤ zn.toInt ∧ zn.toInt < 12 := ⟨by rw [h0]; exact b.1, i_lt (m := 12) (by rw [h0]; exact b.2) hz⟩
  have tz := tn_eq bz.1
  have hr : rN zn := bz
  have q := cls_node (p0 := p0) (p1 := p1) (p2 := p2) hnF h0 hr
  rw [← e] at q
  have a : ∀ i : Nat, (i ≠ 0 ∧ (i < 20 ∨ 68 ≤ i)) → fX11_node S zn p0 p1 p2 i = S i := fun i hi => node_at hr hi.1 (by omega)
  rw [show fX11_node S (S 0) p0 p1 p2 = fX11_node S zn p0 p1 p2 from by rw [← h0]]
  exact ⟨⟨q.1, (h1.trans (a 1 (by omega)).symm), (h2.trans (a 2 (by omega)).symm), (h3.trans (a 3 (by omega)).symm), (h4.trans (a 4 (by omega)).symm)⟩, ⟨(h5.trans (a 5 (by omega)).symm), (h6.trans (a 6 (by omega)).symm), (h7.trans (a 7 (by omega)).symm), (h8.trans (a 8 (by omega)).symm), (h9.trans (a 9 (by omega)).symm)⟩, q.2, PE_ag hpF (fun i i0 i1 => a i (by omega)), JE_ag hjF (fun i i0 i1 => a i (by omega)), OE_ag hoF (fun i i0 i1 => a i (by omega)), FE_ag hfF (fun i i0 i1 => a i (by omega)), WE_ag hwF (fun i i0 i1 => a i (by omega))⟩
set_option maxHeartbeats 400000 in
theorem x4_pass {S : Nat → Int32} {zn zp zj zo zf nw fm x ws zw : Int32} {nF pF jF oF fF wF : Nat → Int32} {a' : Int32} {F' : Nat → Int32} {p0 p1 p2 p3 p4 : Int32} (h : X4 S zn zp zj zo zf nw fm x ws zw nF pF jF oF fF wF) (g : GD S) (hz : ¬ zp = 20) (e : (a', F') = fX10_pass_ok zn zp pF p0 p1 p2 p3 p4) : X4 (fX11_pass S (S 0) (S 1) p0 p1 p2 p3 p4) zn a' zj zo zf nw fm x ws zw nF F' jF oF fF wF := by
  obtain ⟨⟨h0, h1, h2, h3, h4⟩, ⟨h5, h6, h7, h8, h9⟩, hnF, hpF, hjF, hoF, hfF, hwF⟩ := h
  have b := GD_1 g
  have bz : 0 ≤ zp.toInt ∧ zp.toInt < 20 := ⟨by rw [h1]; exact b.1, i_lt (m := 20) (by rw [h1]; exact b.2) hz⟩
  have tz := tn_eq bz.1
  skip
  have q := cls_pass4 (n := zn) (p0 := p0) (p1 := p1) (p2 := p2) (p3 := p3) (p4 := p4) hpF h1 bz.1 bz.2
  rw [← e] at q
  have a : ∀ i : Nat, (i ≠ 1 ∧ (i < 68 ∨ 168 ≤ i)) → fX11_pass S zn zp p0 p1 p2 p3 p4 i = S i := fun i hi => ref_pass bz.1 bz.2 hi.1 (by omega)
  rw [show fX11_pass S (S 0) (S 1) p0 p1 p2 p3 p4 = fX11_pass S zn zp p0 p1 p2 p3 p4 from by rw [← h1, ← h0]]
  exact ⟨⟨(h0.trans (a 0 (by omega)).symm), q.1, (h2.trans (a 2 (by omega)).symm), (h3.trans (a 3 (by omega)).symm), (h4.trans (a 4 (by omega)).symm)⟩, ⟨(h5.trans (a 5 (by omega)).symm), (h6.trans (a 6 (by omega)).symm), (h7.trans (a 7 (by omega)).symm), (h8.trans (a 8 (by omega)).symm), (h9.trans (a 9 (by omega)).symm)⟩, NE_ag hnF (fun i i0 i1 => a i (by omega)), q.2, JE_ag hjF (fun i i0 i1 => a i (by omega)), OE_ag hoF (fun i i0 i1 => a i (by omega)), FE_ag hfF (fun i i0 i1 => a i (by omega)), WE_ag hwF (fun i i0 i1 => a i (by omega))⟩
set_option maxHeartbeats 400000 in
theorem x4_jar {S : Nat → Int32} {zn zp zj zo zf nw fm x ws zw : Int32} {nF pF jF oF fF wF : Nat → Int32} {a' : Int32} {F' : Nat → Int32} {p0 p1 p2 p3 p4 : Int32} (h : X4 S zn zp zj zo zf nw fm x ws zw nF pF jF oF fF wF) (g : GD S) (hz : ¬ zj = 16) (e : (a', F') = fX10_jar_ok zn zj jF p0 p1 p2 p3 p4) : X4 (fX11_jar S (S 0) (S 2) p0 p1 p2 p3 p4) zn zp a' zo zf nw fm x ws zw nF pF F' oF fF wF := by
  obtain ⟨⟨h0, h1, h2, h3, h4⟩, ⟨h5, h6, h7, h8, h9⟩, hnF, hpF, hjF, hoF, hfF, hwF⟩ := h
  have b := GD_2 g
  have bz : 0 ≤ zj.toInt ∧ zj.toInt < 16 := ⟨by rw [h2]; exact b.1, i_lt (m := 16) (by rw [h2]; exact b.2) hz⟩
  have tz := tn_eq bz.1
  have hr : rJ zj := bz
  have q := cls_jar (n := zn) (p0 := p0) (p1 := p1) (p2 := p2) (p3 := p3) (p4 := p4) hjF h2 hr
  rw [← e] at q
  have a : ∀ i : Nat, (i ≠ 2 ∧ (i < 168 ∨ 312 ≤ i)) → fX11_jar S zn zj p0 p1 p2 p3 p4 i = S i := fun i hi => jar_at hr hi.1 (by omega)
  rw [show fX11_jar S (S 0) (S 2) p0 p1 p2 p3 p4 = fX11_jar S zn zj p0 p1 p2 p3 p4 from by rw [← h2, ← h0]]
  exact ⟨⟨(h0.trans (a 0 (by omega)).symm), (h1.trans (a 1 (by omega)).symm), q.1, (h3.trans (a 3 (by omega)).symm), (h4.trans (a 4 (by omega)).symm)⟩, ⟨(h5.trans (a 5 (by omega)).symm), (h6.trans (a 6 (by omega)).symm), (h7.trans (a 7 (by omega)).symm), (h8.trans (a 8 (by omega)).symm), (h9.trans (a 9 (by omega)).symm)⟩, NE_ag hnF (fun i i0 i1 => a i (by omega)), PE_ag hpF (fun i i0 i1 => a i (by omega)), q.2, OE_ag hoF (fun i i0 i1 => a i (by omega)), FE_ag hfF (fun i i0 i1 => a i (by omega)), WE_ag hwF (fun i i0 i1 => a i (by omega))⟩
set_option maxHeartbeats 400000 in
theorem x4_order {S : Nat → Int32} {zn zp zj zo zf nw fm x ws zw : Int32} {nF pF jF oF fF wF : Nat → Int32} {a' : Int32} {F' : Nat → Int32} {p0 p1 p2 p3 : Int32} (h : X4 S zn zp zj zo zf nw fm x ws zw nF pF jF oF fF wF) (g : GD S) (hz : ¬ zo = 6) (e : (a', F') = fX10_order_ok zn zo oF p0 p1 p2 p3) : X4 (fX11_order S (S 0) (S 3) p0 p1 p2 p3) zn zp zj a' zf nw fm x ws zw nF pF jF F' fF wF := by
  obtain ⟨⟨h0, h1, h2, h3, h4⟩, ⟨h5, h6, h7, h8, h9⟩, hnF, hpF, hjF, hoF, hfF, hwF⟩ := h
  have b := GD_3 g
  have bz : 0 ≤ zo.toInt ∧ zo.toInt < 6 := ⟨by rw [h3]; exact b.1, i_lt (m := 6) (by rw [h3]; exact b.2) hz⟩
  have tz := tn_eq bz.1
  skip
  have q := cls_order (n := zn) (p0 := p0) (p1 := p1) (p2 := p2) (p3 := p3) hoF h3 bz.1 bz.2
  rw [← e] at q
  have a : ∀ i : Nat, (i ≠ 3 ∧ (i < 312 ∨ 336 ≤ i)) → fX11_order S zn zo p0 p1 p2 p3 i = S i := fun i hi => order_at bz.1 bz.2 hi.1 (by omega)
  rw [show fX11_order S (S 0) (S 3) p0 p1 p2 p3 = fX11_order S zn zo p0 p1 p2 p3 from by rw [← h3, ← h0]]
  exact ⟨⟨(h0.trans (a 0 (by omega)).symm), (h1.trans (a 1 (by omega)).symm), (h2.trans (a 2 (by omega)).symm), q.1, (h4.trans (a 4 (by omega)).symm)⟩, ⟨(h5.trans (a 5 (by omega)).symm), (h6.trans (a 6 (by omega)).symm), (h7.trans (a 7 (by omega)).symm), (h8.trans (a 8 (by omega)).symm), (h9.trans (a 9 (by omega)).symm)⟩, NE_ag hnF (fun i i0 i1 => a i (by omega)), PE_ag hpF (fun i i0 i1 => a i (by omega)), JE_ag hjF (fun i i0 i1 => a i (by omega)), q.2, FE_ag hfF (fun i i0 i1 => a i (by omega)), WE_ag hwF (fun i i0 i1 => a i (by omega))⟩
set_option maxHeartbeats 400000 in
theorem x4_feast {S : Nat → Int32} {zn zp zj zo zf nw fm x ws zw : Int32} {nF pF jF oF fF wF : Nat → Int32} {a' : Int32} {F' : Nat → Int32} {p0 p1 p2 : Int32} (h : X4 S zn zp zj zo zf nw fm x ws zw nF pF jF oF fF wF) (g : GD S) (hz : ¬ zf = 8) (e : (a', F') = fX10_feast_ok zn zf fF p0 p1 p2) : X4 (fX11_feast S (S 0) (S 4) p0 p1 p2) zn zp zj zo a' nw fm x ws zw nF pF jF oF F' wF := by
  obtain ⟨⟨h0, h1, h2, h3, h4⟩, ⟨h5, h6, h7, h8, h9⟩, hnF, hpF, hjF, hoF, hfF, hwF⟩ := h
  have b := GD_4 g
  have bz : 0 ≤ zf.toInt ∧ zf.toInt < 8 := ⟨by rw [h4]; exact b.1, i_lt (m := 8) (by rw [h4]; exact b.2) hz⟩
  have tz := tn_eq bz.1
  skip
  have q := cls_feast (n := zn) (p0 := p0) (p1 := p1) (p2 := p2) hfF h4 bz.1 bz.2
  rw [← e] at q
  have a : ∀ i : Nat, (i ≠ 4 ∧ (i < 336 ∨ 360 ≤ i)) → fX11_feast S zn zf p0 p1 p2 i = S i := fun i hi => feast_at bz.1 bz.2 hi.1 (by omega)
  rw [show fX11_feast S (S 0) (S 4) p0 p1 p2 = fX11_feast S zn zf p0 p1 p2 from by rw [← h4, ← h0]]
  exact ⟨⟨(h0.trans (a 0 (by omega)).symm), (h1.trans (a 1 (by omega)).symm), (h2.trans (a 2 (by omega)).symm), (h3.trans (a 3 (by omega)).symm), q.1⟩, ⟨(h5.trans (a 5 (by omega)).symm), (h6.trans (a 6 (by omega)).symm), (h7.trans (a 7 (by omega)).symm), (h8.trans (a 8 (by omega)).symm), (h9.trans (a 9 (by omega)).symm)⟩, NE_ag hnF (fun i i0 i1 => a i (by omega)), PE_ag hpF (fun i i0 i1 => a i (by omega)), JE_ag hjF (fun i i0 i1 => a i (by omega)), OE_ag hoF (fun i i0 i1 => a i (by omega)), q.2, WE_ag hwF (fun i i0 i1 => a i (by omega))⟩
set_option maxHeartbeats 400000 in
theorem full_node {S : Nat → Int32} {p0 p1 p2 : Int32} (e : (12 : Int32) = S 0) : fX11_node S (S 0) p0 p1 p2 = S := by
  unfold fX11_node
  rw [if_pos e.symm]
set_option maxHeartbeats 400000 in
theorem iv_node {S : Nat → Int32} {p0 p1 p2 : Int32} (g : GD S) : IV (fX11_node S (S 0) p0 p1 p2) ∧ (fX11_node S (S 0) p0 p1 p2 5).toInt ≤ 99999 := by
  by_cases hz : S 0 = 12
  · rw [full_node hz.symm]; exact g.2
  · have b := GD_0 g
    have bz : 0 ≤ (S 0).toInt ∧ (S 0).toInt < 12 := ⟨b.1, i_lt (m := 12) b.2 hz⟩
    have tz := tn_eq bz.1
    have hr : rN (S 0) := bz
    have a : ∀ i : Nat, (i ≠ 0 ∧ (i < 20 ∨ 68 ≤ i)) → fX11_node S (S 0) p0 p1 p2 i = S i := fun i hi => node_at hr hi.1 (by omega)
    exact ⟨IV_node g.2.1 rfl ⟨b.1, i_lt (m := 12) b.2 hz⟩, by rw [a 5 (by omega)]; exact g.2.2⟩
set_option maxHeartbeats 400000 in
theorem full_pass {S : Nat → Int32} {p0 p1 p2 p3 p4 : Int32} (e : (20 : Int32) = S 1) : fX11_pass S (S 0) (S 1) p0 p1 p2 p3 p4 = S := by
  unfold fX11_pass
  rw [if_pos e.symm]
set_option maxHeartbeats 400000 in
theorem iv_pass {S : Nat → Int32} {p0 p1 p2 p3 p4 : Int32} (g : GD S) : IV (fX11_pass S (S 0) (S 1) p0 p1 p2 p3 p4) ∧ (fX11_pass S (S 0) (S 1) p0 p1 p2 p3 p4 5).toInt ≤ 99999 := by
  by_cases hz : S 1 = 20
  · rw [full_pass hz.symm]; exact g.2
  · have b := GD_1 g
    have bz : 0 ≤ (S 1).toInt ∧ (S 1).toInt < 20 := ⟨b.1, i_lt (m := 20) b.2 hz⟩
    have tz := tn_eq bz.1
    skip
    have a : ∀ i : Nat, (i ≠ 1 ∧ (i < 68 ∨ 168 ≤ i)) → fX11_pass S (S 0) (S 1) p0 p1 p2 p3 p4 i = S i := fun i hi => ref_pass bz.1 bz.2 hi.1 (by omega)
    exact ⟨IV_pass g.2.1 rfl b.1 b.2, by rw [a 5 (by omega)]; exact g.2.2⟩
set_option maxHeartbeats 400000 in
theorem full_jar {S : Nat → Int32} {p0 p1 p2 p3 p4 : Int32} (e : (16 : Int32) = S 2) : fX11_jar S (S 0) (S 2) p0 p1 p2 p3 p4 = S := by
  unfold fX11_jar
  rw [if_pos e.symm]
set_option maxHeartbeats 400000 in
theorem iv_jar {S : Nat → Int32} {p0 p1 p2 p3 p4 : Int32} (g : GD S) : IV (fX11_jar S (S 0) (S 2) p0 p1 p2 p3 p4) ∧ (fX11_jar S (S 0) (S 2) p0 p1 p2 p3 p4 5).toInt ≤ 99999 := by
  by_cases hz : S 2 = 16
  · rw [full_jar hz.symm]; exact g.2
  · have b := GD_2 g
    have bz : 0 ≤ (S 2).toInt ∧ (S 2).toInt < 16 := ⟨b.1, i_lt (m := 16) b.2 hz⟩
    have tz := tn_eq bz.1
    have hr : rJ (S 2) := bz
    have a : ∀ i : Nat, (i ≠ 2 ∧ (i < 168 ∨ 312 ≤ i)) → fX11_jar S (S 0) (S 2) p0 p1 p2 p3 p4 i = S i := fun i hi => jar_at hr hi.1 (by omega)
    exact ⟨IV_newjar g.2.1 rfl ⟨b.1, i_lt (m := 16) b.2 hz⟩ rfl, by rw [a 5 (by omega)]; exact g.2.2⟩
set_option maxHeartbeats 400000 in
theorem full_order {S : Nat → Int32} {p0 p1 p2 p3 : Int32} (e : (6 : Int32) = S 3) : fX11_order S (S 0) (S 3) p0 p1 p2 p3 = S := by
  unfold fX11_order
  rw [if_pos e.symm]
set_option maxHeartbeats 400000 in
theorem iv_order {S : Nat → Int32} {p0 p1 p2 p3 : Int32} (g : GD S) : IV (fX11_order S (S 0) (S 3) p0 p1 p2 p3) ∧ (fX11_order S (S 0) (S 3) p0 p1 p2 p3 5).toInt ≤ 99999 := by
  by_cases hz : S 3 = 6
  · rw [full_order hz.symm]; exact g.2
  · have b := GD_3 g
    have bz : 0 ≤ (S 3).toInt ∧ (S 3).toInt < 6 := ⟨b.1, i_lt (m := 6) b.2 hz⟩
    have tz := tn_eq bz.1
    skip
    have a : ∀ i : Nat, (i ≠ 3 ∧ (i < 312 ∨ 336 ≤ i)) → fX11_order S (S 0) (S 3) p0 p1 p2 p3 i = S i := fun i hi => order_at bz.1 bz.2 hi.1 (by omega)
    exact ⟨IV_fr g.2.1 (fun i hi => a i (by omega)) (by rw [a 0 (by omega)]; exact GD_0 g) (by rw [a 7 (by omega)]; exact g.2.1.2.2.2.2.1), by rw [a 5 (by omega)]; exact g.2.2⟩
set_option maxHeartbeats 400000 in
theorem full_feast {S : Nat → Int32} {p0 p1 p2 : Int32} (e : (8 : Int32) = S 4) : fX11_feast S (S 0) (S 4) p0 p1 p2 = S := by
  unfold fX11_feast
  rw [if_pos e.symm]
set_option maxHeartbeats 400000 in
theorem iv_feast {S : Nat → Int32} {p0 p1 p2 : Int32} (g : GD S) : IV (fX11_feast S (S 0) (S 4) p0 p1 p2) ∧ (fX11_feast S (S 0) (S 4) p0 p1 p2 5).toInt ≤ 99999 := by
  by_cases hz : S 4 = 8
  · rw [full_feast hz.symm]; exact g.2
  · have b := GD_4 g
    have bz : 0 ≤ (S 4).toInt ∧ (S 4).toInt < 8 := ⟨b.1, i_lt (m := 8) b.2 hz⟩
    have tz := tn_eq bz.1
    skip
    have a : ∀ i : Nat, (i ≠ 4 ∧ (i < 336 ∨ 360 ≤ i)) → fX11_feast S (S 0) (S 4) p0 p1 p2 i = S i := fun i hi => feast_at bz.1 bz.2 hi.1 (by omega)
    exact ⟨IV_fr g.2.1 (fun i hi => a i (by omega)) (by rw [a 0 (by omega)]; exact GD_0 g) (by rw [a 7 (by omega)]; exact g.2.1.2.2.2.2.1), by rw [a 5 (by omega)]; exact g.2.2⟩
set_option maxHeartbeats 400000 in
theorem month_at {S : Nat → Int32} {p0 : Int32} {i : Nat} (hi : i ≠ 6) : fX11_month S p0 i = S i := by
  unfold fX11_month
  split
  · rfl
  · rw [bnd_eq, c_k6]
    exact upd_ne (fun q => hi q.symm)
set_option maxHeartbeats 400000 in
theorem from_at {S : Nat → Int32} {n p0 : Int32} {i : Nat} (hi : i ≠ 8 ∧ i ≠ 9) : fX11_from S n p0 i = S i := by
  unfold fX11_from
  split
  · rfl
  · rw [bnd_eq, bnd_eq, c_k8, show (9 : Int32).toNatClampNeg = 9 from by decide, upd_ne (fun q => hi.2 q.symm), upd_ne (fun q => hi.1 q.symm)]
set_option maxHeartbeats 400000 in
theorem lay_at {S : Nat → Int32} {zp zk zw p0 : Int32} {i : Nat} (w0 : 0 ≤ zw.toInt) (w6 : zw.toInt ≤ 6) (hi : i ≠ 9 ∧ (i < 10 ∨ 16 ≤ i)) : (fX11_lay S zp zk zw p0).1 i = S i := by
  unfold fX11_lay
  split
  · rfl
  · split
    · rfl
    · split
      · rfl
      · rename_i k6
        have w5 : zw.toInt < 6 := i_lt (m := 6) w6 k6
        have tz := tn_eq w0
        rw [bnd_eq, bnd_eq]
        split
        · rfl
        · rw [bnd_eq]
          split
          · rw [bnd_eq, bnd_eq, ten w0 (by omega), show (9 : Int32).toNatClampNeg = 9 from by decide]
            show upd (upd S (10 + zw.toNatClampNeg) p0) 9 (zw + 1) i = S i
            rw [upd_ne (fun q => hi.1 q.symm), upd_ne (by omega)]
          · rfl
set_option maxHeartbeats 400000 in
theorem x4_month {S : Nat → Int32} {zn zp zj zo zf nw fm x ws zw : Int32} {nF pF jF oF fF wF : Nat → Int32} {fm' p0 : Int32} (h : X4 S zn zp zj zo zf nw fm x ws zw nF pF jF oF fF wF) (g : GD S) (e : fm' = fX10_month_ok fm p0) : X4 (fX11_month S p0) zn zp zj zo zf nw fm' x ws zw nF pF jF oF fF wF := by
  obtain ⟨⟨h0, h1, h2, h3, h4⟩, ⟨h5, h6, h7, h8, h9⟩, hnF, hpF, hjF, hoF, hfF, hwF⟩ := h
  have a : ∀ i : Nat, i ≠ 6 → fX11_month S p0 i = S i := fun i hi => month_at hi
  have b : fm' = fX11_month S p0 6 := by
    rw [e]
    unfold fX10_month_ok fX11_month
    rw [li_wj (hi := 11) (by decide)]
    split
    · exact h6
    · rw [bnd_eq, c_k6]; exact pk_us.symm
  exact ⟨⟨(h0.trans (a 0 (by omega)).symm), (h1.trans (a 1 (by omega)).symm), (h2.trans (a 2 (by omega)).symm), (h3.trans (a 3 (by omega)).symm), (h4.trans (a 4 (by omega)).symm)⟩, ⟨(h5.trans (a 5 (by omega)).symm), b, (h7.trans (a 7 (by omega)).symm), (h8.trans (a 8 (by omega)).symm), (h9.trans (a 9 (by omega)).symm)⟩, NE_ag hnF (fun i i0 i1 => a i (by omega)), PE_ag hpF (fun i i0 i1 => a i (by omega)), JE_ag hjF (fun i i0 i1 => a i (by omega)), OE_ag hoF (fun i i0 i1 => a i (by omega)), FE_ag hfF (fun i i0 i1 => a i (by omega)), WE_ag hwF (fun i i0 i1 => a i (by omega))⟩
set_option maxHeartbeats 400000 in
theorem iv_month {S : Nat → Int32} {p0 : Int32} (g : GD S) : IV (fX11_month S p0) ∧ (fX11_month S p0 5).toInt ≤ 99999 := ⟨IV_fr g.2.1 (fun i hi => month_at (by omega)) (by rw [month_at (by omega)]; exact GD_0 g) (by rw [month_at (by omega)]; exact g.2.1.2.2.2.2.1), by rw [month_at (by omega)]; exact g.2.2⟩
set_option maxHeartbeats 400000 in
theorem iv_from {S : Nat → Int32} {n p0 : Int32} (g : GD S) : IV (fX11_from S n p0) ∧ (fX11_from S n p0 5).toInt ≤ 99999 := ⟨IV_fr g.2.1 (fun i hi => from_at (by omega)) (by rw [from_at (by omega)]; exact GD_0 g) (by rw [from_at (by omega)]; exact g.2.1.2.2.2.2.1), by rw [from_at (by omega)]; exact g.2.2⟩
set_option maxHeartbeats 400000 in
theorem iv_lay {S : Nat → Int32} {p0 : Int32} (g : GD S) : IV (fX11_lay S (S 1) (S 8) (S 9) p0).1 ∧ ((fX11_lay S (S 1) (S 8) (S 9) p0).1 5).toInt ≤ 99999 := by
  have b := GD_9 g
  exact ⟨IV_fr g.2.1 (fun i hi => lay_at b.1 b.2 (by omega)) (by rw [lay_at b.1 b.2 (by omega)]; exact GD_0 g) (by rw [lay_at b.1 b.2 (by omega)]; exact g.2.1.2.2.2.2.1), by rw [lay_at b.1 b.2 (by omega)]; exact g.2.2⟩
set_option maxHeartbeats 400000 in
theorem x4_from {S : Nat → Int32} {zn zp zj zo zf nw fm x ws zw : Int32} {nF pF jF oF fF wF : Nat → Int32} {ws' zw' p0 : Int32} (h : X4 S zn zp zj zo zf nw fm x ws zw nF pF jF oF fF wF) (g : GD S) (e : (ws', zw') = fX10_from_ok zn zw ws p0) : X4 (fX11_from S (S 0) p0) zn zp zj zo zf nw fm x ws' zw' nF pF jF oF fF wF := by
  obtain ⟨⟨h0, h1, h2, h3, h4⟩, ⟨h5, h6, h7, h8, h9⟩, hnF, hpF, hjF, hoF, hfF, hwF⟩ := h
  have a : ∀ i : Nat, (i ≠ 8 ∧ i ≠ 9) → fX11_from S (S 0) p0 i = S i := fun i hi => from_at hi
  have b : ws' = fX11_from S (S 0) p0 8 ∧ zw' = fX11_from S (S 0) p0 9 := by
    have e1 := congrArg (fun z => z.1) e
    have e2 := congrArg (fun z => z.2) e
    dsimp only at e1 e2
    rw [e1, e2, h0]
    unfold fX10_from_ok fX11_from
    split
    · exact ⟨h8, h9⟩
    · rw [bnd_eq, bnd_eq, c_k8, show (9 : Int32).toNatClampNeg = 9 from by decide]
      exact ⟨(by rw [upd_ne (by decide)]; exact pk_us.symm), pk_us.symm⟩
  exact ⟨⟨(h0.trans (a 0 (by omega)).symm), (h1.trans (a 1 (by omega)).symm), (h2.trans (a 2 (by omega)).symm), (h3.trans (a 3 (by omega)).symm), (h4.trans (a 4 (by omega)).symm)⟩, ⟨(h5.trans (a 5 (by omega)).symm), (h6.trans (a 6 (by omega)).symm), (h7.trans (a 7 (by omega)).symm), b.1, b.2⟩, NE_ag hnF (fun i i0 i1 => a i (by omega)), PE_ag hpF (fun i i0 i1 => a i (by omega)), JE_ag hjF (fun i i0 i1 => a i (by omega)), OE_ag hoF (fun i i0 i1 => a i (by omega)), FE_ag hfF (fun i i0 i1 => a i (by omega)), WE_ag hwF (fun i i0 i1 => a i (by omega))⟩
set_option maxHeartbeats 400000 in
theorem x4_lay {S : Nat → Int32} {zn zp zj zo zf nw fm x ws zw : Int32} {nF pF jF oF fF wF : Nat → Int32} {wF' : Nat → Int32} {zw' p0 r : Int32} (h : X4 S zn zp zj zo zf nw fm x ws zw nF pF jF oF fF wF) (g : GD S) (e : (zw', wF', r) = fX10_lay zp pF zw wF ws p0) : r = (fX11_lay S (S 1) (S 8) (S 9) p0).2 ∧ X4 (fX11_lay S (S 1) (S 8) (S 9) p0).1 zn zp zj zo zf nw fm x ws zw' nF pF jF oF fF wF' := by
  obtain ⟨⟨h0, h1, h2, h3, h4⟩, ⟨h5, h6, h7, h8, h9⟩, hnF, hpF, hjF, hoF, hfF, hwF⟩ := h
  have b := GD_9 g
  have a : ∀ i : Nat, (i ≠ 9 ∧ (i < 10 ∨ 16 ≤ i)) → (fX11_lay S (S 1) (S 8) (S 9) p0).1 i = S i := fun i hi => lay_at b.1 b.2 hi
  obtain ⟨y1, y2, y3⟩ := cls_lay (p := p0) hpF h1 hwF h9 h8 (GD_wr g)
  rw [← e] at y1 y2 y3
  obtain ⟨z1, z2, z3, z4⟩ := ref_lay (f := S) (cn := S) (p := p0) (fun _ _ => rfl) (GD_wr g) rfl rfl
  have c9 : zw' = (fX11_lay S (S 1) (S 8) (S 9) p0).1 9 := y2.trans z4.symm
  have cw : WE wF' (fX11_lay S (S 1) (S 8) (S 9) p0).1 := fun i hi => (y3 i hi).trans (z2 (10 + i) (Or.inl ⟨by omega, by omega⟩)).symm
  exact ⟨y1.trans z1.symm, ⟨⟨(h0.trans (a 0 (by omega)).symm), (h1.trans (a 1 (by omega)).symm), (h2.trans (a 2 (by omega)).symm), (h3.trans (a 3 (by omega)).symm), (h4.trans (a 4 (by omega)).symm)⟩, ⟨(h5.trans (a 5 (by omega)).symm), (h6.trans (a 6 (by omega)).symm), (h7.trans (a 7 (by omega)).symm), (h8.trans (a 8 (by omega)).symm), c9⟩, NE_ag hnF (fun i i0 i1 => a i (by omega)), PE_ag hpF (fun i i0 i1 => a i (by omega)), JE_ag hjF (fun i i0 i1 => a i (by omega)), OE_ag hoF (fun i i0 i1 => a i (by omega)), FE_ag hfF (fun i i0 i1 => a i (by omega)), cw⟩⟩
set_option maxHeartbeats 400000 in
theorem x4_seed {S : Nat → Int32} {zn zp zj zo zf nw fm x ws zw : Int32} {nF pF jF oF fF wF : Nat → Int32} {x' p0 r : Int32} (h : X4 S zn zp zj zo zf nw fm x ws zw nF pF jF oF fF wF) (g : GD S) (e : (x', r) = fX10_seed x p0) : r = (fX11_seed S p0).2 ∧ X4 (fX11_seed S p0).1 zn zp zj zo zf nw fm x' ws zw nF pF jF oF fF wF := by
  obtain ⟨⟨h0, h1, h2, h3, h4⟩, ⟨h5, h6, h7, h8, h9⟩, hnF, hpF, hjF, hoF, hfF, hwF⟩ := h
  obtain ⟨U, y, b, q1, q2, q3, q4, a⟩ := cls_seed (p0 := p0) g.2.1 h7
  rw [q1] at e
  rw [q2]
  cases e
  exact ⟨rfl, ⟨⟨(h0.trans (a 0 (by omega)).symm), (h1.trans (a 1 (by omega)).symm), (h2.trans (a 2 (by omega)).symm), (h3.trans (a 3 (by omega)).symm), (h4.trans (a 4 (by omega)).symm)⟩, ⟨(h5.trans (a 5 (by omega)).symm), (h6.trans (a 6 (by omega)).symm), q3, (h8.trans (a 8 (by omega)).symm), (h9.trans (a 9 (by omega)).symm)⟩, NE_ag hnF (fun i i0 i1 => a i (by omega)), PE_ag hpF (fun i i0 i1 => a i (by omega)), JE_ag hjF (fun i i0 i1 => a i (by omega)), OE_ag hoF (fun i i0 i1 => a i (by omega)), FE_ag hfF (fun i i0 i1 => a i (by omega)), WE_ag hwF (fun i i0 i1 => a i (by omega))⟩⟩
set_option maxHeartbeats 400000 in
theorem x4_fill {S : Nat → Int32} {zn zp zj zo zf nw fm x ws zw : Int32} {nF pF jF oF fF wF : Nat → Int32} {jF' : Nat → Int32} {p0 p1 r : Int32} (h : X4 S zn zp zj zo zf nw fm x ws zw nF pF jF oF fF wF) (g : GD S) (e : (jF', r) = fX10_fill nF zj jF nw fm p0 p1) : r = (fX11_fill S (S 2) (S 6) p0 p1).2 ∧ X4 (fX11_fill S (S 2) (S 6) p0 p1).1 zn zp zj zo zf nw fm x ws zw nF pF jF' oF fF wF := by
  obtain ⟨⟨h0, h1, h2, h3, h4⟩, ⟨h5, h6, h7, h8, h9⟩, hnF, hpF, hjF, hoF, hfF, hwF⟩ := h
  obtain ⟨G, U, b, q1, q2, q3, q4, a⟩ := cls_fill (fm := fm) (j := p0) (p1 := p1) hnF hjF g.2.1 h2 h5
  rw [q1] at e
  rw [← h2, ← h6, q2]
  cases e
  exact ⟨rfl, ⟨⟨(h0.trans (a 0 (by omega)).symm), (h1.trans (a 1 (by omega)).symm), (h2.trans (a 2 (by omega)).symm), (h3.trans (a 3 (by omega)).symm), (h4.trans (a 4 (by omega)).symm)⟩, ⟨(h5.trans (a 5 (by omega)).symm), (h6.trans (a 6 (by omega)).symm), (h7.trans (a 7 (by omega)).symm), (h8.trans (a 8 (by omega)).symm), (h9.trans (a 9 (by omega)).symm)⟩, NE_ag hnF (fun i i0 i1 => a i (by omega)), PE_ag hpF (fun i i0 i1 => a i (by omega)), q3, OE_ag hoF (fun i i0 i1 => a i (by omega)), FE_ag hfF (fun i i0 i1 => a i (by omega)), WE_ag hwF (fun i i0 i1 => a i (by omega))⟩⟩
set_option maxHeartbeats 400000 in
theorem x4_pour {S : Nat → Int32} {zn zp zj zo zf nw fm x ws zw : Int32} {nF pF jF oF fF wF : Nat → Int32} {nF' jF' : Nat → Int32} {p0 r : Int32} (h : X4 S zn zp zj zo zf nw fm x ws zw nF pF jF oF fF wF) (g : GD S) (e : (nF', jF', r) = fX10_pour nF zj jF p0) : r = (fX11_pour S (S 2) p0).2 ∧ X4 (fX11_pour S (S 2) p0).1 zn zp zj zo zf nw fm x ws zw nF' pF jF' oF fF wF := by
  obtain ⟨⟨h0, h1, h2, h3, h4⟩, ⟨h5, h6, h7, h8, h9⟩, hnF, hpF, hjF, hoF, hfF, hwF⟩ := h
  obtain ⟨F, G, U, b, q1, q2, q3, q4, q5, a⟩ := cls_pour (j := p0) hnF hjF g.2.1 h2
  rw [q1] at e
  rw [← h2, q2]
  cases e
  exact ⟨rfl, ⟨⟨(h0.trans (a 0 (by omega)).symm), (h1.trans (a 1 (by omega)).symm), (h2.trans (a 2 (by omega)).symm), (h3.trans (a 3 (by omega)).symm), (h4.trans (a 4 (by omega)).symm)⟩, ⟨(h5.trans (a 5 (by omega)).symm), (h6.trans (a 6 (by omega)).symm), (h7.trans (a 7 (by omega)).symm), (h8.trans (a 8 (by omega)).symm), (h9.trans (a 9 (by omega)).symm)⟩, q3, PE_ag hpF (fun i i0 i1 => a i (by omega)), q4, OE_ag hoF (fun i i0 i1 => a i (by omega)), FE_ag hfF (fun i i0 i1 => a i (by omega)), WE_ag hwF (fun i i0 i1 => a i (by omega))⟩⟩
set_option maxHeartbeats 400000 in
theorem x4_store {S : Nat → Int32} {zn zp zj zo zf nw fm x ws zw : Int32} {nF pF jF oF fF wF : Nat → Int32} {nF' : Nat → Int32} {p0 p1 r : Int32} (h : X4 S zn zp zj zo zf nw fm x ws zw nF pF jF oF fF wF) (g : GD S) (e : (nF', r) = fX10_store zn nF p0 p1) : r = (fX11_store S (S 0) p0 p1).2 ∧ X4 (fX11_store S (S 0) p0 p1).1 zn zp zj zo zf nw fm x ws zw nF' pF jF oF fF wF := by
  obtain ⟨⟨h0, h1, h2, h3, h4⟩, ⟨h5, h6, h7, h8, h9⟩, hnF, hpF, hjF, hoF, hfF, hwF⟩ := h
  obtain ⟨F, U, b, q1, q2, q3, q4, a⟩ := cls_store (k := p0) (p1 := p1) hnF g.2.1 h0
  rw [q1] at e
  rw [← h0, q2]
  cases e
  exact ⟨rfl, ⟨⟨(h0.trans (a 0 (by omega)).symm), (h1.trans (a 1 (by omega)).symm), (h2.trans (a 2 (by omega)).symm), (h3.trans (a 3 (by omega)).symm), (h4.trans (a 4 (by omega)).symm)⟩, ⟨(h5.trans (a 5 (by omega)).symm), (h6.trans (a 6 (by omega)).symm), (h7.trans (a 7 (by omega)).symm), (h8.trans (a 8 (by omega)).symm), (h9.trans (a 9 (by omega)).symm)⟩, q3, PE_ag hpF (fun i i0 i1 => a i (by omega)), JE_ag hjF (fun i i0 i1 => a i (by omega)), OE_ag hoF (fun i i0 i1 => a i (by omega)), FE_ag hfF (fun i i0 i1 => a i (by omega)), WE_ag hwF (fun i i0 i1 => a i (by omega))⟩⟩
set_option maxHeartbeats 400000 in
theorem x4_leave {S : Nat → Int32} {zn zp zj zo zf nw fm x ws zw : Int32} {nF pF jF oF fF wF : Nat → Int32} {jF' : Nat → Int32} {p0 p1 r : Int32} (h : X4 S zn zp zj zo zf nw fm x ws zw nF pF jF oF fF wF) (g : GD S) (e : (jF', r) = fX10_leave zp pF zj jF p0 p1) : r = (fX11_leave S (S 1) (S 2) p0 p1).2 ∧ X4 (fX11_leave S (S 1) (S 2) p0 p1).1 zn zp zj zo zf nw fm x ws zw nF pF jF' oF fF wF := by
  obtain ⟨⟨h0, h1, h2, h3, h4⟩, ⟨h5, h6, h7, h8, h9⟩, hnF, hpF, hjF, hoF, hfF, hwF⟩ := h
  obtain ⟨G, U, b, q1, q2, q3, q4, a⟩ := cls_leave (j := p0) (p := p1) hpF hjF g.2.1 (GD_sp g) h2 h1
  rw [q1] at e
  rw [← h1, ← h2, q2]
  cases e
  exact ⟨rfl, ⟨⟨(h0.trans (a 0 (by omega)).symm), (h1.trans (a 1 (by omega)).symm), (h2.trans (a 2 (by omega)).symm), (h3.trans (a 3 (by omega)).symm), (h4.trans (a 4 (by omega)).symm)⟩, ⟨(h5.trans (a 5 (by omega)).symm), (h6.trans (a 6 (by omega)).symm), (h7.trans (a 7 (by omega)).symm), (h8.trans (a 8 (by omega)).symm), (h9.trans (a 9 (by omega)).symm)⟩, NE_ag hnF (fun i i0 i1 => a i (by omega)), PE_ag hpF (fun i i0 i1 => a i (by omega)), q3, OE_ag hoF (fun i i0 i1 => a i (by omega)), FE_ag hfF (fun i i0 i1 => a i (by omega)), WE_ag hwF (fun i i0 i1 => a i (by omega))⟩⟩
/-- a world that spells S -/
def wNE (S : Nat → Int32) : Nat → Int32 := fun i => S (20 + i)
def wPE (S : Nat → Int32) : Nat → Int32 := fun i => S (68 + i)
def wJE (S : Nat → Int32) : Nat → Int32 := fun i => S (168 + 9 * (i / 9) + jcl (i % 9))
set_option maxHeartbeats 400000 in
theorem wNE_h (S : Nat → Int32) : NE (wNE S) S := fun _ _ => rfl
set_option maxHeartbeats 400000 in
theorem wPE_h (S : Nat → Int32) : PE (wPE S) S := fun _ _ => rfl
set_option maxHeartbeats 400000 in
theorem wJE_h (S : Nat → Int32) : JE (wJE S) S := fun j c hj hc => by
  unfold wJE
  rw [show (9 * j + c) / 9 = j from by omega, show (9 * j + c) % 9 = c from by omega]
set_option maxHeartbeats 400000 in
theorem iv_seed {S : Nat → Int32} {p0 : Int32} (g : GD S) : IV (fX11_seed S p0).1 ∧ ((fX11_seed S p0).1 5).toInt ≤ 99999 := by
  obtain ⟨U, y, b, q1, q2, q3, q4, a⟩ := cls_seed (p0 := p0) g.2.1 rfl
  rw [q2]
  exact ⟨q4, by show (U 5).toInt ≤ _; rw [a 5 (by omega)]; exact g.2.2⟩
set_option maxHeartbeats 400000 in
theorem iv_fill {S : Nat → Int32} {p0 p1 : Int32} (g : GD S) : IV (fX11_fill S (S 2) (S 6) p0 p1).1 ∧ ((fX11_fill S (S 2) (S 6) p0 p1).1 5).toInt ≤ 99999 := by
  obtain ⟨G, U, b, q1, q2, q3, q4, a⟩ := cls_fill (fm := S 6) (j := p0) (p1 := p1) (wNE_h S) (wJE_h S) g.2.1 rfl rfl
  rw [q2]
  exact ⟨q4, by show (U 5).toInt ≤ _; rw [a 5 (by omega)]; exact g.2.2⟩
set_option maxHeartbeats 400000 in
theorem iv_pour {S : Nat → Int32} {p0 : Int32} (g : GD S) : IV (fX11_pour S (S 2) p0).1 ∧ ((fX11_pour S (S 2) p0).1 5).toInt ≤ 99999 := by
  obtain ⟨F, G, U, b, q1, q2, q3, q4, q5, a⟩ := cls_pour (j := p0) (wNE_h S) (wJE_h S) g.2.1 rfl
  rw [q2]
  exact ⟨q5, by show (U 5).toInt ≤ _; rw [a 5 (by omega)]; exact g.2.2⟩
set_option maxHeartbeats 400000 in
theorem iv_store {S : Nat → Int32} {p0 p1 : Int32} (g : GD S) : IV (fX11_store S (S 0) p0 p1).1 ∧ ((fX11_store S (S 0) p0 p1).1 5).toInt ≤ 99999 := by
  obtain ⟨F, U, b, q1, q2, q3, q4, a⟩ := cls_store (k := p0) (p1 := p1) (wNE_h S) g.2.1 rfl
  rw [q2]
  exact ⟨q4, by show (U 5).toInt ≤ _; rw [a 5 (by omega)]; exact g.2.2⟩
set_option maxHeartbeats 400000 in
theorem iv_leave {S : Nat → Int32} {p0 p1 : Int32} (g : GD S) : IV (fX11_leave S (S 1) (S 2) p0 p1).1 ∧ ((fX11_leave S (S 1) (S 2) p0 p1).1 5).toInt ≤ 99999 := by
  obtain ⟨G, U, b, q1, q2, q3, q4, a⟩ := cls_leave (j := p0) (p := p1) (wPE_h S) (wJE_h S) g.2.1 (GD_sp g) rfl rfl
  rw [q2]
  exact ⟨q4, by show (U 5).toInt ≤ _; rw [a 5 (by omega)]; exact g.2.2⟩
set_option maxHeartbeats 400000 in
theorem hours_5 {L : Cls} {ch : Int32} : ∀ (n : Nat) (S : Nat → Int32), IV S → (S 5).toInt + n ≤ 199999 → (hoursS L ch n S 5).toInt = (S 5).toInt + n
  | 0, S, _, _ => by show (S 5).toInt = _; omega
  | n + 1, S, h, h5 => by
    have a := hour_iv (L := L) (ch := ch) h (by omega)
    have s5 := h.2.2.2.2.2.1
    have e : (hourS S L ch 5).toInt = (S 5).toInt + 1 := by rw [a.2.2]; exact zadd1 (by omega)
    have := hours_5 (L := L) (ch := ch) n (hourS S L ch) a.1 (by omega)
    show (hoursS L ch n (hourS S L ch) 5).toInt = _
    rw [this, e]; omega
set_option maxHeartbeats 400000 in
theorem tkS_at {S : Nat → Int32} {L : Cls} {ch p : Int32} (g : GD S) : (∀ i : Nat, i ≠ 7 → i ≠ 5 → (i < 20 ∨ (68 ≤ i ∧ i < 168) ∨ 312 ≤ i) → tkS S L ch p i = S i) ∧ IV (tkS S L ch p) ∧ (tkS S L ch p 5).toInt ≤ 99999 := by
  unfold tkS
  split
  · exact ⟨fun _ _ _ _ => rfl, g.2⟩
  · split
    · exact ⟨fun _ _ _ _ => rfl, g.2⟩
    · split
      · rename_i a b c
        have n := tk_n g.2.1 a b c
        have tp := tn_eq n.1
        have q := hours_iv (L := L) (ch := ch) p.toNatClampNeg S g.2.1 (by omega)
        exact ⟨q.2, q.1, by rw [hours_5 p.toNatClampNeg S g.2.1 (by omega)]; omega⟩
      · exact ⟨fun _ _ _ _ => rfl, g.2⟩
set_option maxHeartbeats 400000 in
theorem x4_tick {S : Nat → Int32} {zn zp zj zo zf nw fm x ws zw : Int32} {nF pF jF oF fF wF : Nat → Int32} {L : Cls} {ch p nw' x' : Int32} {nF' jF' : Nat → Int32} (h : X4 S zn zp zj zo zf nw fm x ws zw nF pF jF oF fF wF) (g : GD S) (e5 : nw' = tkS S L ch p 5) (e7 : x' = tkS S L ch p 7) (en : NE nF' (tkS S L ch p)) (ej : JE jF' (tkS S L ch p)) : X4 (tkS S L ch p) zn zp zj zo zf nw' fm x' ws zw nF' pF jF' oF fF wF := by
  obtain ⟨⟨h0, h1, h2, h3, h4⟩, ⟨h5, h6, h7, h8, h9⟩, hnF, hpF, hjF, hoF, hfF, hwF⟩ := h
  have q := (tkS_at (L := L) (ch := ch) (p := p) g).1
  have a : ∀ i : Nat, (i ≠ 7 ∧ i ≠ 5 ∧ (i < 20 ∨ (68 ≤ i ∧ i < 168) ∨ 312 ≤ i)) → tkS S L ch p i = S i := fun i hi => q i hi.1 hi.2.1 hi.2.2
  exact ⟨⟨(h0.trans (a 0 (by omega)).symm), (h1.trans (a 1 (by omega)).symm), (h2.trans (a 2 (by omega)).symm), (h3.trans (a 3 (by omega)).symm), (h4.trans (a 4 (by omega)).symm)⟩, ⟨e5, (h6.trans (a 6 (by omega)).symm), e7, (h8.trans (a 8 (by omega)).symm), (h9.trans (a 9 (by omega)).symm)⟩, en, PE_ag hpF (fun i i0 i1 => a i (by omega)), ej, OE_ag hoF (fun i i0 i1 => a i (by omega)), FE_ag hfF (fun i i0 i1 => a i (by omega)), WE_ag hwF (fun i i0 i1 => a i (by omega))⟩
set_option maxHeartbeats 400000 in
theorem X4_ext {S U : Nat → Int32} {zn zp zj zo zf nw fm x ws zw : Int32} {nF pF jF oF fF wF : Nat → Int32} (h : X4 S zn zp zj zo zf nw fm x ws zw nF pF jF oF fF wF) (a : ∀ i : Nat, i < 360 → U i = S i) : X4 U zn zp zj zo zf nw fm x ws zw nF pF jF oF fF wF := by
  obtain ⟨⟨h0, h1, h2, h3, h4⟩, ⟨h5, h6, h7, h8, h9⟩, hnF, hpF, hjF, hoF, hfF, hwF⟩ := h
  exact ⟨⟨(h0.trans (a 0 (by omega)).symm), (h1.trans (a 1 (by omega)).symm), (h2.trans (a 2 (by omega)).symm), (h3.trans (a 3 (by omega)).symm), (h4.trans (a 4 (by omega)).symm)⟩, ⟨(h5.trans (a 5 (by omega)).symm), (h6.trans (a 6 (by omega)).symm), (h7.trans (a 7 (by omega)).symm), (h8.trans (a 8 (by omega)).symm), (h9.trans (a 9 (by omega)).symm)⟩, NE_ag hnF (fun i i0 i1 => a i (by omega)), PE_ag hpF (fun i i0 i1 => a i (by omega)), JE_ag hjF (fun i i0 i1 => a i (by omega)), OE_ag hoF (fun i i0 i1 => a i (by omega)), FE_ag hfF (fun i i0 i1 => a i (by omega)), WE_ag hwF (fun i i0 i1 => a i (by omega))⟩
set_option maxHeartbeats 400000 in
theorem GD_bk {c S : Nat → Int32} (g : GD c) : GD (bkW c S) := by
  have a : ∀ i : Nat, i < 360 → bkW c S i = c i := fun i hi => bkW_at hi
  exact ⟨SC_whole (SC_ext g.1 (fun i hi => a i hi)), IV_bk g.2.1, by rw [a 5 (by omega)]; exact g.2.2⟩
set_option maxHeartbeats 400000 in
theorem at_4 {S : Nat → Int32} {zn zp zj zo zf nw fm x ws zw : Int32} {nF pF jF oF fF wF : Nat → Int32} {p0 p1 : Int32} (h : X4 S zn zp zj zo zf nw fm x ws zw nF pF jF oF fF wF) (g : GD S) : fX10_at zn nF zj jF nw fm p0 p1 = fX11_at S (S 0) (S 2) (S 6) p0 p1 := by
  obtain ⟨⟨h0, h1, h2, h3, h4⟩, ⟨h5, h6, h7, h8, h9⟩, hnF, hpF, hjF, hoF, hfF, hwF⟩ := h
  rw [← h0, ← h2, ← h6]
  exact at_x hnF hjF g.2.1 h0 h2 h5
set_option maxHeartbeats 400000 in
theorem of_4 {S : Nat → Int32} {zn zp zj zo zf nw fm x ws zw : Int32} {nF pF jF oF fF wF : Nat → Int32} {p0 p1 : Int32} (h : X4 S zn zp zj zo zf nw fm x ws zw nF pF jF oF fF wF) (g : GD S) : fX10_of zj jF p0 p1 = fX11_of S (S 2) p0 p1 := by
  obtain ⟨⟨h0, h1, h2, h3, h4⟩, ⟨h5, h6, h7, h8, h9⟩, hnF, hpF, hjF, hoF, hfF, hwF⟩ := h
  rw [← h2]
  exact of_x hjF g.2.1 h2
set_option maxHeartbeats 400000 in
theorem count_4 {S : Nat → Int32} {zn zp zj zo zf nw fm x ws zw : Int32} {nF pF jF oF fF wF : Nat → Int32} {tl lc p0 : Int32} (h : X4 S zn zp zj zo zf nw fm x ws zw nF pF jF oF fF wF) (g : GD S) : fX10_count tl lc zn zp zj zo zf zw ws nw fm x p0 = fX11_count tl lc S (S 0) (S 1) (S 2) (S 3) (S 4) (S 6) (S 8) (S 9) p0 := by
  obtain ⟨⟨h0, h1, h2, h3, h4⟩, ⟨h5, h6, h7, h8, h9⟩, hnF, hpF, hjF, hoF, hfF, hwF⟩ := h
  have b8 : (ws = -1 ↔ ¬ 0 ≤ ws) := by
    have q := g.1.2.2.2.2.2.2.1.1
    rw [← h8] at q
    constructor
    · intro q1; rw [q1]; decide
    · intro q1; grind
  rw [← h0, ← h1, ← h2, ← h3, ← h4, ← h6, ← h8, ← h9]
  unfold fX10_count fX11_count
  rw [← h5, ← h7, bnd_eq, bnd_eq, cls_mon]
  by_cases c : ws = -1
  · rw [if_pos c, if_neg (b8.mp c)]
  · rw [if_neg c, if_pos (Decidable.not_not.mp (fun q => c (b8.mpr q)))]
def meA (S : Nat → Int32) (L : Cls) (j : Int32) : Int32 := if hs j (S 2) = 0 then -1 else if S (168 + 9 * j.toNatClampNeg + 5) = 13 then -1 else mel S L j
set_option maxHeartbeats 400000 in
theorem melt_c {S : Nat → Int32} {zn zp zj zo zf nw fm x ws zw : Int32} {nF pF jF oF fF wF : Nat → Int32} {cF so s1 s2 t1 t2 yj yo y1 y2 y3 y4 y5 : Nat → Int32} {cb cc co yc j : Int32} {L : Cls} (h : X4 S zn zp zj zo zf nw fm x ws zw nF pF jF oF fF wF) (g : GD S) (hX : LWX so s1 s2 t1 t2 yj yo y1 y2 y3 y4 y5 yc L) : (fX10_melt_yes nF zp pF zj jF nw fm cF cb cc co so s1 s2 t1 t2 yj yo y1 y2 y3 y4 y5 yc j).2.2.2.2 = meA S L j := by
  obtain ⟨⟨h0, h1, h2, h3, h4⟩, ⟨h5, h6, h7, h8, h9⟩, hnF, hpF, hjF, hoF, hfF, hwF⟩ := h
  unfold fX10_melt_yes meA
  rw [← h2]
  by_cases d : hs j zj = 0
  · rw [if_pos d, if_pos d]
  · have hj := hs_j g.2.1 h2 d
    rw [if_neg d, if_neg d, bndv (jg1 hjF hj)]
    by_cases w : S (168 + 9 * j.toNatClampNeg + 5) = 13
    · rw [if_pos w, if_pos w]
    · have e1 := cls_mel (cF := cF) (cb := cb) (ch := cc) (co := co) hX hnF hpF hjF h1 h5 h6 hj (JOK_of (g.2.1.1 j hj)) w
      rw [if_neg w, if_neg w, bnd_eq, bnd_eq, bnd_eq, bnd_eq, bnd_eq, bnd_eq]
      exact e1
set_option maxHeartbeats 400000 in
theorem melt_r {S sg cl cs : Nat → Int32} {sk wd : Nat → Int64} {laws top law j : Int32} {L : Cls} (g : GD S) (hR : LWR sg cl cs law L) (hl : ¬ hs law laws = 0) : (fX11_melt laws top sg cl cs sk wd S (S 2) (S 6) law j).2.2.2 = meA S L j := by
  unfold fX11_melt meA
  rw [if_neg hl]
  by_cases d : hs j (S 2) = 0
  · rw [if_pos d, if_pos d]
  · have hj := hs_j g.2.1 rfl d
    rw [if_neg d, if_neg d, cj5 hj]
    by_cases w : S (168 + 9 * j.toNatClampNeg + 5) = 13
    · rw [if_pos w, if_pos w]
    · have e2 := ref_mel (sk := sk) (wd := wd) (top := top) hR hj (JOK_of (g.2.1.1 j hj)) w
      rw [if_neg w, if_neg w, bnd_eq, bnd_eq, bnd_eq, bnd_eq, bnd_eq]
      exact e2
