theorem wl_F {A0 : Nat → Prop} {H0 H : Heap} {locs : List Loc} {wa wb : va_W} (hD : va_D A0 (wa ++ wb)) (hS : va_S A0 H0 H locs) (hA : ∀ q, H0.size ≤ q → A0 q) : ∀ q, va_A wa H.size q → A0 q := by
  intro q h
  rcases h with ⟨k, e1, h⟩ | h
  · exact hD.2 k (q, e1) (by rw [List.getElem?_append_left (List.getElem?_eq_some_iff.mp h).1]; exact h)
  · exact hA q (Nat.le_trans hS.1 h)
theorem z_sc0 {i : Int32} {L : Nat} (hi : 0 ≤ i.toInt ∧ i.toInt + 10 ≤ L) (hL : L ≤ 5120) : vp_in i L := by
  intro q
  rcases q with q | q
  · rw [Int32.lt_iff_toInt_lt, z_i0] at q; omega
  · have : L ≤ i.toInt.toNat := q
    omega
theorem z_scE {i j : Int32} {L n : Nat} (hi : 0 ≤ i.toInt ∧ i.toInt + 10 ≤ L) (hL : L ≤ 5120) (hj : j.toInt = n) (hn : n < 10) : (i + j).toInt = i.toInt + n := by
  rw [zadd (by rw [hj]; omega) (by rw [hj]; omega), hj]
theorem z_sc {i j : Int32} {L n : Nat} (hi : 0 ≤ i.toInt ∧ i.toInt + 10 ≤ L) (hL : L ≤ 5120) (hj : j.toInt = n) (hn : n < 10) : vp_in (i + j) L := by
  have e := z_scE hi hL hj hn
  intro q
  rcases q with q | q
  · rw [Int32.lt_iff_toInt_lt, z_i0, e] at q; omega
  · have : L ≤ (i + j).toInt.toNat := q
    omega
theorem z_i10 {i i2 : Int32} {L : Nat} (hi : 0 ≤ i.toInt ∧ i.toInt + 10 ≤ L) (hL : L ≤ 5120) (e : i2 = i + 10) : i2.toInt = i.toInt + 10 := by
  have h10 : (10 : Int32).toInt = 10 := by decide
  rw [e, zadd (by rw [h10]; omega) (by rw [h10]; omega), h10]
theorem z_ofN {L : Nat} (hL : L ≤ 5120) : (Int32.ofNat L).toInt = L := by
  rw [Int32.toInt_ofNat']
  have hs : Int32.size = 4294967296 := rfl
  exact Int.bmod_eq_of_le (by omega) (by omega)
theorem z_len {i : Int32} {L : Nat} (hL : L ≤ 5120) (h : ¬ Int32.ofNat L - 10 < i) : i.toInt + 10 ≤ L := by
  have h10 : (10 : Int32).toInt = 10 := by decide
  have e := z_ofN hL
  have g := mt Int32.lt_iff_toInt_lt.mpr h
  rw [zsub (by rw [h10, e]; omega) (by rw [h10, e]; omega), h10, e] at g
  omega
theorem Linv_0 (f cl cs : Nat → Int32) : Linv 0 f cl cs := ⟨⟨by decide, by decide⟩, fun t h0 h1 => absurd (by grind) h1⟩
/-- the String constant at the start -/
abbrev kS : Term := Term.string "SnowMules$LawReader" 91
abbrev kV : Term := Term.field kS "java/lang/String" "value" "[B"
theorem zs_el : ∀ j : Nat, j < 99 → (Cond.eq (.elem kV (.int (Int32.ofNat j))) (.int (bS.getD j 0))) ∈ flatC (Jvm.Cond.and given_1 narrow_1) := by decide +kernel
theorem zs_0 : Cond.exactly kS "java/lang/String" ∈ flatC (Jvm.Cond.and given_1 narrow_1) := by decide +kernel
theorem zs_1 : Cond.eq (.field kS "java/lang/String" "coder" "B") (.int 0) ∈ flatC (Jvm.Cond.and given_1 narrow_1) := by decide +kernel
theorem zs_2 : Cond.arrayOf kV .byte ∈ flatC (Jvm.Cond.and given_1 narrow_1) := by decide +kernel
theorem zs_3 : Cond.eq (.length kV) (.int (Int32.ofNat 99)) ∈ flatC (Jvm.Cond.and given_1 narrow_1) := by decide +kernel
theorem zs_4 : Cond.eq (.static "java/lang/String" "COMPACT_STRINGS" "Z") (.int 1) ∈ flatC (Jvm.Cond.and given_1 narrow_1) := by decide +kernel
theorem zs_5 : Cond.isRef (.static "jdk/internal/util/Preconditions" "SIOOBE_FORMATTER" "Ljava/util/function/BiFunction;") ∈ flatC (Jvm.Cond.and given_1 narrow_1) := by decide +kernel
theorem zs_t0 : Cond.stringRef RX2 91 tS ∈ lw_tbl := by decide +kernel
theorem zs_t1 : Cond.laysStatic "java/lang/String" "COMPACT_STRINGS" "Z" ∈ lw_tbl := by decide +kernel
theorem zs_t2 : Cond.laysStatic "jdk/internal/util/Preconditions" "SIOOBE_FORMATTER" "Ljava/util/function/BiFunction;" ∈ lw_tbl := by decide +kernel
theorem zs_t3 : Cond.initialized "java/lang/String" ∈ lw_tbl := by decide +kernel
theorem zs_t4 : Cond.initialized "jdk/internal/util/Preconditions" ∈ lw_tbl := by decide +kernel
theorem z_strs {b : Nat} {s : State} (hts : ∀ w ∈ lw_tbl, w.before #[Value.ref b] s = true) (hg : (Jvm.Cond.and given_1 narrow_1).before #[Value.ref b] s = true) : ∃ (aS vS : Nat) (oS : Option Nat), zStr aS vS oS (fun q : Nat => s.heap.size ≤ q) s s.heap := by
  have hs := flat_of_before _ hg
  have hA : ∀ a : Nat, a < s.heap.size → ¬ (fun q : Nat => s.heap.size ≤ q) a := fun a h q => absurd h (Nat.not_lt.mpr q)
  obtain ⟨adK, adV, hS, hE⟩ := vk_Sof (args := #[Value.ref b]) (s := s) (N := 1) (tm := fun _ => kS) (len := [99]) (byt := [bS]) (A := fun q : Nat => s.heap.size ≤ q)
    (fun i hi => by obtain rfl : i = 0 := (by omega); decide) (fun _ _ => hs _ zs_0) (fun _ _ => hs _ zs_1) (fun _ _ => hs _ zs_2)
    (fun i hi => by obtain rfl : i = 0 := (by omega); exact hs _ zs_3) (fun i hi j hj => by obtain rfl : i = 0 := (by omega); exact hs _ (zs_el j hj)) (fun i j hi hj hne => absurd (by omega) hne) hA
  have h0 := hS.1 0 (by decide)
  have hz : va_Zq "jdk/internal/util/Preconditions" "SIOOBE_FORMATTER" "Ljava/util/function/BiFunction;" (fun q : Nat => s.heap.size ≤ q) s s.heap := va_Zqof (hts _ zs_t2) (hts _ zs_t4) (hs _ zs_5) hA
  have hc : va_Z "java/lang/String" "COMPACT_STRINGS" "Z" (.int 1) (fun q : Nat => s.heap.size ≤ q) s s.heap := va_Zof (hts _ zs_t1) (hts _ zs_t3) (va_eqt (hs _ zs_4)) hA
  have hR : vk_R RX2 91 tS (adK 0) s := vk_R.of (hts _ zs_t0) (hE 0 (by decide))
  rcases hz with hz | ⟨t, hz⟩
  · exact ⟨adK 0, adV 0, none, hR, h0.1, h0.2.1, h0.2.2.1, h0.2.2.2, hc, hz⟩
  · exact ⟨adK 0, adV 0, some t, hR, h0.1, h0.2.1, h0.2.2.1, h0.2.2.2, hc, hz⟩
def LInv (kA : Nat → ClassId) (x0 n0 : Nat) (wx wm : va_W) : Prop := ∃ (S : Nat → Int32) (LL : Nat → Cls) (im : Nat → Option (Nat → Int32)), XOK4 kA x0 S LL im wx ∧ MOK4 kA n0 S LL im wm
theorem XOK_rec {dC : Nat → ClassId} {dI : Nat → Nat → Nat} {kA : Nat → ClassId} {s : State} {H : Heap} {x0 : Nat} {S : Nat → Int32} {LL : Nat → Cls} {im : Nat → Option (Nat → Int32)} {wx wm : va_W} (hK : zK dC dI kA s) (h : XOK4 kA x0 S LL im wx) (hP : va_P (dC, dI) vwCl (wx ++ wm) H) : ∃ cell : Cell, H[x0]? = some cell ∧ cell.vm.isStatics = false ∧ s.vm.findClass RX10 = some cell.cls := by
  refine h _ (fun z0 xi xt xq rdr h0 t0 q0 v0 m0 w0 x_tl x_lc xtF xiF xqF tnodes tnodesA tnodesS tnodesF tpasses tpassesA tpassesS tpassesF tjars tjarsA tjarsS tjarsF torders tordersA tordersS tordersF tfeasts tfeastsA tfeastsS tfeastsF tway twayA twayS twayF tws tnow tfm tx znodes znodesA znodesS znodesF zpasses zpassesA zpassesS zpassesF zjars zjarsA zjarsS zjarsF zorders zordersA zordersS zordersF zfeasts zfeastsA zfeastsS zfeastsF zway zwayA zwayS zwayF zws znow zfm zx s0 cW cF cb ch co s1 ddW ddF ddb ddh ddo t_drops t_hour t_warmth t_needed t_felt t_salt l9 l8 q_left q_leaving q_length q_target q_barred q_latest q_waited q_any qf qr qb qfF qrF qbF v_found v_due va vb vc vaF vbF vcF k_paid ko kc koF kcF r_tokenCount r_next r_fault r_parts r_chained rt rp rtF rpF T hp he htl hlc hg hb => ?_)
  obtain ⟨k, hk⟩ := List.getElem?_of_mem (List.mem_append_left wm (hp.mem_iff.mpr (List.mem_append_left T (show (x0, _) ∈ xw kA x0 z0 xi xt xq rdr h0 t0 q0 v0 m0 w0 x_tl x_lc xtF xiF xqF tnodes tnodesA tnodesS tnodesF tpasses tpassesA tpassesS tpassesF tjars tjarsA tjarsS tjarsF torders tordersA tordersS tordersF tfeasts tfeastsA tfeastsS tfeastsF tway twayA twayS twayF tws tnow tfm tx znodes znodesA znodesS znodesF zpasses zpassesA zpassesS zpassesF zjars zjarsA zjarsS zjarsF zorders zordersA zordersS zordersF zfeasts zfeastsA zfeastsS zfeastsF zway zwayA zwayS zwayF zws znow zfm zx s0 cW cF cb ch co s1 ddW ddF ddb ddh ddo t_drops t_hour t_warmth t_needed t_felt t_salt l9 l8 q_left q_leaving q_length q_target q_barred q_latest q_waited q_any qf qr qb qfF qrF qbF v_found v_due va vb vc vaF vbF vcF k_paid ko kc koF kcF r_tokenCount r_next r_fault r_parts r_chained rt rp rtF rpF from List.mem_cons_self))))
  exact va_recv hK.1 hP (ci := 10) (q0 := k) rfl hk
theorem MOK_rec {dC : Nat → ClassId} {dI : Nat → Nat → Nat} {kA : Nat → ClassId} {s : State} {H : Heap} {n0 : Nat} {S : Nat → Int32} {LL : Nat → Cls} {im : Nat → Option (Nat → Int32)} {wx wm : va_W} (hK : zK dC dI kA s) (h : MOK4 kA n0 S LL im wm) (hP : va_P (dC, dI) vwCl (wm ++ wx) H) : ∃ cell : Cell, H[n0]? = some cell ∧ cell.vm.isStatics = false ∧ s.vm.findClass RX11 = some cell.cls := by
  refine h _ (fun m_taped m_laws m_next m_wrong m_number m_text m_made m_deep m_lines m_opened m_top m_goNode m_goDrops m_goHour m_goFelt m_goSalt m_goMore m_bestLeft m_bestHour m_bestMany a_tape a_sign a_length a_clause a_clauses a_chain a_open a_stack a_word a_said a_kept a_stepNode a_stepDrops a_stepHour a_stepNext a_stepPass a_bestPass a_far a_waited a_servers a_images a_isMade tapeF signF lengthF clauseF clausesF chainF openF stackF wordF saidF keptF stepNodeF stepDropsF stepHourF stepNextF stepPassF bestPassF farF waitedF serversF imagesF isMadeF hp hS hgd hxt hli htp him hg hrl => ?_)
  obtain ⟨k, hk⟩ := List.getElem?_of_mem (List.mem_append_left wx (hp.mem_iff.mpr (show (n0, _) ∈ mw kA n0 m_taped m_laws m_next m_wrong m_number m_text m_made m_deep m_lines m_opened m_top m_goNode m_goDrops m_goHour m_goFelt m_goSalt m_goMore m_bestLeft m_bestHour m_bestMany a_tape a_sign a_length a_clause a_clauses a_chain a_open a_stack a_word a_said a_kept a_stepNode a_stepDrops a_stepHour a_stepNext a_stepPass a_bestPass a_far a_waited a_servers a_images a_isMade tapeF signF lengthF clauseF clausesF chainF openF stackF wordF saidF keptF stepNodeF stepDropsF stepHourF stepNextF stepPassF bestPassF farF waitedF serversF imagesF isMadeF from List.mem_cons_self)))
  exact va_recv hK.1 hP (ci := 11) (q0 := k) rfl hk
theorem zt_n0 : Cond.methodLinkNest RX10 9 yX9_init RX10 ∈ lw_tbl := by decide +kernel
theorem zt_n1 : Cond.methodLinkNest RX10 35 yX2_init RX10 ∈ lw_tbl := by decide +kernel
theorem zt_n2 : Cond.methodLinkNest RX2 22 yX1_init RX10 ∈ lw_tbl := by decide +kernel
theorem zt_n3 : Cond.methodLinkNest RX10 42 yX0_init RX10 ∈ lw_tbl := by decide +kernel
theorem zt_n4 : Cond.methodLinkNest RX0 11 yX4_init RX10 ∈ lw_tbl := by decide +kernel
theorem zt_n5 : Cond.methodLinkNest RX7 11 yX1_init RX10 ∈ lw_tbl := by decide +kernel
theorem zt_n6 : Cond.methodLinkNest RX7 20 yX4_init RX10 ∈ lw_tbl := by decide +kernel
theorem zt_n7 : Cond.methodLinkNest RX10 131 yX1_init RX10 ∈ lw_tbl := by decide +kernel
theorem zt_n8 : Cond.methodLinkNest RX0 90 yX10_held RX10 ∈ lw_tbl := by decide +kernel
theorem zt_n9 : Cond.methodLinkNest RX7 70 yX10_held RX10 ∈ lw_tbl := by decide +kernel
theorem zt_n10 : Cond.fieldLinkNest RX2 150 "SnowMules$Law" "values" "I" RX10 ∈ lw_tbl := by decide +kernel
theorem zt_a0 : Cond.arrayClass .int ∈ lw_tbl := tin wt18
theorem zt_a1 : Cond.arrayClass .byte ∈ lw_tbl := tin wt142
theorem zt_a2 : Cond.arrayClass .long ∈ lw_tbl := tin wt150
theorem zt_a3 : Cond.arrayClass .boolean ∈ lw_tbl := tin wt165
theorem zt_o0 : Cond.arrayOver (.object RX9) ∈ lw_tbl := by decide +kernel
theorem zt_o1 : Cond.arrayOver (.object RX1) ∈ lw_tbl := by decide +kernel
theorem zt_i0 : Cond.instantiable RX0 1 ∈ lw_tbl := tin wt27
theorem zt_i1 : Cond.instantiable RX1 17 ∈ lw_tbl := tin wt75
theorem zt_i2 : Cond.instantiable RX2 8 ∈ lw_tbl := tin wt23
theorem zt_i3 : Cond.instantiable RX3 4 ∈ lw_tbl := tin wt43
theorem zt_i4 : Cond.instantiable RX4 4 ∈ lw_tbl := tin wt97
theorem zt_i5 : Cond.instantiable RX5 13 ∈ lw_tbl := tin wt35
theorem zt_i6 : Cond.instantiable RX6 3 ∈ lw_tbl := tin wt50
theorem zt_i7 : Cond.instantiable RX7 9 ∈ lw_tbl := tin wt31
theorem zt_i8 : Cond.instantiable RX8 7 ∈ lw_tbl := tin wt39
theorem zt_i9 : Cond.instantiable RX9 10 ∈ lw_tbl := tin wt13
theorem zt_i10 : Cond.instantiable RX10 13 ∈ lw_tbl := tin wt1
theorem zt_i11 : Cond.instantiable RX11 42 ∈ lw_tbl := tin wt4
theorem z_arr {args : Array Value} {s : State} {ty : FieldType} (h : (Cond.arrayClass ty).before args s = true) : ∃ cA : ClassId, ArrOfT s cA ty ∧ s.vm.findClass ("[" ++ ty.toString) = some cA := by
  obtain ⟨cA, k, comp, h1, h2, h3⟩ := Cond.arrayClass_spec h
  exact ⟨cA, fun n z => ⟨fun k h => (by cases h), k, h2, comp, h3⟩, h1⟩
theorem z_arro {args : Array Value} {s : State} {C : String} (h : (Cond.arrayOver (.object C)).before args s = true) : ∃ cA : ClassId, ArrOfT s cA (.object C) ∧ va_RA s cA (.object C) := by
  obtain ⟨comp, cA, k, h1, h2, h3, h4, h5⟩ := Cond.arrayOver_spec h
  exact ⟨cA, fun n z => ⟨fun k h => (by cases h), k, h3, comp, h4⟩, k, comp, h3, h4, h1, h5⟩
theorem z_start {args : Array Value} {s : State} (hts : ∀ w ∈ lw_tbl, w.before args s = true) : ∃ (dC : Nat → ClassId) (dI : Nat → Nat → Nat) (kA : Nat → ClassId), zK dC dI kA s := by
  obtain ⟨c0, iS0, hk0⟩ := u_known (C := RX0) (T := TX0) (N := 1) (n := 1) hts inX0 (hts _ zt_i0)
  obtain ⟨c1, iS1, hk1⟩ := u_known (C := RX1) (T := TX1) (N := 17) (n := 17) hts inX1 (hts _ zt_i1)
  obtain ⟨c2, iS2, hk2⟩ := u_known (C := RX2) (T := TX2) (N := 8) (n := 8) hts inX2 (hts _ zt_i2)
  obtain ⟨c3, iS3, hk3⟩ := u_known (C := RX3) (T := TX3) (N := 4) (n := 4) hts inX3 (hts _ zt_i3)
  obtain ⟨c4, iS4, hk4⟩ := u_known (C := RX4) (T := TX4) (N := 4) (n := 4) hts inX4 (hts _ zt_i4)
  obtain ⟨c5, iS5, hk5⟩ := u_known (C := RX5) (T := TX5) (N := 13) (n := 13) hts inX5 (hts _ zt_i5)
  obtain ⟨c6, iS6, hk6⟩ := u_known (C := RX6) (T := TX6) (N := 3) (n := 3) hts inX6 (hts _ zt_i6)
  obtain ⟨c7, iS7, hk7⟩ := u_known (C := RX7) (T := TX7) (N := 9) (n := 9) hts inX7 (hts _ zt_i7)
  obtain ⟨c8, iS8, hk8⟩ := u_known (C := RX8) (T := TX8) (N := 7) (n := 7) hts inX8 (hts _ zt_i8)
  obtain ⟨c9, iS9, hk9⟩ := u_known (C := RX9) (T := TX9) (N := 10) (n := 10) hts inX9 (hts _ zt_i9)
  obtain ⟨c10, iS10, hk10⟩ := u_known (C := RX10) (T := TX10) (N := 13) (n := 13) hts inX10 (hts _ zt_i10)
  obtain ⟨c11, iS11, hk11⟩ := u_known (C := RX11) (T := TX11) (N := 42) (n := 42) hts inX11 (hts _ zt_i11)
  obtain ⟨a0, ha0, ra0⟩ := z_arr (hts _ zt_a0)
  obtain ⟨a1, ha1, ra1⟩ := z_arr (hts _ zt_a1)
  obtain ⟨a2, ha2, ra2⟩ := z_arr (hts _ zt_a2)
  obtain ⟨a3, ha3, ra3⟩ := z_arr (hts _ zt_a3)
  obtain ⟨a4, ha4, ra4⟩ := z_arro (hts _ zt_o0)
  obtain ⟨a5, ha5, ra5⟩ := z_arro (hts _ zt_o1)
  refine ⟨fun k => [c0, c1, c2, c3, c4, c5, c6, c7, c8, c9, c10, c11].getD k c0, fun k => [iS0, iS1, iS2, iS3, iS4, iS5, iS6, iS7, iS8, iS9, iS10, iS11].getD k iS0, fun k => [a0, a1, a2, a3, a4, a5].getD k a0, ⟨?_, ?_⟩, ?_, va_AO.of (hts _ zt_o0), va_AO.of (hts _ zt_o1)⟩
  · intro k q hq
    match k, hq with
    | 0, hq => cases hq; exact hk0
    | 1, hq => cases hq; exact hk1
    | 2, hq => cases hq; exact hk2
    | 3, hq => cases hq; exact hk3
    | 4, hq => cases hq; exact hk4
    | 5, hq => cases hq; exact hk5
    | 6, hq => cases hq; exact hk6
    | 7, hq => cases hq; exact hk7
    | 8, hq => cases hq; exact hk8
    | 9, hq => cases hq; exact hk9
    | 10, hq => cases hq; exact hk10
    | 11, hq => cases hq; exact hk11
    | k + 12, hq => simp [vwCl] at hq
  · intro k q hq
    match k, hq with
    | 0, hq => cases hq; exact ⟨ha0, ra0⟩
    | 1, hq => cases hq; exact ⟨ha1, ra1⟩
    | 2, hq => cases hq; exact ⟨ha2, ra2⟩
    | 3, hq => cases hq; exact ⟨ha3, ra3⟩
    | 4, hq => cases hq; exact ⟨ha4, ra4⟩
    | 5, hq => cases hq; exact ⟨ha5, ra5⟩
    | k + 6, hq => simp [tyz] at hq
  · exact ⟨va_Nw.of rfl (hts _ zt_n0), va_Nw.of rfl (hts _ zt_n1), va_Nw.of rfl (hts _ zt_n2), va_Nw.of rfl (hts _ zt_n3), va_Nw.of rfl (hts _ zt_n4), va_Nw.of rfl (hts _ zt_n5), va_Nw.of rfl (hts _ zt_n6), va_Nw.of rfl (hts _ zt_n7), va_Nw.of rfl (hts _ zt_n8), va_Nw.of rfl (hts _ zt_n9), va_Nw.of rfl (hts _ zt_n10)⟩
theorem sw36 (x : Int32) : (x.toInt < 0 ∨ 35 < x.toInt) ∨ x = 0 ∨ x = 1 ∨ x = 2 ∨ x = 3 ∨ x = 4 ∨ x = 5 ∨ x = 6 ∨ x = 7 ∨ x = 8 ∨ x = 9 ∨ x = 10 ∨ x = 11 ∨ x = 12 ∨ x = 13 ∨ x = 14 ∨ x = 15 ∨ x = 16 ∨ x = 17 ∨ x = 18 ∨ x = 19 ∨ x = 20 ∨ x = 21 ∨ x = 22 ∨ x = 23 ∨ x = 24 ∨ x = 25 ∨ x = 26 ∨ x = 27 ∨ x = 28 ∨ x = 29 ∨ x = 30 ∨ x = 31 ∨ x = 32 ∨ x = 33 ∨ x = 34 ∨ x = 35 := by
  by_cases h1 : x.toInt < 0
  · exact Or.inl (Or.inl h1)
  · by_cases h2 : 35 < x.toInt
    · exact Or.inl (Or.inr h2)
    · refine Or.inr ?_
      obtain ⟨j, hj, e⟩ := nI_of2 (x := x) (M := 35) (n := 35) (by decide) (by rw [Int32.lt_iff_toInt_lt]; exact fun q => h1 q) (by rw [Int32.le_iff_toInt_le]; exact Int.not_lt.mp h2)
      rw [e]
      exact co_dec (N := 36) (P := fun j => nI j = 0 ∨ nI j = 1 ∨ nI j = 2 ∨ nI j = 3 ∨ nI j = 4 ∨ nI j = 5 ∨ nI j = 6 ∨ nI j = 7 ∨ nI j = 8 ∨ nI j = 9 ∨ nI j = 10 ∨ nI j = 11 ∨ nI j = 12 ∨ nI j = 13 ∨ nI j = 14 ∨ nI j = 15 ∨ nI j = 16 ∨ nI j = 17 ∨ nI j = 18 ∨ nI j = 19 ∨ nI j = 20 ∨ nI j = 21 ∨ nI j = 22 ∨ nI j = 23 ∨ nI j = 24 ∨ nI j = 25 ∨ nI j = 26 ∨ nI j = 27 ∨ nI j = 28 ∨ nI j = 29 ∨ nI j = 30 ∨ nI j = 31 ∨ nI j = 32 ∨ nI j = 33 ∨ nI j = 34 ∨ nI j = 35) (by decide +kernel) (by omega)
