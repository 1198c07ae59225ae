theorem fsX10 : ∀ j, j < 13 → defaultValue (tyX10 j) = vp_V [.null, .null, .null, .null, .int 0, .null, .int 0, .null, .null, .null, .null, .null, .null] j := by decide +kernel
theorem fsX11 : ∀ j, j < 42 → defaultValue (tyX11 j) = vp_V (.null :: .int 0 :: .int 0 :: .null :: .null :: .null :: .null :: .null :: .int 0 :: .int 0 :: .int 0 :: .int 0 :: .int 0 :: .int 0 :: .int 0 :: .null :: .int 0 :: .null :: .int 0 :: .null :: .null :: .null :: [.int 0, .int 0, .int 0, .int 0, .int 0, .int 0, .null, .null, .null, .null, .null, .int 0, .int 0, .int 0, .null, .null, .null, .null, .null, .null]) j := by decide +kernel
theorem kL_law_0 {a : Array Value} {s : State} (hts : ∀ w ∈ wsL_law, w.before a s = true) : (.classLink RL 7 RX10 : Cond).before a s = true := kwL (A := ixL_law) wt0 hts (by decide +kernel)
theorem kL_law_1 {a : Array Value} {s : State} (hts : ∀ w ∈ wsL_law, w.before a s = true) : (.instantiable RX10 13 : Cond).before a s = true := kwL (A := ixL_law) wt1 hts (by decide +kernel)
theorem kL_law_2 {a : Array Value} {s : State} (hts : ∀ w ∈ wsL_law, w.before a s = true) : (.initialized RX10 : Cond).before a s = true := kwL (A := ixL_law) wt2 hts (by decide +kernel)
theorem kL_law_6 {a : Array Value} {s : State} (hts : ∀ w ∈ wsL_law, w.before a s = true) : (.methodLink RL 9 yX10_init : Cond).before a s = true := kwL (A := ixL_law) wt6 hts (by decide +kernel)
theorem kL_law_7 {a : Array Value} {s : State} (hts : ∀ w ∈ wsL_law, w.before a s = true) : (.instanceMethod yX10_init : Cond).before a s = true := kwL (A := ixL_law) wt7 hts (by decide +kernel)
theorem kL_law_3 {a : Array Value} {s : State} (hts : ∀ w ∈ wsL_law, w.before a s = true) : (.classLink RL 10 RX11 : Cond).before a s = true := kwL (A := ixL_law) wt3 hts (by decide +kernel)
theorem kL_law_4 {a : Array Value} {s : State} (hts : ∀ w ∈ wsL_law, w.before a s = true) : (.instantiable RX11 42 : Cond).before a s = true := kwL (A := ixL_law) wt4 hts (by decide +kernel)
theorem kL_law_5 {a : Array Value} {s : State} (hts : ∀ w ∈ wsL_law, w.before a s = true) : (.initialized RX11 : Cond).before a s = true := kwL (A := ixL_law) wt5 hts (by decide +kernel)
theorem kL_law_138 {a : Array Value} {s : State} (hts : ∀ w ∈ wsL_law, w.before a s = true) : (.methodLink RL 12 yX11_init : Cond).before a s = true := kwL (A := ixL_law) wt138 hts (by decide +kernel)
theorem kL_law_139 {a : Array Value} {s : State} (hts : ∀ w ∈ wsL_law, w.before a s = true) : (.instanceMethod yX11_init : Cond).before a s = true := kwL (A := ixL_law) wt139 hts (by decide +kernel)
theorem hdX10_init : yX10_init.cls ≠ "java/lang/invoke/MethodHandle" ∧ yX10_init.cls ≠ "java/lang/invoke/VarHandle" ∧ (parseMethodDescriptor yX10_init.desc).map (fun d => d.parameters.length) = some 0 := ⟨hdc_6.1, hdc_6.2, hdd_24⟩
theorem hdX11_init : yX11_init.cls ≠ "java/lang/invoke/MethodHandle" ∧ yX11_init.cls ≠ "java/lang/invoke/VarHandle" ∧ (parseMethodDescriptor yX11_init.desc).map (fun d => d.parameters.length) = some 0 := ⟨hdc_0.1, hdc_0.2, hdd_24⟩
def dtL_law_65_0 : List (Nat × Jvm.ClassFile.Instr × Nat) := [(0, .new 7, 3), (3, .dup, 1), (4, .invokespecial 9, 3), (7, .astore_n 1, 1), (8, .new 10, 3), (11, .dup, 1), (12, .invokespecial 12, 3), (15, .astore_n 2, 1), (16, .iconst 0, 1), (17, .istore_n 3, 1)]
theorem daL_law_65_0 : dtL_law_65_0.all (dqd cL_law) = true := by decide +kernel
theorem dL_law_0 : decode cL_law 0 = .ok (.new 7, 3) := dq daL_law_65_0 0 rfl
theorem dL_law_3 : decode cL_law 3 = .ok (.dup, 1) := dq daL_law_65_0 1 rfl
theorem dL_law_4 : decode cL_law 4 = .ok (.invokespecial 9, 3) := dq daL_law_65_0 2 rfl
theorem dL_law_7 : decode cL_law 7 = .ok (.astore_n 1, 1) := dq daL_law_65_0 3 rfl
theorem dL_law_8 : decode cL_law 8 = .ok (.new 10, 3) := dq daL_law_65_0 4 rfl
theorem dL_law_11 : decode cL_law 11 = .ok (.dup, 1) := dq daL_law_65_0 5 rfl
theorem dL_law_12 : decode cL_law 12 = .ok (.invokespecial 12, 3) := dq daL_law_65_0 6 rfl
theorem dL_law_15 : decode cL_law 15 = .ok (.astore_n 2, 1) := dq daL_law_65_0 7 rfl
theorem dL_law_16 : decode cL_law 16 = .ok (.iconst 0, 1) := dq daL_law_65_0 8 rfl
theorem dL_law_17 : decode cL_law 17 = .ok (.istore_n 3, 1) := dq daL_law_65_0 9 rfl
set_option maxHeartbeats 4000000 in
set_option maxRecDepth 100000 in
theorem law_loop {p : Program} {l : Launch} {e : Env} {s : State} {m : MethodId} {below : List Frame} {meth : Method} {c : Code} {b L : Nat} {xs : Nat → Int32} {dC : Nat → ClassId} {dI : Nat → Nat → Nat} {kA : Nat → ClassId} {aS vS : Nat} {oS : Option Nat} {x0 n0 : Nat} (C0 : lw_At p s m meth c b L xs) (hL : L ≤ 5120) (hK : zK dC dI kA s) (hZ : zStr aS vS oS (fun q : Nat => s.heap.size ≤ q) s s.heap) : ∀ (n : Nat) (i : Int32) (wx wm : va_W) (H : Heap) (locs : List Loc) (ls : Array Slot) (cells slots : Nat), 0 ≤ i.toInt → (L : Int) - i.toInt < 10 * n → cells + 40 * n ≤ 600000 → slots + 2000 * n ≤ 7302249 → LInv kA x0 n0 wx wm → va_P (dC, dI) vwCl (wx ++ wm) H → va_D (fun q : Nat => s.heap.size ≤ q) (wx ++ wm) → va_S (fun q : Nat => s.heap.size ≤ q) s.heap H locs → lv_has ls 4 [(3, .int i), (2, .ref n0), (1, .ref x0), (0, .ref b)] → W p l e room_1 s m #[Value.ref b] below meth c H locs cells slots (lw_Z below #[Value.ref b] s) (F0 m 18 ls []) := by
  obtain ⟨hx, hb, hr, hml, hown0, hts0, hX, hbl, hlocks, hgv⟩ := id C0
  have hown : s.vm.findClass RL = some m.cls := hown0
  have hts : ∀ w ∈ wsL_law, w.before #[Value.ref b] s = true := fun w h => hts0 w (wsL_law_in w h)
  have hA : ∀ q : Nat, s.heap.size ≤ q → (fun q : Nat => s.heap.size ≤ q) q := fun _ h => h
  have hbA : ¬ (fun q : Nat => s.heap.size ≤ q) b := Nat.not_le.mpr hbl
  intro n
  induction n with
  | zero =>
    intro i wx wm H locs ls cells slots h0 hn hc hs hI hP hD hS hl
    refine lv_iload_n hx hb dL_law_18 rfl (lv_at hl 0 rfl) ?_
    refine lv_aload_n hx hb dL_law_19 rfl (lv_at hl 3 rfl) ?_
    refine va_slen hx hb hX hbl hbA hS dL_law_20 ?_
    refine lv_bipush (v := 10) hx hb dL_law_21 (by decide) ?_
    refine lv_isub hx hb dL_law_23 ?_
    refine lv_icmp_gt (tgt := 1736) hx hb dL_law_24 (by decide) (fun _ => ?_) (fun hgt => ?_)
    · refine lv_iconst (v := 1) hx hb dL_law_1736 (by decide) ?_
      refine va_forget (fun q hq => hS.2.2 q hq) ?_
      refine W.widen (k := 600000) (n := 7302249) (by omega) (by omega) ?_
      exact lw_ret hx hb hr hlocks dL_law_1737
    · have := z_len hL hgt
      exact absurd hn (by omega)
  | succ n ih =>
    intro i wx wm H locs ls cells slots h0 hn hc hs hI hP hD hS hl
    refine lv_iload_n hx hb dL_law_18 rfl (lv_at hl 0 rfl) ?_
    refine lv_aload_n hx hb dL_law_19 rfl (lv_at hl 3 rfl) ?_
    refine va_slen hx hb hX hbl hbA hS dL_law_20 ?_
    refine lv_bipush (v := 10) hx hb dL_law_21 (by decide) ?_
    refine lv_isub hx hb dL_law_23 ?_
    refine lv_icmp_gt (tgt := 1736) hx hb dL_law_24 (by decide) (fun _ => ?_) (fun hgt => ?_)
    · refine lv_iconst (v := 1) hx hb dL_law_1736 (by decide) ?_
      refine va_forget (fun q hq => hS.2.2 q hq) ?_
      refine W.widen (k := 600000) (n := 7302249) (by omega) (by omega) ?_
      exact lw_ret hx hb hr hlocks dL_law_1737
    · have hi : 0 ≤ i.toInt ∧ i.toInt + 10 ≤ L := ⟨h0, z_len hL hgt⟩
      have kk : ∀ (wx wm : va_W) (H : Heap) (locs : List Loc) (ls : Array Slot), LInv kA x0 n0 wx wm → va_P (dC, dI) vwCl (wx ++ wm) H → va_D (fun q : Nat => s.heap.size ≤ q) (wx ++ wm) → va_S (fun q : Nat => s.heap.size ≤ q) s.heap H locs → lv_has ls 4 [(3, .int i), (2, .ref n0), (1, .ref x0), (0, .ref b)] → W p l e room_1 s m #[Value.ref b] below meth c H locs (cells + 40) (slots + 2000) (lw_Z below #[Value.ref b] s) (F0 m 1730 ls []) := by
        intro wx wm H locs ls hI hP hD hS hl
        obtain ⟨i2, ei2⟩ : ∃ y : Int32, y = i + 10 := ⟨_, rfl⟩
        refine lv_iinc (v := i2) (lv' := [(3, .int i2), (2, .ref n0), (1, .ref x0), (0, .ref b)]) hx hb dL_law_1730 hl (k := 0) rfl (by rw [ei2]; rfl) (by decide) rfl (fun ls hl => ?_)
        refine lv_goto (tgt := 18) hx hb dL_law_1733 (by decide) ?_
        have e10 := z_i10 hi hL ei2
        exact ih i2 wx wm H locs ls (cells + 40) (slots + 2000) (by omega) (by omega) (by omega) (by omega) hI hP hD hS hl
      refine lv_aload_n hx hb dL_law_27 rfl (lv_at hl 3 rfl) ?_
      refine lv_iload_n hx hb dL_law_28 rfl (lv_at hl 0 rfl) ?_
      refine va_sld hx hb hX hbl hbA hS (z_sc0 hi hL) dL_law_29 ?_
      refine lv_bipush (v := 63) hx hb dL_law_30 (by decide) ?_
      refine lv_iand hx hb dL_law_32 ?_
      refine lv_topi (fun x9 ex9 => ?_)
      rcases sw36 x9 with hs9 | hs9 | hs9 | hs9 | hs9 | hs9 | hs9 | hs9 | hs9 | hs9 | hs9 | hs9 | hs9 | hs9 | hs9 | hs9 | hs9 | hs9 | hs9 | hs9 | hs9 | hs9 | hs9 | hs9 | hs9 | hs9 | hs9 | hs9 | hs9 | hs9 | hs9 | hs9 | hs9 | hs9 | hs9 | hs9 | hs9
      · refine lv_tableOut (tgt := 1730) hx hb dL_law_33 hs9 (by decide) ?_
        exact law_c36 C0 hL hK hZ hi (by omega) (by omega) kk wx wm H locs ls hI hP hD hS hl
      · refine lv_tableIn (off := 159) (tgt := 192) hx hb dL_law_33 (by rw [hs9]; decide) (by rw [hs9]; decide) (by rw [hs9]; decide) (by decide) ?_
        exact law_c0 C0 hL hK hZ hi (by omega) (by omega) kk wx wm H locs ls hI hP hD hS hl
      · refine lv_tableIn (off := 202) (tgt := 235) hx hb dL_law_33 (by rw [hs9]; decide) (by rw [hs9]; decide) (by rw [hs9]; decide) (by decide) ?_
        exact law_c1 C0 hL hK hZ hi (by omega) (by omega) kk wx wm H locs ls hI hP hD hS hl
      · refine lv_tableIn (off := 265) (tgt := 298) hx hb dL_law_33 (by rw [hs9]; decide) (by rw [hs9]; decide) (by rw [hs9]; decide) (by decide) ?_
        exact law_c2 C0 hL hK hZ hi (by omega) (by omega) kk wx wm H locs ls hI hP hD hS hl
      · refine lv_tableIn (off := 328) (tgt := 361) hx hb dL_law_33 (by rw [hs9]; decide) (by rw [hs9]; decide) (by rw [hs9]; decide) (by decide) ?_
        exact law_c3 C0 hL hK hZ hi (by omega) (by omega) kk wx wm H locs ls hI hP hD hS hl
      · refine lv_tableIn (off := 351) (tgt := 384) hx hb dL_law_33 (by rw [hs9]; decide) (by rw [hs9]; decide) (by rw [hs9]; decide) (by decide) ?_
        exact law_c4 C0 hL hK hZ hi (by omega) (by omega) kk wx wm H locs ls hI hP hD hS hl
      · refine lv_tableIn (off := 374) (tgt := 407) hx hb dL_law_33 (by rw [hs9]; decide) (by rw [hs9]; decide) (by rw [hs9]; decide) (by decide) ?_
        exact law_c5 C0 hL hK hZ hi (by omega) (by omega) kk wx wm H locs ls hI hP hD hS hl
      · refine lv_tableIn (off := 437) (tgt := 470) hx hb dL_law_33 (by rw [hs9]; decide) (by rw [hs9]; decide) (by rw [hs9]; decide) (by decide) ?_
        exact law_c6 C0 hL hK hZ hi (by omega) (by omega) kk wx wm H locs ls hI hP hD hS hl
      · refine lv_tableIn (off := 460) (tgt := 493) hx hb dL_law_33 (by rw [hs9]; decide) (by rw [hs9]; decide) (by rw [hs9]; decide) (by decide) ?_
        exact law_c7 C0 hL hK hZ hi (by omega) (by omega) kk wx wm H locs ls hI hP hD hS hl
      · refine lv_tableIn (off := 473) (tgt := 506) hx hb dL_law_33 (by rw [hs9]; decide) (by rw [hs9]; decide) (by rw [hs9]; decide) (by decide) ?_
        exact law_c8 C0 hL hK hZ hi (by omega) (by omega) kk wx wm H locs ls hI hP hD hS hl
      · refine lv_tableIn (off := 506) (tgt := 539) hx hb dL_law_33 (by rw [hs9]; decide) (by rw [hs9]; decide) (by rw [hs9]; decide) (by decide) ?_
        exact law_c9 C0 hL hK hZ hi (by omega) (by omega) kk wx wm H locs ls hI hP hD hS hl
      · refine lv_tableIn (off := 529) (tgt := 562) hx hb dL_law_33 (by rw [hs9]; decide) (by rw [hs9]; decide) (by rw [hs9]; decide) (by decide) ?_
        exact law_c10 C0 hL hK hZ hi (by omega) (by omega) kk wx wm H locs ls hI hP hD hS hl
      · refine lv_tableIn (off := 562) (tgt := 595) hx hb dL_law_33 (by rw [hs9]; decide) (by rw [hs9]; decide) (by rw [hs9]; decide) (by decide) ?_
        exact law_c11 C0 hL hK hZ hi (by omega) (by omega) kk wx wm H locs ls hI hP hD hS hl
      · refine lv_tableIn (off := 595) (tgt := 628) hx hb dL_law_33 (by rw [hs9]; decide) (by rw [hs9]; decide) (by rw [hs9]; decide) (by decide) ?_
        exact law_c12 C0 hL hK hZ hi (by omega) (by omega) kk wx wm H locs ls hI hP hD hS hl
      · refine lv_tableIn (off := 628) (tgt := 661) hx hb dL_law_33 (by rw [hs9]; decide) (by rw [hs9]; decide) (by rw [hs9]; decide) (by decide) ?_
        exact law_c13 C0 hL hK hZ hi (by omega) (by omega) kk wx wm H locs ls hI hP hD hS hl
      · refine lv_tableIn (off := 661) (tgt := 694) hx hb dL_law_33 (by rw [hs9]; decide) (by rw [hs9]; decide) (by rw [hs9]; decide) (by decide) ?_
        exact law_c14 C0 hL hK hZ hi (by omega) (by omega) kk wx wm H locs ls hI hP hD hS hl
      · refine lv_tableIn (off := 694) (tgt := 727) hx hb dL_law_33 (by rw [hs9]; decide) (by rw [hs9]; decide) (by rw [hs9]; decide) (by decide) ?_
        exact law_c15 C0 hL hK hZ hi (by omega) (by omega) kk wx wm H locs ls hI hP hD hS hl
      · refine lv_tableIn (off := 727) (tgt := 760) hx hb dL_law_33 (by rw [hs9]; decide) (by rw [hs9]; decide) (by rw [hs9]; decide) (by decide) ?_
        exact law_c16 C0 hL hK hZ hi (by omega) (by omega) kk wx wm H locs ls hI hP hD hS hl
      · refine lv_tableIn (off := 750) (tgt := 783) hx hb dL_law_33 (by rw [hs9]; decide) (by rw [hs9]; decide) (by rw [hs9]; decide) (by decide) ?_
        exact law_c17 C0 hL hK hZ hi (by omega) (by omega) kk wx wm H locs ls hI hP hD hS hl
      · refine lv_tableIn (off := 773) (tgt := 806) hx hb dL_law_33 (by rw [hs9]; decide) (by rw [hs9]; decide) (by rw [hs9]; decide) (by decide) ?_
        exact law_c18 C0 hL hK hZ hi (by omega) (by omega) kk wx wm H locs ls hI hP hD hS hl
      · refine lv_tableIn (off := 848) (tgt := 881) hx hb dL_law_33 (by rw [hs9]; decide) (by rw [hs9]; decide) (by rw [hs9]; decide) (by decide) ?_
        exact law_c19 C0 hL hK hZ hi (by omega) (by omega) kk wx wm H locs ls hI hP hD hS hl
      · refine lv_tableIn (off := 947) (tgt := 980) hx hb dL_law_33 (by rw [hs9]; decide) (by rw [hs9]; decide) (by rw [hs9]; decide) (by decide) ?_
        exact law_c20 C0 hL hK hZ hi (by omega) (by omega) kk wx wm H locs ls hI hP hD hS hl
      · refine lv_tableIn (off := 980) (tgt := 1013) hx hb dL_law_33 (by rw [hs9]; decide) (by rw [hs9]; decide) (by rw [hs9]; decide) (by decide) ?_
        exact law_c21 C0 hL hK hZ hi (by omega) (by omega) kk wx wm H locs ls hI hP hD hS hl
      · refine lv_tableIn (off := 1013) (tgt := 1046) hx hb dL_law_33 (by rw [hs9]; decide) (by rw [hs9]; decide) (by rw [hs9]; decide) (by decide) ?_
        exact law_c22 C0 hL hK hZ hi (by omega) (by omega) kk wx wm H locs ls hI hP hD hS hl
      · refine lv_tableIn (off := 1088) (tgt := 1121) hx hb dL_law_33 (by rw [hs9]; decide) (by rw [hs9]; decide) (by rw [hs9]; decide) (by decide) ?_
        exact law_c23 C0 hL hK hZ hi (by omega) (by omega) kk wx wm H locs ls hI hP hD hS hl
      · refine lv_tableIn (off := 1199) (tgt := 1232) hx hb dL_law_33 (by rw [hs9]; decide) (by rw [hs9]; decide) (by rw [hs9]; decide) (by decide) ?_
        exact law_c24 C0 hL hK hZ hi (by omega) (by omega) kk wx wm H locs ls hI hP hD hS hl
      · refine lv_tableIn (off := 1252) (tgt := 1285) hx hb dL_law_33 (by rw [hs9]; decide) (by rw [hs9]; decide) (by rw [hs9]; decide) (by decide) ?_
        exact law_c25 C0 hL hK hZ hi (by omega) (by omega) kk wx wm H locs ls hI hP hD hS hl
      · refine lv_tableIn (off := 1295) (tgt := 1328) hx hb dL_law_33 (by rw [hs9]; decide) (by rw [hs9]; decide) (by rw [hs9]; decide) (by decide) ?_
        exact law_c26 C0 hL hK hZ hi (by omega) (by omega) kk wx wm H locs ls hI hP hD hS hl
      · refine lv_tableIn (off := 1328) (tgt := 1361) hx hb dL_law_33 (by rw [hs9]; decide) (by rw [hs9]; decide) (by rw [hs9]; decide) (by decide) ?_
        exact law_c27 C0 hL hK hZ hi (by omega) (by omega) kk wx wm H locs ls hI hP hD hS hl
      · refine lv_tableIn (off := 1371) (tgt := 1404) hx hb dL_law_33 (by rw [hs9]; decide) (by rw [hs9]; decide) (by rw [hs9]; decide) (by decide) ?_
        exact law_c28 C0 hL hK hZ hi (by omega) (by omega) kk wx wm H locs ls hI hP hD hS hl
      · refine lv_tableIn (off := 1414) (tgt := 1447) hx hb dL_law_33 (by rw [hs9]; decide) (by rw [hs9]; decide) (by rw [hs9]; decide) (by decide) ?_
        exact law_c29 C0 hL hK hZ hi (by omega) (by omega) kk wx wm H locs ls hI hP hD hS hl
      · refine lv_tableIn (off := 1447) (tgt := 1480) hx hb dL_law_33 (by rw [hs9]; decide) (by rw [hs9]; decide) (by rw [hs9]; decide) (by decide) ?_
        exact law_c30 C0 hL hK hZ hi (by omega) (by omega) kk wx wm H locs ls hI hP hD hS hl
      · refine lv_tableIn (off := 1510) (tgt := 1543) hx hb dL_law_33 (by rw [hs9]; decide) (by rw [hs9]; decide) (by rw [hs9]; decide) (by decide) ?_
        exact law_c31 C0 hL hK hZ hi (by omega) (by omega) kk wx wm H locs ls hI hP hD hS hl
      · refine lv_tableIn (off := 1585) (tgt := 1618) hx hb dL_law_33 (by rw [hs9]; decide) (by rw [hs9]; decide) (by rw [hs9]; decide) (by decide) ?_
        exact law_c32 C0 hL hK hZ hi (by omega) (by omega) kk wx wm H locs ls hI hP hD hS hl
      · refine lv_tableIn (off := 1628) (tgt := 1661) hx hb dL_law_33 (by rw [hs9]; decide) (by rw [hs9]; decide) (by rw [hs9]; decide) (by decide) ?_
        exact law_c33 C0 hL hK hZ hi (by omega) (by omega) kk wx wm H locs ls hI hP hD hS hl
      · refine lv_tableIn (off := 1651) (tgt := 1684) hx hb dL_law_33 (by rw [hs9]; decide) (by rw [hs9]; decide) (by rw [hs9]; decide) (by decide) ?_
        exact law_c34 C0 hL hK hZ hi (by omega) (by omega) kk wx wm H locs ls hI hP hD hS hl
      · refine lv_tableIn (off := 1674) (tgt := 1707) hx hb dL_law_33 (by rw [hs9]; decide) (by rw [hs9]; decide) (by rw [hs9]; decide) (by decide) ?_
        exact law_c35 C0 hL hK hZ hi (by omega) (by omega) kk wx wm H locs ls hI hP hD hS hl
