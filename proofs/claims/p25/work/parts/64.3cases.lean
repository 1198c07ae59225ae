set_option maxHeartbeats 4000000 in
set_option maxRecDepth 100000 in
theorem law_c0 {p : Program} {l : Launch} {e : Env} {s : State} {m : MethodId} {below : List Frame} {meth : Method} {c : Code} {b L : Nat} {xs : Nat → Int32} {dC : Nat → ClassId} {dI : Nat → Nat → Nat} {kA : Nat → ClassId} {aS vS : Nat} {oS : Option Nat} {x0 n0 : Nat} (C0 : lw_At p s m meth c b L xs) (hL : L ≤ 5120) (hK : zK dC dI kA s) (hZ : zStr aS vS oS (fun q : Nat => s.heap.size ≤ q) s s.heap) {i : Int32} (hi : 0 ≤ i.toInt ∧ i.toInt + 10 ≤ L) {cells slots : Nat} (hc : cells + 40 ≤ 600000) (hs : slots + 2000 ≤ 7302249) (kk : ∀ (wx wm : va_W) (H : Heap) (locs : List Loc) (ls : Array Slot), LInv kA x0 n0 wx wm → va_P (dC, dI) vwCl (wx ++ wm) H → va_D (fun q : Nat => s.heap.size ≤ q) (wx ++ wm) → va_S (fun q : Nat => s.heap.size ≤ q) s.heap H locs → lv_has ls 4 [(3, .int i), (2, .ref n0), (1, .ref x0), (0, .ref b)] → W p l e room_1 s m #[Value.ref b] below meth c H locs (cells + 40) (slots + 2000) (lw_Z below #[Value.ref b] s) (F0 m 1730 ls [])) (wx wm : va_W) (H : Heap) (locs : List Loc) (ls : Array Slot) (hI : LInv kA x0 n0 wx wm) (hP : va_P (dC, dI) vwCl (wx ++ wm) H) (hD : va_D (fun q : Nat => s.heap.size ≤ q) (wx ++ wm)) (hS : va_S (fun q : Nat => s.heap.size ≤ q) s.heap H locs) (hl : lv_has ls 4 [(3, .int i), (2, .ref n0), (1, .ref x0), (0, .ref b)]) : W p l e room_1 s m #[Value.ref b] below meth c H locs cells slots (lw_Z below #[Value.ref b] s) (F0 m 192 ls []) := by
  obtain ⟨hx, hb, hr, hml, hown0, hts0, hX, hbl, hlocks, hgv⟩ := C0
  have hown : s.vm.findClass RL = some m.cls := hown0
  have hts : ∀ w ∈ wsL_law, w.before #[Value.ref b] s = true := fun w h => hts0 w (wsL_law_in w h)
  have hA : ∀ q : Nat, s.heap.size ≤ q → (fun q : Nat => s.heap.size ≤ q) q := fun _ h => h
  have hbA : ¬ (fun q : Nat => s.heap.size ≤ q) b := Nat.not_le.mpr hbl
  obtain ⟨S_, LL, im, hX0, hM0⟩ := hI
  have hgd := MOK4_gd hM0
  have hxt := MOK4_xt hM0
  have hgr := MOK4_gr hM0
  have hgx := MOK4_gx hM0
  have hc1 : cells + 20 ≤ room_1.cells := by show cells + 20 ≤ 600000; omega
  have hs1 : slots + 1000 ≤ room_1.slots := by show slots + 1000 ≤ 7302249; omega
  have hc2 : cells + 20 + 20 ≤ room_1.cells := by show cells + 20 + 20 ≤ 600000; omega
  have hs2 : slots + 1000 + 1000 ≤ room_1.slots := by show slots + 1000 + 1000 ≤ 7302249; omega
  obtain ⟨a1, ea1⟩ : ∃ y : Int32, y = xs (i + 1).toNatClampNeg := ⟨_, rfl⟩
  obtain ⟨a2, ea2⟩ : ∃ y : Int32, y = xs (i + 2).toNatClampNeg := ⟨_, rfl⟩
  obtain ⟨a3, ea3⟩ : ∃ y : Int32, y = xs (i + 3).toNatClampNeg := ⟨_, rfl⟩
  refine lv_aload_n hx hb dL_law_192 rfl (lv_at hl 2 rfl) ?_
  refine lv_aload_n hx hb dL_law_193 rfl (lv_at hl 3 rfl) ?_
  refine lv_iload_n hx hb dL_law_194 rfl (lv_at hl 0 rfl) ?_
  refine lv_iconst (v := 1) hx hb dL_law_195 (by decide) ?_
  refine lv_iadd hx hb dL_law_196 ?_
  refine va_sld hx hb hX hbl hbA hS (z_sc hi hL (n := 1) (by decide) (by decide)) dL_law_197 ?_
  refine zi a1 ea1.symm ?_
  refine lv_aload_n hx hb dL_law_198 rfl (lv_at hl 3 rfl) ?_
  refine lv_iload_n hx hb dL_law_199 rfl (lv_at hl 0 rfl) ?_
  refine lv_iconst (v := 2) hx hb dL_law_200 (by decide) ?_
  refine lv_iadd hx hb dL_law_201 ?_
  refine va_sld hx hb hX hbl hbA hS (z_sc hi hL (n := 2) (by decide) (by decide)) dL_law_202 ?_
  refine zi a2 ea2.symm ?_
  refine lv_aload_n hx hb dL_law_203 rfl (lv_at hl 3 rfl) ?_
  refine lv_iload_n hx hb dL_law_204 rfl (lv_at hl 0 rfl) ?_
  refine lv_iconst (v := 3) hx hb dL_law_205 (by decide) ?_
  refine lv_iadd hx hb dL_law_206 ?_
  refine va_sld hx hb hX hbl hbA hS (z_sc hi hL (n := 3) (by decide) (by decide)) dL_law_207 ?_
  refine zi a3 ea3.symm ?_
  refine z_iL (wa := wx) (wb := wm) (va_runV (As := [.int a1, .int a2, .int a3]) (rest := []) ⟨hx, hb, hml, hown, hts⟩ (wX10_node l dC dI kA _ x0 a1 a2 a3 hX0 hgd hxt) (cwV 3 hts gL_law_X10_node rfl rfl rfl ⟨rfl, hdX10_node⟩ ⟨(Nat.le_of_ble_eq_true rfl), (Nat.le_of_ble_eq_true rfl)⟩) ⟨zPc.blind, XOK_rec hK hX0 hP, zPre hK (wl_P hP) (wl_D hD)⟩ rfl rfl hl.1 rfl (lv_room (Nat.le_of_ble_eq_true rfl)) dL_law_208 ⟨hc1, hs1⟩) hP hD hS hA (fun r1 w1 H locs hw1 hP hD hS => ?_)
  refine lv_pop hx hb dL_law_211 rfl ?_
  refine lv_aload_n hx hb dL_law_212 rfl (lv_at hl 1 rfl) ?_
  refine lv_aload_n hx hb dL_law_213 rfl (lv_at hl 3 rfl) ?_
  refine lv_iload_n hx hb dL_law_214 rfl (lv_at hl 0 rfl) ?_
  refine lv_iconst (v := 1) hx hb dL_law_215 (by decide) ?_
  refine lv_iadd hx hb dL_law_216 ?_
  refine va_sld hx hb hX hbl hbA hS (z_sc hi hL (n := 1) (by decide) (by decide)) dL_law_217 ?_
  refine zi a1 ea1.symm ?_
  refine lv_aload_n hx hb dL_law_218 rfl (lv_at hl 3 rfl) ?_
  refine lv_iload_n hx hb dL_law_219 rfl (lv_at hl 0 rfl) ?_
  refine lv_iconst (v := 2) hx hb dL_law_220 (by decide) ?_
  refine lv_iadd hx hb dL_law_221 ?_
  refine va_sld hx hb hX hbl hbA hS (z_sc hi hL (n := 2) (by decide) (by decide)) dL_law_222 ?_
  refine zi a2 ea2.symm ?_
  refine lv_aload_n hx hb dL_law_223 rfl (lv_at hl 3 rfl) ?_
  refine lv_iload_n hx hb dL_law_224 rfl (lv_at hl 0 rfl) ?_
  refine lv_iconst (v := 3) hx hb dL_law_225 (by decide) ?_
  refine lv_iadd hx hb dL_law_226 ?_
  refine va_sld hx hb hX hbl hbA hS (z_sc hi hL (n := 3) (by decide) (by decide)) dL_law_227 ?_
  refine zi a3 ea3.symm ?_
  refine z_iL (wa := wm) (wb := w1) (va_runV (As := [.int a1, .int a2, .int a3]) (rest := []) ⟨hx, hb, hml, hown, hts⟩ (wX11_node l dC dI kA _ n0 a1 a2 a3 hM0) (cwV 3 hts gL_law_X11_node rfl rfl rfl ⟨rfl, hdX11_node⟩ ⟨(Nat.le_of_ble_eq_true rfl), (Nat.le_of_ble_eq_true rfl)⟩) ⟨zPc.blind, MOK_rec hK hM0 (wp_P hP List.perm_append_comm), zPre hK (wl_P (wp_P hP List.perm_append_comm)) (wl_D (wp_D hD List.perm_append_comm))⟩ rfl rfl hl.1 rfl (lv_room (Nat.le_of_ble_eq_true rfl)) dL_law_228 ⟨hc2, hs2⟩) (wp_P hP List.perm_append_comm) (wp_D hD List.perm_append_comm) hS hA (fun r2 w2 H locs hw2 hP hD hS => ?_)
  have hP := wp_P hP (List.perm_append_comm)
  have hD := wp_D hD (List.perm_append_comm)
  refine lv_pop hx hb dL_law_231 rfl ?_
  refine lv_goto (tgt := 1730) hx hb dL_law_232 (by decide) ?_
  refine W.widen (k := cells + 40) (n := slots + 2000) (by omega) (by omega) ?_
  exact kk w1 w2 H locs ls ⟨_, _, _, hw1.2, hw2.2⟩ hP hD hS hl
set_option maxHeartbeats 4000000 in
set_option maxRecDepth 100000 in
theorem law_c1 {p : Program} {l : Launch} {e : Env} {s : State} {m : MethodId} {below : List Frame} {meth : Method} {c : Code} {b L : Nat} {xs : Nat → Int32} {dC : Nat → ClassId} {dI : Nat → Nat → Nat} {kA : Nat → ClassId} {aS vS : Nat} {oS : Option Nat} {x0 n0 : Nat} (C0 : lw_At p s m meth c b L xs) (hL : L ≤ 5120) (hK : zK dC dI kA s) (hZ : zStr aS vS oS (fun q : Nat => s.heap.size ≤ q) s s.heap) {i : Int32} (hi : 0 ≤ i.toInt ∧ i.toInt + 10 ≤ L) {cells slots : Nat} (hc : cells + 40 ≤ 600000) (hs : slots + 2000 ≤ 7302249) (kk : ∀ (wx wm : va_W) (H : Heap) (locs : List Loc) (ls : Array Slot), LInv kA x0 n0 wx wm → va_P (dC, dI) vwCl (wx ++ wm) H → va_D (fun q : Nat => s.heap.size ≤ q) (wx ++ wm) → va_S (fun q : Nat => s.heap.size ≤ q) s.heap H locs → lv_has ls 4 [(3, .int i), (2, .ref n0), (1, .ref x0), (0, .ref b)] → W p l e room_1 s m #[Value.ref b] below meth c H locs (cells + 40) (slots + 2000) (lw_Z below #[Value.ref b] s) (F0 m 1730 ls [])) (wx wm : va_W) (H : Heap) (locs : List Loc) (ls : Array Slot) (hI : LInv kA x0 n0 wx wm) (hP : va_P (dC, dI) vwCl (wx ++ wm) H) (hD : va_D (fun q : Nat => s.heap.size ≤ q) (wx ++ wm)) (hS : va_S (fun q : Nat => s.heap.size ≤ q) s.heap H locs) (hl : lv_has ls 4 [(3, .int i), (2, .ref n0), (1, .ref x0), (0, .ref b)]) : W p l e room_1 s m #[Value.ref b] below meth c H locs cells slots (lw_Z below #[Value.ref b] s) (F0 m 235 ls []) := by
  obtain ⟨hx, hb, hr, hml, hown0, hts0, hX, hbl, hlocks, hgv⟩ := C0
  have hown : s.vm.findClass RL = some m.cls := hown0
  have hts : ∀ w ∈ wsL_law, w.before #[Value.ref b] s = true := fun w h => hts0 w (wsL_law_in w h)
  have hA : ∀ q : Nat, s.heap.size ≤ q → (fun q : Nat => s.heap.size ≤ q) q := fun _ h => h
  have hbA : ¬ (fun q : Nat => s.heap.size ≤ q) b := Nat.not_le.mpr hbl
  obtain ⟨S_, LL, im, hX0, hM0⟩ := hI
  have hgd := MOK4_gd hM0
  have hxt := MOK4_xt hM0
  have hgr := MOK4_gr hM0
  have hgx := MOK4_gx hM0
  have hc1 : cells + 20 ≤ room_1.cells := by show cells + 20 ≤ 600000; omega
  have hs1 : slots + 1000 ≤ room_1.slots := by show slots + 1000 ≤ 7302249; omega
  have hc2 : cells + 20 + 20 ≤ room_1.cells := by show cells + 20 + 20 ≤ 600000; omega
  have hs2 : slots + 1000 + 1000 ≤ room_1.slots := by show slots + 1000 + 1000 ≤ 7302249; omega
  obtain ⟨a1, ea1⟩ : ∃ y : Int32, y = xs (i + 1).toNatClampNeg := ⟨_, rfl⟩
  obtain ⟨a2, ea2⟩ : ∃ y : Int32, y = xs (i + 2).toNatClampNeg := ⟨_, rfl⟩
  obtain ⟨a3, ea3⟩ : ∃ y : Int32, y = xs (i + 3).toNatClampNeg := ⟨_, rfl⟩
  obtain ⟨a4, ea4⟩ : ∃ y : Int32, y = xs (i + 4).toNatClampNeg := ⟨_, rfl⟩
  obtain ⟨a5, ea5⟩ : ∃ y : Int32, y = xs (i + 5).toNatClampNeg := ⟨_, rfl⟩
  refine lv_aload_n hx hb dL_law_235 rfl (lv_at hl 2 rfl) ?_
  refine lv_aload_n hx hb dL_law_236 rfl (lv_at hl 3 rfl) ?_
  refine lv_iload_n hx hb dL_law_237 rfl (lv_at hl 0 rfl) ?_
  refine lv_iconst (v := 1) hx hb dL_law_238 (by decide) ?_
  refine lv_iadd hx hb dL_law_239 ?_
  refine va_sld hx hb hX hbl hbA hS (z_sc hi hL (n := 1) (by decide) (by decide)) dL_law_240 ?_
  refine zi a1 ea1.symm ?_
  refine lv_aload_n hx hb dL_law_241 rfl (lv_at hl 3 rfl) ?_
  refine lv_iload_n hx hb dL_law_242 rfl (lv_at hl 0 rfl) ?_
  refine lv_iconst (v := 2) hx hb dL_law_243 (by decide) ?_
  refine lv_iadd hx hb dL_law_244 ?_
  refine va_sld hx hb hX hbl hbA hS (z_sc hi hL (n := 2) (by decide) (by decide)) dL_law_245 ?_
  refine zi a2 ea2.symm ?_
  refine lv_aload_n hx hb dL_law_246 rfl (lv_at hl 3 rfl) ?_
  refine lv_iload_n hx hb dL_law_247 rfl (lv_at hl 0 rfl) ?_
  refine lv_iconst (v := 3) hx hb dL_law_248 (by decide) ?_
  refine lv_iadd hx hb dL_law_249 ?_
  refine va_sld hx hb hX hbl hbA hS (z_sc hi hL (n := 3) (by decide) (by decide)) dL_law_250 ?_
  refine zi a3 ea3.symm ?_
  refine lv_aload_n hx hb dL_law_251 rfl (lv_at hl 3 rfl) ?_
  refine lv_iload_n hx hb dL_law_252 rfl (lv_at hl 0 rfl) ?_
  refine lv_iconst (v := 4) hx hb dL_law_253 (by decide) ?_
  refine lv_iadd hx hb dL_law_254 ?_
  refine va_sld hx hb hX hbl hbA hS (z_sc hi hL (n := 4) (by decide) (by decide)) dL_law_255 ?_
  refine zi a4 ea4.symm ?_
  refine lv_aload_n hx hb dL_law_256 rfl (lv_at hl 3 rfl) ?_
  refine lv_iload_n hx hb dL_law_257 rfl (lv_at hl 0 rfl) ?_
  refine lv_iconst (v := 5) hx hb dL_law_258 (by decide) ?_
  refine lv_iadd hx hb dL_law_259 ?_
  refine va_sld hx hb hX hbl hbA hS (z_sc hi hL (n := 5) (by decide) (by decide)) dL_law_260 ?_
  refine zi a5 ea5.symm ?_
  refine z_iL (wa := wx) (wb := wm) (va_runV (As := [.int a1, .int a2, .int a3, .int a4, .int a5]) (rest := []) ⟨hx, hb, hml, hown, hts⟩ (wX10_pass l dC dI kA _ x0 a1 a2 a3 a4 a5 hX0 hgd hxt) (cwV 5 hts gL_law_X10_pass rfl rfl rfl ⟨rfl, hdX10_pass⟩ ⟨(Nat.le_of_ble_eq_true rfl), (Nat.le_of_ble_eq_true rfl)⟩) ⟨zPc.blind, XOK_rec hK hX0 hP, zPre hK (wl_P hP) (wl_D hD)⟩ rfl rfl hl.1 rfl (lv_room (Nat.le_of_ble_eq_true rfl)) dL_law_261 ⟨hc1, hs1⟩) hP hD hS hA (fun r1 w1 H locs hw1 hP hD hS => ?_)
  refine lv_pop hx hb dL_law_264 rfl ?_
  refine lv_aload_n hx hb dL_law_265 rfl (lv_at hl 1 rfl) ?_
  refine lv_aload_n hx hb dL_law_266 rfl (lv_at hl 3 rfl) ?_
  refine lv_iload_n hx hb dL_law_267 rfl (lv_at hl 0 rfl) ?_
  refine lv_iconst (v := 1) hx hb dL_law_268 (by decide) ?_
  refine lv_iadd hx hb dL_law_269 ?_
  refine va_sld hx hb hX hbl hbA hS (z_sc hi hL (n := 1) (by decide) (by decide)) dL_law_270 ?_
  refine zi a1 ea1.symm ?_
  refine lv_aload_n hx hb dL_law_271 rfl (lv_at hl 3 rfl) ?_
  refine lv_iload_n hx hb dL_law_272 rfl (lv_at hl 0 rfl) ?_
  refine lv_iconst (v := 2) hx hb dL_law_273 (by decide) ?_
  refine lv_iadd hx hb dL_law_274 ?_
  refine va_sld hx hb hX hbl hbA hS (z_sc hi hL (n := 2) (by decide) (by decide)) dL_law_275 ?_
  refine zi a2 ea2.symm ?_
  refine lv_aload_n hx hb dL_law_276 rfl (lv_at hl 3 rfl) ?_
  refine lv_iload_n hx hb dL_law_277 rfl (lv_at hl 0 rfl) ?_
  refine lv_iconst (v := 3) hx hb dL_law_278 (by decide) ?_
  refine lv_iadd hx hb dL_law_279 ?_
  refine va_sld hx hb hX hbl hbA hS (z_sc hi hL (n := 3) (by decide) (by decide)) dL_law_280 ?_
  refine zi a3 ea3.symm ?_
  refine lv_aload_n hx hb dL_law_281 rfl (lv_at hl 3 rfl) ?_
  refine lv_iload_n hx hb dL_law_282 rfl (lv_at hl 0 rfl) ?_
  refine lv_iconst (v := 4) hx hb dL_law_283 (by decide) ?_
  refine lv_iadd hx hb dL_law_284 ?_
  refine va_sld hx hb hX hbl hbA hS (z_sc hi hL (n := 4) (by decide) (by decide)) dL_law_285 ?_
  refine zi a4 ea4.symm ?_
  refine lv_aload_n hx hb dL_law_286 rfl (lv_at hl 3 rfl) ?_
  refine lv_iload_n hx hb dL_law_287 rfl (lv_at hl 0 rfl) ?_
  refine lv_iconst (v := 5) hx hb dL_law_288 (by decide) ?_
  refine lv_iadd hx hb dL_law_289 ?_
  refine va_sld hx hb hX hbl hbA hS (z_sc hi hL (n := 5) (by decide) (by decide)) dL_law_290 ?_
  refine zi a5 ea5.symm ?_
  refine z_iL (wa := wm) (wb := w1) (va_runV (As := [.int a1, .int a2, .int a3, .int a4, .int a5]) (rest := []) ⟨hx, hb, hml, hown, hts⟩ (wX11_pass l dC dI kA _ n0 a1 a2 a3 a4 a5 hM0) (cwV 5 hts gL_law_X11_pass rfl rfl rfl ⟨rfl, hdX11_pass⟩ ⟨(Nat.le_of_ble_eq_true rfl), (Nat.le_of_ble_eq_true rfl)⟩) ⟨zPc.blind, MOK_rec hK hM0 (wp_P hP List.perm_append_comm), zPre hK (wl_P (wp_P hP List.perm_append_comm)) (wl_D (wp_D hD List.perm_append_comm))⟩ rfl rfl hl.1 rfl (lv_room (Nat.le_of_ble_eq_true rfl)) dL_law_291 ⟨hc2, hs2⟩) (wp_P hP List.perm_append_comm) (wp_D hD List.perm_append_comm) hS hA (fun r2 w2 H locs hw2 hP hD hS => ?_)
  have hP := wp_P hP (List.perm_append_comm)
  have hD := wp_D hD (List.perm_append_comm)
  refine lv_pop hx hb dL_law_294 rfl ?_
  refine lv_goto (tgt := 1730) hx hb dL_law_295 (by decide) ?_
  refine W.widen (k := cells + 40) (n := slots + 2000) (by omega) (by omega) ?_
  exact kk w1 w2 H locs ls ⟨_, _, _, hw1.2, hw2.2⟩ hP hD hS hl
set_option maxHeartbeats 4000000 in
set_option maxRecDepth 100000 in
theorem law_c2 {p : Program} {l : Launch} {e : Env} {s : State} {m : MethodId} {below : List Frame} {meth : Method} {c : Code} {b L : Nat} {xs : Nat → Int32} {dC : Nat → ClassId} {dI : Nat → Nat → Nat} {kA : Nat → ClassId} {aS vS : Nat} {oS : Option Nat} {x0 n0 : Nat} (C0 : lw_At p s m meth c b L xs) (hL : L ≤ 5120) (hK : zK dC dI kA s) (hZ : zStr aS vS oS (fun q : Nat => s.heap.size ≤ q) s s.heap) {i : Int32} (hi : 0 ≤ i.toInt ∧ i.toInt + 10 ≤ L) {cells slots : Nat} (hc : cells + 40 ≤ 600000) (hs : slots + 2000 ≤ 7302249) (kk : ∀ (wx wm : va_W) (H : Heap) (locs : List Loc) (ls : Array Slot), LInv kA x0 n0 wx wm → va_P (dC, dI) vwCl (wx ++ wm) H → va_D (fun q : Nat => s.heap.size ≤ q) (wx ++ wm) → va_S (fun q : Nat => s.heap.size ≤ q) s.heap H locs → lv_has ls 4 [(3, .int i), (2, .ref n0), (1, .ref x0), (0, .ref b)] → W p l e room_1 s m #[Value.ref b] below meth c H locs (cells + 40) (slots + 2000) (lw_Z below #[Value.ref b] s) (F0 m 1730 ls [])) (wx wm : va_W) (H : Heap) (locs : List Loc) (ls : Array Slot) (hI : LInv kA x0 n0 wx wm) (hP : va_P (dC, dI) vwCl (wx ++ wm) H) (hD : va_D (fun q : Nat => s.heap.size ≤ q) (wx ++ wm)) (hS : va_S (fun q : Nat => s.heap.size ≤ q) s.heap H locs) (hl : lv_has ls 4 [(3, .int i), (2, .ref n0), (1, .ref x0), (0, .ref b)]) : W p l e room_1 s m #[Value.ref b] below meth c H locs cells slots (lw_Z below #[Value.ref b] s) (F0 m 298 ls []) := by
  obtain ⟨hx, hb, hr, hml, hown0, hts0, hX, hbl, hlocks, hgv⟩ := C0
  have hown : s.vm.findClass RL = some m.cls := hown0
  have hts : ∀ w ∈ wsL_law, w.before #[Value.ref b] s = true := fun w h => hts0 w (wsL_law_in w h)
  have hA : ∀ q : Nat, s.heap.size ≤ q → (fun q : Nat => s.heap.size ≤ q) q := fun _ h => h
  have hbA : ¬ (fun q : Nat => s.heap.size ≤ q) b := Nat.not_le.mpr hbl
  obtain ⟨S_, LL, im, hX0, hM0⟩ := hI
  have hgd := MOK4_gd hM0
  have hxt := MOK4_xt hM0
  have hgr := MOK4_gr hM0
  have hgx := MOK4_gx hM0
  have hc1 : cells + 20 ≤ room_1.cells := by show cells + 20 ≤ 600000; omega
  have hs1 : slots + 1000 ≤ room_1.slots := by show slots + 1000 ≤ 7302249; omega
  have hc2 : cells + 20 + 20 ≤ room_1.cells := by show cells + 20 + 20 ≤ 600000; omega
  have hs2 : slots + 1000 + 1000 ≤ room_1.slots := by show slots + 1000 + 1000 ≤ 7302249; omega
  obtain ⟨a1, ea1⟩ : ∃ y : Int32, y = xs (i + 1).toNatClampNeg := ⟨_, rfl⟩
  obtain ⟨a2, ea2⟩ : ∃ y : Int32, y = xs (i + 2).toNatClampNeg := ⟨_, rfl⟩
  obtain ⟨a3, ea3⟩ : ∃ y : Int32, y = xs (i + 3).toNatClampNeg := ⟨_, rfl⟩
  obtain ⟨a4, ea4⟩ : ∃ y : Int32, y = xs (i + 4).toNatClampNeg := ⟨_, rfl⟩
  obtain ⟨a5, ea5⟩ : ∃ y : Int32, y = xs (i + 5).toNatClampNeg := ⟨_, rfl⟩
  refine lv_aload_n hx hb dL_law_298 rfl (lv_at hl 2 rfl) ?_
  refine lv_aload_n hx hb dL_law_299 rfl (lv_at hl 3 rfl) ?_
  refine lv_iload_n hx hb dL_law_300 rfl (lv_at hl 0 rfl) ?_
  refine lv_iconst (v := 1) hx hb dL_law_301 (by decide) ?_
  refine lv_iadd hx hb dL_law_302 ?_
  refine va_sld hx hb hX hbl hbA hS (z_sc hi hL (n := 1) (by decide) (by decide)) dL_law_303 ?_
  refine zi a1 ea1.symm ?_
  refine lv_aload_n hx hb dL_law_304 rfl (lv_at hl 3 rfl) ?_
  refine lv_iload_n hx hb dL_law_305 rfl (lv_at hl 0 rfl) ?_
  refine lv_iconst (v := 2) hx hb dL_law_306 (by decide) ?_
  refine lv_iadd hx hb dL_law_307 ?_
  refine va_sld hx hb hX hbl hbA hS (z_sc hi hL (n := 2) (by decide) (by decide)) dL_law_308 ?_
  refine zi a2 ea2.symm ?_
  refine lv_aload_n hx hb dL_law_309 rfl (lv_at hl 3 rfl) ?_
  refine lv_iload_n hx hb dL_law_310 rfl (lv_at hl 0 rfl) ?_
  refine lv_iconst (v := 3) hx hb dL_law_311 (by decide) ?_
  refine lv_iadd hx hb dL_law_312 ?_
  refine va_sld hx hb hX hbl hbA hS (z_sc hi hL (n := 3) (by decide) (by decide)) dL_law_313 ?_
  refine zi a3 ea3.symm ?_
  refine lv_aload_n hx hb dL_law_314 rfl (lv_at hl 3 rfl) ?_
  refine lv_iload_n hx hb dL_law_315 rfl (lv_at hl 0 rfl) ?_
  refine lv_iconst (v := 4) hx hb dL_law_316 (by decide) ?_
  refine lv_iadd hx hb dL_law_317 ?_
  refine va_sld hx hb hX hbl hbA hS (z_sc hi hL (n := 4) (by decide) (by decide)) dL_law_318 ?_
  refine zi a4 ea4.symm ?_
  refine lv_aload_n hx hb dL_law_319 rfl (lv_at hl 3 rfl) ?_
  refine lv_iload_n hx hb dL_law_320 rfl (lv_at hl 0 rfl) ?_
  refine lv_iconst (v := 5) hx hb dL_law_321 (by decide) ?_
  refine lv_iadd hx hb dL_law_322 ?_
  refine va_sld hx hb hX hbl hbA hS (z_sc hi hL (n := 5) (by decide) (by decide)) dL_law_323 ?_
  refine zi a5 ea5.symm ?_
  refine z_iL (wa := wx) (wb := wm) (va_runV (As := [.int a1, .int a2, .int a3, .int a4, .int a5]) (rest := []) ⟨hx, hb, hml, hown, hts⟩ (wX10_jar l dC dI kA _ x0 a1 a2 a3 a4 a5 hX0 hgd hxt) (cwV 5 hts gL_law_X10_jar rfl rfl rfl ⟨rfl, hdX10_jar⟩ ⟨(Nat.le_of_ble_eq_true rfl), (Nat.le_of_ble_eq_true rfl)⟩) ⟨zPc.blind, XOK_rec hK hX0 hP, zPre hK (wl_P hP) (wl_D hD)⟩ rfl rfl hl.1 rfl (lv_room (Nat.le_of_ble_eq_true rfl)) dL_law_324 ⟨hc1, hs1⟩) hP hD hS hA (fun r1 w1 H locs hw1 hP hD hS => ?_)
  refine lv_pop hx hb dL_law_327 rfl ?_
  refine lv_aload_n hx hb dL_law_328 rfl (lv_at hl 1 rfl) ?_
  refine lv_aload_n hx hb dL_law_329 rfl (lv_at hl 3 rfl) ?_
  refine lv_iload_n hx hb dL_law_330 rfl (lv_at hl 0 rfl) ?_
  refine lv_iconst (v := 1) hx hb dL_law_331 (by decide) ?_
  refine lv_iadd hx hb dL_law_332 ?_
  refine va_sld hx hb hX hbl hbA hS (z_sc hi hL (n := 1) (by decide) (by decide)) dL_law_333 ?_
  refine zi a1 ea1.symm ?_
  refine lv_aload_n hx hb dL_law_334 rfl (lv_at hl 3 rfl) ?_
  refine lv_iload_n hx hb dL_law_335 rfl (lv_at hl 0 rfl) ?_
  refine lv_iconst (v := 2) hx hb dL_law_336 (by decide) ?_
  refine lv_iadd hx hb dL_law_337 ?_
  refine va_sld hx hb hX hbl hbA hS (z_sc hi hL (n := 2) (by decide) (by decide)) dL_law_338 ?_
  refine zi a2 ea2.symm ?_
  refine lv_aload_n hx hb dL_law_339 rfl (lv_at hl 3 rfl) ?_
  refine lv_iload_n hx hb dL_law_340 rfl (lv_at hl 0 rfl) ?_
  refine lv_iconst (v := 3) hx hb dL_law_341 (by decide) ?_
  refine lv_iadd hx hb dL_law_342 ?_
  refine va_sld hx hb hX hbl hbA hS (z_sc hi hL (n := 3) (by decide) (by decide)) dL_law_343 ?_
  refine zi a3 ea3.symm ?_
  refine lv_aload_n hx hb dL_law_344 rfl (lv_at hl 3 rfl) ?_
  refine lv_iload_n hx hb dL_law_345 rfl (lv_at hl 0 rfl) ?_
  refine lv_iconst (v := 4) hx hb dL_law_346 (by decide) ?_
  refine lv_iadd hx hb dL_law_347 ?_
  refine va_sld hx hb hX hbl hbA hS (z_sc hi hL (n := 4) (by decide) (by decide)) dL_law_348 ?_
  refine zi a4 ea4.symm ?_
  refine lv_aload_n hx hb dL_law_349 rfl (lv_at hl 3 rfl) ?_
  refine lv_iload_n hx hb dL_law_350 rfl (lv_at hl 0 rfl) ?_
  refine lv_iconst (v := 5) hx hb dL_law_351 (by decide) ?_
  refine lv_iadd hx hb dL_law_352 ?_
  refine va_sld hx hb hX hbl hbA hS (z_sc hi hL (n := 5) (by decide) (by decide)) dL_law_353 ?_
  refine zi a5 ea5.symm ?_
  refine z_iL (wa := wm) (wb := w1) (va_runV (As := [.int a1, .int a2, .int a3, .int a4, .int a5]) (rest := []) ⟨hx, hb, hml, hown, hts⟩ (wX11_jar l dC dI kA _ n0 a1 a2 a3 a4 a5 hM0) (cwV 5 hts gL_law_X11_jar rfl rfl rfl ⟨rfl, hdX11_jar⟩ ⟨(Nat.le_of_ble_eq_true rfl), (Nat.le_of_ble_eq_true rfl)⟩) ⟨zPc.blind, MOK_rec hK hM0 (wp_P hP List.perm_append_comm), zPre hK (wl_P (wp_P hP List.perm_append_comm)) (wl_D (wp_D hD List.perm_append_comm))⟩ rfl rfl hl.1 rfl (lv_room (Nat.le_of_ble_eq_true rfl)) dL_law_354 ⟨hc2, hs2⟩) (wp_P hP List.perm_append_comm) (wp_D hD List.perm_append_comm) hS hA (fun r2 w2 H locs hw2 hP hD hS => ?_)
  have hP := wp_P hP (List.perm_append_comm)
  have hD := wp_D hD (List.perm_append_comm)
  refine lv_pop hx hb dL_law_357 rfl ?_
  refine lv_goto (tgt := 1730) hx hb dL_law_358 (by decide) ?_
  refine W.widen (k := cells + 40) (n := slots + 2000) (by omega) (by omega) ?_
  exact kk w1 w2 H locs ls ⟨_, _, _, hw1.2, hw2.2⟩ hP hD hS hl
set_option maxHeartbeats 4000000 in
set_option maxRecDepth 100000 in
theorem law_c3 {p : Program} {l : Launch} {e : Env} {s : State} {m : MethodId} {below : List Frame} {meth : Method} {c : Code} {b L : Nat} {xs : Nat → Int32} {dC : Nat → ClassId} {dI : Nat → Nat → Nat} {kA : Nat → ClassId} {aS vS : Nat} {oS : Option Nat} {x0 n0 : Nat} (C0 : lw_At p s m meth c b L xs) (hL : L ≤ 5120) (hK : zK dC dI kA s) (hZ : zStr aS vS oS (fun q : Nat => s.heap.size ≤ q) s s.heap) {i : Int32} (hi : 0 ≤ i.toInt ∧ i.toInt + 10 ≤ L) {cells slots : Nat} (hc : cells + 40 ≤ 600000) (hs : slots + 2000 ≤ 7302249) (kk : ∀ (wx wm : va_W) (H : Heap) (locs : List Loc) (ls : Array Slot), LInv kA x0 n0 wx wm → va_P (dC, dI) vwCl (wx ++ wm) H → va_D (fun q : Nat => s.heap.size ≤ q) (wx ++ wm) → va_S (fun q : Nat => s.heap.size ≤ q) s.heap H locs → lv_has ls 4 [(3, .int i), (2, .ref n0), (1, .ref x0), (0, .ref b)] → W p l e room_1 s m #[Value.ref b] below meth c H locs (cells + 40) (slots + 2000) (lw_Z below #[Value.ref b] s) (F0 m 1730 ls [])) (wx wm : va_W) (H : Heap) (locs : List Loc) (ls : Array Slot) (hI : LInv kA x0 n0 wx wm) (hP : va_P (dC, dI) vwCl (wx ++ wm) H) (hD : va_D (fun q : Nat => s.heap.size ≤ q) (wx ++ wm)) (hS : va_S (fun q : Nat => s.heap.size ≤ q) s.heap H locs) (hl : lv_has ls 4 [(3, .int i), (2, .ref n0), (1, .ref x0), (0, .ref b)]) : W p l e room_1 s m #[Value.ref b] below meth c H locs cells slots (lw_Z below #[Value.ref b] s) (F0 m 361 ls []) := by
  obtain ⟨hx, hb, hr, hml, hown0, hts0, hX, hbl, hlocks, hgv⟩ := C0
  have hown : s.vm.findClass RL = some m.cls := hown0
  have hts : ∀ w ∈ wsL_law, w.before #[Value.ref b] s = true := fun w h => hts0 w (wsL_law_in w h)
  have hA : ∀ q : Nat, s.heap.size ≤ q → (fun q : Nat => s.heap.size ≤ q) q := fun _ h => h
  have hbA : ¬ (fun q : Nat => s.heap.size ≤ q) b := Nat.not_le.mpr hbl
  obtain ⟨S_, LL, im, hX0, hM0⟩ := hI
  have hgd := MOK4_gd hM0
  have hxt := MOK4_xt hM0
  have hgr := MOK4_gr hM0
  have hgx := MOK4_gx hM0
  have hc1 : cells + 20 ≤ room_1.cells := by show cells + 20 ≤ 600000; omega
  have hs1 : slots + 1000 ≤ room_1.slots := by show slots + 1000 ≤ 7302249; omega
  have hc2 : cells + 20 + 20 ≤ room_1.cells := by show cells + 20 + 20 ≤ 600000; omega
  have hs2 : slots + 1000 + 1000 ≤ room_1.slots := by show slots + 1000 + 1000 ≤ 7302249; omega
  obtain ⟨a1, ea1⟩ : ∃ y : Int32, y = xs (i + 1).toNatClampNeg := ⟨_, rfl⟩
  refine lv_aload_n hx hb dL_law_361 rfl (lv_at hl 2 rfl) ?_
  refine lv_aload_n hx hb dL_law_362 rfl (lv_at hl 3 rfl) ?_
  refine lv_iload_n hx hb dL_law_363 rfl (lv_at hl 0 rfl) ?_
  refine lv_iconst (v := 1) hx hb dL_law_364 (by decide) ?_
  refine lv_iadd hx hb dL_law_365 ?_
  refine va_sld hx hb hX hbl hbA hS (z_sc hi hL (n := 1) (by decide) (by decide)) dL_law_366 ?_
  refine zi a1 ea1.symm ?_
  refine z_iL (wa := wx) (wb := wm) (va_runV (As := [.int a1]) (rest := []) ⟨hx, hb, hml, hown, hts⟩ (wX10_month l dC dI kA _ x0 a1 hX0 hgd hxt) (cwV 1 hts gL_law_X10_month rfl rfl rfl ⟨rfl, hdX10_month⟩ ⟨(Nat.le_of_ble_eq_true rfl), (Nat.le_of_ble_eq_true rfl)⟩) ⟨zPc.blind, XOK_rec hK hX0 hP, zPre hK (wl_P hP) (wl_D hD)⟩ rfl rfl hl.1 rfl (lv_room (Nat.le_of_ble_eq_true rfl)) dL_law_367 ⟨hc1, hs1⟩) hP hD hS hA (fun r1 w1 H locs hw1 hP hD hS => ?_)
  refine lv_pop hx hb dL_law_370 rfl ?_
  refine lv_aload_n hx hb dL_law_371 rfl (lv_at hl 1 rfl) ?_
  refine lv_aload_n hx hb dL_law_372 rfl (lv_at hl 3 rfl) ?_
  refine lv_iload_n hx hb dL_law_373 rfl (lv_at hl 0 rfl) ?_
  refine lv_iconst (v := 1) hx hb dL_law_374 (by decide) ?_
  refine lv_iadd hx hb dL_law_375 ?_
  refine va_sld hx hb hX hbl hbA hS (z_sc hi hL (n := 1) (by decide) (by decide)) dL_law_376 ?_
  refine zi a1 ea1.symm ?_
  refine z_iL (wa := wm) (wb := w1) (va_runV (As := [.int a1]) (rest := []) ⟨hx, hb, hml, hown, hts⟩ (wX11_month l dC dI kA _ n0 a1 hM0) (cwV 1 hts gL_law_X11_month rfl rfl rfl ⟨rfl, hdX11_month⟩ ⟨(Nat.le_of_ble_eq_true rfl), (Nat.le_of_ble_eq_true rfl)⟩) ⟨zPc.blind, MOK_rec hK hM0 (wp_P hP List.perm_append_comm), zPre hK (wl_P (wp_P hP List.perm_append_comm)) (wl_D (wp_D hD List.perm_append_comm))⟩ rfl rfl hl.1 rfl (lv_room (Nat.le_of_ble_eq_true rfl)) dL_law_377 ⟨hc2, hs2⟩) (wp_P hP List.perm_append_comm) (wp_D hD List.perm_append_comm) hS hA (fun r2 w2 H locs hw2 hP hD hS => ?_)
  have hP := wp_P hP (List.perm_append_comm)
  have hD := wp_D hD (List.perm_append_comm)
  refine lv_pop hx hb dL_law_380 rfl ?_
  refine lv_goto (tgt := 1730) hx hb dL_law_381 (by decide) ?_
  refine W.widen (k := cells + 40) (n := slots + 2000) (by omega) (by omega) ?_
  exact kk w1 w2 H locs ls ⟨_, _, _, hw1.2, hw2.2⟩ hP hD hS hl
set_option maxHeartbeats 4000000 in
set_option maxRecDepth 100000 in
theorem law_c4 {p : Program} {l : Launch} {e : Env} {s : State} {m : MethodId} {below : List Frame} {meth : Method} {c : Code} {b L : Nat} {xs : Nat → Int32} {dC : Nat → ClassId} {dI : Nat → Nat → Nat} {kA : Nat → ClassId} {aS vS : Nat} {oS : Option Nat} {x0 n0 : Nat} (C0 : lw_At p s m meth c b L xs) (hL : L ≤ 5120) (hK : zK dC dI kA s) (hZ : zStr aS vS oS (fun q : Nat => s.heap.size ≤ q) s s.heap) {i : Int32} (hi : 0 ≤ i.toInt ∧ i.toInt + 10 ≤ L) {cells slots : Nat} (hc : cells + 40 ≤ 600000) (hs : slots + 2000 ≤ 7302249) (kk : ∀ (wx wm : va_W) (H : Heap) (locs : List Loc) (ls : Array Slot), LInv kA x0 n0 wx wm → va_P (dC, dI) vwCl (wx ++ wm) H → va_D (fun q : Nat => s.heap.size ≤ q) (wx ++ wm) → va_S (fun q : Nat => s.heap.size ≤ q) s.heap H locs → lv_has ls 4 [(3, .int i), (2, .ref n0), (1, .ref x0), (0, .ref b)] → W p l e room_1 s m #[Value.ref b] below meth c H locs (cells + 40) (slots + 2000) (lw_Z below #[Value.ref b] s) (F0 m 1730 ls [])) (wx wm : va_W) (H : Heap) (locs : List Loc) (ls : Array Slot) (hI : LInv kA x0 n0 wx wm) (hP : va_P (dC, dI) vwCl (wx ++ wm) H) (hD : va_D (fun q : Nat => s.heap.size ≤ q) (wx ++ wm)) (hS : va_S (fun q : Nat => s.heap.size ≤ q) s.heap H locs) (hl : lv_has ls 4 [(3, .int i), (2, .ref n0), (1, .ref x0), (0, .ref b)]) : W p l e room_1 s m #[Value.ref b] below meth c H locs cells slots (lw_Z below #[Value.ref b] s) (F0 m 384 ls []) := by
  obtain ⟨hx, hb, hr, hml, hown0, hts0, hX, hbl, hlocks, hgv⟩ := C0
  have hown : s.vm.findClass RL = some m.cls := hown0
  have hts : ∀ w ∈ wsL_law, w.before #[Value.ref b] s = true := fun w h => hts0 w (wsL_law_in w h)
  have hA : ∀ q : Nat, s.heap.size ≤ q → (fun q : Nat => s.heap.size ≤ q) q := fun _ h => h
  have hbA : ¬ (fun q : Nat => s.heap.size ≤ q) b := Nat.not_le.mpr hbl
  obtain ⟨S_, LL, im, hX0, hM0⟩ := hI
  have hgd := MOK4_gd hM0
  have hxt := MOK4_xt hM0
  have hgr := MOK4_gr hM0
  have hgx := MOK4_gx hM0
  have hc1 : cells + 20 ≤ room_1.cells := by show cells + 20 ≤ 600000; omega
  have hs1 : slots + 1000 ≤ room_1.slots := by show slots + 1000 ≤ 7302249; omega
  have hc2 : cells + 20 + 20 ≤ room_1.cells := by show cells + 20 + 20 ≤ 600000; omega
  have hs2 : slots + 1000 + 1000 ≤ room_1.slots := by show slots + 1000 + 1000 ≤ 7302249; omega
  obtain ⟨a1, ea1⟩ : ∃ y : Int32, y = xs (i + 1).toNatClampNeg := ⟨_, rfl⟩
  refine lv_aload_n hx hb dL_law_384 rfl (lv_at hl 2 rfl) ?_
  refine lv_aload_n hx hb dL_law_385 rfl (lv_at hl 3 rfl) ?_
  refine lv_iload_n hx hb dL_law_386 rfl (lv_at hl 0 rfl) ?_
  refine lv_iconst (v := 1) hx hb dL_law_387 (by decide) ?_
  refine lv_iadd hx hb dL_law_388 ?_
  refine va_sld hx hb hX hbl hbA hS (z_sc hi hL (n := 1) (by decide) (by decide)) dL_law_389 ?_
  refine zi a1 ea1.symm ?_
  refine z_iL (wa := wx) (wb := wm) (va_runV (As := [.int a1]) (rest := []) ⟨hx, hb, hml, hown, hts⟩ (wX10_seed l dC dI kA _ x0 a1 hX0 hgd hxt) (cwV 1 hts gL_law_X10_seed rfl rfl rfl ⟨rfl, hdX10_seed⟩ ⟨(Nat.le_of_ble_eq_true rfl), (Nat.le_of_ble_eq_true rfl)⟩) ⟨zPc.blind, XOK_rec hK hX0 hP, zPre hK (wl_P hP) (wl_D hD)⟩ rfl rfl hl.1 rfl (lv_room (Nat.le_of_ble_eq_true rfl)) dL_law_390 ⟨hc1, hs1⟩) hP hD hS hA (fun r1 w1 H locs hw1 hP hD hS => ?_)
  refine lv_pop hx hb dL_law_393 rfl ?_
  refine lv_aload_n hx hb dL_law_394 rfl (lv_at hl 1 rfl) ?_
  refine lv_aload_n hx hb dL_law_395 rfl (lv_at hl 3 rfl) ?_
  refine lv_iload_n hx hb dL_law_396 rfl (lv_at hl 0 rfl) ?_
  refine lv_iconst (v := 1) hx hb dL_law_397 (by decide) ?_
  refine lv_iadd hx hb dL_law_398 ?_
  refine va_sld hx hb hX hbl hbA hS (z_sc hi hL (n := 1) (by decide) (by decide)) dL_law_399 ?_
  refine zi a1 ea1.symm ?_
  refine z_iL (wa := wm) (wb := w1) (va_runV (As := [.int a1]) (rest := []) ⟨hx, hb, hml, hown, hts⟩ (wX11_seed l dC dI kA _ n0 a1 hM0) (cwV 1 hts gL_law_X11_seed rfl rfl rfl ⟨rfl, hdX11_seed⟩ ⟨(Nat.le_of_ble_eq_true rfl), (Nat.le_of_ble_eq_true rfl)⟩) ⟨zPc.blind, MOK_rec hK hM0 (wp_P hP List.perm_append_comm), zPre hK (wl_P (wp_P hP List.perm_append_comm)) (wl_D (wp_D hD List.perm_append_comm))⟩ rfl rfl hl.1 rfl (lv_room (Nat.le_of_ble_eq_true rfl)) dL_law_400 ⟨hc2, hs2⟩) (wp_P hP List.perm_append_comm) (wp_D hD List.perm_append_comm) hS hA (fun r2 w2 H locs hw2 hP hD hS => ?_)
  have hP := wp_P hP (List.perm_append_comm)
  have hD := wp_D hD (List.perm_append_comm)
  refine lv_pop hx hb dL_law_403 rfl ?_
  refine lv_goto (tgt := 1730) hx hb dL_law_404 (by decide) ?_
  refine W.widen (k := cells + 40) (n := slots + 2000) (by omega) (by omega) ?_
  exact kk w1 w2 H locs ls ⟨_, _, _, hw1.2, hw2.2⟩ hP hD hS hl
set_option maxHeartbeats 4000000 in
set_option maxRecDepth 100000 in
theorem law_c5 {p : Program} {l : Launch} {e : Env} {s : State} {m : MethodId} {below : List Frame} {meth : Method} {c : Code} {b L : Nat} {xs : Nat → Int32} {dC : Nat → ClassId} {dI : Nat → Nat → Nat} {kA : Nat → ClassId} {aS vS : Nat} {oS : Option Nat} {x0 n0 : Nat} (C0 : lw_At p s m meth c b L xs) (hL : L ≤ 5120) (hK : zK dC dI kA s) (hZ : zStr aS vS oS (fun q : Nat => s.heap.size ≤ q) s s.heap) {i : Int32} (hi : 0 ≤ i.toInt ∧ i.toInt + 10 ≤ L) {cells slots : Nat} (hc : cells + 40 ≤ 600000) (hs : slots + 2000 ≤ 7302249) (kk : ∀ (wx wm : va_W) (H : Heap) (locs : List Loc) (ls : Array Slot), LInv kA x0 n0 wx wm → va_P (dC, dI) vwCl (wx ++ wm) H → va_D (fun q : Nat => s.heap.size ≤ q) (wx ++ wm) → va_S (fun q : Nat => s.heap.size ≤ q) s.heap H locs → lv_has ls 4 [(3, .int i), (2, .ref n0), (1, .ref x0), (0, .ref b)] → W p l e room_1 s m #[Value.ref b] below meth c H locs (cells + 40) (slots + 2000) (lw_Z below #[Value.ref b] s) (F0 m 1730 ls [])) (wx wm : va_W) (H : Heap) (locs : List Loc) (ls : Array Slot) (hI : LInv kA x0 n0 wx wm) (hP : va_P (dC, dI) vwCl (wx ++ wm) H) (hD : va_D (fun q : Nat => s.heap.size ≤ q) (wx ++ wm)) (hS : va_S (fun q : Nat => s.heap.size ≤ q) s.heap H locs) (hl : lv_has ls 4 [(3, .int i), (2, .ref n0), (1, .ref x0), (0, .ref b)]) : W p l e room_1 s m #[Value.ref b] below meth c H locs cells slots (lw_Z below #[Value.ref b] s) (F0 m 407 ls []) := by
  obtain ⟨hx, hb, hr, hml, hown0, hts0, hX, hbl, hlocks, hgv⟩ := C0
  have hown : s.vm.findClass RL = some m.cls := hown0
  have hts : ∀ w ∈ wsL_law, w.before #[Value.ref b] s = true := fun w h => hts0 w (wsL_law_in w h)
  have hA : ∀ q : Nat, s.heap.size ≤ q → (fun q : Nat => s.heap.size ≤ q) q := fun _ h => h
  have hbA : ¬ (fun q : Nat => s.heap.size ≤ q) b := Nat.not_le.mpr hbl
  obtain ⟨S_, LL, im, hX0, hM0⟩ := hI
  have hgd := MOK4_gd hM0
  have hxt := MOK4_xt hM0
  have hgr := MOK4_gr hM0
  have hgx := MOK4_gx hM0
  have hc1 : cells + 20 ≤ room_1.cells := by show cells + 20 ≤ 600000; omega
  have hs1 : slots + 1000 ≤ room_1.slots := by show slots + 1000 ≤ 7302249; omega
  have hc2 : cells + 20 + 20 ≤ room_1.cells := by show cells + 20 + 20 ≤ 600000; omega
  have hs2 : slots + 1000 + 1000 ≤ room_1.slots := by show slots + 1000 + 1000 ≤ 7302249; omega
  obtain ⟨a1, ea1⟩ : ∃ y : Int32, y = xs (i + 1).toNatClampNeg := ⟨_, rfl⟩
  obtain ⟨a2, ea2⟩ : ∃ y : Int32, y = xs (i + 2).toNatClampNeg := ⟨_, rfl⟩
  obtain ⟨a3, ea3⟩ : ∃ y : Int32, y = xs (i + 3).toNatClampNeg := ⟨_, rfl⟩
  obtain ⟨a4, ea4⟩ : ∃ y : Int32, y = xs (i + 4).toNatClampNeg := ⟨_, rfl⟩
  obtain ⟨a5, ea5⟩ : ∃ y : Int32, y = xs (i + 5).toNatClampNeg := ⟨_, rfl⟩
  refine lv_aload_n hx hb dL_law_407 rfl (lv_at hl 2 rfl) ?_
  refine lv_aload_n hx hb dL_law_408 rfl (lv_at hl 3 rfl) ?_
  refine lv_iload_n hx hb dL_law_409 rfl (lv_at hl 0 rfl) ?_
  refine lv_iconst (v := 1) hx hb dL_law_410 (by decide) ?_
  refine lv_iadd hx hb dL_law_411 ?_
  refine va_sld hx hb hX hbl hbA hS (z_sc hi hL (n := 1) (by decide) (by decide)) dL_law_412 ?_
  refine zi a1 ea1.symm ?_
  refine lv_aload_n hx hb dL_law_413 rfl (lv_at hl 3 rfl) ?_
  refine lv_iload_n hx hb dL_law_414 rfl (lv_at hl 0 rfl) ?_
  refine lv_iconst (v := 2) hx hb dL_law_415 (by decide) ?_
  refine lv_iadd hx hb dL_law_416 ?_
  refine va_sld hx hb hX hbl hbA hS (z_sc hi hL (n := 2) (by decide) (by decide)) dL_law_417 ?_
  refine zi a2 ea2.symm ?_
  refine lv_aload_n hx hb dL_law_418 rfl (lv_at hl 3 rfl) ?_
  refine lv_iload_n hx hb dL_law_419 rfl (lv_at hl 0 rfl) ?_
  refine lv_iconst (v := 3) hx hb dL_law_420 (by decide) ?_
  refine lv_iadd hx hb dL_law_421 ?_
  refine va_sld hx hb hX hbl hbA hS (z_sc hi hL (n := 3) (by decide) (by decide)) dL_law_422 ?_
  refine zi a3 ea3.symm ?_
  refine lv_aload_n hx hb dL_law_423 rfl (lv_at hl 3 rfl) ?_
  refine lv_iload_n hx hb dL_law_424 rfl (lv_at hl 0 rfl) ?_
  refine lv_iconst (v := 4) hx hb dL_law_425 (by decide) ?_
  refine lv_iadd hx hb dL_law_426 ?_
  refine va_sld hx hb hX hbl hbA hS (z_sc hi hL (n := 4) (by decide) (by decide)) dL_law_427 ?_
  refine zi a4 ea4.symm ?_
  refine lv_aload_n hx hb dL_law_428 rfl (lv_at hl 3 rfl) ?_
  refine lv_iload_n hx hb dL_law_429 rfl (lv_at hl 0 rfl) ?_
  refine lv_iconst (v := 5) hx hb dL_law_430 (by decide) ?_
  refine lv_iadd hx hb dL_law_431 ?_
  refine va_sld hx hb hX hbl hbA hS (z_sc hi hL (n := 5) (by decide) (by decide)) dL_law_432 ?_
  refine zi a5 ea5.symm ?_
  refine z_iL (wa := wx) (wb := wm) (va_runV (As := [.int a1, .int a2, .int a3, .int a4, .int a5]) (rest := []) ⟨hx, hb, hml, hown, hts⟩ (wX10_feed l dC dI kA _ x0 a1 a2 a3 a4 a5 hX0 hgd hxt) (cwV 5 hts gL_law_X10_feed rfl rfl rfl ⟨rfl, hdX10_feed⟩ ⟨(Nat.le_of_ble_eq_true rfl), (Nat.le_of_ble_eq_true rfl)⟩) ⟨zPc.blind, XOK_rec hK hX0 hP, zPre hK (wl_P hP) (wl_D hD)⟩ rfl rfl hl.1 rfl (lv_room (Nat.le_of_ble_eq_true rfl)) dL_law_433 ⟨hc1, hs1⟩) hP hD hS hA (fun r1 w1 H locs hw1 hP hD hS => ?_)
  refine lv_pop hx hb dL_law_436 rfl ?_
  refine lv_aload_n hx hb dL_law_437 rfl (lv_at hl 1 rfl) ?_
  refine lv_aload_n hx hb dL_law_438 rfl (lv_at hl 3 rfl) ?_
  refine lv_iload_n hx hb dL_law_439 rfl (lv_at hl 0 rfl) ?_
  refine lv_iconst (v := 1) hx hb dL_law_440 (by decide) ?_
  refine lv_iadd hx hb dL_law_441 ?_
  refine va_sld hx hb hX hbl hbA hS (z_sc hi hL (n := 1) (by decide) (by decide)) dL_law_442 ?_
  refine zi a1 ea1.symm ?_
  refine lv_aload_n hx hb dL_law_443 rfl (lv_at hl 3 rfl) ?_
  refine lv_iload_n hx hb dL_law_444 rfl (lv_at hl 0 rfl) ?_
  refine lv_iconst (v := 2) hx hb dL_law_445 (by decide) ?_
  refine lv_iadd hx hb dL_law_446 ?_
  refine va_sld hx hb hX hbl hbA hS (z_sc hi hL (n := 2) (by decide) (by decide)) dL_law_447 ?_
  refine zi a2 ea2.symm ?_
  refine lv_aload_n hx hb dL_law_448 rfl (lv_at hl 3 rfl) ?_
  refine lv_iload_n hx hb dL_law_449 rfl (lv_at hl 0 rfl) ?_
  refine lv_iconst (v := 3) hx hb dL_law_450 (by decide) ?_
  refine lv_iadd hx hb dL_law_451 ?_
  refine va_sld hx hb hX hbl hbA hS (z_sc hi hL (n := 3) (by decide) (by decide)) dL_law_452 ?_
  refine zi a3 ea3.symm ?_
  refine lv_aload_n hx hb dL_law_453 rfl (lv_at hl 3 rfl) ?_
  refine lv_iload_n hx hb dL_law_454 rfl (lv_at hl 0 rfl) ?_
  refine lv_iconst (v := 4) hx hb dL_law_455 (by decide) ?_
  refine lv_iadd hx hb dL_law_456 ?_
  refine va_sld hx hb hX hbl hbA hS (z_sc hi hL (n := 4) (by decide) (by decide)) dL_law_457 ?_
  refine zi a4 ea4.symm ?_
  refine lv_aload_n hx hb dL_law_458 rfl (lv_at hl 3 rfl) ?_
  refine lv_iload_n hx hb dL_law_459 rfl (lv_at hl 0 rfl) ?_
  refine lv_iconst (v := 5) hx hb dL_law_460 (by decide) ?_
  refine lv_iadd hx hb dL_law_461 ?_
  refine va_sld hx hb hX hbl hbA hS (z_sc hi hL (n := 5) (by decide) (by decide)) dL_law_462 ?_
  refine zi a5 ea5.symm ?_
  refine z_iL (wa := wm) (wb := w1) (va_runV (As := [.int a1, .int a2, .int a3, .int a4, .int a5]) (rest := []) ⟨hx, hb, hml, hown, hts⟩ (wX11_feed l dC dI kA _ n0 a1 a2 a3 a4 a5 hM0) (cwV 5 hts gL_law_X11_feed rfl rfl rfl ⟨rfl, hdX11_feed⟩ ⟨(Nat.le_of_ble_eq_true rfl), (Nat.le_of_ble_eq_true rfl)⟩) ⟨zPc.blind, MOK_rec hK hM0 (wp_P hP List.perm_append_comm), zPre hK (wl_P (wp_P hP List.perm_append_comm)) (wl_D (wp_D hD List.perm_append_comm))⟩ rfl rfl hl.1 rfl (lv_room (Nat.le_of_ble_eq_true rfl)) dL_law_463 ⟨hc2, hs2⟩) (wp_P hP List.perm_append_comm) (wp_D hD List.perm_append_comm) hS hA (fun r2 w2 H locs hw2 hP hD hS => ?_)
  have hP := wp_P hP (List.perm_append_comm)
  have hD := wp_D hD (List.perm_append_comm)
  refine lv_pop hx hb dL_law_466 rfl ?_
  refine lv_goto (tgt := 1730) hx hb dL_law_467 (by decide) ?_
  refine W.widen (k := cells + 40) (n := slots + 2000) (by omega) (by omega) ?_
  exact kk w1 w2 H locs ls ⟨_, _, _, hw1.2, hw2.2⟩ hP hD hS hl
set_option maxHeartbeats 4000000 in
set_option maxRecDepth 100000 in
theorem law_c6 {p : Program} {l : Launch} {e : Env} {s : State} {m : MethodId} {below : List Frame} {meth : Method} {c : Code} {b L : Nat} {xs : Nat → Int32} {dC : Nat → ClassId} {dI : Nat → Nat → Nat} {kA : Nat → ClassId} {aS vS : Nat} {oS : Option Nat} {x0 n0 : Nat} (C0 : lw_At p s m meth c b L xs) (hL : L ≤ 5120) (hK : zK dC dI kA s) (hZ : zStr aS vS oS (fun q : Nat => s.heap.size ≤ q) s s.heap) {i : Int32} (hi : 0 ≤ i.toInt ∧ i.toInt + 10 ≤ L) {cells slots : Nat} (hc : cells + 40 ≤ 600000) (hs : slots + 2000 ≤ 7302249) (kk : ∀ (wx wm : va_W) (H : Heap) (locs : List Loc) (ls : Array Slot), LInv kA x0 n0 wx wm → va_P (dC, dI) vwCl (wx ++ wm) H → va_D (fun q : Nat => s.heap.size ≤ q) (wx ++ wm) → va_S (fun q : Nat => s.heap.size ≤ q) s.heap H locs → lv_has ls 4 [(3, .int i), (2, .ref n0), (1, .ref x0), (0, .ref b)] → W p l e room_1 s m #[Value.ref b] below meth c H locs (cells + 40) (slots + 2000) (lw_Z below #[Value.ref b] s) (F0 m 1730 ls [])) (wx wm : va_W) (H : Heap) (locs : List Loc) (ls : Array Slot) (hI : LInv kA x0 n0 wx wm) (hP : va_P (dC, dI) vwCl (wx ++ wm) H) (hD : va_D (fun q : Nat => s.heap.size ≤ q) (wx ++ wm)) (hS : va_S (fun q : Nat => s.heap.size ≤ q) s.heap H locs) (hl : lv_has ls 4 [(3, .int i), (2, .ref n0), (1, .ref x0), (0, .ref b)]) : W p l e room_1 s m #[Value.ref b] below meth c H locs cells slots (lw_Z below #[Value.ref b] s) (F0 m 470 ls []) := by
  obtain ⟨hx, hb, hr, hml, hown0, hts0, hX, hbl, hlocks, hgv⟩ := C0
  have hown : s.vm.findClass RL = some m.cls := hown0
  have hts : ∀ w ∈ wsL_law, w.before #[Value.ref b] s = true := fun w h => hts0 w (wsL_law_in w h)
  have hA : ∀ q : Nat, s.heap.size ≤ q → (fun q : Nat => s.heap.size ≤ q) q := fun _ h => h
  have hbA : ¬ (fun q : Nat => s.heap.size ≤ q) b := Nat.not_le.mpr hbl
  obtain ⟨S_, LL, im, hX0, hM0⟩ := hI
  have hgd := MOK4_gd hM0
  have hxt := MOK4_xt hM0
  have hgr := MOK4_gr hM0
  have hgx := MOK4_gx hM0
  have hc1 : cells + 20 ≤ room_1.cells := by show cells + 20 ≤ 600000; omega
  have hs1 : slots + 1000 ≤ room_1.slots := by show slots + 1000 ≤ 7302249; omega
  have hc2 : cells + 20 + 20 ≤ room_1.cells := by show cells + 20 + 20 ≤ 600000; omega
  have hs2 : slots + 1000 + 1000 ≤ room_1.slots := by show slots + 1000 + 1000 ≤ 7302249; omega
  obtain ⟨a1, ea1⟩ : ∃ y : Int32, y = xs (i + 1).toNatClampNeg := ⟨_, rfl⟩
  refine lv_aload_n hx hb dL_law_470 rfl (lv_at hl 2 rfl) ?_
  refine lv_aload_n hx hb dL_law_471 rfl (lv_at hl 3 rfl) ?_
  refine lv_iload_n hx hb dL_law_472 rfl (lv_at hl 0 rfl) ?_
  refine lv_iconst (v := 1) hx hb dL_law_473 (by decide) ?_
  refine lv_iadd hx hb dL_law_474 ?_
  refine va_sld hx hb hX hbl hbA hS (z_sc hi hL (n := 1) (by decide) (by decide)) dL_law_475 ?_
  refine zi a1 ea1.symm ?_
  refine z_iL (wa := wx) (wb := wm) (va_runV (As := [.int a1]) (rest := []) ⟨hx, hb, hml, hown, hts⟩ (wX10_end l dC dI kA _ x0 a1 hX0 hgd hxt) (cwV 1 hts gL_law_X10_end rfl rfl rfl ⟨rfl, hdX10_end⟩ ⟨(Nat.le_of_ble_eq_true rfl), (Nat.le_of_ble_eq_true rfl)⟩) ⟨zPc.blind, XOK_rec hK hX0 hP, zPre hK (wl_P hP) (wl_D hD)⟩ rfl rfl hl.1 rfl (lv_room (Nat.le_of_ble_eq_true rfl)) dL_law_476 ⟨hc1, hs1⟩) hP hD hS hA (fun r1 w1 H locs hw1 hP hD hS => ?_)
  refine lv_pop hx hb dL_law_479 rfl ?_
  refine lv_aload_n hx hb dL_law_480 rfl (lv_at hl 1 rfl) ?_
  refine lv_aload_n hx hb dL_law_481 rfl (lv_at hl 3 rfl) ?_
  refine lv_iload_n hx hb dL_law_482 rfl (lv_at hl 0 rfl) ?_
  refine lv_iconst (v := 1) hx hb dL_law_483 (by decide) ?_
  refine lv_iadd hx hb dL_law_484 ?_
  refine va_sld hx hb hX hbl hbA hS (z_sc hi hL (n := 1) (by decide) (by decide)) dL_law_485 ?_
  refine zi a1 ea1.symm ?_
  refine z_iL (wa := wm) (wb := w1) (va_runV (As := [.int a1]) (rest := []) ⟨hx, hb, hml, hown, hts⟩ (wX11_end l dC dI kA _ n0 a1 hM0) (cwV 1 hts gL_law_X11_end rfl rfl rfl ⟨rfl, hdX11_end⟩ ⟨(Nat.le_of_ble_eq_true rfl), (Nat.le_of_ble_eq_true rfl)⟩) ⟨zPc.blind, MOK_rec hK hM0 (wp_P hP List.perm_append_comm), zPre hK (wl_P (wp_P hP List.perm_append_comm)) (wl_D (wp_D hD List.perm_append_comm))⟩ rfl rfl hl.1 rfl (lv_room (Nat.le_of_ble_eq_true rfl)) dL_law_486 ⟨hc2, hs2⟩) (wp_P hP List.perm_append_comm) (wp_D hD List.perm_append_comm) hS hA (fun r2 w2 H locs hw2 hP hD hS => ?_)
  have hP := wp_P hP (List.perm_append_comm)
  have hD := wp_D hD (List.perm_append_comm)
  refine lv_pop hx hb dL_law_489 rfl ?_
  refine lv_goto (tgt := 1730) hx hb dL_law_490 (by decide) ?_
  refine W.widen (k := cells + 40) (n := slots + 2000) (by omega) (by omega) ?_
  exact kk w1 w2 H locs ls ⟨_, _, _, hw1.2, hw2.2⟩ hP hD hS hl
set_option maxHeartbeats 4000000 in
set_option maxRecDepth 100000 in
theorem law_c7 {p : Program} {l : Launch} {e : Env} {s : State} {m : MethodId} {below : List Frame} {meth : Method} {c : Code} {b L : Nat} {xs : Nat → Int32} {dC : Nat → ClassId} {dI : Nat → Nat → Nat} {kA : Nat → ClassId} {aS vS : Nat} {oS : Option Nat} {x0 n0 : Nat} (C0 : lw_At p s m meth c b L xs) (hL : L ≤ 5120) (hK : zK dC dI kA s) (hZ : zStr aS vS oS (fun q : Nat => s.heap.size ≤ q) s s.heap) {i : Int32} (hi : 0 ≤ i.toInt ∧ i.toInt + 10 ≤ L) {cells slots : Nat} (hc : cells + 40 ≤ 600000) (hs : slots + 2000 ≤ 7302249) (kk : ∀ (wx wm : va_W) (H : Heap) (locs : List Loc) (ls : Array Slot), LInv kA x0 n0 wx wm → va_P (dC, dI) vwCl (wx ++ wm) H → va_D (fun q : Nat => s.heap.size ≤ q) (wx ++ wm) → va_S (fun q : Nat => s.heap.size ≤ q) s.heap H locs → lv_has ls 4 [(3, .int i), (2, .ref n0), (1, .ref x0), (0, .ref b)] → W p l e room_1 s m #[Value.ref b] below meth c H locs (cells + 40) (slots + 2000) (lw_Z below #[Value.ref b] s) (F0 m 1730 ls [])) (wx wm : va_W) (H : Heap) (locs : List Loc) (ls : Array Slot) (hI : LInv kA x0 n0 wx wm) (hP : va_P (dC, dI) vwCl (wx ++ wm) H) (hD : va_D (fun q : Nat => s.heap.size ≤ q) (wx ++ wm)) (hS : va_S (fun q : Nat => s.heap.size ≤ q) s.heap H locs) (hl : lv_has ls 4 [(3, .int i), (2, .ref n0), (1, .ref x0), (0, .ref b)]) : W p l e room_1 s m #[Value.ref b] below meth c H locs cells slots (lw_Z below #[Value.ref b] s) (F0 m 493 ls []) := by
  obtain ⟨hx, hb, hr, hml, hown0, hts0, hX, hbl, hlocks, hgv⟩ := C0
  have hown : s.vm.findClass RL = some m.cls := hown0
  have hts : ∀ w ∈ wsL_law, w.before #[Value.ref b] s = true := fun w h => hts0 w (wsL_law_in w h)
  have hA : ∀ q : Nat, s.heap.size ≤ q → (fun q : Nat => s.heap.size ≤ q) q := fun _ h => h
  have hbA : ¬ (fun q : Nat => s.heap.size ≤ q) b := Nat.not_le.mpr hbl
  obtain ⟨S_, LL, im, hX0, hM0⟩ := hI
  have hgd := MOK4_gd hM0
  have hxt := MOK4_xt hM0
  have hgr := MOK4_gr hM0
  have hgx := MOK4_gx hM0
  have hc1 : cells + 20 ≤ room_1.cells := by show cells + 20 ≤ 600000; omega
  have hs1 : slots + 1000 ≤ room_1.slots := by show slots + 1000 ≤ 7302249; omega
  have hc2 : cells + 20 + 20 ≤ room_1.cells := by show cells + 20 + 20 ≤ 600000; omega
  have hs2 : slots + 1000 + 1000 ≤ room_1.slots := by show slots + 1000 + 1000 ≤ 7302249; omega
  refine lv_aload_n hx hb dL_law_493 rfl (lv_at hl 2 rfl) ?_
  refine z_iL (wa := wx) (wb := wm) (va_runV (As := []) (rest := []) ⟨hx, hb, hml, hown, hts⟩ (wX10_law l dC dI kA _ aS vS oS x0  hX0 hgd hxt hgr hgx) (cwV 0 hts gL_law_X10_law rfl rfl rfl ⟨rfl, hdX10_law⟩ ⟨(Nat.le_of_ble_eq_true rfl), (Nat.le_of_ble_eq_true rfl)⟩) ⟨zPcS.blind, XOK_rec hK hX0 hP, zPreS hK (wl_P hP) (wl_D hD) hZ hS (wl_F hD hS hA)⟩ rfl rfl hl.1 rfl (lv_room (Nat.le_of_ble_eq_true rfl)) dL_law_494 ⟨hc1, hs1⟩) hP hD hS hA (fun r1 w1 H locs hw1 hP hD hS => ?_)
  refine lv_pop hx hb dL_law_497 rfl ?_
  refine lv_aload_n hx hb dL_law_498 rfl (lv_at hl 1 rfl) ?_
  refine z_iL (wa := wm) (wb := w1) (va_runV (As := []) (rest := []) ⟨hx, hb, hml, hown, hts⟩ (wX11_law l dC dI kA _ n0  hM0) (cwV 0 hts gL_law_X11_law rfl rfl rfl ⟨rfl, hdX11_law⟩ ⟨(Nat.le_of_ble_eq_true rfl), (Nat.le_of_ble_eq_true rfl)⟩) ⟨zPc.blind, MOK_rec hK hM0 (wp_P hP List.perm_append_comm), zPre hK (wl_P (wp_P hP List.perm_append_comm)) (wl_D (wp_D hD List.perm_append_comm))⟩ rfl rfl hl.1 rfl (lv_room (Nat.le_of_ble_eq_true rfl)) dL_law_499 ⟨hc2, hs2⟩) (wp_P hP List.perm_append_comm) (wp_D hD List.perm_append_comm) hS hA (fun r2 w2 H locs hw2 hP hD hS => ?_)
  have hP := wp_P hP (List.perm_append_comm)
  have hD := wp_D hD (List.perm_append_comm)
  refine lv_pop hx hb dL_law_502 rfl ?_
  refine lv_goto (tgt := 1730) hx hb dL_law_503 (by decide) ?_
  refine W.widen (k := cells + 40) (n := slots + 2000) (by omega) (by omega) ?_
  exact kk w1 w2 H locs ls ⟨_, _, _, hw1.2, hw2.2⟩ hP hD hS hl
set_option maxHeartbeats 4000000 in
set_option maxRecDepth 100000 in
theorem law_c8 {p : Program} {l : Launch} {e : Env} {s : State} {m : MethodId} {below : List Frame} {meth : Method} {c : Code} {b L : Nat} {xs : Nat → Int32} {dC : Nat → ClassId} {dI : Nat → Nat → Nat} {kA : Nat → ClassId} {aS vS : Nat} {oS : Option Nat} {x0 n0 : Nat} (C0 : lw_At p s m meth c b L xs) (hL : L ≤ 5120) (hK : zK dC dI kA s) (hZ : zStr aS vS oS (fun q : Nat => s.heap.size ≤ q) s s.heap) {i : Int32} (hi : 0 ≤ i.toInt ∧ i.toInt + 10 ≤ L) {cells slots : Nat} (hc : cells + 40 ≤ 600000) (hs : slots + 2000 ≤ 7302249) (kk : ∀ (wx wm : va_W) (H : Heap) (locs : List Loc) (ls : Array Slot), LInv kA x0 n0 wx wm → va_P (dC, dI) vwCl (wx ++ wm) H → va_D (fun q : Nat => s.heap.size ≤ q) (wx ++ wm) → va_S (fun q : Nat => s.heap.size ≤ q) s.heap H locs → lv_has ls 4 [(3, .int i), (2, .ref n0), (1, .ref x0), (0, .ref b)] → W p l e room_1 s m #[Value.ref b] below meth c H locs (cells + 40) (slots + 2000) (lw_Z below #[Value.ref b] s) (F0 m 1730 ls [])) (wx wm : va_W) (H : Heap) (locs : List Loc) (ls : Array Slot) (hI : LInv kA x0 n0 wx wm) (hP : va_P (dC, dI) vwCl (wx ++ wm) H) (hD : va_D (fun q : Nat => s.heap.size ≤ q) (wx ++ wm)) (hS : va_S (fun q : Nat => s.heap.size ≤ q) s.heap H locs) (hl : lv_has ls 4 [(3, .int i), (2, .ref n0), (1, .ref x0), (0, .ref b)]) : W p l e room_1 s m #[Value.ref b] below meth c H locs cells slots (lw_Z below #[Value.ref b] s) (F0 m 506 ls []) := by
  obtain ⟨hx, hb, hr, hml, hown0, hts0, hX, hbl, hlocks, hgv⟩ := C0
  have hown : s.vm.findClass RL = some m.cls := hown0
  have hts : ∀ w ∈ wsL_law, w.before #[Value.ref b] s = true := fun w h => hts0 w (wsL_law_in w h)
  have hA : ∀ q : Nat, s.heap.size ≤ q → (fun q : Nat => s.heap.size ≤ q) q := fun _ h => h
  have hbA : ¬ (fun q : Nat => s.heap.size ≤ q) b := Nat.not_le.mpr hbl
  obtain ⟨S_, LL, im, hX0, hM0⟩ := hI
  have hgd := MOK4_gd hM0
  have hxt := MOK4_xt hM0
  have hgr := MOK4_gr hM0
  have hgx := MOK4_gx hM0
  have hc1 : cells + 20 ≤ room_1.cells := by show cells + 20 ≤ 600000; omega
  have hs1 : slots + 1000 ≤ room_1.slots := by show slots + 1000 ≤ 7302249; omega
  have hc2 : cells + 20 + 20 ≤ room_1.cells := by show cells + 20 + 20 ≤ 600000; omega
  have hs2 : slots + 1000 + 1000 ≤ room_1.slots := by show slots + 1000 + 1000 ≤ 7302249; omega
  obtain ⟨a1, ea1⟩ : ∃ y : Int32, y = xs (i + 1).toNatClampNeg := ⟨_, rfl⟩
  obtain ⟨a2, ea2⟩ : ∃ y : Int32, y = xs (i + 2).toNatClampNeg := ⟨_, rfl⟩
  refine lv_aload_n hx hb dL_law_506 rfl (lv_at hl 2 rfl) ?_
  refine lv_aload_n hx hb dL_law_507 rfl (lv_at hl 3 rfl) ?_
  refine lv_iload_n hx hb dL_law_508 rfl (lv_at hl 0 rfl) ?_
  refine lv_iconst (v := 1) hx hb dL_law_509 (by decide) ?_
  refine lv_iadd hx hb dL_law_510 ?_
  refine va_sld hx hb hX hbl hbA hS (z_sc hi hL (n := 1) (by decide) (by decide)) dL_law_511 ?_
  refine zi a1 ea1.symm ?_
  refine lv_aload_n hx hb dL_law_512 rfl (lv_at hl 3 rfl) ?_
  refine lv_iload_n hx hb dL_law_513 rfl (lv_at hl 0 rfl) ?_
  refine lv_iconst (v := 2) hx hb dL_law_514 (by decide) ?_
  refine lv_iadd hx hb dL_law_515 ?_
  refine va_sld hx hb hX hbl hbA hS (z_sc hi hL (n := 2) (by decide) (by decide)) dL_law_516 ?_
  refine zi a2 ea2.symm ?_
  refine z_iL (wa := wx) (wb := wm) (va_runV (As := [.int a1, .int a2]) (rest := []) ⟨hx, hb, hml, hown, hts⟩ (wX10_fill l dC dI kA _ x0 a1 a2 hX0 hgd hxt) (cwV 2 hts gL_law_X10_fill rfl rfl rfl ⟨rfl, hdX10_fill⟩ ⟨(Nat.le_of_ble_eq_true rfl), (Nat.le_of_ble_eq_true rfl)⟩) ⟨zPc.blind, XOK_rec hK hX0 hP, zPre hK (wl_P hP) (wl_D hD)⟩ rfl rfl hl.1 rfl (lv_room (Nat.le_of_ble_eq_true rfl)) dL_law_517 ⟨hc1, hs1⟩) hP hD hS hA (fun r1 w1 H locs hw1 hP hD hS => ?_)
  refine lv_pop hx hb dL_law_520 rfl ?_
  refine lv_aload_n hx hb dL_law_521 rfl (lv_at hl 1 rfl) ?_
  refine lv_aload_n hx hb dL_law_522 rfl (lv_at hl 3 rfl) ?_
  refine lv_iload_n hx hb dL_law_523 rfl (lv_at hl 0 rfl) ?_
  refine lv_iconst (v := 1) hx hb dL_law_524 (by decide) ?_
  refine lv_iadd hx hb dL_law_525 ?_
  refine va_sld hx hb hX hbl hbA hS (z_sc hi hL (n := 1) (by decide) (by decide)) dL_law_526 ?_
  refine zi a1 ea1.symm ?_
  refine lv_aload_n hx hb dL_law_527 rfl (lv_at hl 3 rfl) ?_
  refine lv_iload_n hx hb dL_law_528 rfl (lv_at hl 0 rfl) ?_
  refine lv_iconst (v := 2) hx hb dL_law_529 (by decide) ?_
  refine lv_iadd hx hb dL_law_530 ?_
  refine va_sld hx hb hX hbl hbA hS (z_sc hi hL (n := 2) (by decide) (by decide)) dL_law_531 ?_
  refine zi a2 ea2.symm ?_
  refine z_iL (wa := wm) (wb := w1) (va_runV (As := [.int a1, .int a2]) (rest := []) ⟨hx, hb, hml, hown, hts⟩ (wX11_fill l dC dI kA _ n0 a1 a2 hM0) (cwV 2 hts gL_law_X11_fill rfl rfl rfl ⟨rfl, hdX11_fill⟩ ⟨(Nat.le_of_ble_eq_true rfl), (Nat.le_of_ble_eq_true rfl)⟩) ⟨zPc.blind, MOK_rec hK hM0 (wp_P hP List.perm_append_comm), zPre hK (wl_P (wp_P hP List.perm_append_comm)) (wl_D (wp_D hD List.perm_append_comm))⟩ rfl rfl hl.1 rfl (lv_room (Nat.le_of_ble_eq_true rfl)) dL_law_532 ⟨hc2, hs2⟩) (wp_P hP List.perm_append_comm) (wp_D hD List.perm_append_comm) hS hA (fun r2 w2 H locs hw2 hP hD hS => ?_)
  have hP := wp_P hP (List.perm_append_comm)
  have hD := wp_D hD (List.perm_append_comm)
  refine lv_pop hx hb dL_law_535 rfl ?_
  refine lv_goto (tgt := 1730) hx hb dL_law_536 (by decide) ?_
  refine W.widen (k := cells + 40) (n := slots + 2000) (by omega) (by omega) ?_
  exact kk w1 w2 H locs ls ⟨_, _, _, hw1.2, hw2.2⟩ hP hD hS hl
set_option maxHeartbeats 4000000 in
set_option maxRecDepth 100000 in
theorem law_c9 {p : Program} {l : Launch} {e : Env} {s : State} {m : MethodId} {below : List Frame} {meth : Method} {c : Code} {b L : Nat} {xs : Nat → Int32} {dC : Nat → ClassId} {dI : Nat → Nat → Nat} {kA : Nat → ClassId} {aS vS : Nat} {oS : Option Nat} {x0 n0 : Nat} (C0 : lw_At p s m meth c b L xs) (hL : L ≤ 5120) (hK : zK dC dI kA s) (hZ : zStr aS vS oS (fun q : Nat => s.heap.size ≤ q) s s.heap) {i : Int32} (hi : 0 ≤ i.toInt ∧ i.toInt + 10 ≤ L) {cells slots : Nat} (hc : cells + 40 ≤ 600000) (hs : slots + 2000 ≤ 7302249) (kk : ∀ (wx wm : va_W) (H : Heap) (locs : List Loc) (ls : Array Slot), LInv kA x0 n0 wx wm → va_P (dC, dI) vwCl (wx ++ wm) H → va_D (fun q : Nat => s.heap.size ≤ q) (wx ++ wm) → va_S (fun q : Nat => s.heap.size ≤ q) s.heap H locs → lv_has ls 4 [(3, .int i), (2, .ref n0), (1, .ref x0), (0, .ref b)] → W p l e room_1 s m #[Value.ref b] below meth c H locs (cells + 40) (slots + 2000) (lw_Z below #[Value.ref b] s) (F0 m 1730 ls [])) (wx wm : va_W) (H : Heap) (locs : List Loc) (ls : Array Slot) (hI : LInv kA x0 n0 wx wm) (hP : va_P (dC, dI) vwCl (wx ++ wm) H) (hD : va_D (fun q : Nat => s.heap.size ≤ q) (wx ++ wm)) (hS : va_S (fun q : Nat => s.heap.size ≤ q) s.heap H locs) (hl : lv_has ls 4 [(3, .int i), (2, .ref n0), (1, .ref x0), (0, .ref b)]) : W p l e room_1 s m #[Value.ref b] below meth c H locs cells slots (lw_Z below #[Value.ref b] s) (F0 m 539 ls []) := by
  obtain ⟨hx, hb, hr, hml, hown0, hts0, hX, hbl, hlocks, hgv⟩ := C0
  have hown : s.vm.findClass RL = some m.cls := hown0
  have hts : ∀ w ∈ wsL_law, w.before #[Value.ref b] s = true := fun w h => hts0 w (wsL_law_in w h)
  have hA : ∀ q : Nat, s.heap.size ≤ q → (fun q : Nat => s.heap.size ≤ q) q := fun _ h => h
  have hbA : ¬ (fun q : Nat => s.heap.size ≤ q) b := Nat.not_le.mpr hbl
  obtain ⟨S_, LL, im, hX0, hM0⟩ := hI
  have hgd := MOK4_gd hM0
  have hxt := MOK4_xt hM0
  have hgr := MOK4_gr hM0
  have hgx := MOK4_gx hM0
  have hc1 : cells + 20 ≤ room_1.cells := by show cells + 20 ≤ 600000; omega
  have hs1 : slots + 1000 ≤ room_1.slots := by show slots + 1000 ≤ 7302249; omega
  have hc2 : cells + 20 + 20 ≤ room_1.cells := by show cells + 20 + 20 ≤ 600000; omega
  have hs2 : slots + 1000 + 1000 ≤ room_1.slots := by show slots + 1000 + 1000 ≤ 7302249; omega
  obtain ⟨a1, ea1⟩ : ∃ y : Int32, y = xs (i + 1).toNatClampNeg := ⟨_, rfl⟩
  refine lv_aload_n hx hb dL_law_539 rfl (lv_at hl 2 rfl) ?_
  refine lv_aload_n hx hb dL_law_540 rfl (lv_at hl 3 rfl) ?_
  refine lv_iload_n hx hb dL_law_541 rfl (lv_at hl 0 rfl) ?_
  refine lv_iconst (v := 1) hx hb dL_law_542 (by decide) ?_
  refine lv_iadd hx hb dL_law_543 ?_
  refine va_sld hx hb hX hbl hbA hS (z_sc hi hL (n := 1) (by decide) (by decide)) dL_law_544 ?_
  refine zi a1 ea1.symm ?_
  refine z_iL (wa := wx) (wb := wm) (va_runV (As := [.int a1]) (rest := []) ⟨hx, hb, hml, hown, hts⟩ (wX10_pour l dC dI kA _ x0 a1 hX0 hgd hxt) (cwV 1 hts gL_law_X10_pour rfl rfl rfl ⟨rfl, hdX10_pour⟩ ⟨(Nat.le_of_ble_eq_true rfl), (Nat.le_of_ble_eq_true rfl)⟩) ⟨zPc.blind, XOK_rec hK hX0 hP, zPre hK (wl_P hP) (wl_D hD)⟩ rfl rfl hl.1 rfl (lv_room (Nat.le_of_ble_eq_true rfl)) dL_law_545 ⟨hc1, hs1⟩) hP hD hS hA (fun r1 w1 H locs hw1 hP hD hS => ?_)
  refine lv_pop hx hb dL_law_548 rfl ?_
  refine lv_aload_n hx hb dL_law_549 rfl (lv_at hl 1 rfl) ?_
  refine lv_aload_n hx hb dL_law_550 rfl (lv_at hl 3 rfl) ?_
  refine lv_iload_n hx hb dL_law_551 rfl (lv_at hl 0 rfl) ?_
  refine lv_iconst (v := 1) hx hb dL_law_552 (by decide) ?_
  refine lv_iadd hx hb dL_law_553 ?_
  refine va_sld hx hb hX hbl hbA hS (z_sc hi hL (n := 1) (by decide) (by decide)) dL_law_554 ?_
  refine zi a1 ea1.symm ?_
  refine z_iL (wa := wm) (wb := w1) (va_runV (As := [.int a1]) (rest := []) ⟨hx, hb, hml, hown, hts⟩ (wX11_pour l dC dI kA _ n0 a1 hM0) (cwV 1 hts gL_law_X11_pour rfl rfl rfl ⟨rfl, hdX11_pour⟩ ⟨(Nat.le_of_ble_eq_true rfl), (Nat.le_of_ble_eq_true rfl)⟩) ⟨zPc.blind, MOK_rec hK hM0 (wp_P hP List.perm_append_comm), zPre hK (wl_P (wp_P hP List.perm_append_comm)) (wl_D (wp_D hD List.perm_append_comm))⟩ rfl rfl hl.1 rfl (lv_room (Nat.le_of_ble_eq_true rfl)) dL_law_555 ⟨hc2, hs2⟩) (wp_P hP List.perm_append_comm) (wp_D hD List.perm_append_comm) hS hA (fun r2 w2 H locs hw2 hP hD hS => ?_)
  have hP := wp_P hP (List.perm_append_comm)
  have hD := wp_D hD (List.perm_append_comm)
  refine lv_pop hx hb dL_law_558 rfl ?_
  refine lv_goto (tgt := 1730) hx hb dL_law_559 (by decide) ?_
  refine W.widen (k := cells + 40) (n := slots + 2000) (by omega) (by omega) ?_
  exact kk w1 w2 H locs ls ⟨_, _, _, hw1.2, hw2.2⟩ hP hD hS hl
set_option maxHeartbeats 4000000 in
set_option maxRecDepth 100000 in
theorem law_c10 {p : Program} {l : Launch} {e : Env} {s : State} {m : MethodId} {below : List Frame} {meth : Method} {c : Code} {b L : Nat} {xs : Nat → Int32} {dC : Nat → ClassId} {dI : Nat → Nat → Nat} {kA : Nat → ClassId} {aS vS : Nat} {oS : Option Nat} {x0 n0 : Nat} (C0 : lw_At p s m meth c b L xs) (hL : L ≤ 5120) (hK : zK dC dI kA s) (hZ : zStr aS vS oS (fun q : Nat => s.heap.size ≤ q) s s.heap) {i : Int32} (hi : 0 ≤ i.toInt ∧ i.toInt + 10 ≤ L) {cells slots : Nat} (hc : cells + 40 ≤ 600000) (hs : slots + 2000 ≤ 7302249) (kk : ∀ (wx wm : va_W) (H : Heap) (locs : List Loc) (ls : Array Slot), LInv kA x0 n0 wx wm → va_P (dC, dI) vwCl (wx ++ wm) H → va_D (fun q : Nat => s.heap.size ≤ q) (wx ++ wm) → va_S (fun q : Nat => s.heap.size ≤ q) s.heap H locs → lv_has ls 4 [(3, .int i), (2, .ref n0), (1, .ref x0), (0, .ref b)] → W p l e room_1 s m #[Value.ref b] below meth c H locs (cells + 40) (slots + 2000) (lw_Z below #[Value.ref b] s) (F0 m 1730 ls [])) (wx wm : va_W) (H : Heap) (locs : List Loc) (ls : Array Slot) (hI : LInv kA x0 n0 wx wm) (hP : va_P (dC, dI) vwCl (wx ++ wm) H) (hD : va_D (fun q : Nat => s.heap.size ≤ q) (wx ++ wm)) (hS : va_S (fun q : Nat => s.heap.size ≤ q) s.heap H locs) (hl : lv_has ls 4 [(3, .int i), (2, .ref n0), (1, .ref x0), (0, .ref b)]) : W p l e room_1 s m #[Value.ref b] below meth c H locs cells slots (lw_Z below #[Value.ref b] s) (F0 m 562 ls []) := by
  obtain ⟨hx, hb, hr, hml, hown0, hts0, hX, hbl, hlocks, hgv⟩ := C0
  have hown : s.vm.findClass RL = some m.cls := hown0
  have hts : ∀ w ∈ wsL_law, w.before #[Value.ref b] s = true := fun w h => hts0 w (wsL_law_in w h)
  have hA : ∀ q : Nat, s.heap.size ≤ q → (fun q : Nat => s.heap.size ≤ q) q := fun _ h => h
  have hbA : ¬ (fun q : Nat => s.heap.size ≤ q) b := Nat.not_le.mpr hbl
  obtain ⟨S_, LL, im, hX0, hM0⟩ := hI
  have hgd := MOK4_gd hM0
  have hxt := MOK4_xt hM0
  have hgr := MOK4_gr hM0
  have hgx := MOK4_gx hM0
  have hc1 : cells + 20 ≤ room_1.cells := by show cells + 20 ≤ 600000; omega
  have hs1 : slots + 1000 ≤ room_1.slots := by show slots + 1000 ≤ 7302249; omega
  have hc2 : cells + 20 + 20 ≤ room_1.cells := by show cells + 20 + 20 ≤ 600000; omega
  have hs2 : slots + 1000 + 1000 ≤ room_1.slots := by show slots + 1000 + 1000 ≤ 7302249; omega
  obtain ⟨a1, ea1⟩ : ∃ y : Int32, y = xs (i + 1).toNatClampNeg := ⟨_, rfl⟩
  obtain ⟨a2, ea2⟩ : ∃ y : Int32, y = xs (i + 2).toNatClampNeg := ⟨_, rfl⟩
  refine lv_aload_n hx hb dL_law_562 rfl (lv_at hl 2 rfl) ?_
  refine lv_aload_n hx hb dL_law_563 rfl (lv_at hl 3 rfl) ?_
  refine lv_iload_n hx hb dL_law_564 rfl (lv_at hl 0 rfl) ?_
  refine lv_iconst (v := 1) hx hb dL_law_565 (by decide) ?_
  refine lv_iadd hx hb dL_law_566 ?_
  refine va_sld hx hb hX hbl hbA hS (z_sc hi hL (n := 1) (by decide) (by decide)) dL_law_567 ?_
  refine zi a1 ea1.symm ?_
  refine lv_aload_n hx hb dL_law_568 rfl (lv_at hl 3 rfl) ?_
  refine lv_iload_n hx hb dL_law_569 rfl (lv_at hl 0 rfl) ?_
  refine lv_iconst (v := 2) hx hb dL_law_570 (by decide) ?_
  refine lv_iadd hx hb dL_law_571 ?_
  refine va_sld hx hb hX hbl hbA hS (z_sc hi hL (n := 2) (by decide) (by decide)) dL_law_572 ?_
  refine zi a2 ea2.symm ?_
  refine z_iL (wa := wx) (wb := wm) (va_runV (As := [.int a1, .int a2]) (rest := []) ⟨hx, hb, hml, hown, hts⟩ (wX10_store l dC dI kA _ x0 a1 a2 hX0 hgd hxt) (cwV 2 hts gL_law_X10_store rfl rfl rfl ⟨rfl, hdX10_store⟩ ⟨(Nat.le_of_ble_eq_true rfl), (Nat.le_of_ble_eq_true rfl)⟩) ⟨zPc.blind, XOK_rec hK hX0 hP, zPre hK (wl_P hP) (wl_D hD)⟩ rfl rfl hl.1 rfl (lv_room (Nat.le_of_ble_eq_true rfl)) dL_law_573 ⟨hc1, hs1⟩) hP hD hS hA (fun r1 w1 H locs hw1 hP hD hS => ?_)
  refine lv_pop hx hb dL_law_576 rfl ?_
  refine lv_aload_n hx hb dL_law_577 rfl (lv_at hl 1 rfl) ?_
  refine lv_aload_n hx hb dL_law_578 rfl (lv_at hl 3 rfl) ?_
  refine lv_iload_n hx hb dL_law_579 rfl (lv_at hl 0 rfl) ?_
  refine lv_iconst (v := 1) hx hb dL_law_580 (by decide) ?_
  refine lv_iadd hx hb dL_law_581 ?_
  refine va_sld hx hb hX hbl hbA hS (z_sc hi hL (n := 1) (by decide) (by decide)) dL_law_582 ?_
  refine zi a1 ea1.symm ?_
  refine lv_aload_n hx hb dL_law_583 rfl (lv_at hl 3 rfl) ?_
  refine lv_iload_n hx hb dL_law_584 rfl (lv_at hl 0 rfl) ?_
  refine lv_iconst (v := 2) hx hb dL_law_585 (by decide) ?_
  refine lv_iadd hx hb dL_law_586 ?_
  refine va_sld hx hb hX hbl hbA hS (z_sc hi hL (n := 2) (by decide) (by decide)) dL_law_587 ?_
  refine zi a2 ea2.symm ?_
  refine z_iL (wa := wm) (wb := w1) (va_runV (As := [.int a1, .int a2]) (rest := []) ⟨hx, hb, hml, hown, hts⟩ (wX11_store l dC dI kA _ n0 a1 a2 hM0) (cwV 2 hts gL_law_X11_store rfl rfl rfl ⟨rfl, hdX11_store⟩ ⟨(Nat.le_of_ble_eq_true rfl), (Nat.le_of_ble_eq_true rfl)⟩) ⟨zPc.blind, MOK_rec hK hM0 (wp_P hP List.perm_append_comm), zPre hK (wl_P (wp_P hP List.perm_append_comm)) (wl_D (wp_D hD List.perm_append_comm))⟩ rfl rfl hl.1 rfl (lv_room (Nat.le_of_ble_eq_true rfl)) dL_law_588 ⟨hc2, hs2⟩) (wp_P hP List.perm_append_comm) (wp_D hD List.perm_append_comm) hS hA (fun r2 w2 H locs hw2 hP hD hS => ?_)
  have hP := wp_P hP (List.perm_append_comm)
  have hD := wp_D hD (List.perm_append_comm)
  refine lv_pop hx hb dL_law_591 rfl ?_
  refine lv_goto (tgt := 1730) hx hb dL_law_592 (by decide) ?_
  refine W.widen (k := cells + 40) (n := slots + 2000) (by omega) (by omega) ?_
  exact kk w1 w2 H locs ls ⟨_, _, _, hw1.2, hw2.2⟩ hP hD hS hl
set_option maxHeartbeats 4000000 in
set_option maxRecDepth 100000 in
theorem law_c11 {p : Program} {l : Launch} {e : Env} {s : State} {m : MethodId} {below : List Frame} {meth : Method} {c : Code} {b L : Nat} {xs : Nat → Int32} {dC : Nat → ClassId} {dI : Nat → Nat → Nat} {kA : Nat → ClassId} {aS vS : Nat} {oS : Option Nat} {x0 n0 : Nat} (C0 : lw_At p s m meth c b L xs) (hL : L ≤ 5120) (hK : zK dC dI kA s) (hZ : zStr aS vS oS (fun q : Nat => s.heap.size ≤ q) s s.heap) {i : Int32} (hi : 0 ≤ i.toInt ∧ i.toInt + 10 ≤ L) {cells slots : Nat} (hc : cells + 40 ≤ 600000) (hs : slots + 2000 ≤ 7302249) (kk : ∀ (wx wm : va_W) (H : Heap) (locs : List Loc) (ls : Array Slot), LInv kA x0 n0 wx wm → va_P (dC, dI) vwCl (wx ++ wm) H → va_D (fun q : Nat => s.heap.size ≤ q) (wx ++ wm) → va_S (fun q : Nat => s.heap.size ≤ q) s.heap H locs → lv_has ls 4 [(3, .int i), (2, .ref n0), (1, .ref x0), (0, .ref b)] → W p l e room_1 s m #[Value.ref b] below meth c H locs (cells + 40) (slots + 2000) (lw_Z below #[Value.ref b] s) (F0 m 1730 ls [])) (wx wm : va_W) (H : Heap) (locs : List Loc) (ls : Array Slot) (hI : LInv kA x0 n0 wx wm) (hP : va_P (dC, dI) vwCl (wx ++ wm) H) (hD : va_D (fun q : Nat => s.heap.size ≤ q) (wx ++ wm)) (hS : va_S (fun q : Nat => s.heap.size ≤ q) s.heap H locs) (hl : lv_has ls 4 [(3, .int i), (2, .ref n0), (1, .ref x0), (0, .ref b)]) : W p l e room_1 s m #[Value.ref b] below meth c H locs cells slots (lw_Z below #[Value.ref b] s) (F0 m 595 ls []) := by
  obtain ⟨hx, hb, hr, hml, hown0, hts0, hX, hbl, hlocks, hgv⟩ := C0
  have hown : s.vm.findClass RL = some m.cls := hown0
  have hts : ∀ w ∈ wsL_law, w.before #[Value.ref b] s = true := fun w h => hts0 w (wsL_law_in w h)
  have hA : ∀ q : Nat, s.heap.size ≤ q → (fun q : Nat => s.heap.size ≤ q) q := fun _ h => h
  have hbA : ¬ (fun q : Nat => s.heap.size ≤ q) b := Nat.not_le.mpr hbl
  obtain ⟨S_, LL, im, hX0, hM0⟩ := hI
  have hgd := MOK4_gd hM0
  have hxt := MOK4_xt hM0
  have hgr := MOK4_gr hM0
  have hgx := MOK4_gx hM0
  have hc1 : cells + 20 ≤ room_1.cells := by show cells + 20 ≤ 600000; omega
  have hs1 : slots + 1000 ≤ room_1.slots := by show slots + 1000 ≤ 7302249; omega
  have hc2 : cells + 20 + 20 ≤ room_1.cells := by show cells + 20 + 20 ≤ 600000; omega
  have hs2 : slots + 1000 + 1000 ≤ room_1.slots := by show slots + 1000 + 1000 ≤ 7302249; omega
  obtain ⟨a1, ea1⟩ : ∃ y : Int32, y = xs (i + 1).toNatClampNeg := ⟨_, rfl⟩
  obtain ⟨a2, ea2⟩ : ∃ y : Int32, y = xs (i + 2).toNatClampNeg := ⟨_, rfl⟩
  refine lv_aload_n hx hb dL_law_595 rfl (lv_at hl 2 rfl) ?_
  refine lv_aload_n hx hb dL_law_596 rfl (lv_at hl 3 rfl) ?_
  refine lv_iload_n hx hb dL_law_597 rfl (lv_at hl 0 rfl) ?_
  refine lv_iconst (v := 1) hx hb dL_law_598 (by decide) ?_
  refine lv_iadd hx hb dL_law_599 ?_
  refine va_sld hx hb hX hbl hbA hS (z_sc hi hL (n := 1) (by decide) (by decide)) dL_law_600 ?_
  refine zi a1 ea1.symm ?_
  refine lv_aload_n hx hb dL_law_601 rfl (lv_at hl 3 rfl) ?_
  refine lv_iload_n hx hb dL_law_602 rfl (lv_at hl 0 rfl) ?_
  refine lv_iconst (v := 2) hx hb dL_law_603 (by decide) ?_
  refine lv_iadd hx hb dL_law_604 ?_
  refine va_sld hx hb hX hbl hbA hS (z_sc hi hL (n := 2) (by decide) (by decide)) dL_law_605 ?_
  refine zi a2 ea2.symm ?_
  refine z_iL (wa := wx) (wb := wm) (va_runV (As := [.int a1, .int a2]) (rest := []) ⟨hx, hb, hml, hown, hts⟩ (wX10_leave l dC dI kA _ x0 a1 a2 hX0 hgd hxt) (cwV 2 hts gL_law_X10_leave rfl rfl rfl ⟨rfl, hdX10_leave⟩ ⟨(Nat.le_of_ble_eq_true rfl), (Nat.le_of_ble_eq_true rfl)⟩) ⟨zPc.blind, XOK_rec hK hX0 hP, zPre hK (wl_P hP) (wl_D hD)⟩ rfl rfl hl.1 rfl (lv_room (Nat.le_of_ble_eq_true rfl)) dL_law_606 ⟨hc1, hs1⟩) hP hD hS hA (fun r1 w1 H locs hw1 hP hD hS => ?_)
  refine lv_pop hx hb dL_law_609 rfl ?_
  refine lv_aload_n hx hb dL_law_610 rfl (lv_at hl 1 rfl) ?_
  refine lv_aload_n hx hb dL_law_611 rfl (lv_at hl 3 rfl) ?_
  refine lv_iload_n hx hb dL_law_612 rfl (lv_at hl 0 rfl) ?_
  refine lv_iconst (v := 1) hx hb dL_law_613 (by decide) ?_
  refine lv_iadd hx hb dL_law_614 ?_
  refine va_sld hx hb hX hbl hbA hS (z_sc hi hL (n := 1) (by decide) (by decide)) dL_law_615 ?_
  refine zi a1 ea1.symm ?_
  refine lv_aload_n hx hb dL_law_616 rfl (lv_at hl 3 rfl) ?_
  refine lv_iload_n hx hb dL_law_617 rfl (lv_at hl 0 rfl) ?_
  refine lv_iconst (v := 2) hx hb dL_law_618 (by decide) ?_
  refine lv_iadd hx hb dL_law_619 ?_
  refine va_sld hx hb hX hbl hbA hS (z_sc hi hL (n := 2) (by decide) (by decide)) dL_law_620 ?_
  refine zi a2 ea2.symm ?_
  refine z_iL (wa := wm) (wb := w1) (va_runV (As := [.int a1, .int a2]) (rest := []) ⟨hx, hb, hml, hown, hts⟩ (wX11_leave l dC dI kA _ n0 a1 a2 hM0) (cwV 2 hts gL_law_X11_leave rfl rfl rfl ⟨rfl, hdX11_leave⟩ ⟨(Nat.le_of_ble_eq_true rfl), (Nat.le_of_ble_eq_true rfl)⟩) ⟨zPc.blind, MOK_rec hK hM0 (wp_P hP List.perm_append_comm), zPre hK (wl_P (wp_P hP List.perm_append_comm)) (wl_D (wp_D hD List.perm_append_comm))⟩ rfl rfl hl.1 rfl (lv_room (Nat.le_of_ble_eq_true rfl)) dL_law_621 ⟨hc2, hs2⟩) (wp_P hP List.perm_append_comm) (wp_D hD List.perm_append_comm) hS hA (fun r2 w2 H locs hw2 hP hD hS => ?_)
  have hP := wp_P hP (List.perm_append_comm)
  have hD := wp_D hD (List.perm_append_comm)
  refine lv_pop hx hb dL_law_624 rfl ?_
  refine lv_goto (tgt := 1730) hx hb dL_law_625 (by decide) ?_
  refine W.widen (k := cells + 40) (n := slots + 2000) (by omega) (by omega) ?_
  exact kk w1 w2 H locs ls ⟨_, _, _, hw1.2, hw2.2⟩ hP hD hS hl
set_option maxHeartbeats 4000000 in
set_option maxRecDepth 100000 in
theorem law_c12 {p : Program} {l : Launch} {e : Env} {s : State} {m : MethodId} {below : List Frame} {meth : Method} {c : Code} {b L : Nat} {xs : Nat → Int32} {dC : Nat → ClassId} {dI : Nat → Nat → Nat} {kA : Nat → ClassId} {aS vS : Nat} {oS : Option Nat} {x0 n0 : Nat} (C0 : lw_At p s m meth c b L xs) (hL : L ≤ 5120) (hK : zK dC dI kA s) (hZ : zStr aS vS oS (fun q : Nat => s.heap.size ≤ q) s s.heap) {i : Int32} (hi : 0 ≤ i.toInt ∧ i.toInt + 10 ≤ L) {cells slots : Nat} (hc : cells + 40 ≤ 600000) (hs : slots + 2000 ≤ 7302249) (kk : ∀ (wx wm : va_W) (H : Heap) (locs : List Loc) (ls : Array Slot), LInv kA x0 n0 wx wm → va_P (dC, dI) vwCl (wx ++ wm) H → va_D (fun q : Nat => s.heap.size ≤ q) (wx ++ wm) → va_S (fun q : Nat => s.heap.size ≤ q) s.heap H locs → lv_has ls 4 [(3, .int i), (2, .ref n0), (1, .ref x0), (0, .ref b)] → W p l e room_1 s m #[Value.ref b] below meth c H locs (cells + 40) (slots + 2000) (lw_Z below #[Value.ref b] s) (F0 m 1730 ls [])) (wx wm : va_W) (H : Heap) (locs : List Loc) (ls : Array Slot) (hI : LInv kA x0 n0 wx wm) (hP : va_P (dC, dI) vwCl (wx ++ wm) H) (hD : va_D (fun q : Nat => s.heap.size ≤ q) (wx ++ wm)) (hS : va_S (fun q : Nat => s.heap.size ≤ q) s.heap H locs) (hl : lv_has ls 4 [(3, .int i), (2, .ref n0), (1, .ref x0), (0, .ref b)]) : W p l e room_1 s m #[Value.ref b] below meth c H locs cells slots (lw_Z below #[Value.ref b] s) (F0 m 628 ls []) := by
  obtain ⟨hx, hb, hr, hml, hown0, hts0, hX, hbl, hlocks, hgv⟩ := C0
  have hown : s.vm.findClass RL = some m.cls := hown0
  have hts : ∀ w ∈ wsL_law, w.before #[Value.ref b] s = true := fun w h => hts0 w (wsL_law_in w h)
  have hA : ∀ q : Nat, s.heap.size ≤ q → (fun q : Nat => s.heap.size ≤ q) q := fun _ h => h
  have hbA : ¬ (fun q : Nat => s.heap.size ≤ q) b := Nat.not_le.mpr hbl
  obtain ⟨S_, LL, im, hX0, hM0⟩ := hI
  have hgd := MOK4_gd hM0
  have hxt := MOK4_xt hM0
  have hgr := MOK4_gr hM0
  have hgx := MOK4_gx hM0
  have hc1 : cells + 20 ≤ room_1.cells := by show cells + 20 ≤ 600000; omega
  have hs1 : slots + 1000 ≤ room_1.slots := by show slots + 1000 ≤ 7302249; omega
  have hc2 : cells + 20 + 20 ≤ room_1.cells := by show cells + 20 + 20 ≤ 600000; omega
  have hs2 : slots + 1000 + 1000 ≤ room_1.slots := by show slots + 1000 + 1000 ≤ 7302249; omega
  obtain ⟨a1, ea1⟩ : ∃ y : Int32, y = xs (i + 1).toNatClampNeg := ⟨_, rfl⟩
  obtain ⟨a2, ea2⟩ : ∃ y : Int32, y = xs (i + 2).toNatClampNeg := ⟨_, rfl⟩
  refine lv_aload_n hx hb dL_law_628 rfl (lv_at hl 2 rfl) ?_
  refine lv_aload_n hx hb dL_law_629 rfl (lv_at hl 3 rfl) ?_
  refine lv_iload_n hx hb dL_law_630 rfl (lv_at hl 0 rfl) ?_
  refine lv_iconst (v := 1) hx hb dL_law_631 (by decide) ?_
  refine lv_iadd hx hb dL_law_632 ?_
  refine va_sld hx hb hX hbl hbA hS (z_sc hi hL (n := 1) (by decide) (by decide)) dL_law_633 ?_
  refine zi a1 ea1.symm ?_
  refine lv_aload_n hx hb dL_law_634 rfl (lv_at hl 3 rfl) ?_
  refine lv_iload_n hx hb dL_law_635 rfl (lv_at hl 0 rfl) ?_
  refine lv_iconst (v := 2) hx hb dL_law_636 (by decide) ?_
  refine lv_iadd hx hb dL_law_637 ?_
  refine va_sld hx hb hX hbl hbA hS (z_sc hi hL (n := 2) (by decide) (by decide)) dL_law_638 ?_
  refine zi a2 ea2.symm ?_
  refine z_iL (wa := wx) (wb := wm) (va_runV (As := [.int a1, .int a2]) (rest := []) ⟨hx, hb, hml, hown, hts⟩ (wX10_tick l dC dI kA _ x0 a1 a2 hX0 hgd hxt) (cwV 2 hts gL_law_X10_tick rfl rfl rfl ⟨rfl, hdX10_tick⟩ ⟨(Nat.le_of_ble_eq_true rfl), (Nat.le_of_ble_eq_true rfl)⟩) ⟨zPc.blind, XOK_rec hK hX0 hP, zPre hK (wl_P hP) (wl_D hD)⟩ rfl rfl hl.1 rfl (lv_room (Nat.le_of_ble_eq_true rfl)) dL_law_639 ⟨hc1, hs1⟩) hP hD hS hA (fun r1 w1 H locs hw1 hP hD hS => ?_)
  refine lv_pop hx hb dL_law_642 rfl ?_
  refine lv_aload_n hx hb dL_law_643 rfl (lv_at hl 1 rfl) ?_
  refine lv_aload_n hx hb dL_law_644 rfl (lv_at hl 3 rfl) ?_
  refine lv_iload_n hx hb dL_law_645 rfl (lv_at hl 0 rfl) ?_
  refine lv_iconst (v := 1) hx hb dL_law_646 (by decide) ?_
  refine lv_iadd hx hb dL_law_647 ?_
  refine va_sld hx hb hX hbl hbA hS (z_sc hi hL (n := 1) (by decide) (by decide)) dL_law_648 ?_
  refine zi a1 ea1.symm ?_
  refine lv_aload_n hx hb dL_law_649 rfl (lv_at hl 3 rfl) ?_
  refine lv_iload_n hx hb dL_law_650 rfl (lv_at hl 0 rfl) ?_
  refine lv_iconst (v := 2) hx hb dL_law_651 (by decide) ?_
  refine lv_iadd hx hb dL_law_652 ?_
  refine va_sld hx hb hX hbl hbA hS (z_sc hi hL (n := 2) (by decide) (by decide)) dL_law_653 ?_
  refine zi a2 ea2.symm ?_
  refine z_iL (wa := wm) (wb := w1) (va_runV (As := [.int a1, .int a2]) (rest := []) ⟨hx, hb, hml, hown, hts⟩ (wX11_tick l dC dI kA _ n0 a1 a2 hM0) (cwV 2 hts gL_law_X11_tick rfl rfl rfl ⟨rfl, hdX11_tick⟩ ⟨(Nat.le_of_ble_eq_true rfl), (Nat.le_of_ble_eq_true rfl)⟩) ⟨zPc.blind, MOK_rec hK hM0 (wp_P hP List.perm_append_comm), zPre hK (wl_P (wp_P hP List.perm_append_comm)) (wl_D (wp_D hD List.perm_append_comm))⟩ rfl rfl hl.1 rfl (lv_room (Nat.le_of_ble_eq_true rfl)) dL_law_654 ⟨hc2, hs2⟩) (wp_P hP List.perm_append_comm) (wp_D hD List.perm_append_comm) hS hA (fun r2 w2 H locs hw2 hP hD hS => ?_)
  have hP := wp_P hP (List.perm_append_comm)
  have hD := wp_D hD (List.perm_append_comm)
  refine lv_pop hx hb dL_law_657 rfl ?_
  refine lv_goto (tgt := 1730) hx hb dL_law_658 (by decide) ?_
  refine W.widen (k := cells + 40) (n := slots + 2000) (by omega) (by omega) ?_
  exact kk w1 w2 H locs ls ⟨_, _, _, hw1.2, hw2.2⟩ hP hD hS hl
set_option maxHeartbeats 4000000 in
set_option maxRecDepth 100000 in
theorem law_c13 {p : Program} {l : Launch} {e : Env} {s : State} {m : MethodId} {below : List Frame} {meth : Method} {c : Code} {b L : Nat} {xs : Nat → Int32} {dC : Nat → ClassId} {dI : Nat → Nat → Nat} {kA : Nat → ClassId} {aS vS : Nat} {oS : Option Nat} {x0 n0 : Nat} (C0 : lw_At p s m meth c b L xs) (hL : L ≤ 5120) (hK : zK dC dI kA s) (hZ : zStr aS vS oS (fun q : Nat => s.heap.size ≤ q) s s.heap) {i : Int32} (hi : 0 ≤ i.toInt ∧ i.toInt + 10 ≤ L) {cells slots : Nat} (hc : cells + 40 ≤ 600000) (hs : slots + 2000 ≤ 7302249) (kk : ∀ (wx wm : va_W) (H : Heap) (locs : List Loc) (ls : Array Slot), LInv kA x0 n0 wx wm → va_P (dC, dI) vwCl (wx ++ wm) H → va_D (fun q : Nat => s.heap.size ≤ q) (wx ++ wm) → va_S (fun q : Nat => s.heap.size ≤ q) s.heap H locs → lv_has ls 4 [(3, .int i), (2, .ref n0), (1, .ref x0), (0, .ref b)] → W p l e room_1 s m #[Value.ref b] below meth c H locs (cells + 40) (slots + 2000) (lw_Z below #[Value.ref b] s) (F0 m 1730 ls [])) (wx wm : va_W) (H : Heap) (locs : List Loc) (ls : Array Slot) (hI : LInv kA x0 n0 wx wm) (hP : va_P (dC, dI) vwCl (wx ++ wm) H) (hD : va_D (fun q : Nat => s.heap.size ≤ q) (wx ++ wm)) (hS : va_S (fun q : Nat => s.heap.size ≤ q) s.heap H locs) (hl : lv_has ls 4 [(3, .int i), (2, .ref n0), (1, .ref x0), (0, .ref b)]) : W p l e room_1 s m #[Value.ref b] below meth c H locs cells slots (lw_Z below #[Value.ref b] s) (F0 m 661 ls []) := by
  obtain ⟨hx, hb, hr, hml, hown0, hts0, hX, hbl, hlocks, hgv⟩ := C0
  have hown : s.vm.findClass RL = some m.cls := hown0
  have hts : ∀ w ∈ wsL_law, w.before #[Value.ref b] s = true := fun w h => hts0 w (wsL_law_in w h)
  have hA : ∀ q : Nat, s.heap.size ≤ q → (fun q : Nat => s.heap.size ≤ q) q := fun _ h => h
  have hbA : ¬ (fun q : Nat => s.heap.size ≤ q) b := Nat.not_le.mpr hbl
  obtain ⟨S_, LL, im, hX0, hM0⟩ := hI
  have hgd := MOK4_gd hM0
  have hxt := MOK4_xt hM0
  have hgr := MOK4_gr hM0
  have hgx := MOK4_gx hM0
  have hc1 : cells + 20 ≤ room_1.cells := by show cells + 20 ≤ 600000; omega
  have hs1 : slots + 1000 ≤ room_1.slots := by show slots + 1000 ≤ 7302249; omega
  have hc2 : cells + 20 + 20 ≤ room_1.cells := by show cells + 20 + 20 ≤ 600000; omega
  have hs2 : slots + 1000 + 1000 ≤ room_1.slots := by show slots + 1000 + 1000 ≤ 7302249; omega
  obtain ⟨a1, ea1⟩ : ∃ y : Int32, y = xs (i + 1).toNatClampNeg := ⟨_, rfl⟩
  obtain ⟨a2, ea2⟩ : ∃ y : Int32, y = xs (i + 2).toNatClampNeg := ⟨_, rfl⟩
  refine lv_aload_n hx hb dL_law_661 rfl (lv_at hl 2 rfl) ?_
  refine lv_aload_n hx hb dL_law_662 rfl (lv_at hl 3 rfl) ?_
  refine lv_iload_n hx hb dL_law_663 rfl (lv_at hl 0 rfl) ?_
  refine lv_iconst (v := 1) hx hb dL_law_664 (by decide) ?_
  refine lv_iadd hx hb dL_law_665 ?_
  refine va_sld hx hb hX hbl hbA hS (z_sc hi hL (n := 1) (by decide) (by decide)) dL_law_666 ?_
  refine zi a1 ea1.symm ?_
  refine lv_aload_n hx hb dL_law_667 rfl (lv_at hl 3 rfl) ?_
  refine lv_iload_n hx hb dL_law_668 rfl (lv_at hl 0 rfl) ?_
  refine lv_iconst (v := 2) hx hb dL_law_669 (by decide) ?_
  refine lv_iadd hx hb dL_law_670 ?_
  refine va_sld hx hb hX hbl hbA hS (z_sc hi hL (n := 2) (by decide) (by decide)) dL_law_671 ?_
  refine zi a2 ea2.symm ?_
  refine z_iL (wa := wx) (wb := wm) (va_runV (As := [.int a1, .int a2]) (rest := []) ⟨hx, hb, hml, hown, hts⟩ (wX10_at l dC dI kA _ x0 a1 a2 hX0 hgd hxt) (cwV 2 hts gL_law_X10_at rfl rfl rfl ⟨rfl, hdX10_at⟩ ⟨(Nat.le_of_ble_eq_true rfl), (Nat.le_of_ble_eq_true rfl)⟩) ⟨zPc.blind, XOK_rec hK hX0 hP, zPre hK (wl_P hP) (wl_D hD)⟩ rfl rfl hl.1 rfl (lv_room (Nat.le_of_ble_eq_true rfl)) dL_law_672 ⟨hc1, hs1⟩) hP hD hS hA (fun r1 w1 H locs hw1 hP hD hS => ?_)
  refine lv_pop hx hb dL_law_675 rfl ?_
  refine lv_aload_n hx hb dL_law_676 rfl (lv_at hl 1 rfl) ?_
  refine lv_aload_n hx hb dL_law_677 rfl (lv_at hl 3 rfl) ?_
  refine lv_iload_n hx hb dL_law_678 rfl (lv_at hl 0 rfl) ?_
  refine lv_iconst (v := 1) hx hb dL_law_679 (by decide) ?_
  refine lv_iadd hx hb dL_law_680 ?_
  refine va_sld hx hb hX hbl hbA hS (z_sc hi hL (n := 1) (by decide) (by decide)) dL_law_681 ?_
  refine zi a1 ea1.symm ?_
  refine lv_aload_n hx hb dL_law_682 rfl (lv_at hl 3 rfl) ?_
  refine lv_iload_n hx hb dL_law_683 rfl (lv_at hl 0 rfl) ?_
  refine lv_iconst (v := 2) hx hb dL_law_684 (by decide) ?_
  refine lv_iadd hx hb dL_law_685 ?_
  refine va_sld hx hb hX hbl hbA hS (z_sc hi hL (n := 2) (by decide) (by decide)) dL_law_686 ?_
  refine zi a2 ea2.symm ?_
  refine z_iL (wa := wm) (wb := w1) (va_runV (As := [.int a1, .int a2]) (rest := []) ⟨hx, hb, hml, hown, hts⟩ (wX11_at l dC dI kA _ n0 a1 a2 hM0) (cwV 2 hts gL_law_X11_at rfl rfl rfl ⟨rfl, hdX11_at⟩ ⟨(Nat.le_of_ble_eq_true rfl), (Nat.le_of_ble_eq_true rfl)⟩) ⟨zPc.blind, MOK_rec hK hM0 (wp_P hP List.perm_append_comm), zPre hK (wl_P (wp_P hP List.perm_append_comm)) (wl_D (wp_D hD List.perm_append_comm))⟩ rfl rfl hl.1 rfl (lv_room (Nat.le_of_ble_eq_true rfl)) dL_law_687 ⟨hc2, hs2⟩) (wp_P hP List.perm_append_comm) (wp_D hD List.perm_append_comm) hS hA (fun r2 w2 H locs hw2 hP hD hS => ?_)
  have hP := wp_P hP (List.perm_append_comm)
  have hD := wp_D hD (List.perm_append_comm)
  refine lv_pop hx hb dL_law_690 rfl ?_
  refine lv_goto (tgt := 1730) hx hb dL_law_691 (by decide) ?_
  refine W.widen (k := cells + 40) (n := slots + 2000) (by omega) (by omega) ?_
  exact kk w1 w2 H locs ls ⟨_, _, _, hw1.2, hw2.2⟩ hP hD hS hl
set_option maxHeartbeats 4000000 in
set_option maxRecDepth 100000 in
theorem law_c14 {p : Program} {l : Launch} {e : Env} {s : State} {m : MethodId} {below : List Frame} {meth : Method} {c : Code} {b L : Nat} {xs : Nat → Int32} {dC : Nat → ClassId} {dI : Nat → Nat → Nat} {kA : Nat → ClassId} {aS vS : Nat} {oS : Option Nat} {x0 n0 : Nat} (C0 : lw_At p s m meth c b L xs) (hL : L ≤ 5120) (hK : zK dC dI kA s) (hZ : zStr aS vS oS (fun q : Nat => s.heap.size ≤ q) s s.heap) {i : Int32} (hi : 0 ≤ i.toInt ∧ i.toInt + 10 ≤ L) {cells slots : Nat} (hc : cells + 40 ≤ 600000) (hs : slots + 2000 ≤ 7302249) (kk : ∀ (wx wm : va_W) (H : Heap) (locs : List Loc) (ls : Array Slot), LInv kA x0 n0 wx wm → va_P (dC, dI) vwCl (wx ++ wm) H → va_D (fun q : Nat => s.heap.size ≤ q) (wx ++ wm) → va_S (fun q : Nat => s.heap.size ≤ q) s.heap H locs → lv_has ls 4 [(3, .int i), (2, .ref n0), (1, .ref x0), (0, .ref b)] → W p l e room_1 s m #[Value.ref b] below meth c H locs (cells + 40) (slots + 2000) (lw_Z below #[Value.ref b] s) (F0 m 1730 ls [])) (wx wm : va_W) (H : Heap) (locs : List Loc) (ls : Array Slot) (hI : LInv kA x0 n0 wx wm) (hP : va_P (dC, dI) vwCl (wx ++ wm) H) (hD : va_D (fun q : Nat => s.heap.size ≤ q) (wx ++ wm)) (hS : va_S (fun q : Nat => s.heap.size ≤ q) s.heap H locs) (hl : lv_has ls 4 [(3, .int i), (2, .ref n0), (1, .ref x0), (0, .ref b)]) : W p l e room_1 s m #[Value.ref b] below meth c H locs cells slots (lw_Z below #[Value.ref b] s) (F0 m 694 ls []) := by
  obtain ⟨hx, hb, hr, hml, hown0, hts0, hX, hbl, hlocks, hgv⟩ := C0
  have hown : s.vm.findClass RL = some m.cls := hown0
  have hts : ∀ w ∈ wsL_law, w.before #[Value.ref b] s = true := fun w h => hts0 w (wsL_law_in w h)
  have hA : ∀ q : Nat, s.heap.size ≤ q → (fun q : Nat => s.heap.size ≤ q) q := fun _ h => h
  have hbA : ¬ (fun q : Nat => s.heap.size ≤ q) b := Nat.not_le.mpr hbl
  obtain ⟨S_, LL, im, hX0, hM0⟩ := hI
  have hgd := MOK4_gd hM0
  have hxt := MOK4_xt hM0
  have hgr := MOK4_gr hM0
  have hgx := MOK4_gx hM0
  have hc1 : cells + 20 ≤ room_1.cells := by show cells + 20 ≤ 600000; omega
  have hs1 : slots + 1000 ≤ room_1.slots := by show slots + 1000 ≤ 7302249; omega
  have hc2 : cells + 20 + 20 ≤ room_1.cells := by show cells + 20 + 20 ≤ 600000; omega
  have hs2 : slots + 1000 + 1000 ≤ room_1.slots := by show slots + 1000 + 1000 ≤ 7302249; omega
  obtain ⟨a1, ea1⟩ : ∃ y : Int32, y = xs (i + 1).toNatClampNeg := ⟨_, rfl⟩
  obtain ⟨a2, ea2⟩ : ∃ y : Int32, y = xs (i + 2).toNatClampNeg := ⟨_, rfl⟩
  refine lv_aload_n hx hb dL_law_694 rfl (lv_at hl 2 rfl) ?_
  refine lv_aload_n hx hb dL_law_695 rfl (lv_at hl 3 rfl) ?_
  refine lv_iload_n hx hb dL_law_696 rfl (lv_at hl 0 rfl) ?_
  refine lv_iconst (v := 1) hx hb dL_law_697 (by decide) ?_
  refine lv_iadd hx hb dL_law_698 ?_
  refine va_sld hx hb hX hbl hbA hS (z_sc hi hL (n := 1) (by decide) (by decide)) dL_law_699 ?_
  refine zi a1 ea1.symm ?_
  refine lv_aload_n hx hb dL_law_700 rfl (lv_at hl 3 rfl) ?_
  refine lv_iload_n hx hb dL_law_701 rfl (lv_at hl 0 rfl) ?_
  refine lv_iconst (v := 2) hx hb dL_law_702 (by decide) ?_
  refine lv_iadd hx hb dL_law_703 ?_
  refine va_sld hx hb hX hbl hbA hS (z_sc hi hL (n := 2) (by decide) (by decide)) dL_law_704 ?_
  refine zi a2 ea2.symm ?_
  refine z_iL (wa := wx) (wb := wm) (va_runV (As := [.int a1, .int a2]) (rest := []) ⟨hx, hb, hml, hown, hts⟩ (wX10_of l dC dI kA _ x0 a1 a2 hX0 hgd hxt) (cwV 2 hts gL_law_X10_of rfl rfl rfl ⟨rfl, hdX10_of⟩ ⟨(Nat.le_of_ble_eq_true rfl), (Nat.le_of_ble_eq_true rfl)⟩) ⟨zPc.blind, XOK_rec hK hX0 hP, zPre hK (wl_P hP) (wl_D hD)⟩ rfl rfl hl.1 rfl (lv_room (Nat.le_of_ble_eq_true rfl)) dL_law_705 ⟨hc1, hs1⟩) hP hD hS hA (fun r1 w1 H locs hw1 hP hD hS => ?_)
  refine lv_pop hx hb dL_law_708 rfl ?_
  refine lv_aload_n hx hb dL_law_709 rfl (lv_at hl 1 rfl) ?_
  refine lv_aload_n hx hb dL_law_710 rfl (lv_at hl 3 rfl) ?_
  refine lv_iload_n hx hb dL_law_711 rfl (lv_at hl 0 rfl) ?_
  refine lv_iconst (v := 1) hx hb dL_law_712 (by decide) ?_
  refine lv_iadd hx hb dL_law_713 ?_
  refine va_sld hx hb hX hbl hbA hS (z_sc hi hL (n := 1) (by decide) (by decide)) dL_law_714 ?_
  refine zi a1 ea1.symm ?_
  refine lv_aload_n hx hb dL_law_715 rfl (lv_at hl 3 rfl) ?_
  refine lv_iload_n hx hb dL_law_716 rfl (lv_at hl 0 rfl) ?_
  refine lv_iconst (v := 2) hx hb dL_law_717 (by decide) ?_
  refine lv_iadd hx hb dL_law_718 ?_
  refine va_sld hx hb hX hbl hbA hS (z_sc hi hL (n := 2) (by decide) (by decide)) dL_law_719 ?_
  refine zi a2 ea2.symm ?_
  refine z_iL (wa := wm) (wb := w1) (va_runV (As := [.int a1, .int a2]) (rest := []) ⟨hx, hb, hml, hown, hts⟩ (wX11_of l dC dI kA _ n0 a1 a2 hM0) (cwV 2 hts gL_law_X11_of rfl rfl rfl ⟨rfl, hdX11_of⟩ ⟨(Nat.le_of_ble_eq_true rfl), (Nat.le_of_ble_eq_true rfl)⟩) ⟨zPc.blind, MOK_rec hK hM0 (wp_P hP List.perm_append_comm), zPre hK (wl_P (wp_P hP List.perm_append_comm)) (wl_D (wp_D hD List.perm_append_comm))⟩ rfl rfl hl.1 rfl (lv_room (Nat.le_of_ble_eq_true rfl)) dL_law_720 ⟨hc2, hs2⟩) (wp_P hP List.perm_append_comm) (wp_D hD List.perm_append_comm) hS hA (fun r2 w2 H locs hw2 hP hD hS => ?_)
  have hP := wp_P hP (List.perm_append_comm)
  have hD := wp_D hD (List.perm_append_comm)
  refine lv_pop hx hb dL_law_723 rfl ?_
  refine lv_goto (tgt := 1730) hx hb dL_law_724 (by decide) ?_
  refine W.widen (k := cells + 40) (n := slots + 2000) (by omega) (by omega) ?_
  exact kk w1 w2 H locs ls ⟨_, _, _, hw1.2, hw2.2⟩ hP hD hS hl
set_option maxHeartbeats 4000000 in
set_option maxRecDepth 100000 in
theorem law_c15 {p : Program} {l : Launch} {e : Env} {s : State} {m : MethodId} {below : List Frame} {meth : Method} {c : Code} {b L : Nat} {xs : Nat → Int32} {dC : Nat → ClassId} {dI : Nat → Nat → Nat} {kA : Nat → ClassId} {aS vS : Nat} {oS : Option Nat} {x0 n0 : Nat} (C0 : lw_At p s m meth c b L xs) (hL : L ≤ 5120) (hK : zK dC dI kA s) (hZ : zStr aS vS oS (fun q : Nat => s.heap.size ≤ q) s s.heap) {i : Int32} (hi : 0 ≤ i.toInt ∧ i.toInt + 10 ≤ L) {cells slots : Nat} (hc : cells + 40 ≤ 600000) (hs : slots + 2000 ≤ 7302249) (kk : ∀ (wx wm : va_W) (H : Heap) (locs : List Loc) (ls : Array Slot), LInv kA x0 n0 wx wm → va_P (dC, dI) vwCl (wx ++ wm) H → va_D (fun q : Nat => s.heap.size ≤ q) (wx ++ wm) → va_S (fun q : Nat => s.heap.size ≤ q) s.heap H locs → lv_has ls 4 [(3, .int i), (2, .ref n0), (1, .ref x0), (0, .ref b)] → W p l e room_1 s m #[Value.ref b] below meth c H locs (cells + 40) (slots + 2000) (lw_Z below #[Value.ref b] s) (F0 m 1730 ls [])) (wx wm : va_W) (H : Heap) (locs : List Loc) (ls : Array Slot) (hI : LInv kA x0 n0 wx wm) (hP : va_P (dC, dI) vwCl (wx ++ wm) H) (hD : va_D (fun q : Nat => s.heap.size ≤ q) (wx ++ wm)) (hS : va_S (fun q : Nat => s.heap.size ≤ q) s.heap H locs) (hl : lv_has ls 4 [(3, .int i), (2, .ref n0), (1, .ref x0), (0, .ref b)]) : W p l e room_1 s m #[Value.ref b] below meth c H locs cells slots (lw_Z below #[Value.ref b] s) (F0 m 727 ls []) := by
  obtain ⟨hx, hb, hr, hml, hown0, hts0, hX, hbl, hlocks, hgv⟩ := C0
  have hown : s.vm.findClass RL = some m.cls := hown0
  have hts : ∀ w ∈ wsL_law, w.before #[Value.ref b] s = true := fun w h => hts0 w (wsL_law_in w h)
  have hA : ∀ q : Nat, s.heap.size ≤ q → (fun q : Nat => s.heap.size ≤ q) q := fun _ h => h
  have hbA : ¬ (fun q : Nat => s.heap.size ≤ q) b := Nat.not_le.mpr hbl
  obtain ⟨S_, LL, im, hX0, hM0⟩ := hI
  have hgd := MOK4_gd hM0
  have hxt := MOK4_xt hM0
  have hgr := MOK4_gr hM0
  have hgx := MOK4_gx hM0
  have hc1 : cells + 20 ≤ room_1.cells := by show cells + 20 ≤ 600000; omega
  have hs1 : slots + 1000 ≤ room_1.slots := by show slots + 1000 ≤ 7302249; omega
  have hc2 : cells + 20 + 20 ≤ room_1.cells := by show cells + 20 + 20 ≤ 600000; omega
  have hs2 : slots + 1000 + 1000 ≤ room_1.slots := by show slots + 1000 + 1000 ≤ 7302249; omega
  obtain ⟨a1, ea1⟩ : ∃ y : Int32, y = xs (i + 1).toNatClampNeg := ⟨_, rfl⟩
  obtain ⟨a2, ea2⟩ : ∃ y : Int32, y = xs (i + 2).toNatClampNeg := ⟨_, rfl⟩
  refine lv_aload_n hx hb dL_law_727 rfl (lv_at hl 2 rfl) ?_
  refine lv_aload_n hx hb dL_law_728 rfl (lv_at hl 3 rfl) ?_
  refine lv_iload_n hx hb dL_law_729 rfl (lv_at hl 0 rfl) ?_
  refine lv_iconst (v := 1) hx hb dL_law_730 (by decide) ?_
  refine lv_iadd hx hb dL_law_731 ?_
  refine va_sld hx hb hX hbl hbA hS (z_sc hi hL (n := 1) (by decide) (by decide)) dL_law_732 ?_
  refine zi a1 ea1.symm ?_
  refine lv_aload_n hx hb dL_law_733 rfl (lv_at hl 3 rfl) ?_
  refine lv_iload_n hx hb dL_law_734 rfl (lv_at hl 0 rfl) ?_
  refine lv_iconst (v := 2) hx hb dL_law_735 (by decide) ?_
  refine lv_iadd hx hb dL_law_736 ?_
  refine va_sld hx hb hX hbl hbA hS (z_sc hi hL (n := 2) (by decide) (by decide)) dL_law_737 ?_
  refine zi a2 ea2.symm ?_
  refine z_iL (wa := wx) (wb := wm) (va_runV (As := [.int a1, .int a2]) (rest := []) ⟨hx, hb, hml, hown, hts⟩ (wX10_melt l dC dI kA _ x0 a1 a2 hX0 hgd hxt) (cwV 2 hts gL_law_X10_melt rfl rfl rfl ⟨rfl, hdX10_melt⟩ ⟨(Nat.le_of_ble_eq_true rfl), (Nat.le_of_ble_eq_true rfl)⟩) ⟨zPc.blind, XOK_rec hK hX0 hP, zPre hK (wl_P hP) (wl_D hD)⟩ rfl rfl hl.1 rfl (lv_room (Nat.le_of_ble_eq_true rfl)) dL_law_738 ⟨hc1, hs1⟩) hP hD hS hA (fun r1 w1 H locs hw1 hP hD hS => ?_)
  refine lv_pop hx hb dL_law_741 rfl ?_
  refine lv_aload_n hx hb dL_law_742 rfl (lv_at hl 1 rfl) ?_
  refine lv_aload_n hx hb dL_law_743 rfl (lv_at hl 3 rfl) ?_
  refine lv_iload_n hx hb dL_law_744 rfl (lv_at hl 0 rfl) ?_
  refine lv_iconst (v := 1) hx hb dL_law_745 (by decide) ?_
  refine lv_iadd hx hb dL_law_746 ?_
  refine va_sld hx hb hX hbl hbA hS (z_sc hi hL (n := 1) (by decide) (by decide)) dL_law_747 ?_
  refine zi a1 ea1.symm ?_
  refine lv_aload_n hx hb dL_law_748 rfl (lv_at hl 3 rfl) ?_
  refine lv_iload_n hx hb dL_law_749 rfl (lv_at hl 0 rfl) ?_
  refine lv_iconst (v := 2) hx hb dL_law_750 (by decide) ?_
  refine lv_iadd hx hb dL_law_751 ?_
  refine va_sld hx hb hX hbl hbA hS (z_sc hi hL (n := 2) (by decide) (by decide)) dL_law_752 ?_
  refine zi a2 ea2.symm ?_
  refine z_iL (wa := wm) (wb := w1) (va_runV (As := [.int a1, .int a2]) (rest := []) ⟨hx, hb, hml, hown, hts⟩ (wX11_melt l dC dI kA _ n0 a1 a2 hM0) (cwV 2 hts gL_law_X11_melt rfl rfl rfl ⟨rfl, hdX11_melt⟩ ⟨(Nat.le_of_ble_eq_true rfl), (Nat.le_of_ble_eq_true rfl)⟩) ⟨zPc.blind, MOK_rec hK hM0 (wp_P hP List.perm_append_comm), zPre hK (wl_P (wp_P hP List.perm_append_comm)) (wl_D (wp_D hD List.perm_append_comm))⟩ rfl rfl hl.1 rfl (lv_room (Nat.le_of_ble_eq_true rfl)) dL_law_753 ⟨hc2, hs2⟩) (wp_P hP List.perm_append_comm) (wp_D hD List.perm_append_comm) hS hA (fun r2 w2 H locs hw2 hP hD hS => ?_)
  have hP := wp_P hP (List.perm_append_comm)
  have hD := wp_D hD (List.perm_append_comm)
  refine lv_pop hx hb dL_law_756 rfl ?_
  refine lv_goto (tgt := 1730) hx hb dL_law_757 (by decide) ?_
  refine W.widen (k := cells + 40) (n := slots + 2000) (by omega) (by omega) ?_
  exact kk w1 w2 H locs ls ⟨_, _, _, hw1.2, hw2.2⟩ hP hD hS hl
set_option maxHeartbeats 4000000 in
set_option maxRecDepth 100000 in
theorem law_c16 {p : Program} {l : Launch} {e : Env} {s : State} {m : MethodId} {below : List Frame} {meth : Method} {c : Code} {b L : Nat} {xs : Nat → Int32} {dC : Nat → ClassId} {dI : Nat → Nat → Nat} {kA : Nat → ClassId} {aS vS : Nat} {oS : Option Nat} {x0 n0 : Nat} (C0 : lw_At p s m meth c b L xs) (hL : L ≤ 5120) (hK : zK dC dI kA s) (hZ : zStr aS vS oS (fun q : Nat => s.heap.size ≤ q) s s.heap) {i : Int32} (hi : 0 ≤ i.toInt ∧ i.toInt + 10 ≤ L) {cells slots : Nat} (hc : cells + 40 ≤ 600000) (hs : slots + 2000 ≤ 7302249) (kk : ∀ (wx wm : va_W) (H : Heap) (locs : List Loc) (ls : Array Slot), LInv kA x0 n0 wx wm → va_P (dC, dI) vwCl (wx ++ wm) H → va_D (fun q : Nat => s.heap.size ≤ q) (wx ++ wm) → va_S (fun q : Nat => s.heap.size ≤ q) s.heap H locs → lv_has ls 4 [(3, .int i), (2, .ref n0), (1, .ref x0), (0, .ref b)] → W p l e room_1 s m #[Value.ref b] below meth c H locs (cells + 40) (slots + 2000) (lw_Z below #[Value.ref b] s) (F0 m 1730 ls [])) (wx wm : va_W) (H : Heap) (locs : List Loc) (ls : Array Slot) (hI : LInv kA x0 n0 wx wm) (hP : va_P (dC, dI) vwCl (wx ++ wm) H) (hD : va_D (fun q : Nat => s.heap.size ≤ q) (wx ++ wm)) (hS : va_S (fun q : Nat => s.heap.size ≤ q) s.heap H locs) (hl : lv_has ls 4 [(3, .int i), (2, .ref n0), (1, .ref x0), (0, .ref b)]) : W p l e room_1 s m #[Value.ref b] below meth c H locs cells slots (lw_Z below #[Value.ref b] s) (F0 m 760 ls []) := by
  obtain ⟨hx, hb, hr, hml, hown0, hts0, hX, hbl, hlocks, hgv⟩ := C0
  have hown : s.vm.findClass RL = some m.cls := hown0
  have hts : ∀ w ∈ wsL_law, w.before #[Value.ref b] s = true := fun w h => hts0 w (wsL_law_in w h)
  have hA : ∀ q : Nat, s.heap.size ≤ q → (fun q : Nat => s.heap.size ≤ q) q := fun _ h => h
  have hbA : ¬ (fun q : Nat => s.heap.size ≤ q) b := Nat.not_le.mpr hbl
  obtain ⟨S_, LL, im, hX0, hM0⟩ := hI
  have hgd := MOK4_gd hM0
  have hxt := MOK4_xt hM0
  have hgr := MOK4_gr hM0
  have hgx := MOK4_gx hM0
  have hc1 : cells + 20 ≤ room_1.cells := by show cells + 20 ≤ 600000; omega
  have hs1 : slots + 1000 ≤ room_1.slots := by show slots + 1000 ≤ 7302249; omega
  have hc2 : cells + 20 + 20 ≤ room_1.cells := by show cells + 20 + 20 ≤ 600000; omega
  have hs2 : slots + 1000 + 1000 ≤ room_1.slots := by show slots + 1000 + 1000 ≤ 7302249; omega
  obtain ⟨a1, ea1⟩ : ∃ y : Int32, y = xs (i + 1).toNatClampNeg := ⟨_, rfl⟩
  refine lv_aload_n hx hb dL_law_760 rfl (lv_at hl 2 rfl) ?_
  refine lv_aload_n hx hb dL_law_761 rfl (lv_at hl 3 rfl) ?_
  refine lv_iload_n hx hb dL_law_762 rfl (lv_at hl 0 rfl) ?_
  refine lv_iconst (v := 1) hx hb dL_law_763 (by decide) ?_
  refine lv_iadd hx hb dL_law_764 ?_
  refine va_sld hx hb hX hbl hbA hS (z_sc hi hL (n := 1) (by decide) (by decide)) dL_law_765 ?_
  refine zi a1 ea1.symm ?_
  refine z_iL (wa := wx) (wb := wm) (va_runV (As := [.int a1]) (rest := []) ⟨hx, hb, hml, hown, hts⟩ (wX10_lay l dC dI kA _ x0 a1 hX0 hgd hxt) (cwV 1 hts gL_law_X10_lay rfl rfl rfl ⟨rfl, hdX10_lay⟩ ⟨(Nat.le_of_ble_eq_true rfl), (Nat.le_of_ble_eq_true rfl)⟩) ⟨zPc.blind, XOK_rec hK hX0 hP, zPre hK (wl_P hP) (wl_D hD)⟩ rfl rfl hl.1 rfl (lv_room (Nat.le_of_ble_eq_true rfl)) dL_law_766 ⟨hc1, hs1⟩) hP hD hS hA (fun r1 w1 H locs hw1 hP hD hS => ?_)
  refine lv_pop hx hb dL_law_769 rfl ?_
  refine lv_aload_n hx hb dL_law_770 rfl (lv_at hl 1 rfl) ?_
  refine lv_aload_n hx hb dL_law_771 rfl (lv_at hl 3 rfl) ?_
  refine lv_iload_n hx hb dL_law_772 rfl (lv_at hl 0 rfl) ?_
  refine lv_iconst (v := 1) hx hb dL_law_773 (by decide) ?_
  refine lv_iadd hx hb dL_law_774 ?_
  refine va_sld hx hb hX hbl hbA hS (z_sc hi hL (n := 1) (by decide) (by decide)) dL_law_775 ?_
  refine zi a1 ea1.symm ?_
  refine z_iL (wa := wm) (wb := w1) (va_runV (As := [.int a1]) (rest := []) ⟨hx, hb, hml, hown, hts⟩ (wX11_lay l dC dI kA _ n0 a1 hM0) (cwV 1 hts gL_law_X11_lay rfl rfl rfl ⟨rfl, hdX11_lay⟩ ⟨(Nat.le_of_ble_eq_true rfl), (Nat.le_of_ble_eq_true rfl)⟩) ⟨zPc.blind, MOK_rec hK hM0 (wp_P hP List.perm_append_comm), zPre hK (wl_P (wp_P hP List.perm_append_comm)) (wl_D (wp_D hD List.perm_append_comm))⟩ rfl rfl hl.1 rfl (lv_room (Nat.le_of_ble_eq_true rfl)) dL_law_776 ⟨hc2, hs2⟩) (wp_P hP List.perm_append_comm) (wp_D hD List.perm_append_comm) hS hA (fun r2 w2 H locs hw2 hP hD hS => ?_)
  have hP := wp_P hP (List.perm_append_comm)
  have hD := wp_D hD (List.perm_append_comm)
  refine lv_pop hx hb dL_law_779 rfl ?_
  refine lv_goto (tgt := 1730) hx hb dL_law_780 (by decide) ?_
  refine W.widen (k := cells + 40) (n := slots + 2000) (by omega) (by omega) ?_
  exact kk w1 w2 H locs ls ⟨_, _, _, hw1.2, hw2.2⟩ hP hD hS hl
set_option maxHeartbeats 4000000 in
set_option maxRecDepth 100000 in
theorem law_c17 {p : Program} {l : Launch} {e : Env} {s : State} {m : MethodId} {below : List Frame} {meth : Method} {c : Code} {b L : Nat} {xs : Nat → Int32} {dC : Nat → ClassId} {dI : Nat → Nat → Nat} {kA : Nat → ClassId} {aS vS : Nat} {oS : Option Nat} {x0 n0 : Nat} (C0 : lw_At p s m meth c b L xs) (hL : L ≤ 5120) (hK : zK dC dI kA s) (hZ : zStr aS vS oS (fun q : Nat => s.heap.size ≤ q) s s.heap) {i : Int32} (hi : 0 ≤ i.toInt ∧ i.toInt + 10 ≤ L) {cells slots : Nat} (hc : cells + 40 ≤ 600000) (hs : slots + 2000 ≤ 7302249) (kk : ∀ (wx wm : va_W) (H : Heap) (locs : List Loc) (ls : Array Slot), LInv kA x0 n0 wx wm → va_P (dC, dI) vwCl (wx ++ wm) H → va_D (fun q : Nat => s.heap.size ≤ q) (wx ++ wm) → va_S (fun q : Nat => s.heap.size ≤ q) s.heap H locs → lv_has ls 4 [(3, .int i), (2, .ref n0), (1, .ref x0), (0, .ref b)] → W p l e room_1 s m #[Value.ref b] below meth c H locs (cells + 40) (slots + 2000) (lw_Z below #[Value.ref b] s) (F0 m 1730 ls [])) (wx wm : va_W) (H : Heap) (locs : List Loc) (ls : Array Slot) (hI : LInv kA x0 n0 wx wm) (hP : va_P (dC, dI) vwCl (wx ++ wm) H) (hD : va_D (fun q : Nat => s.heap.size ≤ q) (wx ++ wm)) (hS : va_S (fun q : Nat => s.heap.size ≤ q) s.heap H locs) (hl : lv_has ls 4 [(3, .int i), (2, .ref n0), (1, .ref x0), (0, .ref b)]) : W p l e room_1 s m #[Value.ref b] below meth c H locs cells slots (lw_Z below #[Value.ref b] s) (F0 m 783 ls []) := by
  obtain ⟨hx, hb, hr, hml, hown0, hts0, hX, hbl, hlocks, hgv⟩ := C0
  have hown : s.vm.findClass RL = some m.cls := hown0
  have hts : ∀ w ∈ wsL_law, w.before #[Value.ref b] s = true := fun w h => hts0 w (wsL_law_in w h)
  have hA : ∀ q : Nat, s.heap.size ≤ q → (fun q : Nat => s.heap.size ≤ q) q := fun _ h => h
  have hbA : ¬ (fun q : Nat => s.heap.size ≤ q) b := Nat.not_le.mpr hbl
  obtain ⟨S_, LL, im, hX0, hM0⟩ := hI
  have hgd := MOK4_gd hM0
  have hxt := MOK4_xt hM0
  have hgr := MOK4_gr hM0
  have hgx := MOK4_gx hM0
  have hc1 : cells + 20 ≤ room_1.cells := by show cells + 20 ≤ 600000; omega
  have hs1 : slots + 1000 ≤ room_1.slots := by show slots + 1000 ≤ 7302249; omega
  have hc2 : cells + 20 + 20 ≤ room_1.cells := by show cells + 20 + 20 ≤ 600000; omega
  have hs2 : slots + 1000 + 1000 ≤ room_1.slots := by show slots + 1000 + 1000 ≤ 7302249; omega
  obtain ⟨a1, ea1⟩ : ∃ y : Int32, y = xs (i + 1).toNatClampNeg := ⟨_, rfl⟩
  refine lv_aload_n hx hb dL_law_783 rfl (lv_at hl 2 rfl) ?_
  refine lv_aload_n hx hb dL_law_784 rfl (lv_at hl 3 rfl) ?_
  refine lv_iload_n hx hb dL_law_785 rfl (lv_at hl 0 rfl) ?_
  refine lv_iconst (v := 1) hx hb dL_law_786 (by decide) ?_
  refine lv_iadd hx hb dL_law_787 ?_
  refine va_sld hx hb hX hbl hbA hS (z_sc hi hL (n := 1) (by decide) (by decide)) dL_law_788 ?_
  refine zi a1 ea1.symm ?_
  refine z_iL (wa := wx) (wb := wm) (va_runV (As := [.int a1]) (rest := []) ⟨hx, hb, hml, hown, hts⟩ (wX10_from l dC dI kA _ x0 a1 hX0 hgd hxt) (cwV 1 hts gL_law_X10_from rfl rfl rfl ⟨rfl, hdX10_from⟩ ⟨(Nat.le_of_ble_eq_true rfl), (Nat.le_of_ble_eq_true rfl)⟩) ⟨zPc.blind, XOK_rec hK hX0 hP, zPre hK (wl_P hP) (wl_D hD)⟩ rfl rfl hl.1 rfl (lv_room (Nat.le_of_ble_eq_true rfl)) dL_law_789 ⟨hc1, hs1⟩) hP hD hS hA (fun r1 w1 H locs hw1 hP hD hS => ?_)
  refine lv_pop hx hb dL_law_792 rfl ?_
  refine lv_aload_n hx hb dL_law_793 rfl (lv_at hl 1 rfl) ?_
  refine lv_aload_n hx hb dL_law_794 rfl (lv_at hl 3 rfl) ?_
  refine lv_iload_n hx hb dL_law_795 rfl (lv_at hl 0 rfl) ?_
  refine lv_iconst (v := 1) hx hb dL_law_796 (by decide) ?_
  refine lv_iadd hx hb dL_law_797 ?_
  refine va_sld hx hb hX hbl hbA hS (z_sc hi hL (n := 1) (by decide) (by decide)) dL_law_798 ?_
  refine zi a1 ea1.symm ?_
  refine z_iL (wa := wm) (wb := w1) (va_runV (As := [.int a1]) (rest := []) ⟨hx, hb, hml, hown, hts⟩ (wX11_from l dC dI kA _ n0 a1 hM0) (cwV 1 hts gL_law_X11_from rfl rfl rfl ⟨rfl, hdX11_from⟩ ⟨(Nat.le_of_ble_eq_true rfl), (Nat.le_of_ble_eq_true rfl)⟩) ⟨zPc.blind, MOK_rec hK hM0 (wp_P hP List.perm_append_comm), zPre hK (wl_P (wp_P hP List.perm_append_comm)) (wl_D (wp_D hD List.perm_append_comm))⟩ rfl rfl hl.1 rfl (lv_room (Nat.le_of_ble_eq_true rfl)) dL_law_799 ⟨hc2, hs2⟩) (wp_P hP List.perm_append_comm) (wp_D hD List.perm_append_comm) hS hA (fun r2 w2 H locs hw2 hP hD hS => ?_)
  have hP := wp_P hP (List.perm_append_comm)
  have hD := wp_D hD (List.perm_append_comm)
  refine lv_pop hx hb dL_law_802 rfl ?_
  refine lv_goto (tgt := 1730) hx hb dL_law_803 (by decide) ?_
  refine W.widen (k := cells + 40) (n := slots + 2000) (by omega) (by omega) ?_
  exact kk w1 w2 H locs ls ⟨_, _, _, hw1.2, hw2.2⟩ hP hD hS hl
set_option maxHeartbeats 4000000 in
set_option maxRecDepth 100000 in
theorem law_c18 {p : Program} {l : Launch} {e : Env} {s : State} {m : MethodId} {below : List Frame} {meth : Method} {c : Code} {b L : Nat} {xs : Nat → Int32} {dC : Nat → ClassId} {dI : Nat → Nat → Nat} {kA : Nat → ClassId} {aS vS : Nat} {oS : Option Nat} {x0 n0 : Nat} (C0 : lw_At p s m meth c b L xs) (hL : L ≤ 5120) (hK : zK dC dI kA s) (hZ : zStr aS vS oS (fun q : Nat => s.heap.size ≤ q) s s.heap) {i : Int32} (hi : 0 ≤ i.toInt ∧ i.toInt + 10 ≤ L) {cells slots : Nat} (hc : cells + 40 ≤ 600000) (hs : slots + 2000 ≤ 7302249) (kk : ∀ (wx wm : va_W) (H : Heap) (locs : List Loc) (ls : Array Slot), LInv kA x0 n0 wx wm → va_P (dC, dI) vwCl (wx ++ wm) H → va_D (fun q : Nat => s.heap.size ≤ q) (wx ++ wm) → va_S (fun q : Nat => s.heap.size ≤ q) s.heap H locs → lv_has ls 4 [(3, .int i), (2, .ref n0), (1, .ref x0), (0, .ref b)] → W p l e room_1 s m #[Value.ref b] below meth c H locs (cells + 40) (slots + 2000) (lw_Z below #[Value.ref b] s) (F0 m 1730 ls [])) (wx wm : va_W) (H : Heap) (locs : List Loc) (ls : Array Slot) (hI : LInv kA x0 n0 wx wm) (hP : va_P (dC, dI) vwCl (wx ++ wm) H) (hD : va_D (fun q : Nat => s.heap.size ≤ q) (wx ++ wm)) (hS : va_S (fun q : Nat => s.heap.size ≤ q) s.heap H locs) (hl : lv_has ls 4 [(3, .int i), (2, .ref n0), (1, .ref x0), (0, .ref b)]) : W p l e room_1 s m #[Value.ref b] below meth c H locs cells slots (lw_Z below #[Value.ref b] s) (F0 m 806 ls []) := by
  obtain ⟨hx, hb, hr, hml, hown0, hts0, hX, hbl, hlocks, hgv⟩ := C0
  have hown : s.vm.findClass RL = some m.cls := hown0
  have hts : ∀ w ∈ wsL_law, w.before #[Value.ref b] s = true := fun w h => hts0 w (wsL_law_in w h)
  have hA : ∀ q : Nat, s.heap.size ≤ q → (fun q : Nat => s.heap.size ≤ q) q := fun _ h => h
  have hbA : ¬ (fun q : Nat => s.heap.size ≤ q) b := Nat.not_le.mpr hbl
  obtain ⟨S_, LL, im, hX0, hM0⟩ := hI
  have hgd := MOK4_gd hM0
  have hxt := MOK4_xt hM0
  have hgr := MOK4_gr hM0
  have hgx := MOK4_gx hM0
  have hc1 : cells + 20 ≤ room_1.cells := by show cells + 20 ≤ 600000; omega
  have hs1 : slots + 1000 ≤ room_1.slots := by show slots + 1000 ≤ 7302249; omega
  have hc2 : cells + 20 + 20 ≤ room_1.cells := by show cells + 20 + 20 ≤ 600000; omega
  have hs2 : slots + 1000 + 1000 ≤ room_1.slots := by show slots + 1000 + 1000 ≤ 7302249; omega
  obtain ⟨a1, ea1⟩ : ∃ y : Int32, y = xs (i + 1).toNatClampNeg := ⟨_, rfl⟩
  obtain ⟨a2, ea2⟩ : ∃ y : Int32, y = xs (i + 2).toNatClampNeg := ⟨_, rfl⟩
  obtain ⟨a3, ea3⟩ : ∃ y : Int32, y = xs (i + 3).toNatClampNeg := ⟨_, rfl⟩
  obtain ⟨a4, ea4⟩ : ∃ y : Int32, y = xs (i + 4).toNatClampNeg := ⟨_, rfl⟩
  obtain ⟨a5, ea5⟩ : ∃ y : Int32, y = xs (i + 5).toNatClampNeg := ⟨_, rfl⟩
  obtain ⟨a6, ea6⟩ : ∃ y : Int32, y = xs (i + 6).toNatClampNeg := ⟨_, rfl⟩
  refine lv_aload_n hx hb dL_law_806 rfl (lv_at hl 2 rfl) ?_
  refine lv_aload_n hx hb dL_law_807 rfl (lv_at hl 3 rfl) ?_
  refine lv_iload_n hx hb dL_law_808 rfl (lv_at hl 0 rfl) ?_
  refine lv_iconst (v := 1) hx hb dL_law_809 (by decide) ?_
  refine lv_iadd hx hb dL_law_810 ?_
  refine va_sld hx hb hX hbl hbA hS (z_sc hi hL (n := 1) (by decide) (by decide)) dL_law_811 ?_
  refine zi a1 ea1.symm ?_
  refine lv_aload_n hx hb dL_law_812 rfl (lv_at hl 3 rfl) ?_
  refine lv_iload_n hx hb dL_law_813 rfl (lv_at hl 0 rfl) ?_
  refine lv_iconst (v := 2) hx hb dL_law_814 (by decide) ?_
  refine lv_iadd hx hb dL_law_815 ?_
  refine va_sld hx hb hX hbl hbA hS (z_sc hi hL (n := 2) (by decide) (by decide)) dL_law_816 ?_
  refine zi a2 ea2.symm ?_
  refine lv_aload_n hx hb dL_law_817 rfl (lv_at hl 3 rfl) ?_
  refine lv_iload_n hx hb dL_law_818 rfl (lv_at hl 0 rfl) ?_
  refine lv_iconst (v := 3) hx hb dL_law_819 (by decide) ?_
  refine lv_iadd hx hb dL_law_820 ?_
  refine va_sld hx hb hX hbl hbA hS (z_sc hi hL (n := 3) (by decide) (by decide)) dL_law_821 ?_
  refine zi a3 ea3.symm ?_
  refine lv_aload_n hx hb dL_law_822 rfl (lv_at hl 3 rfl) ?_
  refine lv_iload_n hx hb dL_law_823 rfl (lv_at hl 0 rfl) ?_
  refine lv_iconst (v := 4) hx hb dL_law_824 (by decide) ?_
  refine lv_iadd hx hb dL_law_825 ?_
  refine va_sld hx hb hX hbl hbA hS (z_sc hi hL (n := 4) (by decide) (by decide)) dL_law_826 ?_
  refine zi a4 ea4.symm ?_
  refine lv_aload_n hx hb dL_law_827 rfl (lv_at hl 3 rfl) ?_
  refine lv_iload_n hx hb dL_law_828 rfl (lv_at hl 0 rfl) ?_
  refine lv_iconst (v := 5) hx hb dL_law_829 (by decide) ?_
  refine lv_iadd hx hb dL_law_830 ?_
  refine va_sld hx hb hX hbl hbA hS (z_sc hi hL (n := 5) (by decide) (by decide)) dL_law_831 ?_
  refine zi a5 ea5.symm ?_
  refine lv_aload_n hx hb dL_law_832 rfl (lv_at hl 3 rfl) ?_
  refine lv_iload_n hx hb dL_law_833 rfl (lv_at hl 0 rfl) ?_
  refine lv_bipush (v := 6) hx hb dL_law_834 (by decide) ?_
  refine lv_iadd hx hb dL_law_836 ?_
  refine va_sld hx hb hX hbl hbA hS (z_sc hi hL (n := 6) (by decide) (by decide)) dL_law_837 ?_
  refine zi a6 ea6.symm ?_
  refine z_iL (wa := wx) (wb := wm) (va_runV (As := [.int a1, .int a2, .int a3, .int a4, .int a5, .int a6]) (rest := []) ⟨hx, hb, hml, hown, hts⟩ (wX10_tried l dC dI kA _ x0 a1 a2 a3 a4 a5 a6 hX0 hgd hxt) (cwV 6 hts gL_law_X10_tried rfl rfl rfl ⟨rfl, hdX10_tried⟩ ⟨(Nat.le_of_ble_eq_true rfl), (Nat.le_of_ble_eq_true rfl)⟩) ⟨zPc.blind, XOK_rec hK hX0 hP, zPre hK (wl_P hP) (wl_D hD)⟩ rfl rfl hl.1 rfl (lv_room (Nat.le_of_ble_eq_true rfl)) dL_law_838 ⟨hc1, hs1⟩) hP hD hS hA (fun r1 w1 H locs hw1 hP hD hS => ?_)
  refine lv_pop hx hb dL_law_841 rfl ?_
  refine lv_aload_n hx hb dL_law_842 rfl (lv_at hl 1 rfl) ?_
  refine lv_aload_n hx hb dL_law_843 rfl (lv_at hl 3 rfl) ?_
  refine lv_iload_n hx hb dL_law_844 rfl (lv_at hl 0 rfl) ?_
  refine lv_iconst (v := 1) hx hb dL_law_845 (by decide) ?_
  refine lv_iadd hx hb dL_law_846 ?_
  refine va_sld hx hb hX hbl hbA hS (z_sc hi hL (n := 1) (by decide) (by decide)) dL_law_847 ?_
  refine zi a1 ea1.symm ?_
  refine lv_aload_n hx hb dL_law_848 rfl (lv_at hl 3 rfl) ?_
  refine lv_iload_n hx hb dL_law_849 rfl (lv_at hl 0 rfl) ?_
  refine lv_iconst (v := 2) hx hb dL_law_850 (by decide) ?_
  refine lv_iadd hx hb dL_law_851 ?_
  refine va_sld hx hb hX hbl hbA hS (z_sc hi hL (n := 2) (by decide) (by decide)) dL_law_852 ?_
  refine zi a2 ea2.symm ?_
  refine lv_aload_n hx hb dL_law_853 rfl (lv_at hl 3 rfl) ?_
  refine lv_iload_n hx hb dL_law_854 rfl (lv_at hl 0 rfl) ?_
  refine lv_iconst (v := 3) hx hb dL_law_855 (by decide) ?_
  refine lv_iadd hx hb dL_law_856 ?_
  refine va_sld hx hb hX hbl hbA hS (z_sc hi hL (n := 3) (by decide) (by decide)) dL_law_857 ?_
  refine zi a3 ea3.symm ?_
  refine lv_aload_n hx hb dL_law_858 rfl (lv_at hl 3 rfl) ?_
  refine lv_iload_n hx hb dL_law_859 rfl (lv_at hl 0 rfl) ?_
  refine lv_iconst (v := 4) hx hb dL_law_860 (by decide) ?_
  refine lv_iadd hx hb dL_law_861 ?_
  refine va_sld hx hb hX hbl hbA hS (z_sc hi hL (n := 4) (by decide) (by decide)) dL_law_862 ?_
  refine zi a4 ea4.symm ?_
  refine lv_aload_n hx hb dL_law_863 rfl (lv_at hl 3 rfl) ?_
  refine lv_iload_n hx hb dL_law_864 rfl (lv_at hl 0 rfl) ?_
  refine lv_iconst (v := 5) hx hb dL_law_865 (by decide) ?_
  refine lv_iadd hx hb dL_law_866 ?_
  refine va_sld hx hb hX hbl hbA hS (z_sc hi hL (n := 5) (by decide) (by decide)) dL_law_867 ?_
  refine zi a5 ea5.symm ?_
  refine lv_aload_n hx hb dL_law_868 rfl (lv_at hl 3 rfl) ?_
  refine lv_iload_n hx hb dL_law_869 rfl (lv_at hl 0 rfl) ?_
  refine lv_bipush (v := 6) hx hb dL_law_870 (by decide) ?_
  refine lv_iadd hx hb dL_law_872 ?_
  refine va_sld hx hb hX hbl hbA hS (z_sc hi hL (n := 6) (by decide) (by decide)) dL_law_873 ?_
  refine zi a6 ea6.symm ?_
  refine z_iL (wa := wm) (wb := w1) (va_runV (As := [.int a1, .int a2, .int a3, .int a4, .int a5, .int a6]) (rest := []) ⟨hx, hb, hml, hown, hts⟩ (wX11_tried l dC dI kA _ n0 a1 a2 a3 a4 a5 a6 hM0) (cwV 6 hts gL_law_X11_tried rfl rfl rfl ⟨rfl, hdX11_tried⟩ ⟨(Nat.le_of_ble_eq_true rfl), (Nat.le_of_ble_eq_true rfl)⟩) ⟨zPc.blind, MOK_rec hK hM0 (wp_P hP List.perm_append_comm), zPre hK (wl_P (wp_P hP List.perm_append_comm)) (wl_D (wp_D hD List.perm_append_comm))⟩ rfl rfl hl.1 rfl (lv_room (Nat.le_of_ble_eq_true rfl)) dL_law_874 ⟨hc2, hs2⟩) (wp_P hP List.perm_append_comm) (wp_D hD List.perm_append_comm) hS hA (fun r2 w2 H locs hw2 hP hD hS => ?_)
  have hP := wp_P hP (List.perm_append_comm)
  have hD := wp_D hD (List.perm_append_comm)
  refine lv_pop hx hb dL_law_877 rfl ?_
  refine lv_goto (tgt := 1730) hx hb dL_law_878 (by decide) ?_
  refine W.widen (k := cells + 40) (n := slots + 2000) (by omega) (by omega) ?_
  exact kk w1 w2 H locs ls ⟨_, _, _, hw1, hw2⟩ hP hD hS hl
set_option maxHeartbeats 4000000 in
set_option maxRecDepth 100000 in
theorem law_c19 {p : Program} {l : Launch} {e : Env} {s : State} {m : MethodId} {below : List Frame} {meth : Method} {c : Code} {b L : Nat} {xs : Nat → Int32} {dC : Nat → ClassId} {dI : Nat → Nat → Nat} {kA : Nat → ClassId} {aS vS : Nat} {oS : Option Nat} {x0 n0 : Nat} (C0 : lw_At p s m meth c b L xs) (hL : L ≤ 5120) (hK : zK dC dI kA s) (hZ : zStr aS vS oS (fun q : Nat => s.heap.size ≤ q) s s.heap) {i : Int32} (hi : 0 ≤ i.toInt ∧ i.toInt + 10 ≤ L) {cells slots : Nat} (hc : cells + 40 ≤ 600000) (hs : slots + 2000 ≤ 7302249) (kk : ∀ (wx wm : va_W) (H : Heap) (locs : List Loc) (ls : Array Slot), LInv kA x0 n0 wx wm → va_P (dC, dI) vwCl (wx ++ wm) H → va_D (fun q : Nat => s.heap.size ≤ q) (wx ++ wm) → va_S (fun q : Nat => s.heap.size ≤ q) s.heap H locs → lv_has ls 4 [(3, .int i), (2, .ref n0), (1, .ref x0), (0, .ref b)] → W p l e room_1 s m #[Value.ref b] below meth c H locs (cells + 40) (slots + 2000) (lw_Z below #[Value.ref b] s) (F0 m 1730 ls [])) (wx wm : va_W) (H : Heap) (locs : List Loc) (ls : Array Slot) (hI : LInv kA x0 n0 wx wm) (hP : va_P (dC, dI) vwCl (wx ++ wm) H) (hD : va_D (fun q : Nat => s.heap.size ≤ q) (wx ++ wm)) (hS : va_S (fun q : Nat => s.heap.size ≤ q) s.heap H locs) (hl : lv_has ls 4 [(3, .int i), (2, .ref n0), (1, .ref x0), (0, .ref b)]) : W p l e room_1 s m #[Value.ref b] below meth c H locs cells slots (lw_Z below #[Value.ref b] s) (F0 m 881 ls []) := by
  obtain ⟨hx, hb, hr, hml, hown0, hts0, hX, hbl, hlocks, hgv⟩ := C0
  have hown : s.vm.findClass RL = some m.cls := hown0
  have hts : ∀ w ∈ wsL_law, w.before #[Value.ref b] s = true := fun w h => hts0 w (wsL_law_in w h)
  have hA : ∀ q : Nat, s.heap.size ≤ q → (fun q : Nat => s.heap.size ≤ q) q := fun _ h => h
  have hbA : ¬ (fun q : Nat => s.heap.size ≤ q) b := Nat.not_le.mpr hbl
  obtain ⟨S_, LL, im, hX0, hM0⟩ := hI
  have hgd := MOK4_gd hM0
  have hxt := MOK4_xt hM0
  have hgr := MOK4_gr hM0
  have hgx := MOK4_gx hM0
  have hc1 : cells + 20 ≤ room_1.cells := by show cells + 20 ≤ 600000; omega
  have hs1 : slots + 1000 ≤ room_1.slots := by show slots + 1000 ≤ 7302249; omega
  have hc2 : cells + 20 + 20 ≤ room_1.cells := by show cells + 20 + 20 ≤ 600000; omega
  have hs2 : slots + 1000 + 1000 ≤ room_1.slots := by show slots + 1000 + 1000 ≤ 7302249; omega
  obtain ⟨a1, ea1⟩ : ∃ y : Int32, y = xs (i + 1).toNatClampNeg := ⟨_, rfl⟩
  obtain ⟨a2, ea2⟩ : ∃ y : Int32, y = xs (i + 2).toNatClampNeg := ⟨_, rfl⟩
  obtain ⟨a3, ea3⟩ : ∃ y : Int32, y = xs (i + 3).toNatClampNeg := ⟨_, rfl⟩
  obtain ⟨a4, ea4⟩ : ∃ y : Int32, y = xs (i + 4).toNatClampNeg := ⟨_, rfl⟩
  obtain ⟨a5, ea5⟩ : ∃ y : Int32, y = xs (i + 5).toNatClampNeg := ⟨_, rfl⟩
  obtain ⟨a6, ea6⟩ : ∃ y : Int32, y = xs (i + 6).toNatClampNeg := ⟨_, rfl⟩
  obtain ⟨a7, ea7⟩ : ∃ y : Int32, y = xs (i + 7).toNatClampNeg := ⟨_, rfl⟩
  obtain ⟨a8, ea8⟩ : ∃ y : Int32, y = xs (i + 8).toNatClampNeg := ⟨_, rfl⟩
  refine lv_aload_n hx hb dL_law_881 rfl (lv_at hl 2 rfl) ?_
  refine lv_aload_n hx hb dL_law_882 rfl (lv_at hl 3 rfl) ?_
  refine lv_iload_n hx hb dL_law_883 rfl (lv_at hl 0 rfl) ?_
  refine lv_iconst (v := 1) hx hb dL_law_884 (by decide) ?_
  refine lv_iadd hx hb dL_law_885 ?_
  refine va_sld hx hb hX hbl hbA hS (z_sc hi hL (n := 1) (by decide) (by decide)) dL_law_886 ?_
  refine zi a1 ea1.symm ?_
  refine lv_aload_n hx hb dL_law_887 rfl (lv_at hl 3 rfl) ?_
  refine lv_iload_n hx hb dL_law_888 rfl (lv_at hl 0 rfl) ?_
  refine lv_iconst (v := 2) hx hb dL_law_889 (by decide) ?_
  refine lv_iadd hx hb dL_law_890 ?_
  refine va_sld hx hb hX hbl hbA hS (z_sc hi hL (n := 2) (by decide) (by decide)) dL_law_891 ?_
  refine zi a2 ea2.symm ?_
  refine lv_aload_n hx hb dL_law_892 rfl (lv_at hl 3 rfl) ?_
  refine lv_iload_n hx hb dL_law_893 rfl (lv_at hl 0 rfl) ?_
  refine lv_iconst (v := 3) hx hb dL_law_894 (by decide) ?_
  refine lv_iadd hx hb dL_law_895 ?_
  refine va_sld hx hb hX hbl hbA hS (z_sc hi hL (n := 3) (by decide) (by decide)) dL_law_896 ?_
  refine zi a3 ea3.symm ?_
  refine lv_aload_n hx hb dL_law_897 rfl (lv_at hl 3 rfl) ?_
  refine lv_iload_n hx hb dL_law_898 rfl (lv_at hl 0 rfl) ?_
  refine lv_iconst (v := 4) hx hb dL_law_899 (by decide) ?_
  refine lv_iadd hx hb dL_law_900 ?_
  refine va_sld hx hb hX hbl hbA hS (z_sc hi hL (n := 4) (by decide) (by decide)) dL_law_901 ?_
  refine zi a4 ea4.symm ?_
  refine lv_aload_n hx hb dL_law_902 rfl (lv_at hl 3 rfl) ?_
  refine lv_iload_n hx hb dL_law_903 rfl (lv_at hl 0 rfl) ?_
  refine lv_iconst (v := 5) hx hb dL_law_904 (by decide) ?_
  refine lv_iadd hx hb dL_law_905 ?_
  refine va_sld hx hb hX hbl hbA hS (z_sc hi hL (n := 5) (by decide) (by decide)) dL_law_906 ?_
  refine zi a5 ea5.symm ?_
  refine lv_aload_n hx hb dL_law_907 rfl (lv_at hl 3 rfl) ?_
  refine lv_iload_n hx hb dL_law_908 rfl (lv_at hl 0 rfl) ?_
  refine lv_bipush (v := 6) hx hb dL_law_909 (by decide) ?_
  refine lv_iadd hx hb dL_law_911 ?_
  refine va_sld hx hb hX hbl hbA hS (z_sc hi hL (n := 6) (by decide) (by decide)) dL_law_912 ?_
  refine zi a6 ea6.symm ?_
  refine lv_aload_n hx hb dL_law_913 rfl (lv_at hl 3 rfl) ?_
  refine lv_iload_n hx hb dL_law_914 rfl (lv_at hl 0 rfl) ?_
  refine lv_bipush (v := 7) hx hb dL_law_915 (by decide) ?_
  refine lv_iadd hx hb dL_law_917 ?_
  refine va_sld hx hb hX hbl hbA hS (z_sc hi hL (n := 7) (by decide) (by decide)) dL_law_918 ?_
  refine zi a7 ea7.symm ?_
  refine lv_aload_n hx hb dL_law_919 rfl (lv_at hl 3 rfl) ?_
  refine lv_iload_n hx hb dL_law_920 rfl (lv_at hl 0 rfl) ?_
  refine lv_bipush (v := 8) hx hb dL_law_921 (by decide) ?_
  refine lv_iadd hx hb dL_law_923 ?_
  refine va_sld hx hb hX hbl hbA hS (z_sc hi hL (n := 8) (by decide) (by decide)) dL_law_924 ?_
  refine zi a8 ea8.symm ?_
  refine z_iL (wa := wx) (wb := wm) (va_runV (As := [.int a1, .int a2, .int a3, .int a4, .int a5, .int a6, .int a7, .int a8]) (rest := []) ⟨hx, hb, hml, hown, hts⟩ (wX10_best l dC dI kA _ x0 a1 a2 a3 a4 a5 a6 a7 a8 hX0 hgd hxt) (cwV 8 hts gL_law_X10_best rfl rfl rfl ⟨rfl, hdX10_best⟩ ⟨(Nat.le_of_ble_eq_true rfl), (Nat.le_of_ble_eq_true rfl)⟩) ⟨zPc.blind, XOK_rec hK hX0 hP, zPre hK (wl_P hP) (wl_D hD)⟩ rfl rfl hl.1 rfl (lv_room (Nat.le_of_ble_eq_true rfl)) dL_law_925 ⟨hc1, hs1⟩) hP hD hS hA (fun r1 w1 H locs hw1 hP hD hS => ?_)
  refine lv_pop hx hb dL_law_928 rfl ?_
  refine lv_aload_n hx hb dL_law_929 rfl (lv_at hl 1 rfl) ?_
  refine lv_aload_n hx hb dL_law_930 rfl (lv_at hl 3 rfl) ?_
  refine lv_iload_n hx hb dL_law_931 rfl (lv_at hl 0 rfl) ?_
  refine lv_iconst (v := 1) hx hb dL_law_932 (by decide) ?_
  refine lv_iadd hx hb dL_law_933 ?_
  refine va_sld hx hb hX hbl hbA hS (z_sc hi hL (n := 1) (by decide) (by decide)) dL_law_934 ?_
  refine zi a1 ea1.symm ?_
  refine lv_aload_n hx hb dL_law_935 rfl (lv_at hl 3 rfl) ?_
  refine lv_iload_n hx hb dL_law_936 rfl (lv_at hl 0 rfl) ?_
  refine lv_iconst (v := 2) hx hb dL_law_937 (by decide) ?_
  refine lv_iadd hx hb dL_law_938 ?_
  refine va_sld hx hb hX hbl hbA hS (z_sc hi hL (n := 2) (by decide) (by decide)) dL_law_939 ?_
  refine zi a2 ea2.symm ?_
  refine lv_aload_n hx hb dL_law_940 rfl (lv_at hl 3 rfl) ?_
  refine lv_iload_n hx hb dL_law_941 rfl (lv_at hl 0 rfl) ?_
  refine lv_iconst (v := 3) hx hb dL_law_942 (by decide) ?_
  refine lv_iadd hx hb dL_law_943 ?_
  refine va_sld hx hb hX hbl hbA hS (z_sc hi hL (n := 3) (by decide) (by decide)) dL_law_944 ?_
  refine zi a3 ea3.symm ?_
  refine lv_aload_n hx hb dL_law_945 rfl (lv_at hl 3 rfl) ?_
  refine lv_iload_n hx hb dL_law_946 rfl (lv_at hl 0 rfl) ?_
  refine lv_iconst (v := 4) hx hb dL_law_947 (by decide) ?_
  refine lv_iadd hx hb dL_law_948 ?_
  refine va_sld hx hb hX hbl hbA hS (z_sc hi hL (n := 4) (by decide) (by decide)) dL_law_949 ?_
  refine zi a4 ea4.symm ?_
  refine lv_aload_n hx hb dL_law_950 rfl (lv_at hl 3 rfl) ?_
  refine lv_iload_n hx hb dL_law_951 rfl (lv_at hl 0 rfl) ?_
  refine lv_iconst (v := 5) hx hb dL_law_952 (by decide) ?_
  refine lv_iadd hx hb dL_law_953 ?_
  refine va_sld hx hb hX hbl hbA hS (z_sc hi hL (n := 5) (by decide) (by decide)) dL_law_954 ?_
  refine zi a5 ea5.symm ?_
  refine lv_aload_n hx hb dL_law_955 rfl (lv_at hl 3 rfl) ?_
  refine lv_iload_n hx hb dL_law_956 rfl (lv_at hl 0 rfl) ?_
  refine lv_bipush (v := 6) hx hb dL_law_957 (by decide) ?_
  refine lv_iadd hx hb dL_law_959 ?_
  refine va_sld hx hb hX hbl hbA hS (z_sc hi hL (n := 6) (by decide) (by decide)) dL_law_960 ?_
  refine zi a6 ea6.symm ?_
  refine lv_aload_n hx hb dL_law_961 rfl (lv_at hl 3 rfl) ?_
  refine lv_iload_n hx hb dL_law_962 rfl (lv_at hl 0 rfl) ?_
  refine lv_bipush (v := 7) hx hb dL_law_963 (by decide) ?_
  refine lv_iadd hx hb dL_law_965 ?_
  refine va_sld hx hb hX hbl hbA hS (z_sc hi hL (n := 7) (by decide) (by decide)) dL_law_966 ?_
  refine zi a7 ea7.symm ?_
  refine lv_aload_n hx hb dL_law_967 rfl (lv_at hl 3 rfl) ?_
  refine lv_iload_n hx hb dL_law_968 rfl (lv_at hl 0 rfl) ?_
  refine lv_bipush (v := 8) hx hb dL_law_969 (by decide) ?_
  refine lv_iadd hx hb dL_law_971 ?_
  refine va_sld hx hb hX hbl hbA hS (z_sc hi hL (n := 8) (by decide) (by decide)) dL_law_972 ?_
  refine zi a8 ea8.symm ?_
  refine z_iL (wa := wm) (wb := w1) (va_runV (As := [.int a1, .int a2, .int a3, .int a4, .int a5, .int a6, .int a7, .int a8]) (rest := []) ⟨hx, hb, hml, hown, hts⟩ (wX11_best l dC dI kA _ n0 a1 a2 a3 a4 a5 a6 a7 a8 hM0) (cwV 8 hts gL_law_X11_best rfl rfl rfl ⟨rfl, hdX11_best⟩ ⟨(Nat.le_of_ble_eq_true rfl), (Nat.le_of_ble_eq_true rfl)⟩) ⟨zPc.blind, MOK_rec hK hM0 (wp_P hP List.perm_append_comm), zPre hK (wl_P (wp_P hP List.perm_append_comm)) (wl_D (wp_D hD List.perm_append_comm))⟩ rfl rfl hl.1 rfl (lv_room (Nat.le_of_ble_eq_true rfl)) dL_law_973 ⟨hc2, hs2⟩) (wp_P hP List.perm_append_comm) (wp_D hD List.perm_append_comm) hS hA (fun r2 w2 H locs hw2 hP hD hS => ?_)
  have hP := wp_P hP (List.perm_append_comm)
  have hD := wp_D hD (List.perm_append_comm)
  refine lv_pop hx hb dL_law_976 rfl ?_
  refine lv_goto (tgt := 1730) hx hb dL_law_977 (by decide) ?_
  refine W.widen (k := cells + 40) (n := slots + 2000) (by omega) (by omega) ?_
  exact kk w1 w2 H locs ls ⟨_, _, _, hw1, hw2⟩ hP hD hS hl
set_option maxHeartbeats 4000000 in
set_option maxRecDepth 100000 in
theorem law_c20 {p : Program} {l : Launch} {e : Env} {s : State} {m : MethodId} {below : List Frame} {meth : Method} {c : Code} {b L : Nat} {xs : Nat → Int32} {dC : Nat → ClassId} {dI : Nat → Nat → Nat} {kA : Nat → ClassId} {aS vS : Nat} {oS : Option Nat} {x0 n0 : Nat} (C0 : lw_At p s m meth c b L xs) (hL : L ≤ 5120) (hK : zK dC dI kA s) (hZ : zStr aS vS oS (fun q : Nat => s.heap.size ≤ q) s s.heap) {i : Int32} (hi : 0 ≤ i.toInt ∧ i.toInt + 10 ≤ L) {cells slots : Nat} (hc : cells + 40 ≤ 600000) (hs : slots + 2000 ≤ 7302249) (kk : ∀ (wx wm : va_W) (H : Heap) (locs : List Loc) (ls : Array Slot), LInv kA x0 n0 wx wm → va_P (dC, dI) vwCl (wx ++ wm) H → va_D (fun q : Nat => s.heap.size ≤ q) (wx ++ wm) → va_S (fun q : Nat => s.heap.size ≤ q) s.heap H locs → lv_has ls 4 [(3, .int i), (2, .ref n0), (1, .ref x0), (0, .ref b)] → W p l e room_1 s m #[Value.ref b] below meth c H locs (cells + 40) (slots + 2000) (lw_Z below #[Value.ref b] s) (F0 m 1730 ls [])) (wx wm : va_W) (H : Heap) (locs : List Loc) (ls : Array Slot) (hI : LInv kA x0 n0 wx wm) (hP : va_P (dC, dI) vwCl (wx ++ wm) H) (hD : va_D (fun q : Nat => s.heap.size ≤ q) (wx ++ wm)) (hS : va_S (fun q : Nat => s.heap.size ≤ q) s.heap H locs) (hl : lv_has ls 4 [(3, .int i), (2, .ref n0), (1, .ref x0), (0, .ref b)]) : W p l e room_1 s m #[Value.ref b] below meth c H locs cells slots (lw_Z below #[Value.ref b] s) (F0 m 980 ls []) := by
  obtain ⟨hx, hb, hr, hml, hown0, hts0, hX, hbl, hlocks, hgv⟩ := C0
  have hown : s.vm.findClass RL = some m.cls := hown0
  have hts : ∀ w ∈ wsL_law, w.before #[Value.ref b] s = true := fun w h => hts0 w (wsL_law_in w h)
  have hA : ∀ q : Nat, s.heap.size ≤ q → (fun q : Nat => s.heap.size ≤ q) q := fun _ h => h
  have hbA : ¬ (fun q : Nat => s.heap.size ≤ q) b := Nat.not_le.mpr hbl
  obtain ⟨S_, LL, im, hX0, hM0⟩ := hI
  have hgd := MOK4_gd hM0
  have hxt := MOK4_xt hM0
  have hgr := MOK4_gr hM0
  have hgx := MOK4_gx hM0
  have hc1 : cells + 20 ≤ room_1.cells := by show cells + 20 ≤ 600000; omega
  have hs1 : slots + 1000 ≤ room_1.slots := by show slots + 1000 ≤ 7302249; omega
  have hc2 : cells + 20 + 20 ≤ room_1.cells := by show cells + 20 + 20 ≤ 600000; omega
  have hs2 : slots + 1000 + 1000 ≤ room_1.slots := by show slots + 1000 + 1000 ≤ 7302249; omega
  obtain ⟨a1, ea1⟩ : ∃ y : Int32, y = xs (i + 1).toNatClampNeg := ⟨_, rfl⟩
  obtain ⟨a2, ea2⟩ : ∃ y : Int32, y = xs (i + 2).toNatClampNeg := ⟨_, rfl⟩
  refine lv_aload_n hx hb dL_law_980 rfl (lv_at hl 2 rfl) ?_
  refine lv_aload_n hx hb dL_law_981 rfl (lv_at hl 3 rfl) ?_
  refine lv_iload_n hx hb dL_law_982 rfl (lv_at hl 0 rfl) ?_
  refine lv_iconst (v := 1) hx hb dL_law_983 (by decide) ?_
  refine lv_iadd hx hb dL_law_984 ?_
  refine va_sld hx hb hX hbl hbA hS (z_sc hi hL (n := 1) (by decide) (by decide)) dL_law_985 ?_
  refine zi a1 ea1.symm ?_
  refine lv_aload_n hx hb dL_law_986 rfl (lv_at hl 3 rfl) ?_
  refine lv_iload_n hx hb dL_law_987 rfl (lv_at hl 0 rfl) ?_
  refine lv_iconst (v := 2) hx hb dL_law_988 (by decide) ?_
  refine lv_iadd hx hb dL_law_989 ?_
  refine va_sld hx hb hX hbl hbA hS (z_sc hi hL (n := 2) (by decide) (by decide)) dL_law_990 ?_
  refine zi a2 ea2.symm ?_
  refine z_iL (wa := wx) (wb := wm) (va_runV (As := [.int a1, .int a2]) (rest := []) ⟨hx, hb, hml, hown, hts⟩ (wX10_soonest l dC dI kA _ x0 a1 a2 hX0 hgd hxt) (cwV 2 hts gL_law_X10_soonest rfl rfl rfl ⟨rfl, hdX10_soonest⟩ ⟨(Nat.le_of_ble_eq_true rfl), (Nat.le_of_ble_eq_true rfl)⟩) ⟨zPc.blind, XOK_rec hK hX0 hP, zPre hK (wl_P hP) (wl_D hD)⟩ rfl rfl hl.1 rfl (lv_room (Nat.le_of_ble_eq_true rfl)) dL_law_991 ⟨hc1, hs1⟩) hP hD hS hA (fun r1 w1 H locs hw1 hP hD hS => ?_)
  refine lv_pop hx hb dL_law_994 rfl ?_
  refine lv_aload_n hx hb dL_law_995 rfl (lv_at hl 1 rfl) ?_
  refine lv_aload_n hx hb dL_law_996 rfl (lv_at hl 3 rfl) ?_
  refine lv_iload_n hx hb dL_law_997 rfl (lv_at hl 0 rfl) ?_
  refine lv_iconst (v := 1) hx hb dL_law_998 (by decide) ?_
  refine lv_iadd hx hb dL_law_999 ?_
  refine va_sld hx hb hX hbl hbA hS (z_sc hi hL (n := 1) (by decide) (by decide)) dL_law_1000 ?_
  refine zi a1 ea1.symm ?_
  refine lv_aload_n hx hb dL_law_1001 rfl (lv_at hl 3 rfl) ?_
  refine lv_iload_n hx hb dL_law_1002 rfl (lv_at hl 0 rfl) ?_
  refine lv_iconst (v := 2) hx hb dL_law_1003 (by decide) ?_
  refine lv_iadd hx hb dL_law_1004 ?_
  refine va_sld hx hb hX hbl hbA hS (z_sc hi hL (n := 2) (by decide) (by decide)) dL_law_1005 ?_
  refine zi a2 ea2.symm ?_
  refine z_iL (wa := wm) (wb := w1) (va_runV (As := [.int a1, .int a2]) (rest := []) ⟨hx, hb, hml, hown, hts⟩ (wX11_soonest l dC dI kA _ n0 a1 a2 hM0) (cwV 2 hts gL_law_X11_soonest rfl rfl rfl ⟨rfl, hdX11_soonest⟩ ⟨(Nat.le_of_ble_eq_true rfl), (Nat.le_of_ble_eq_true rfl)⟩) ⟨zPc.blind, MOK_rec hK hM0 (wp_P hP List.perm_append_comm), zPre hK (wl_P (wp_P hP List.perm_append_comm)) (wl_D (wp_D hD List.perm_append_comm))⟩ rfl rfl hl.1 rfl (lv_room (Nat.le_of_ble_eq_true rfl)) dL_law_1006 ⟨hc2, hs2⟩) (wp_P hP List.perm_append_comm) (wp_D hD List.perm_append_comm) hS hA (fun r2 w2 H locs hw2 hP hD hS => ?_)
  have hP := wp_P hP (List.perm_append_comm)
  have hD := wp_D hD (List.perm_append_comm)
  refine lv_pop hx hb dL_law_1009 rfl ?_
  refine lv_goto (tgt := 1730) hx hb dL_law_1010 (by decide) ?_
  refine W.widen (k := cells + 40) (n := slots + 2000) (by omega) (by omega) ?_
  exact kk w1 w2 H locs ls ⟨_, _, _, hw1, hw2⟩ hP hD hS hl
set_option maxHeartbeats 4000000 in
set_option maxRecDepth 100000 in
theorem law_c21 {p : Program} {l : Launch} {e : Env} {s : State} {m : MethodId} {below : List Frame} {meth : Method} {c : Code} {b L : Nat} {xs : Nat → Int32} {dC : Nat → ClassId} {dI : Nat → Nat → Nat} {kA : Nat → ClassId} {aS vS : Nat} {oS : Option Nat} {x0 n0 : Nat} (C0 : lw_At p s m meth c b L xs) (hL : L ≤ 5120) (hK : zK dC dI kA s) (hZ : zStr aS vS oS (fun q : Nat => s.heap.size ≤ q) s s.heap) {i : Int32} (hi : 0 ≤ i.toInt ∧ i.toInt + 10 ≤ L) {cells slots : Nat} (hc : cells + 40 ≤ 600000) (hs : slots + 2000 ≤ 7302249) (kk : ∀ (wx wm : va_W) (H : Heap) (locs : List Loc) (ls : Array Slot), LInv kA x0 n0 wx wm → va_P (dC, dI) vwCl (wx ++ wm) H → va_D (fun q : Nat => s.heap.size ≤ q) (wx ++ wm) → va_S (fun q : Nat => s.heap.size ≤ q) s.heap H locs → lv_has ls 4 [(3, .int i), (2, .ref n0), (1, .ref x0), (0, .ref b)] → W p l e room_1 s m #[Value.ref b] below meth c H locs (cells + 40) (slots + 2000) (lw_Z below #[Value.ref b] s) (F0 m 1730 ls [])) (wx wm : va_W) (H : Heap) (locs : List Loc) (ls : Array Slot) (hI : LInv kA x0 n0 wx wm) (hP : va_P (dC, dI) vwCl (wx ++ wm) H) (hD : va_D (fun q : Nat => s.heap.size ≤ q) (wx ++ wm)) (hS : va_S (fun q : Nat => s.heap.size ≤ q) s.heap H locs) (hl : lv_has ls 4 [(3, .int i), (2, .ref n0), (1, .ref x0), (0, .ref b)]) : W p l e room_1 s m #[Value.ref b] below meth c H locs cells slots (lw_Z below #[Value.ref b] s) (F0 m 1013 ls []) := by
  obtain ⟨hx, hb, hr, hml, hown0, hts0, hX, hbl, hlocks, hgv⟩ := C0
  have hown : s.vm.findClass RL = some m.cls := hown0
  have hts : ∀ w ∈ wsL_law, w.before #[Value.ref b] s = true := fun w h => hts0 w (wsL_law_in w h)
  have hA : ∀ q : Nat, s.heap.size ≤ q → (fun q : Nat => s.heap.size ≤ q) q := fun _ h => h
  have hbA : ¬ (fun q : Nat => s.heap.size ≤ q) b := Nat.not_le.mpr hbl
  obtain ⟨S_, LL, im, hX0, hM0⟩ := hI
  have hgd := MOK4_gd hM0
  have hxt := MOK4_xt hM0
  have hgr := MOK4_gr hM0
  have hgx := MOK4_gx hM0
  have hc1 : cells + 20 ≤ room_1.cells := by show cells + 20 ≤ 600000; omega
  have hs1 : slots + 1000 ≤ room_1.slots := by show slots + 1000 ≤ 7302249; omega
  have hc2 : cells + 20 + 20 ≤ room_1.cells := by show cells + 20 + 20 ≤ 600000; omega
  have hs2 : slots + 1000 + 1000 ≤ room_1.slots := by show slots + 1000 + 1000 ≤ 7302249; omega
  obtain ⟨a1, ea1⟩ : ∃ y : Int32, y = xs (i + 1).toNatClampNeg := ⟨_, rfl⟩
  obtain ⟨a2, ea2⟩ : ∃ y : Int32, y = xs (i + 2).toNatClampNeg := ⟨_, rfl⟩
  refine lv_aload_n hx hb dL_law_1013 rfl (lv_at hl 2 rfl) ?_
  refine lv_aload_n hx hb dL_law_1014 rfl (lv_at hl 3 rfl) ?_
  refine lv_iload_n hx hb dL_law_1015 rfl (lv_at hl 0 rfl) ?_
  refine lv_iconst (v := 1) hx hb dL_law_1016 (by decide) ?_
  refine lv_iadd hx hb dL_law_1017 ?_
  refine va_sld hx hb hX hbl hbA hS (z_sc hi hL (n := 1) (by decide) (by decide)) dL_law_1018 ?_
  refine zi a1 ea1.symm ?_
  refine lv_aload_n hx hb dL_law_1019 rfl (lv_at hl 3 rfl) ?_
  refine lv_iload_n hx hb dL_law_1020 rfl (lv_at hl 0 rfl) ?_
  refine lv_iconst (v := 2) hx hb dL_law_1021 (by decide) ?_
  refine lv_iadd hx hb dL_law_1022 ?_
  refine va_sld hx hb hX hbl hbA hS (z_sc hi hL (n := 2) (by decide) (by decide)) dL_law_1023 ?_
  refine zi a2 ea2.symm ?_
  refine z_iL (wa := wx) (wb := wm) (va_runV (As := [.int a1, .int a2]) (rest := []) ⟨hx, hb, hml, hown, hts⟩ (wX10_nearest l dC dI kA _ x0 a1 a2 hX0 hgd hxt) (cwV 2 hts gL_law_X10_nearest rfl rfl rfl ⟨rfl, hdX10_nearest⟩ ⟨(Nat.le_of_ble_eq_true rfl), (Nat.le_of_ble_eq_true rfl)⟩) ⟨zPc.blind, XOK_rec hK hX0 hP, zPre hK (wl_P hP) (wl_D hD)⟩ rfl rfl hl.1 rfl (lv_room (Nat.le_of_ble_eq_true rfl)) dL_law_1024 ⟨hc1, hs1⟩) hP hD hS hA (fun r1 w1 H locs hw1 hP hD hS => ?_)
  refine lv_pop hx hb dL_law_1027 rfl ?_
  refine lv_aload_n hx hb dL_law_1028 rfl (lv_at hl 1 rfl) ?_
  refine lv_aload_n hx hb dL_law_1029 rfl (lv_at hl 3 rfl) ?_
  refine lv_iload_n hx hb dL_law_1030 rfl (lv_at hl 0 rfl) ?_
  refine lv_iconst (v := 1) hx hb dL_law_1031 (by decide) ?_
  refine lv_iadd hx hb dL_law_1032 ?_
  refine va_sld hx hb hX hbl hbA hS (z_sc hi hL (n := 1) (by decide) (by decide)) dL_law_1033 ?_
  refine zi a1 ea1.symm ?_
  refine lv_aload_n hx hb dL_law_1034 rfl (lv_at hl 3 rfl) ?_
  refine lv_iload_n hx hb dL_law_1035 rfl (lv_at hl 0 rfl) ?_
  refine lv_iconst (v := 2) hx hb dL_law_1036 (by decide) ?_
  refine lv_iadd hx hb dL_law_1037 ?_
  refine va_sld hx hb hX hbl hbA hS (z_sc hi hL (n := 2) (by decide) (by decide)) dL_law_1038 ?_
  refine zi a2 ea2.symm ?_
  refine z_iL (wa := wm) (wb := w1) (va_runV (As := [.int a1, .int a2]) (rest := []) ⟨hx, hb, hml, hown, hts⟩ (wX11_nearest l dC dI kA _ n0 a1 a2 hM0) (cwV 2 hts gL_law_X11_nearest rfl rfl rfl ⟨rfl, hdX11_nearest⟩ ⟨(Nat.le_of_ble_eq_true rfl), (Nat.le_of_ble_eq_true rfl)⟩) ⟨zPc.blind, MOK_rec hK hM0 (wp_P hP List.perm_append_comm), zPre hK (wl_P (wp_P hP List.perm_append_comm)) (wl_D (wp_D hD List.perm_append_comm))⟩ rfl rfl hl.1 rfl (lv_room (Nat.le_of_ble_eq_true rfl)) dL_law_1039 ⟨hc2, hs2⟩) (wp_P hP List.perm_append_comm) (wp_D hD List.perm_append_comm) hS hA (fun r2 w2 H locs hw2 hP hD hS => ?_)
  have hP := wp_P hP (List.perm_append_comm)
  have hD := wp_D hD (List.perm_append_comm)
  refine lv_pop hx hb dL_law_1042 rfl ?_
  refine lv_goto (tgt := 1730) hx hb dL_law_1043 (by decide) ?_
  refine W.widen (k := cells + 40) (n := slots + 2000) (by omega) (by omega) ?_
  exact kk w1 w2 H locs ls ⟨_, _, _, hw1, hw2⟩ hP hD hS hl
set_option maxHeartbeats 4000000 in
set_option maxRecDepth 100000 in
theorem law_c22 {p : Program} {l : Launch} {e : Env} {s : State} {m : MethodId} {below : List Frame} {meth : Method} {c : Code} {b L : Nat} {xs : Nat → Int32} {dC : Nat → ClassId} {dI : Nat → Nat → Nat} {kA : Nat → ClassId} {aS vS : Nat} {oS : Option Nat} {x0 n0 : Nat} (C0 : lw_At p s m meth c b L xs) (hL : L ≤ 5120) (hK : zK dC dI kA s) (hZ : zStr aS vS oS (fun q : Nat => s.heap.size ≤ q) s s.heap) {i : Int32} (hi : 0 ≤ i.toInt ∧ i.toInt + 10 ≤ L) {cells slots : Nat} (hc : cells + 40 ≤ 600000) (hs : slots + 2000 ≤ 7302249) (kk : ∀ (wx wm : va_W) (H : Heap) (locs : List Loc) (ls : Array Slot), LInv kA x0 n0 wx wm → va_P (dC, dI) vwCl (wx ++ wm) H → va_D (fun q : Nat => s.heap.size ≤ q) (wx ++ wm) → va_S (fun q : Nat => s.heap.size ≤ q) s.heap H locs → lv_has ls 4 [(3, .int i), (2, .ref n0), (1, .ref x0), (0, .ref b)] → W p l e room_1 s m #[Value.ref b] below meth c H locs (cells + 40) (slots + 2000) (lw_Z below #[Value.ref b] s) (F0 m 1730 ls [])) (wx wm : va_W) (H : Heap) (locs : List Loc) (ls : Array Slot) (hI : LInv kA x0 n0 wx wm) (hP : va_P (dC, dI) vwCl (wx ++ wm) H) (hD : va_D (fun q : Nat => s.heap.size ≤ q) (wx ++ wm)) (hS : va_S (fun q : Nat => s.heap.size ≤ q) s.heap H locs) (hl : lv_has ls 4 [(3, .int i), (2, .ref n0), (1, .ref x0), (0, .ref b)]) : W p l e room_1 s m #[Value.ref b] below meth c H locs cells slots (lw_Z below #[Value.ref b] s) (F0 m 1046 ls []) := by
  obtain ⟨hx, hb, hr, hml, hown0, hts0, hX, hbl, hlocks, hgv⟩ := C0
  have hown : s.vm.findClass RL = some m.cls := hown0
  have hts : ∀ w ∈ wsL_law, w.before #[Value.ref b] s = true := fun w h => hts0 w (wsL_law_in w h)
  have hA : ∀ q : Nat, s.heap.size ≤ q → (fun q : Nat => s.heap.size ≤ q) q := fun _ h => h
  have hbA : ¬ (fun q : Nat => s.heap.size ≤ q) b := Nat.not_le.mpr hbl
  obtain ⟨S_, LL, im, hX0, hM0⟩ := hI
  have hgd := MOK4_gd hM0
  have hxt := MOK4_xt hM0
  have hgr := MOK4_gr hM0
  have hgx := MOK4_gx hM0
  have hc1 : cells + 20 ≤ room_1.cells := by show cells + 20 ≤ 600000; omega
  have hs1 : slots + 1000 ≤ room_1.slots := by show slots + 1000 ≤ 7302249; omega
  have hc2 : cells + 20 + 20 ≤ room_1.cells := by show cells + 20 + 20 ≤ 600000; omega
  have hs2 : slots + 1000 + 1000 ≤ room_1.slots := by show slots + 1000 + 1000 ≤ 7302249; omega
  obtain ⟨a1, ea1⟩ : ∃ y : Int32, y = xs (i + 1).toNatClampNeg := ⟨_, rfl⟩
  obtain ⟨a2, ea2⟩ : ∃ y : Int32, y = xs (i + 2).toNatClampNeg := ⟨_, rfl⟩
  obtain ⟨a3, ea3⟩ : ∃ y : Int32, y = xs (i + 3).toNatClampNeg := ⟨_, rfl⟩
  obtain ⟨a4, ea4⟩ : ∃ y : Int32, y = xs (i + 4).toNatClampNeg := ⟨_, rfl⟩
  obtain ⟨a5, ea5⟩ : ∃ y : Int32, y = xs (i + 5).toNatClampNeg := ⟨_, rfl⟩
  obtain ⟨a6, ea6⟩ : ∃ y : Int32, y = xs (i + 6).toNatClampNeg := ⟨_, rfl⟩
  refine lv_aload_n hx hb dL_law_1046 rfl (lv_at hl 2 rfl) ?_
  refine lv_aload_n hx hb dL_law_1047 rfl (lv_at hl 3 rfl) ?_
  refine lv_iload_n hx hb dL_law_1048 rfl (lv_at hl 0 rfl) ?_
  refine lv_iconst (v := 1) hx hb dL_law_1049 (by decide) ?_
  refine lv_iadd hx hb dL_law_1050 ?_
  refine va_sld hx hb hX hbl hbA hS (z_sc hi hL (n := 1) (by decide) (by decide)) dL_law_1051 ?_
  refine zi a1 ea1.symm ?_
  refine lv_aload_n hx hb dL_law_1052 rfl (lv_at hl 3 rfl) ?_
  refine lv_iload_n hx hb dL_law_1053 rfl (lv_at hl 0 rfl) ?_
  refine lv_iconst (v := 2) hx hb dL_law_1054 (by decide) ?_
  refine lv_iadd hx hb dL_law_1055 ?_
  refine va_sld hx hb hX hbl hbA hS (z_sc hi hL (n := 2) (by decide) (by decide)) dL_law_1056 ?_
  refine zi a2 ea2.symm ?_
  refine lv_aload_n hx hb dL_law_1057 rfl (lv_at hl 3 rfl) ?_
  refine lv_iload_n hx hb dL_law_1058 rfl (lv_at hl 0 rfl) ?_
  refine lv_iconst (v := 3) hx hb dL_law_1059 (by decide) ?_
  refine lv_iadd hx hb dL_law_1060 ?_
  refine va_sld hx hb hX hbl hbA hS (z_sc hi hL (n := 3) (by decide) (by decide)) dL_law_1061 ?_
  refine zi a3 ea3.symm ?_
  refine lv_aload_n hx hb dL_law_1062 rfl (lv_at hl 3 rfl) ?_
  refine lv_iload_n hx hb dL_law_1063 rfl (lv_at hl 0 rfl) ?_
  refine lv_iconst (v := 4) hx hb dL_law_1064 (by decide) ?_
  refine lv_iadd hx hb dL_law_1065 ?_
  refine va_sld hx hb hX hbl hbA hS (z_sc hi hL (n := 4) (by decide) (by decide)) dL_law_1066 ?_
  refine zi a4 ea4.symm ?_
  refine lv_aload_n hx hb dL_law_1067 rfl (lv_at hl 3 rfl) ?_
  refine lv_iload_n hx hb dL_law_1068 rfl (lv_at hl 0 rfl) ?_
  refine lv_iconst (v := 5) hx hb dL_law_1069 (by decide) ?_
  refine lv_iadd hx hb dL_law_1070 ?_
  refine va_sld hx hb hX hbl hbA hS (z_sc hi hL (n := 5) (by decide) (by decide)) dL_law_1071 ?_
  refine zi a5 ea5.symm ?_
  refine lv_aload_n hx hb dL_law_1072 rfl (lv_at hl 3 rfl) ?_
  refine lv_iload_n hx hb dL_law_1073 rfl (lv_at hl 0 rfl) ?_
  refine lv_bipush (v := 6) hx hb dL_law_1074 (by decide) ?_
  refine lv_iadd hx hb dL_law_1076 ?_
  refine va_sld hx hb hX hbl hbA hS (z_sc hi hL (n := 6) (by decide) (by decide)) dL_law_1077 ?_
  refine zi a6 ea6.symm ?_
  refine z_iL (wa := wx) (wb := wm) (va_runV (As := [.int a1, .int a2, .int a3, .int a4, .int a5, .int a6]) (rest := []) ⟨hx, hb, hml, hown, hts⟩ (wX10_warmer l dC dI kA _ x0 a1 a2 a3 a4 a5 a6 hX0 hgd hxt) (cwV 6 hts gL_law_X10_warmer rfl rfl rfl ⟨rfl, hdX10_warmer⟩ ⟨(Nat.le_of_ble_eq_true rfl), (Nat.le_of_ble_eq_true rfl)⟩) ⟨zPc.blind, XOK_rec hK hX0 hP, zPre hK (wl_P hP) (wl_D hD)⟩ rfl rfl hl.1 rfl (lv_room (Nat.le_of_ble_eq_true rfl)) dL_law_1078 ⟨hc1, hs1⟩) hP hD hS hA (fun r1 w1 H locs hw1 hP hD hS => ?_)
  refine lv_pop hx hb dL_law_1081 rfl ?_
  refine lv_aload_n hx hb dL_law_1082 rfl (lv_at hl 1 rfl) ?_
  refine lv_aload_n hx hb dL_law_1083 rfl (lv_at hl 3 rfl) ?_
  refine lv_iload_n hx hb dL_law_1084 rfl (lv_at hl 0 rfl) ?_
  refine lv_iconst (v := 1) hx hb dL_law_1085 (by decide) ?_
  refine lv_iadd hx hb dL_law_1086 ?_
  refine va_sld hx hb hX hbl hbA hS (z_sc hi hL (n := 1) (by decide) (by decide)) dL_law_1087 ?_
  refine zi a1 ea1.symm ?_
  refine lv_aload_n hx hb dL_law_1088 rfl (lv_at hl 3 rfl) ?_
  refine lv_iload_n hx hb dL_law_1089 rfl (lv_at hl 0 rfl) ?_
  refine lv_iconst (v := 2) hx hb dL_law_1090 (by decide) ?_
  refine lv_iadd hx hb dL_law_1091 ?_
  refine va_sld hx hb hX hbl hbA hS (z_sc hi hL (n := 2) (by decide) (by decide)) dL_law_1092 ?_
  refine zi a2 ea2.symm ?_
  refine lv_aload_n hx hb dL_law_1093 rfl (lv_at hl 3 rfl) ?_
  refine lv_iload_n hx hb dL_law_1094 rfl (lv_at hl 0 rfl) ?_
  refine lv_iconst (v := 3) hx hb dL_law_1095 (by decide) ?_
  refine lv_iadd hx hb dL_law_1096 ?_
  refine va_sld hx hb hX hbl hbA hS (z_sc hi hL (n := 3) (by decide) (by decide)) dL_law_1097 ?_
  refine zi a3 ea3.symm ?_
  refine lv_aload_n hx hb dL_law_1098 rfl (lv_at hl 3 rfl) ?_
  refine lv_iload_n hx hb dL_law_1099 rfl (lv_at hl 0 rfl) ?_
  refine lv_iconst (v := 4) hx hb dL_law_1100 (by decide) ?_
  refine lv_iadd hx hb dL_law_1101 ?_
  refine va_sld hx hb hX hbl hbA hS (z_sc hi hL (n := 4) (by decide) (by decide)) dL_law_1102 ?_
  refine zi a4 ea4.symm ?_
  refine lv_aload_n hx hb dL_law_1103 rfl (lv_at hl 3 rfl) ?_
  refine lv_iload_n hx hb dL_law_1104 rfl (lv_at hl 0 rfl) ?_
  refine lv_iconst (v := 5) hx hb dL_law_1105 (by decide) ?_
  refine lv_iadd hx hb dL_law_1106 ?_
  refine va_sld hx hb hX hbl hbA hS (z_sc hi hL (n := 5) (by decide) (by decide)) dL_law_1107 ?_
  refine zi a5 ea5.symm ?_
  refine lv_aload_n hx hb dL_law_1108 rfl (lv_at hl 3 rfl) ?_
  refine lv_iload_n hx hb dL_law_1109 rfl (lv_at hl 0 rfl) ?_
  refine lv_bipush (v := 6) hx hb dL_law_1110 (by decide) ?_
  refine lv_iadd hx hb dL_law_1112 ?_
  refine va_sld hx hb hX hbl hbA hS (z_sc hi hL (n := 6) (by decide) (by decide)) dL_law_1113 ?_
  refine zi a6 ea6.symm ?_
  refine z_iL (wa := wm) (wb := w1) (va_runV (As := [.int a1, .int a2, .int a3, .int a4, .int a5, .int a6]) (rest := []) ⟨hx, hb, hml, hown, hts⟩ (wX11_warmer l dC dI kA _ n0 a1 a2 a3 a4 a5 a6 hM0) (cwV 6 hts gL_law_X11_warmer rfl rfl rfl ⟨rfl, hdX11_warmer⟩ ⟨(Nat.le_of_ble_eq_true rfl), (Nat.le_of_ble_eq_true rfl)⟩) ⟨zPc.blind, MOK_rec hK hM0 (wp_P hP List.perm_append_comm), zPre hK (wl_P (wp_P hP List.perm_append_comm)) (wl_D (wp_D hD List.perm_append_comm))⟩ rfl rfl hl.1 rfl (lv_room (Nat.le_of_ble_eq_true rfl)) dL_law_1114 ⟨hc2, hs2⟩) (wp_P hP List.perm_append_comm) (wp_D hD List.perm_append_comm) hS hA (fun r2 w2 H locs hw2 hP hD hS => ?_)
  have hP := wp_P hP (List.perm_append_comm)
  have hD := wp_D hD (List.perm_append_comm)
  refine lv_pop hx hb dL_law_1117 rfl ?_
  refine lv_goto (tgt := 1730) hx hb dL_law_1118 (by decide) ?_
  refine W.widen (k := cells + 40) (n := slots + 2000) (by omega) (by omega) ?_
  exact kk w1 w2 H locs ls ⟨_, _, _, hw1, hw2⟩ hP hD hS hl
set_option maxHeartbeats 4000000 in
set_option maxRecDepth 100000 in
theorem law_c23 {p : Program} {l : Launch} {e : Env} {s : State} {m : MethodId} {below : List Frame} {meth : Method} {c : Code} {b L : Nat} {xs : Nat → Int32} {dC : Nat → ClassId} {dI : Nat → Nat → Nat} {kA : Nat → ClassId} {aS vS : Nat} {oS : Option Nat} {x0 n0 : Nat} (C0 : lw_At p s m meth c b L xs) (hL : L ≤ 5120) (hK : zK dC dI kA s) (hZ : zStr aS vS oS (fun q : Nat => s.heap.size ≤ q) s s.heap) {i : Int32} (hi : 0 ≤ i.toInt ∧ i.toInt + 10 ≤ L) {cells slots : Nat} (hc : cells + 40 ≤ 600000) (hs : slots + 2000 ≤ 7302249) (kk : ∀ (wx wm : va_W) (H : Heap) (locs : List Loc) (ls : Array Slot), LInv kA x0 n0 wx wm → va_P (dC, dI) vwCl (wx ++ wm) H → va_D (fun q : Nat => s.heap.size ≤ q) (wx ++ wm) → va_S (fun q : Nat => s.heap.size ≤ q) s.heap H locs → lv_has ls 4 [(3, .int i), (2, .ref n0), (1, .ref x0), (0, .ref b)] → W p l e room_1 s m #[Value.ref b] below meth c H locs (cells + 40) (slots + 2000) (lw_Z below #[Value.ref b] s) (F0 m 1730 ls [])) (wx wm : va_W) (H : Heap) (locs : List Loc) (ls : Array Slot) (hI : LInv kA x0 n0 wx wm) (hP : va_P (dC, dI) vwCl (wx ++ wm) H) (hD : va_D (fun q : Nat => s.heap.size ≤ q) (wx ++ wm)) (hS : va_S (fun q : Nat => s.heap.size ≤ q) s.heap H locs) (hl : lv_has ls 4 [(3, .int i), (2, .ref n0), (1, .ref x0), (0, .ref b)]) : W p l e room_1 s m #[Value.ref b] below meth c H locs cells slots (lw_Z below #[Value.ref b] s) (F0 m 1121 ls []) := by
  obtain ⟨hx, hb, hr, hml, hown0, hts0, hX, hbl, hlocks, hgv⟩ := C0
  have hown : s.vm.findClass RL = some m.cls := hown0
  have hts : ∀ w ∈ wsL_law, w.before #[Value.ref b] s = true := fun w h => hts0 w (wsL_law_in w h)
  have hA : ∀ q : Nat, s.heap.size ≤ q → (fun q : Nat => s.heap.size ≤ q) q := fun _ h => h
  have hbA : ¬ (fun q : Nat => s.heap.size ≤ q) b := Nat.not_le.mpr hbl
  obtain ⟨S_, LL, im, hX0, hM0⟩ := hI
  have hgd := MOK4_gd hM0
  have hxt := MOK4_xt hM0
  have hgr := MOK4_gr hM0
  have hgx := MOK4_gx hM0
  have hc1 : cells + 20 ≤ room_1.cells := by show cells + 20 ≤ 600000; omega
  have hs1 : slots + 1000 ≤ room_1.slots := by show slots + 1000 ≤ 7302249; omega
  have hc2 : cells + 20 + 20 ≤ room_1.cells := by show cells + 20 + 20 ≤ 600000; omega
  have hs2 : slots + 1000 + 1000 ≤ room_1.slots := by show slots + 1000 + 1000 ≤ 7302249; omega
  obtain ⟨a1, ea1⟩ : ∃ y : Int32, y = xs (i + 1).toNatClampNeg := ⟨_, rfl⟩
  obtain ⟨a2, ea2⟩ : ∃ y : Int32, y = xs (i + 2).toNatClampNeg := ⟨_, rfl⟩
  obtain ⟨a3, ea3⟩ : ∃ y : Int32, y = xs (i + 3).toNatClampNeg := ⟨_, rfl⟩
  obtain ⟨a4, ea4⟩ : ∃ y : Int32, y = xs (i + 4).toNatClampNeg := ⟨_, rfl⟩
  obtain ⟨a5, ea5⟩ : ∃ y : Int32, y = xs (i + 5).toNatClampNeg := ⟨_, rfl⟩
  obtain ⟨a6, ea6⟩ : ∃ y : Int32, y = xs (i + 6).toNatClampNeg := ⟨_, rfl⟩
  obtain ⟨a7, ea7⟩ : ∃ y : Int32, y = xs (i + 7).toNatClampNeg := ⟨_, rfl⟩
  obtain ⟨a8, ea8⟩ : ∃ y : Int32, y = xs (i + 8).toNatClampNeg := ⟨_, rfl⟩
  obtain ⟨a9, ea9⟩ : ∃ y : Int32, y = xs (i + 9).toNatClampNeg := ⟨_, rfl⟩
  refine lv_aload_n hx hb dL_law_1121 rfl (lv_at hl 2 rfl) ?_
  refine lv_aload_n hx hb dL_law_1122 rfl (lv_at hl 3 rfl) ?_
  refine lv_iload_n hx hb dL_law_1123 rfl (lv_at hl 0 rfl) ?_
  refine lv_iconst (v := 1) hx hb dL_law_1124 (by decide) ?_
  refine lv_iadd hx hb dL_law_1125 ?_
  refine va_sld hx hb hX hbl hbA hS (z_sc hi hL (n := 1) (by decide) (by decide)) dL_law_1126 ?_
  refine zi a1 ea1.symm ?_
  refine lv_aload_n hx hb dL_law_1127 rfl (lv_at hl 3 rfl) ?_
  refine lv_iload_n hx hb dL_law_1128 rfl (lv_at hl 0 rfl) ?_
  refine lv_iconst (v := 2) hx hb dL_law_1129 (by decide) ?_
  refine lv_iadd hx hb dL_law_1130 ?_
  refine va_sld hx hb hX hbl hbA hS (z_sc hi hL (n := 2) (by decide) (by decide)) dL_law_1131 ?_
  refine zi a2 ea2.symm ?_
  refine lv_aload_n hx hb dL_law_1132 rfl (lv_at hl 3 rfl) ?_
  refine lv_iload_n hx hb dL_law_1133 rfl (lv_at hl 0 rfl) ?_
  refine lv_iconst (v := 3) hx hb dL_law_1134 (by decide) ?_
  refine lv_iadd hx hb dL_law_1135 ?_
  refine va_sld hx hb hX hbl hbA hS (z_sc hi hL (n := 3) (by decide) (by decide)) dL_law_1136 ?_
  refine zi a3 ea3.symm ?_
  refine lv_aload_n hx hb dL_law_1137 rfl (lv_at hl 3 rfl) ?_
  refine lv_iload_n hx hb dL_law_1138 rfl (lv_at hl 0 rfl) ?_
  refine lv_iconst (v := 4) hx hb dL_law_1139 (by decide) ?_
  refine lv_iadd hx hb dL_law_1140 ?_
  refine va_sld hx hb hX hbl hbA hS (z_sc hi hL (n := 4) (by decide) (by decide)) dL_law_1141 ?_
  refine zi a4 ea4.symm ?_
  refine lv_aload_n hx hb dL_law_1142 rfl (lv_at hl 3 rfl) ?_
  refine lv_iload_n hx hb dL_law_1143 rfl (lv_at hl 0 rfl) ?_
  refine lv_iconst (v := 5) hx hb dL_law_1144 (by decide) ?_
  refine lv_iadd hx hb dL_law_1145 ?_
  refine va_sld hx hb hX hbl hbA hS (z_sc hi hL (n := 5) (by decide) (by decide)) dL_law_1146 ?_
  refine zi a5 ea5.symm ?_
  refine lv_aload_n hx hb dL_law_1147 rfl (lv_at hl 3 rfl) ?_
  refine lv_iload_n hx hb dL_law_1148 rfl (lv_at hl 0 rfl) ?_
  refine lv_bipush (v := 6) hx hb dL_law_1149 (by decide) ?_
  refine lv_iadd hx hb dL_law_1151 ?_
  refine va_sld hx hb hX hbl hbA hS (z_sc hi hL (n := 6) (by decide) (by decide)) dL_law_1152 ?_
  refine zi a6 ea6.symm ?_
  refine lv_aload_n hx hb dL_law_1153 rfl (lv_at hl 3 rfl) ?_
  refine lv_iload_n hx hb dL_law_1154 rfl (lv_at hl 0 rfl) ?_
  refine lv_bipush (v := 7) hx hb dL_law_1155 (by decide) ?_
  refine lv_iadd hx hb dL_law_1157 ?_
  refine va_sld hx hb hX hbl hbA hS (z_sc hi hL (n := 7) (by decide) (by decide)) dL_law_1158 ?_
  refine zi a7 ea7.symm ?_
  refine lv_aload_n hx hb dL_law_1159 rfl (lv_at hl 3 rfl) ?_
  refine lv_iload_n hx hb dL_law_1160 rfl (lv_at hl 0 rfl) ?_
  refine lv_bipush (v := 8) hx hb dL_law_1161 (by decide) ?_
  refine lv_iadd hx hb dL_law_1163 ?_
  refine va_sld hx hb hX hbl hbA hS (z_sc hi hL (n := 8) (by decide) (by decide)) dL_law_1164 ?_
  refine zi a8 ea8.symm ?_
  refine lv_aload_n hx hb dL_law_1165 rfl (lv_at hl 3 rfl) ?_
  refine lv_iload_n hx hb dL_law_1166 rfl (lv_at hl 0 rfl) ?_
  refine lv_bipush (v := 9) hx hb dL_law_1167 (by decide) ?_
  refine lv_iadd hx hb dL_law_1169 ?_
  refine va_sld hx hb hX hbl hbA hS (z_sc hi hL (n := 9) (by decide) (by decide)) dL_law_1170 ?_
  refine zi a9 ea9.symm ?_
  refine z_iL (wa := wx) (wb := wm) (va_runV (As := [.int a1, .int a2, .int a3, .int a4, .int a5, .int a6, .int a7, .int a8, .int a9]) (rest := []) ⟨hx, hb, hml, hown, hts⟩ (wX10_guess l dC dI kA _ x0 a1 a2 a3 a4 a5 a6 a7 a8 a9 hX0 hgd hxt) (cwV 9 hts gL_law_X10_guess rfl rfl rfl ⟨rfl, hdX10_guess⟩ ⟨(Nat.le_of_ble_eq_true rfl), (Nat.le_of_ble_eq_true rfl)⟩) ⟨zPc.blind, XOK_rec hK hX0 hP, zPre hK (wl_P hP) (wl_D hD)⟩ rfl rfl hl.1 rfl (lv_room (Nat.le_of_ble_eq_true rfl)) dL_law_1171 ⟨hc1, hs1⟩) hP hD hS hA (fun r1 w1 H locs hw1 hP hD hS => ?_)
  refine lv_aload_n hx hb dL_law_1174 rfl (lv_at hl 1 rfl) ?_
  refine lv_aload_n hx hb dL_law_1175 rfl (lv_at hl 3 rfl) ?_
  refine lv_iload_n hx hb dL_law_1176 rfl (lv_at hl 0 rfl) ?_
  refine lv_iconst (v := 1) hx hb dL_law_1177 (by decide) ?_
  refine lv_iadd hx hb dL_law_1178 ?_
  refine va_sld hx hb hX hbl hbA hS (z_sc hi hL (n := 1) (by decide) (by decide)) dL_law_1179 ?_
  refine zi a1 ea1.symm ?_
  refine lv_aload_n hx hb dL_law_1180 rfl (lv_at hl 3 rfl) ?_
  refine lv_iload_n hx hb dL_law_1181 rfl (lv_at hl 0 rfl) ?_
  refine lv_iconst (v := 2) hx hb dL_law_1182 (by decide) ?_
  refine lv_iadd hx hb dL_law_1183 ?_
  refine va_sld hx hb hX hbl hbA hS (z_sc hi hL (n := 2) (by decide) (by decide)) dL_law_1184 ?_
  refine zi a2 ea2.symm ?_
  refine lv_aload_n hx hb dL_law_1185 rfl (lv_at hl 3 rfl) ?_
  refine lv_iload_n hx hb dL_law_1186 rfl (lv_at hl 0 rfl) ?_
  refine lv_iconst (v := 3) hx hb dL_law_1187 (by decide) ?_
  refine lv_iadd hx hb dL_law_1188 ?_
  refine va_sld hx hb hX hbl hbA hS (z_sc hi hL (n := 3) (by decide) (by decide)) dL_law_1189 ?_
  refine zi a3 ea3.symm ?_
  refine lv_aload_n hx hb dL_law_1190 rfl (lv_at hl 3 rfl) ?_
  refine lv_iload_n hx hb dL_law_1191 rfl (lv_at hl 0 rfl) ?_
  refine lv_iconst (v := 4) hx hb dL_law_1192 (by decide) ?_
  refine lv_iadd hx hb dL_law_1193 ?_
  refine va_sld hx hb hX hbl hbA hS (z_sc hi hL (n := 4) (by decide) (by decide)) dL_law_1194 ?_
  refine zi a4 ea4.symm ?_
  refine lv_aload_n hx hb dL_law_1195 rfl (lv_at hl 3 rfl) ?_
  refine lv_iload_n hx hb dL_law_1196 rfl (lv_at hl 0 rfl) ?_
  refine lv_iconst (v := 5) hx hb dL_law_1197 (by decide) ?_
  refine lv_iadd hx hb dL_law_1198 ?_
  refine va_sld hx hb hX hbl hbA hS (z_sc hi hL (n := 5) (by decide) (by decide)) dL_law_1199 ?_
  refine zi a5 ea5.symm ?_
  refine lv_aload_n hx hb dL_law_1200 rfl (lv_at hl 3 rfl) ?_
  refine lv_iload_n hx hb dL_law_1201 rfl (lv_at hl 0 rfl) ?_
  refine lv_bipush (v := 6) hx hb dL_law_1202 (by decide) ?_
  refine lv_iadd hx hb dL_law_1204 ?_
  refine va_sld hx hb hX hbl hbA hS (z_sc hi hL (n := 6) (by decide) (by decide)) dL_law_1205 ?_
  refine zi a6 ea6.symm ?_
  refine lv_aload_n hx hb dL_law_1206 rfl (lv_at hl 3 rfl) ?_
  refine lv_iload_n hx hb dL_law_1207 rfl (lv_at hl 0 rfl) ?_
  refine lv_bipush (v := 7) hx hb dL_law_1208 (by decide) ?_
  refine lv_iadd hx hb dL_law_1210 ?_
  refine va_sld hx hb hX hbl hbA hS (z_sc hi hL (n := 7) (by decide) (by decide)) dL_law_1211 ?_
  refine zi a7 ea7.symm ?_
  refine lv_aload_n hx hb dL_law_1212 rfl (lv_at hl 3 rfl) ?_
  refine lv_iload_n hx hb dL_law_1213 rfl (lv_at hl 0 rfl) ?_
  refine lv_bipush (v := 8) hx hb dL_law_1214 (by decide) ?_
  refine lv_iadd hx hb dL_law_1216 ?_
  refine va_sld hx hb hX hbl hbA hS (z_sc hi hL (n := 8) (by decide) (by decide)) dL_law_1217 ?_
  refine zi a8 ea8.symm ?_
  refine lv_aload_n hx hb dL_law_1218 rfl (lv_at hl 3 rfl) ?_
  refine lv_iload_n hx hb dL_law_1219 rfl (lv_at hl 0 rfl) ?_
  refine lv_bipush (v := 9) hx hb dL_law_1220 (by decide) ?_
  refine lv_iadd hx hb dL_law_1222 ?_
  refine va_sld hx hb hX hbl hbA hS (z_sc hi hL (n := 9) (by decide) (by decide)) dL_law_1223 ?_
  refine zi a9 ea9.symm ?_
  refine z_iL (wa := wm) (wb := w1) (va_runV (As := [.int a1, .int a2, .int a3, .int a4, .int a5, .int a6, .int a7, .int a8, .int a9]) (rest := [.int r1]) ⟨hx, hb, hml, hown, hts⟩ (wX11_guess l dC dI kA _ n0 a1 a2 a3 a4 a5 a6 a7 a8 a9 hM0) (cwV 9 hts gL_law_X11_guess rfl rfl rfl ⟨rfl, hdX11_guess⟩ ⟨(Nat.le_of_ble_eq_true rfl), (Nat.le_of_ble_eq_true rfl)⟩) ⟨zPc.blind, MOK_rec hK hM0 (wp_P hP List.perm_append_comm), zPre hK (wl_P (wp_P hP List.perm_append_comm)) (wl_D (wp_D hD List.perm_append_comm))⟩ rfl rfl hl.1 rfl (lv_room (Nat.le_of_ble_eq_true rfl)) dL_law_1224 ⟨hc2, hs2⟩) (wp_P hP List.perm_append_comm) (wp_D hD List.perm_append_comm) hS hA (fun r2 w2 H locs hw2 hP hD hS => ?_)
  have hP := wp_P hP (List.perm_append_comm)
  have hD := wp_D hD (List.perm_append_comm)
  refine lv_icmp_eq (tgt := 1730) hx hb dL_law_1227 (by decide) (fun _ => ?_) (fun q9 => absurd (hw1.1.trans hw2.1.symm) q9)
  refine W.widen (k := cells + 40) (n := slots + 2000) (by omega) (by omega) ?_
  exact kk w1 w2 H locs ls ⟨_, _, _, hw1.2, hw2.2⟩ hP hD hS hl
set_option maxHeartbeats 4000000 in
set_option maxRecDepth 100000 in
theorem law_c24 {p : Program} {l : Launch} {e : Env} {s : State} {m : MethodId} {below : List Frame} {meth : Method} {c : Code} {b L : Nat} {xs : Nat → Int32} {dC : Nat → ClassId} {dI : Nat → Nat → Nat} {kA : Nat → ClassId} {aS vS : Nat} {oS : Option Nat} {x0 n0 : Nat} (C0 : lw_At p s m meth c b L xs) (hL : L ≤ 5120) (hK : zK dC dI kA s) (hZ : zStr aS vS oS (fun q : Nat => s.heap.size ≤ q) s s.heap) {i : Int32} (hi : 0 ≤ i.toInt ∧ i.toInt + 10 ≤ L) {cells slots : Nat} (hc : cells + 40 ≤ 600000) (hs : slots + 2000 ≤ 7302249) (kk : ∀ (wx wm : va_W) (H : Heap) (locs : List Loc) (ls : Array Slot), LInv kA x0 n0 wx wm → va_P (dC, dI) vwCl (wx ++ wm) H → va_D (fun q : Nat => s.heap.size ≤ q) (wx ++ wm) → va_S (fun q : Nat => s.heap.size ≤ q) s.heap H locs → lv_has ls 4 [(3, .int i), (2, .ref n0), (1, .ref x0), (0, .ref b)] → W p l e room_1 s m #[Value.ref b] below meth c H locs (cells + 40) (slots + 2000) (lw_Z below #[Value.ref b] s) (F0 m 1730 ls [])) (wx wm : va_W) (H : Heap) (locs : List Loc) (ls : Array Slot) (hI : LInv kA x0 n0 wx wm) (hP : va_P (dC, dI) vwCl (wx ++ wm) H) (hD : va_D (fun q : Nat => s.heap.size ≤ q) (wx ++ wm)) (hS : va_S (fun q : Nat => s.heap.size ≤ q) s.heap H locs) (hl : lv_has ls 4 [(3, .int i), (2, .ref n0), (1, .ref x0), (0, .ref b)]) : W p l e room_1 s m #[Value.ref b] below meth c H locs cells slots (lw_Z below #[Value.ref b] s) (F0 m 1232 ls []) := by
  obtain ⟨hx, hb, hr, hml, hown0, hts0, hX, hbl, hlocks, hgv⟩ := C0
  have hown : s.vm.findClass RL = some m.cls := hown0
  have hts : ∀ w ∈ wsL_law, w.before #[Value.ref b] s = true := fun w h => hts0 w (wsL_law_in w h)
  have hA : ∀ q : Nat, s.heap.size ≤ q → (fun q : Nat => s.heap.size ≤ q) q := fun _ h => h
  have hbA : ¬ (fun q : Nat => s.heap.size ≤ q) b := Nat.not_le.mpr hbl
  obtain ⟨S_, LL, im, hX0, hM0⟩ := hI
  have hgd := MOK4_gd hM0
  have hxt := MOK4_xt hM0
  have hgr := MOK4_gr hM0
  have hgx := MOK4_gx hM0
  have hc1 : cells + 20 ≤ room_1.cells := by show cells + 20 ≤ 600000; omega
  have hs1 : slots + 1000 ≤ room_1.slots := by show slots + 1000 ≤ 7302249; omega
  have hc2 : cells + 20 + 20 ≤ room_1.cells := by show cells + 20 + 20 ≤ 600000; omega
  have hs2 : slots + 1000 + 1000 ≤ room_1.slots := by show slots + 1000 + 1000 ≤ 7302249; omega
  obtain ⟨a1, ea1⟩ : ∃ y : Int32, y = xs (i + 1).toNatClampNeg := ⟨_, rfl⟩
  obtain ⟨a2, ea2⟩ : ∃ y : Int32, y = xs (i + 2).toNatClampNeg := ⟨_, rfl⟩
  obtain ⟨a3, ea3⟩ : ∃ y : Int32, y = xs (i + 3).toNatClampNeg := ⟨_, rfl⟩
  obtain ⟨a4, ea4⟩ : ∃ y : Int32, y = xs (i + 4).toNatClampNeg := ⟨_, rfl⟩
  refine lv_aload_n hx hb dL_law_1232 rfl (lv_at hl 2 rfl) ?_
  refine lv_aload_n hx hb dL_law_1233 rfl (lv_at hl 3 rfl) ?_
  refine lv_iload_n hx hb dL_law_1234 rfl (lv_at hl 0 rfl) ?_
  refine lv_iconst (v := 1) hx hb dL_law_1235 (by decide) ?_
  refine lv_iadd hx hb dL_law_1236 ?_
  refine va_sld hx hb hX hbl hbA hS (z_sc hi hL (n := 1) (by decide) (by decide)) dL_law_1237 ?_
  refine zi a1 ea1.symm ?_
  refine lv_aload_n hx hb dL_law_1238 rfl (lv_at hl 3 rfl) ?_
  refine lv_iload_n hx hb dL_law_1239 rfl (lv_at hl 0 rfl) ?_
  refine lv_iconst (v := 2) hx hb dL_law_1240 (by decide) ?_
  refine lv_iadd hx hb dL_law_1241 ?_
  refine va_sld hx hb hX hbl hbA hS (z_sc hi hL (n := 2) (by decide) (by decide)) dL_law_1242 ?_
  refine zi a2 ea2.symm ?_
  refine lv_aload_n hx hb dL_law_1243 rfl (lv_at hl 3 rfl) ?_
  refine lv_iload_n hx hb dL_law_1244 rfl (lv_at hl 0 rfl) ?_
  refine lv_iconst (v := 3) hx hb dL_law_1245 (by decide) ?_
  refine lv_iadd hx hb dL_law_1246 ?_
  refine va_sld hx hb hX hbl hbA hS (z_sc hi hL (n := 3) (by decide) (by decide)) dL_law_1247 ?_
  refine zi a3 ea3.symm ?_
  refine lv_aload_n hx hb dL_law_1248 rfl (lv_at hl 3 rfl) ?_
  refine lv_iload_n hx hb dL_law_1249 rfl (lv_at hl 0 rfl) ?_
  refine lv_iconst (v := 4) hx hb dL_law_1250 (by decide) ?_
  refine lv_iadd hx hb dL_law_1251 ?_
  refine va_sld hx hb hX hbl hbA hS (z_sc hi hL (n := 4) (by decide) (by decide)) dL_law_1252 ?_
  refine zi a4 ea4.symm ?_
  refine z_iL (wa := wx) (wb := wm) (va_runV (As := [.int a1, .int a2, .int a3, .int a4]) (rest := []) ⟨hx, hb, hml, hown, hts⟩ (wX10_order l dC dI kA _ x0 a1 a2 a3 a4 hX0 hgd hxt) (cwV 4 hts gL_law_X10_order rfl rfl rfl ⟨rfl, hdX10_order⟩ ⟨(Nat.le_of_ble_eq_true rfl), (Nat.le_of_ble_eq_true rfl)⟩) ⟨zPc.blind, XOK_rec hK hX0 hP, zPre hK (wl_P hP) (wl_D hD)⟩ rfl rfl hl.1 rfl (lv_room (Nat.le_of_ble_eq_true rfl)) dL_law_1253 ⟨hc1, hs1⟩) hP hD hS hA (fun r1 w1 H locs hw1 hP hD hS => ?_)
  refine lv_pop hx hb dL_law_1256 rfl ?_
  refine lv_aload_n hx hb dL_law_1257 rfl (lv_at hl 1 rfl) ?_
  refine lv_aload_n hx hb dL_law_1258 rfl (lv_at hl 3 rfl) ?_
  refine lv_iload_n hx hb dL_law_1259 rfl (lv_at hl 0 rfl) ?_
  refine lv_iconst (v := 1) hx hb dL_law_1260 (by decide) ?_
  refine lv_iadd hx hb dL_law_1261 ?_
  refine va_sld hx hb hX hbl hbA hS (z_sc hi hL (n := 1) (by decide) (by decide)) dL_law_1262 ?_
  refine zi a1 ea1.symm ?_
  refine lv_aload_n hx hb dL_law_1263 rfl (lv_at hl 3 rfl) ?_
  refine lv_iload_n hx hb dL_law_1264 rfl (lv_at hl 0 rfl) ?_
  refine lv_iconst (v := 2) hx hb dL_law_1265 (by decide) ?_
  refine lv_iadd hx hb dL_law_1266 ?_
  refine va_sld hx hb hX hbl hbA hS (z_sc hi hL (n := 2) (by decide) (by decide)) dL_law_1267 ?_
  refine zi a2 ea2.symm ?_
  refine lv_aload_n hx hb dL_law_1268 rfl (lv_at hl 3 rfl) ?_
  refine lv_iload_n hx hb dL_law_1269 rfl (lv_at hl 0 rfl) ?_
  refine lv_iconst (v := 3) hx hb dL_law_1270 (by decide) ?_
  refine lv_iadd hx hb dL_law_1271 ?_
  refine va_sld hx hb hX hbl hbA hS (z_sc hi hL (n := 3) (by decide) (by decide)) dL_law_1272 ?_
  refine zi a3 ea3.symm ?_
  refine lv_aload_n hx hb dL_law_1273 rfl (lv_at hl 3 rfl) ?_
  refine lv_iload_n hx hb dL_law_1274 rfl (lv_at hl 0 rfl) ?_
  refine lv_iconst (v := 4) hx hb dL_law_1275 (by decide) ?_
  refine lv_iadd hx hb dL_law_1276 ?_
  refine va_sld hx hb hX hbl hbA hS (z_sc hi hL (n := 4) (by decide) (by decide)) dL_law_1277 ?_
  refine zi a4 ea4.symm ?_
  refine z_iL (wa := wm) (wb := w1) (va_runV (As := [.int a1, .int a2, .int a3, .int a4]) (rest := []) ⟨hx, hb, hml, hown, hts⟩ (wX11_order l dC dI kA _ n0 a1 a2 a3 a4 hM0) (cwV 4 hts gL_law_X11_order rfl rfl rfl ⟨rfl, hdX11_order⟩ ⟨(Nat.le_of_ble_eq_true rfl), (Nat.le_of_ble_eq_true rfl)⟩) ⟨zPc.blind, MOK_rec hK hM0 (wp_P hP List.perm_append_comm), zPre hK (wl_P (wp_P hP List.perm_append_comm)) (wl_D (wp_D hD List.perm_append_comm))⟩ rfl rfl hl.1 rfl (lv_room (Nat.le_of_ble_eq_true rfl)) dL_law_1278 ⟨hc2, hs2⟩) (wp_P hP List.perm_append_comm) (wp_D hD List.perm_append_comm) hS hA (fun r2 w2 H locs hw2 hP hD hS => ?_)
  have hP := wp_P hP (List.perm_append_comm)
  have hD := wp_D hD (List.perm_append_comm)
  refine lv_pop hx hb dL_law_1281 rfl ?_
  refine lv_goto (tgt := 1730) hx hb dL_law_1282 (by decide) ?_
  refine W.widen (k := cells + 40) (n := slots + 2000) (by omega) (by omega) ?_
  exact kk w1 w2 H locs ls ⟨_, _, _, hw1.2, hw2.2⟩ hP hD hS hl
set_option maxHeartbeats 4000000 in
set_option maxRecDepth 100000 in
theorem law_c25 {p : Program} {l : Launch} {e : Env} {s : State} {m : MethodId} {below : List Frame} {meth : Method} {c : Code} {b L : Nat} {xs : Nat → Int32} {dC : Nat → ClassId} {dI : Nat → Nat → Nat} {kA : Nat → ClassId} {aS vS : Nat} {oS : Option Nat} {x0 n0 : Nat} (C0 : lw_At p s m meth c b L xs) (hL : L ≤ 5120) (hK : zK dC dI kA s) (hZ : zStr aS vS oS (fun q : Nat => s.heap.size ≤ q) s s.heap) {i : Int32} (hi : 0 ≤ i.toInt ∧ i.toInt + 10 ≤ L) {cells slots : Nat} (hc : cells + 40 ≤ 600000) (hs : slots + 2000 ≤ 7302249) (kk : ∀ (wx wm : va_W) (H : Heap) (locs : List Loc) (ls : Array Slot), LInv kA x0 n0 wx wm → va_P (dC, dI) vwCl (wx ++ wm) H → va_D (fun q : Nat => s.heap.size ≤ q) (wx ++ wm) → va_S (fun q : Nat => s.heap.size ≤ q) s.heap H locs → lv_has ls 4 [(3, .int i), (2, .ref n0), (1, .ref x0), (0, .ref b)] → W p l e room_1 s m #[Value.ref b] below meth c H locs (cells + 40) (slots + 2000) (lw_Z below #[Value.ref b] s) (F0 m 1730 ls [])) (wx wm : va_W) (H : Heap) (locs : List Loc) (ls : Array Slot) (hI : LInv kA x0 n0 wx wm) (hP : va_P (dC, dI) vwCl (wx ++ wm) H) (hD : va_D (fun q : Nat => s.heap.size ≤ q) (wx ++ wm)) (hS : va_S (fun q : Nat => s.heap.size ≤ q) s.heap H locs) (hl : lv_has ls 4 [(3, .int i), (2, .ref n0), (1, .ref x0), (0, .ref b)]) : W p l e room_1 s m #[Value.ref b] below meth c H locs cells slots (lw_Z below #[Value.ref b] s) (F0 m 1285 ls []) := by
  obtain ⟨hx, hb, hr, hml, hown0, hts0, hX, hbl, hlocks, hgv⟩ := C0
  have hown : s.vm.findClass RL = some m.cls := hown0
  have hts : ∀ w ∈ wsL_law, w.before #[Value.ref b] s = true := fun w h => hts0 w (wsL_law_in w h)
  have hA : ∀ q : Nat, s.heap.size ≤ q → (fun q : Nat => s.heap.size ≤ q) q := fun _ h => h
  have hbA : ¬ (fun q : Nat => s.heap.size ≤ q) b := Nat.not_le.mpr hbl
  obtain ⟨S_, LL, im, hX0, hM0⟩ := hI
  have hgd := MOK4_gd hM0
  have hxt := MOK4_xt hM0
  have hgr := MOK4_gr hM0
  have hgx := MOK4_gx hM0
  have hc1 : cells + 20 ≤ room_1.cells := by show cells + 20 ≤ 600000; omega
  have hs1 : slots + 1000 ≤ room_1.slots := by show slots + 1000 ≤ 7302249; omega
  have hc2 : cells + 20 + 20 ≤ room_1.cells := by show cells + 20 + 20 ≤ 600000; omega
  have hs2 : slots + 1000 + 1000 ≤ room_1.slots := by show slots + 1000 + 1000 ≤ 7302249; omega
  obtain ⟨a1, ea1⟩ : ∃ y : Int32, y = xs (i + 1).toNatClampNeg := ⟨_, rfl⟩
  obtain ⟨a2, ea2⟩ : ∃ y : Int32, y = xs (i + 2).toNatClampNeg := ⟨_, rfl⟩
  obtain ⟨a3, ea3⟩ : ∃ y : Int32, y = xs (i + 3).toNatClampNeg := ⟨_, rfl⟩
  refine lv_aload_n hx hb dL_law_1285 rfl (lv_at hl 2 rfl) ?_
  refine lv_aload_n hx hb dL_law_1286 rfl (lv_at hl 3 rfl) ?_
  refine lv_iload_n hx hb dL_law_1287 rfl (lv_at hl 0 rfl) ?_
  refine lv_iconst (v := 1) hx hb dL_law_1288 (by decide) ?_
  refine lv_iadd hx hb dL_law_1289 ?_
  refine va_sld hx hb hX hbl hbA hS (z_sc hi hL (n := 1) (by decide) (by decide)) dL_law_1290 ?_
  refine zi a1 ea1.symm ?_
  refine lv_aload_n hx hb dL_law_1291 rfl (lv_at hl 3 rfl) ?_
  refine lv_iload_n hx hb dL_law_1292 rfl (lv_at hl 0 rfl) ?_
  refine lv_iconst (v := 2) hx hb dL_law_1293 (by decide) ?_
  refine lv_iadd hx hb dL_law_1294 ?_
  refine va_sld hx hb hX hbl hbA hS (z_sc hi hL (n := 2) (by decide) (by decide)) dL_law_1295 ?_
  refine zi a2 ea2.symm ?_
  refine lv_aload_n hx hb dL_law_1296 rfl (lv_at hl 3 rfl) ?_
  refine lv_iload_n hx hb dL_law_1297 rfl (lv_at hl 0 rfl) ?_
  refine lv_iconst (v := 3) hx hb dL_law_1298 (by decide) ?_
  refine lv_iadd hx hb dL_law_1299 ?_
  refine va_sld hx hb hX hbl hbA hS (z_sc hi hL (n := 3) (by decide) (by decide)) dL_law_1300 ?_
  refine zi a3 ea3.symm ?_
  refine z_iL (wa := wx) (wb := wm) (va_runV (As := [.int a1, .int a2, .int a3]) (rest := []) ⟨hx, hb, hml, hown, hts⟩ (wX10_serves l dC dI kA _ x0 a1 a2 a3 hX0 hgd hxt) (cwV 3 hts gL_law_X10_serves rfl rfl rfl ⟨rfl, hdX10_serves⟩ ⟨(Nat.le_of_ble_eq_true rfl), (Nat.le_of_ble_eq_true rfl)⟩) ⟨zPc.blind, XOK_rec hK hX0 hP, zPre hK (wl_P hP) (wl_D hD)⟩ rfl rfl hl.1 rfl (lv_room (Nat.le_of_ble_eq_true rfl)) dL_law_1301 ⟨hc1, hs1⟩) hP hD hS hA (fun r1 w1 H locs hw1 hP hD hS => ?_)
  refine lv_pop hx hb dL_law_1304 rfl ?_
  refine lv_aload_n hx hb dL_law_1305 rfl (lv_at hl 1 rfl) ?_
  refine lv_aload_n hx hb dL_law_1306 rfl (lv_at hl 3 rfl) ?_
  refine lv_iload_n hx hb dL_law_1307 rfl (lv_at hl 0 rfl) ?_
  refine lv_iconst (v := 1) hx hb dL_law_1308 (by decide) ?_
  refine lv_iadd hx hb dL_law_1309 ?_
  refine va_sld hx hb hX hbl hbA hS (z_sc hi hL (n := 1) (by decide) (by decide)) dL_law_1310 ?_
  refine zi a1 ea1.symm ?_
  refine lv_aload_n hx hb dL_law_1311 rfl (lv_at hl 3 rfl) ?_
  refine lv_iload_n hx hb dL_law_1312 rfl (lv_at hl 0 rfl) ?_
  refine lv_iconst (v := 2) hx hb dL_law_1313 (by decide) ?_
  refine lv_iadd hx hb dL_law_1314 ?_
  refine va_sld hx hb hX hbl hbA hS (z_sc hi hL (n := 2) (by decide) (by decide)) dL_law_1315 ?_
  refine zi a2 ea2.symm ?_
  refine lv_aload_n hx hb dL_law_1316 rfl (lv_at hl 3 rfl) ?_
  refine lv_iload_n hx hb dL_law_1317 rfl (lv_at hl 0 rfl) ?_
  refine lv_iconst (v := 3) hx hb dL_law_1318 (by decide) ?_
  refine lv_iadd hx hb dL_law_1319 ?_
  refine va_sld hx hb hX hbl hbA hS (z_sc hi hL (n := 3) (by decide) (by decide)) dL_law_1320 ?_
  refine zi a3 ea3.symm ?_
  refine z_iL (wa := wm) (wb := w1) (va_runV (As := [.int a1, .int a2, .int a3]) (rest := []) ⟨hx, hb, hml, hown, hts⟩ (wX11_serves l dC dI kA _ n0 a1 a2 a3 hM0) (cwV 3 hts gL_law_X11_serves rfl rfl rfl ⟨rfl, hdX11_serves⟩ ⟨(Nat.le_of_ble_eq_true rfl), (Nat.le_of_ble_eq_true rfl)⟩) ⟨zPc.blind, MOK_rec hK hM0 (wp_P hP List.perm_append_comm), zPre hK (wl_P (wp_P hP List.perm_append_comm)) (wl_D (wp_D hD List.perm_append_comm))⟩ rfl rfl hl.1 rfl (lv_room (Nat.le_of_ble_eq_true rfl)) dL_law_1321 ⟨hc2, hs2⟩) (wp_P hP List.perm_append_comm) (wp_D hD List.perm_append_comm) hS hA (fun r2 w2 H locs hw2 hP hD hS => ?_)
  have hP := wp_P hP (List.perm_append_comm)
  have hD := wp_D hD (List.perm_append_comm)
  refine lv_pop hx hb dL_law_1324 rfl ?_
  refine lv_goto (tgt := 1730) hx hb dL_law_1325 (by decide) ?_
  refine W.widen (k := cells + 40) (n := slots + 2000) (by omega) (by omega) ?_
  exact kk w1 w2 H locs ls ⟨_, _, _, hw1, hw2⟩ hP hD hS hl
set_option maxHeartbeats 4000000 in
set_option maxRecDepth 100000 in
theorem law_c26 {p : Program} {l : Launch} {e : Env} {s : State} {m : MethodId} {below : List Frame} {meth : Method} {c : Code} {b L : Nat} {xs : Nat → Int32} {dC : Nat → ClassId} {dI : Nat → Nat → Nat} {kA : Nat → ClassId} {aS vS : Nat} {oS : Option Nat} {x0 n0 : Nat} (C0 : lw_At p s m meth c b L xs) (hL : L ≤ 5120) (hK : zK dC dI kA s) (hZ : zStr aS vS oS (fun q : Nat => s.heap.size ≤ q) s s.heap) {i : Int32} (hi : 0 ≤ i.toInt ∧ i.toInt + 10 ≤ L) {cells slots : Nat} (hc : cells + 40 ≤ 600000) (hs : slots + 2000 ≤ 7302249) (kk : ∀ (wx wm : va_W) (H : Heap) (locs : List Loc) (ls : Array Slot), LInv kA x0 n0 wx wm → va_P (dC, dI) vwCl (wx ++ wm) H → va_D (fun q : Nat => s.heap.size ≤ q) (wx ++ wm) → va_S (fun q : Nat => s.heap.size ≤ q) s.heap H locs → lv_has ls 4 [(3, .int i), (2, .ref n0), (1, .ref x0), (0, .ref b)] → W p l e room_1 s m #[Value.ref b] below meth c H locs (cells + 40) (slots + 2000) (lw_Z below #[Value.ref b] s) (F0 m 1730 ls [])) (wx wm : va_W) (H : Heap) (locs : List Loc) (ls : Array Slot) (hI : LInv kA x0 n0 wx wm) (hP : va_P (dC, dI) vwCl (wx ++ wm) H) (hD : va_D (fun q : Nat => s.heap.size ≤ q) (wx ++ wm)) (hS : va_S (fun q : Nat => s.heap.size ≤ q) s.heap H locs) (hl : lv_has ls 4 [(3, .int i), (2, .ref n0), (1, .ref x0), (0, .ref b)]) : W p l e room_1 s m #[Value.ref b] below meth c H locs cells slots (lw_Z below #[Value.ref b] s) (F0 m 1328 ls []) := by
  obtain ⟨hx, hb, hr, hml, hown0, hts0, hX, hbl, hlocks, hgv⟩ := C0
  have hown : s.vm.findClass RL = some m.cls := hown0
  have hts : ∀ w ∈ wsL_law, w.before #[Value.ref b] s = true := fun w h => hts0 w (wsL_law_in w h)
  have hA : ∀ q : Nat, s.heap.size ≤ q → (fun q : Nat => s.heap.size ≤ q) q := fun _ h => h
  have hbA : ¬ (fun q : Nat => s.heap.size ≤ q) b := Nat.not_le.mpr hbl
  obtain ⟨S_, LL, im, hX0, hM0⟩ := hI
  have hgd := MOK4_gd hM0
  have hxt := MOK4_xt hM0
  have hgr := MOK4_gr hM0
  have hgx := MOK4_gx hM0
  have hc1 : cells + 20 ≤ room_1.cells := by show cells + 20 ≤ 600000; omega
  have hs1 : slots + 1000 ≤ room_1.slots := by show slots + 1000 ≤ 7302249; omega
  have hc2 : cells + 20 + 20 ≤ room_1.cells := by show cells + 20 + 20 ≤ 600000; omega
  have hs2 : slots + 1000 + 1000 ≤ room_1.slots := by show slots + 1000 + 1000 ≤ 7302249; omega
  obtain ⟨a1, ea1⟩ : ∃ y : Int32, y = xs (i + 1).toNatClampNeg := ⟨_, rfl⟩
  obtain ⟨a2, ea2⟩ : ∃ y : Int32, y = xs (i + 2).toNatClampNeg := ⟨_, rfl⟩
  refine lv_aload_n hx hb dL_law_1328 rfl (lv_at hl 2 rfl) ?_
  refine lv_aload_n hx hb dL_law_1329 rfl (lv_at hl 3 rfl) ?_
  refine lv_iload_n hx hb dL_law_1330 rfl (lv_at hl 0 rfl) ?_
  refine lv_iconst (v := 1) hx hb dL_law_1331 (by decide) ?_
  refine lv_iadd hx hb dL_law_1332 ?_
  refine va_sld hx hb hX hbl hbA hS (z_sc hi hL (n := 1) (by decide) (by decide)) dL_law_1333 ?_
  refine zi a1 ea1.symm ?_
  refine lv_aload_n hx hb dL_law_1334 rfl (lv_at hl 3 rfl) ?_
  refine lv_iload_n hx hb dL_law_1335 rfl (lv_at hl 0 rfl) ?_
  refine lv_iconst (v := 2) hx hb dL_law_1336 (by decide) ?_
  refine lv_iadd hx hb dL_law_1337 ?_
  refine va_sld hx hb hX hbl hbA hS (z_sc hi hL (n := 2) (by decide) (by decide)) dL_law_1338 ?_
  refine zi a2 ea2.symm ?_
  refine z_iL (wa := wx) (wb := wm) (va_runV (As := [.int a1, .int a2]) (rest := []) ⟨hx, hb, hml, hown, hts⟩ (wX10_all l dC dI kA _ x0 a1 a2 hX0 hgd hxt) (cwV 2 hts gL_law_X10_all rfl rfl rfl ⟨rfl, hdX10_all⟩ ⟨(Nat.le_of_ble_eq_true rfl), (Nat.le_of_ble_eq_true rfl)⟩) ⟨zPc.blind, XOK_rec hK hX0 hP, zPre hK (wl_P hP) (wl_D hD)⟩ rfl rfl hl.1 rfl (lv_room (Nat.le_of_ble_eq_true rfl)) dL_law_1339 ⟨hc1, hs1⟩) hP hD hS hA (fun r1 w1 H locs hw1 hP hD hS => ?_)
  refine lv_pop hx hb dL_law_1342 rfl ?_
  refine lv_aload_n hx hb dL_law_1343 rfl (lv_at hl 1 rfl) ?_
  refine lv_aload_n hx hb dL_law_1344 rfl (lv_at hl 3 rfl) ?_
  refine lv_iload_n hx hb dL_law_1345 rfl (lv_at hl 0 rfl) ?_
  refine lv_iconst (v := 1) hx hb dL_law_1346 (by decide) ?_
  refine lv_iadd hx hb dL_law_1347 ?_
  refine va_sld hx hb hX hbl hbA hS (z_sc hi hL (n := 1) (by decide) (by decide)) dL_law_1348 ?_
  refine zi a1 ea1.symm ?_
  refine lv_aload_n hx hb dL_law_1349 rfl (lv_at hl 3 rfl) ?_
  refine lv_iload_n hx hb dL_law_1350 rfl (lv_at hl 0 rfl) ?_
  refine lv_iconst (v := 2) hx hb dL_law_1351 (by decide) ?_
  refine lv_iadd hx hb dL_law_1352 ?_
  refine va_sld hx hb hX hbl hbA hS (z_sc hi hL (n := 2) (by decide) (by decide)) dL_law_1353 ?_
  refine zi a2 ea2.symm ?_
  refine z_iL (wa := wm) (wb := w1) (va_runV (As := [.int a1, .int a2]) (rest := []) ⟨hx, hb, hml, hown, hts⟩ (wX11_all l dC dI kA _ n0 a1 a2 hM0) (cwV 2 hts gL_law_X11_all rfl rfl rfl ⟨rfl, hdX11_all⟩ ⟨(Nat.le_of_ble_eq_true rfl), (Nat.le_of_ble_eq_true rfl)⟩) ⟨zPc.blind, MOK_rec hK hM0 (wp_P hP List.perm_append_comm), zPre hK (wl_P (wp_P hP List.perm_append_comm)) (wl_D (wp_D hD List.perm_append_comm))⟩ rfl rfl hl.1 rfl (lv_room (Nat.le_of_ble_eq_true rfl)) dL_law_1354 ⟨hc2, hs2⟩) (wp_P hP List.perm_append_comm) (wp_D hD List.perm_append_comm) hS hA (fun r2 w2 H locs hw2 hP hD hS => ?_)
  have hP := wp_P hP (List.perm_append_comm)
  have hD := wp_D hD (List.perm_append_comm)
  refine lv_pop hx hb dL_law_1357 rfl ?_
  refine lv_goto (tgt := 1730) hx hb dL_law_1358 (by decide) ?_
  refine W.widen (k := cells + 40) (n := slots + 2000) (by omega) (by omega) ?_
  exact kk w1 w2 H locs ls ⟨_, _, _, hw1, hw2⟩ hP hD hS hl
set_option maxHeartbeats 4000000 in
set_option maxRecDepth 100000 in
theorem law_c27 {p : Program} {l : Launch} {e : Env} {s : State} {m : MethodId} {below : List Frame} {meth : Method} {c : Code} {b L : Nat} {xs : Nat → Int32} {dC : Nat → ClassId} {dI : Nat → Nat → Nat} {kA : Nat → ClassId} {aS vS : Nat} {oS : Option Nat} {x0 n0 : Nat} (C0 : lw_At p s m meth c b L xs) (hL : L ≤ 5120) (hK : zK dC dI kA s) (hZ : zStr aS vS oS (fun q : Nat => s.heap.size ≤ q) s s.heap) {i : Int32} (hi : 0 ≤ i.toInt ∧ i.toInt + 10 ≤ L) {cells slots : Nat} (hc : cells + 40 ≤ 600000) (hs : slots + 2000 ≤ 7302249) (kk : ∀ (wx wm : va_W) (H : Heap) (locs : List Loc) (ls : Array Slot), LInv kA x0 n0 wx wm → va_P (dC, dI) vwCl (wx ++ wm) H → va_D (fun q : Nat => s.heap.size ≤ q) (wx ++ wm) → va_S (fun q : Nat => s.heap.size ≤ q) s.heap H locs → lv_has ls 4 [(3, .int i), (2, .ref n0), (1, .ref x0), (0, .ref b)] → W p l e room_1 s m #[Value.ref b] below meth c H locs (cells + 40) (slots + 2000) (lw_Z below #[Value.ref b] s) (F0 m 1730 ls [])) (wx wm : va_W) (H : Heap) (locs : List Loc) (ls : Array Slot) (hI : LInv kA x0 n0 wx wm) (hP : va_P (dC, dI) vwCl (wx ++ wm) H) (hD : va_D (fun q : Nat => s.heap.size ≤ q) (wx ++ wm)) (hS : va_S (fun q : Nat => s.heap.size ≤ q) s.heap H locs) (hl : lv_has ls 4 [(3, .int i), (2, .ref n0), (1, .ref x0), (0, .ref b)]) : W p l e room_1 s m #[Value.ref b] below meth c H locs cells slots (lw_Z below #[Value.ref b] s) (F0 m 1361 ls []) := by
  obtain ⟨hx, hb, hr, hml, hown0, hts0, hX, hbl, hlocks, hgv⟩ := C0
  have hown : s.vm.findClass RL = some m.cls := hown0
  have hts : ∀ w ∈ wsL_law, w.before #[Value.ref b] s = true := fun w h => hts0 w (wsL_law_in w h)
  have hA : ∀ q : Nat, s.heap.size ≤ q → (fun q : Nat => s.heap.size ≤ q) q := fun _ h => h
  have hbA : ¬ (fun q : Nat => s.heap.size ≤ q) b := Nat.not_le.mpr hbl
  obtain ⟨S_, LL, im, hX0, hM0⟩ := hI
  have hgd := MOK4_gd hM0
  have hxt := MOK4_xt hM0
  have hgr := MOK4_gr hM0
  have hgx := MOK4_gx hM0
  have hc1 : cells + 20 ≤ room_1.cells := by show cells + 20 ≤ 600000; omega
  have hs1 : slots + 1000 ≤ room_1.slots := by show slots + 1000 ≤ 7302249; omega
  have hc2 : cells + 20 + 20 ≤ room_1.cells := by show cells + 20 + 20 ≤ 600000; omega
  have hs2 : slots + 1000 + 1000 ≤ room_1.slots := by show slots + 1000 + 1000 ≤ 7302249; omega
  obtain ⟨a1, ea1⟩ : ∃ y : Int32, y = xs (i + 1).toNatClampNeg := ⟨_, rfl⟩
  obtain ⟨a2, ea2⟩ : ∃ y : Int32, y = xs (i + 2).toNatClampNeg := ⟨_, rfl⟩
  obtain ⟨a3, ea3⟩ : ∃ y : Int32, y = xs (i + 3).toNatClampNeg := ⟨_, rfl⟩
  refine lv_aload_n hx hb dL_law_1361 rfl (lv_at hl 2 rfl) ?_
  refine lv_aload_n hx hb dL_law_1362 rfl (lv_at hl 3 rfl) ?_
  refine lv_iload_n hx hb dL_law_1363 rfl (lv_at hl 0 rfl) ?_
  refine lv_iconst (v := 1) hx hb dL_law_1364 (by decide) ?_
  refine lv_iadd hx hb dL_law_1365 ?_
  refine va_sld hx hb hX hbl hbA hS (z_sc hi hL (n := 1) (by decide) (by decide)) dL_law_1366 ?_
  refine zi a1 ea1.symm ?_
  refine lv_aload_n hx hb dL_law_1367 rfl (lv_at hl 3 rfl) ?_
  refine lv_iload_n hx hb dL_law_1368 rfl (lv_at hl 0 rfl) ?_
  refine lv_iconst (v := 2) hx hb dL_law_1369 (by decide) ?_
  refine lv_iadd hx hb dL_law_1370 ?_
  refine va_sld hx hb hX hbl hbA hS (z_sc hi hL (n := 2) (by decide) (by decide)) dL_law_1371 ?_
  refine zi a2 ea2.symm ?_
  refine lv_aload_n hx hb dL_law_1372 rfl (lv_at hl 3 rfl) ?_
  refine lv_iload_n hx hb dL_law_1373 rfl (lv_at hl 0 rfl) ?_
  refine lv_iconst (v := 3) hx hb dL_law_1374 (by decide) ?_
  refine lv_iadd hx hb dL_law_1375 ?_
  refine va_sld hx hb hX hbl hbA hS (z_sc hi hL (n := 3) (by decide) (by decide)) dL_law_1376 ?_
  refine zi a3 ea3.symm ?_
  refine z_iL (wa := wx) (wb := wm) (va_runV (As := [.int a1, .int a2, .int a3]) (rest := []) ⟨hx, hb, hml, hown, hts⟩ (wX10_feast l dC dI kA _ x0 a1 a2 a3 hX0 hgd hxt) (cwV 3 hts gL_law_X10_feast rfl rfl rfl ⟨rfl, hdX10_feast⟩ ⟨(Nat.le_of_ble_eq_true rfl), (Nat.le_of_ble_eq_true rfl)⟩) ⟨zPc.blind, XOK_rec hK hX0 hP, zPre hK (wl_P hP) (wl_D hD)⟩ rfl rfl hl.1 rfl (lv_room (Nat.le_of_ble_eq_true rfl)) dL_law_1377 ⟨hc1, hs1⟩) hP hD hS hA (fun r1 w1 H locs hw1 hP hD hS => ?_)
  refine lv_pop hx hb dL_law_1380 rfl ?_
  refine lv_aload_n hx hb dL_law_1381 rfl (lv_at hl 1 rfl) ?_
  refine lv_aload_n hx hb dL_law_1382 rfl (lv_at hl 3 rfl) ?_
  refine lv_iload_n hx hb dL_law_1383 rfl (lv_at hl 0 rfl) ?_
  refine lv_iconst (v := 1) hx hb dL_law_1384 (by decide) ?_
  refine lv_iadd hx hb dL_law_1385 ?_
  refine va_sld hx hb hX hbl hbA hS (z_sc hi hL (n := 1) (by decide) (by decide)) dL_law_1386 ?_
  refine zi a1 ea1.symm ?_
  refine lv_aload_n hx hb dL_law_1387 rfl (lv_at hl 3 rfl) ?_
  refine lv_iload_n hx hb dL_law_1388 rfl (lv_at hl 0 rfl) ?_
  refine lv_iconst (v := 2) hx hb dL_law_1389 (by decide) ?_
  refine lv_iadd hx hb dL_law_1390 ?_
  refine va_sld hx hb hX hbl hbA hS (z_sc hi hL (n := 2) (by decide) (by decide)) dL_law_1391 ?_
  refine zi a2 ea2.symm ?_
  refine lv_aload_n hx hb dL_law_1392 rfl (lv_at hl 3 rfl) ?_
  refine lv_iload_n hx hb dL_law_1393 rfl (lv_at hl 0 rfl) ?_
  refine lv_iconst (v := 3) hx hb dL_law_1394 (by decide) ?_
  refine lv_iadd hx hb dL_law_1395 ?_
  refine va_sld hx hb hX hbl hbA hS (z_sc hi hL (n := 3) (by decide) (by decide)) dL_law_1396 ?_
  refine zi a3 ea3.symm ?_
  refine z_iL (wa := wm) (wb := w1) (va_runV (As := [.int a1, .int a2, .int a3]) (rest := []) ⟨hx, hb, hml, hown, hts⟩ (wX11_feast l dC dI kA _ n0 a1 a2 a3 hM0) (cwV 3 hts gL_law_X11_feast rfl rfl rfl ⟨rfl, hdX11_feast⟩ ⟨(Nat.le_of_ble_eq_true rfl), (Nat.le_of_ble_eq_true rfl)⟩) ⟨zPc.blind, MOK_rec hK hM0 (wp_P hP List.perm_append_comm), zPre hK (wl_P (wp_P hP List.perm_append_comm)) (wl_D (wp_D hD List.perm_append_comm))⟩ rfl rfl hl.1 rfl (lv_room (Nat.le_of_ble_eq_true rfl)) dL_law_1397 ⟨hc2, hs2⟩) (wp_P hP List.perm_append_comm) (wp_D hD List.perm_append_comm) hS hA (fun r2 w2 H locs hw2 hP hD hS => ?_)
  have hP := wp_P hP (List.perm_append_comm)
  have hD := wp_D hD (List.perm_append_comm)
  refine lv_pop hx hb dL_law_1400 rfl ?_
  refine lv_goto (tgt := 1730) hx hb dL_law_1401 (by decide) ?_
  refine W.widen (k := cells + 40) (n := slots + 2000) (by omega) (by omega) ?_
  exact kk w1 w2 H locs ls ⟨_, _, _, hw1.2, hw2.2⟩ hP hD hS hl
set_option maxHeartbeats 4000000 in
set_option maxRecDepth 100000 in
theorem law_c28 {p : Program} {l : Launch} {e : Env} {s : State} {m : MethodId} {below : List Frame} {meth : Method} {c : Code} {b L : Nat} {xs : Nat → Int32} {dC : Nat → ClassId} {dI : Nat → Nat → Nat} {kA : Nat → ClassId} {aS vS : Nat} {oS : Option Nat} {x0 n0 : Nat} (C0 : lw_At p s m meth c b L xs) (hL : L ≤ 5120) (hK : zK dC dI kA s) (hZ : zStr aS vS oS (fun q : Nat => s.heap.size ≤ q) s s.heap) {i : Int32} (hi : 0 ≤ i.toInt ∧ i.toInt + 10 ≤ L) {cells slots : Nat} (hc : cells + 40 ≤ 600000) (hs : slots + 2000 ≤ 7302249) (kk : ∀ (wx wm : va_W) (H : Heap) (locs : List Loc) (ls : Array Slot), LInv kA x0 n0 wx wm → va_P (dC, dI) vwCl (wx ++ wm) H → va_D (fun q : Nat => s.heap.size ≤ q) (wx ++ wm) → va_S (fun q : Nat => s.heap.size ≤ q) s.heap H locs → lv_has ls 4 [(3, .int i), (2, .ref n0), (1, .ref x0), (0, .ref b)] → W p l e room_1 s m #[Value.ref b] below meth c H locs (cells + 40) (slots + 2000) (lw_Z below #[Value.ref b] s) (F0 m 1730 ls [])) (wx wm : va_W) (H : Heap) (locs : List Loc) (ls : Array Slot) (hI : LInv kA x0 n0 wx wm) (hP : va_P (dC, dI) vwCl (wx ++ wm) H) (hD : va_D (fun q : Nat => s.heap.size ≤ q) (wx ++ wm)) (hS : va_S (fun q : Nat => s.heap.size ≤ q) s.heap H locs) (hl : lv_has ls 4 [(3, .int i), (2, .ref n0), (1, .ref x0), (0, .ref b)]) : W p l e room_1 s m #[Value.ref b] below meth c H locs cells slots (lw_Z below #[Value.ref b] s) (F0 m 1404 ls []) := by
  obtain ⟨hx, hb, hr, hml, hown0, hts0, hX, hbl, hlocks, hgv⟩ := C0
  have hown : s.vm.findClass RL = some m.cls := hown0
  have hts : ∀ w ∈ wsL_law, w.before #[Value.ref b] s = true := fun w h => hts0 w (wsL_law_in w h)
  have hA : ∀ q : Nat, s.heap.size ≤ q → (fun q : Nat => s.heap.size ≤ q) q := fun _ h => h
  have hbA : ¬ (fun q : Nat => s.heap.size ≤ q) b := Nat.not_le.mpr hbl
  obtain ⟨S_, LL, im, hX0, hM0⟩ := hI
  have hgd := MOK4_gd hM0
  have hxt := MOK4_xt hM0
  have hgr := MOK4_gr hM0
  have hgx := MOK4_gx hM0
  have hc1 : cells + 20 ≤ room_1.cells := by show cells + 20 ≤ 600000; omega
  have hs1 : slots + 1000 ≤ room_1.slots := by show slots + 1000 ≤ 7302249; omega
  have hc2 : cells + 20 + 20 ≤ room_1.cells := by show cells + 20 + 20 ≤ 600000; omega
  have hs2 : slots + 1000 + 1000 ≤ room_1.slots := by show slots + 1000 + 1000 ≤ 7302249; omega
  obtain ⟨a1, ea1⟩ : ∃ y : Int32, y = xs (i + 1).toNatClampNeg := ⟨_, rfl⟩
  obtain ⟨a2, ea2⟩ : ∃ y : Int32, y = xs (i + 2).toNatClampNeg := ⟨_, rfl⟩
  obtain ⟨a3, ea3⟩ : ∃ y : Int32, y = xs (i + 3).toNatClampNeg := ⟨_, rfl⟩
  refine lv_aload_n hx hb dL_law_1404 rfl (lv_at hl 2 rfl) ?_
  refine lv_aload_n hx hb dL_law_1405 rfl (lv_at hl 3 rfl) ?_
  refine lv_iload_n hx hb dL_law_1406 rfl (lv_at hl 0 rfl) ?_
  refine lv_iconst (v := 1) hx hb dL_law_1407 (by decide) ?_
  refine lv_iadd hx hb dL_law_1408 ?_
  refine va_sld hx hb hX hbl hbA hS (z_sc hi hL (n := 1) (by decide) (by decide)) dL_law_1409 ?_
  refine zi a1 ea1.symm ?_
  refine lv_aload_n hx hb dL_law_1410 rfl (lv_at hl 3 rfl) ?_
  refine lv_iload_n hx hb dL_law_1411 rfl (lv_at hl 0 rfl) ?_
  refine lv_iconst (v := 2) hx hb dL_law_1412 (by decide) ?_
  refine lv_iadd hx hb dL_law_1413 ?_
  refine va_sld hx hb hX hbl hbA hS (z_sc hi hL (n := 2) (by decide) (by decide)) dL_law_1414 ?_
  refine zi a2 ea2.symm ?_
  refine lv_aload_n hx hb dL_law_1415 rfl (lv_at hl 3 rfl) ?_
  refine lv_iload_n hx hb dL_law_1416 rfl (lv_at hl 0 rfl) ?_
  refine lv_iconst (v := 3) hx hb dL_law_1417 (by decide) ?_
  refine lv_iadd hx hb dL_law_1418 ?_
  refine va_sld hx hb hX hbl hbA hS (z_sc hi hL (n := 3) (by decide) (by decide)) dL_law_1419 ?_
  refine zi a3 ea3.symm ?_
  refine z_iL (wa := wx) (wb := wm) (va_runV (As := [.int a1, .int a2, .int a3]) (rest := []) ⟨hx, hb, hml, hown, hts⟩ (wX10_enough l dC dI kA _ x0 a1 a2 a3 hX0 hgd hxt) (cwV 3 hts gL_law_X10_enough rfl rfl rfl ⟨rfl, hdX10_enough⟩ ⟨(Nat.le_of_ble_eq_true rfl), (Nat.le_of_ble_eq_true rfl)⟩) ⟨zPc.blind, XOK_rec hK hX0 hP, zPre hK (wl_P hP) (wl_D hD)⟩ rfl rfl hl.1 rfl (lv_room (Nat.le_of_ble_eq_true rfl)) dL_law_1420 ⟨hc1, hs1⟩) hP hD hS hA (fun r1 w1 H locs hw1 hP hD hS => ?_)
  refine lv_pop hx hb dL_law_1423 rfl ?_
  refine lv_aload_n hx hb dL_law_1424 rfl (lv_at hl 1 rfl) ?_
  refine lv_aload_n hx hb dL_law_1425 rfl (lv_at hl 3 rfl) ?_
  refine lv_iload_n hx hb dL_law_1426 rfl (lv_at hl 0 rfl) ?_
  refine lv_iconst (v := 1) hx hb dL_law_1427 (by decide) ?_
  refine lv_iadd hx hb dL_law_1428 ?_
  refine va_sld hx hb hX hbl hbA hS (z_sc hi hL (n := 1) (by decide) (by decide)) dL_law_1429 ?_
  refine zi a1 ea1.symm ?_
  refine lv_aload_n hx hb dL_law_1430 rfl (lv_at hl 3 rfl) ?_
  refine lv_iload_n hx hb dL_law_1431 rfl (lv_at hl 0 rfl) ?_
  refine lv_iconst (v := 2) hx hb dL_law_1432 (by decide) ?_
  refine lv_iadd hx hb dL_law_1433 ?_
  refine va_sld hx hb hX hbl hbA hS (z_sc hi hL (n := 2) (by decide) (by decide)) dL_law_1434 ?_
  refine zi a2 ea2.symm ?_
  refine lv_aload_n hx hb dL_law_1435 rfl (lv_at hl 3 rfl) ?_
  refine lv_iload_n hx hb dL_law_1436 rfl (lv_at hl 0 rfl) ?_
  refine lv_iconst (v := 3) hx hb dL_law_1437 (by decide) ?_
  refine lv_iadd hx hb dL_law_1438 ?_
  refine va_sld hx hb hX hbl hbA hS (z_sc hi hL (n := 3) (by decide) (by decide)) dL_law_1439 ?_
  refine zi a3 ea3.symm ?_
  refine z_iL (wa := wm) (wb := w1) (va_runV (As := [.int a1, .int a2, .int a3]) (rest := []) ⟨hx, hb, hml, hown, hts⟩ (wX11_enough l dC dI kA _ n0 a1 a2 a3 hM0) (cwV 3 hts gL_law_X11_enough rfl rfl rfl ⟨rfl, hdX11_enough⟩ ⟨(Nat.le_of_ble_eq_true rfl), (Nat.le_of_ble_eq_true rfl)⟩) ⟨zPc.blind, MOK_rec hK hM0 (wp_P hP List.perm_append_comm), zPre hK (wl_P (wp_P hP List.perm_append_comm)) (wl_D (wp_D hD List.perm_append_comm))⟩ rfl rfl hl.1 rfl (lv_room (Nat.le_of_ble_eq_true rfl)) dL_law_1440 ⟨hc2, hs2⟩) (wp_P hP List.perm_append_comm) (wp_D hD List.perm_append_comm) hS hA (fun r2 w2 H locs hw2 hP hD hS => ?_)
  have hP := wp_P hP (List.perm_append_comm)
  have hD := wp_D hD (List.perm_append_comm)
  refine lv_pop hx hb dL_law_1443 rfl ?_
  refine lv_goto (tgt := 1730) hx hb dL_law_1444 (by decide) ?_
  refine W.widen (k := cells + 40) (n := slots + 2000) (by omega) (by omega) ?_
  exact kk w1 w2 H locs ls ⟨_, _, _, hw1, hw2⟩ hP hD hS hl
set_option maxHeartbeats 4000000 in
set_option maxRecDepth 100000 in
theorem law_c29 {p : Program} {l : Launch} {e : Env} {s : State} {m : MethodId} {below : List Frame} {meth : Method} {c : Code} {b L : Nat} {xs : Nat → Int32} {dC : Nat → ClassId} {dI : Nat → Nat → Nat} {kA : Nat → ClassId} {aS vS : Nat} {oS : Option Nat} {x0 n0 : Nat} (C0 : lw_At p s m meth c b L xs) (hL : L ≤ 5120) (hK : zK dC dI kA s) (hZ : zStr aS vS oS (fun q : Nat => s.heap.size ≤ q) s s.heap) {i : Int32} (hi : 0 ≤ i.toInt ∧ i.toInt + 10 ≤ L) {cells slots : Nat} (hc : cells + 40 ≤ 600000) (hs : slots + 2000 ≤ 7302249) (kk : ∀ (wx wm : va_W) (H : Heap) (locs : List Loc) (ls : Array Slot), LInv kA x0 n0 wx wm → va_P (dC, dI) vwCl (wx ++ wm) H → va_D (fun q : Nat => s.heap.size ≤ q) (wx ++ wm) → va_S (fun q : Nat => s.heap.size ≤ q) s.heap H locs → lv_has ls 4 [(3, .int i), (2, .ref n0), (1, .ref x0), (0, .ref b)] → W p l e room_1 s m #[Value.ref b] below meth c H locs (cells + 40) (slots + 2000) (lw_Z below #[Value.ref b] s) (F0 m 1730 ls [])) (wx wm : va_W) (H : Heap) (locs : List Loc) (ls : Array Slot) (hI : LInv kA x0 n0 wx wm) (hP : va_P (dC, dI) vwCl (wx ++ wm) H) (hD : va_D (fun q : Nat => s.heap.size ≤ q) (wx ++ wm)) (hS : va_S (fun q : Nat => s.heap.size ≤ q) s.heap H locs) (hl : lv_has ls 4 [(3, .int i), (2, .ref n0), (1, .ref x0), (0, .ref b)]) : W p l e room_1 s m #[Value.ref b] below meth c H locs cells slots (lw_Z below #[Value.ref b] s) (F0 m 1447 ls []) := by
  obtain ⟨hx, hb, hr, hml, hown0, hts0, hX, hbl, hlocks, hgv⟩ := C0
  have hown : s.vm.findClass RL = some m.cls := hown0
  have hts : ∀ w ∈ wsL_law, w.before #[Value.ref b] s = true := fun w h => hts0 w (wsL_law_in w h)
  have hA : ∀ q : Nat, s.heap.size ≤ q → (fun q : Nat => s.heap.size ≤ q) q := fun _ h => h
  have hbA : ¬ (fun q : Nat => s.heap.size ≤ q) b := Nat.not_le.mpr hbl
  obtain ⟨S_, LL, im, hX0, hM0⟩ := hI
  have hgd := MOK4_gd hM0
  have hxt := MOK4_xt hM0
  have hgr := MOK4_gr hM0
  have hgx := MOK4_gx hM0
  have hc1 : cells + 20 ≤ room_1.cells := by show cells + 20 ≤ 600000; omega
  have hs1 : slots + 1000 ≤ room_1.slots := by show slots + 1000 ≤ 7302249; omega
  have hc2 : cells + 20 + 20 ≤ room_1.cells := by show cells + 20 + 20 ≤ 600000; omega
  have hs2 : slots + 1000 + 1000 ≤ room_1.slots := by show slots + 1000 + 1000 ≤ 7302249; omega
  obtain ⟨a1, ea1⟩ : ∃ y : Int32, y = xs (i + 1).toNatClampNeg := ⟨_, rfl⟩
  obtain ⟨a2, ea2⟩ : ∃ y : Int32, y = xs (i + 2).toNatClampNeg := ⟨_, rfl⟩
  refine lv_aload_n hx hb dL_law_1447 rfl (lv_at hl 2 rfl) ?_
  refine lv_aload_n hx hb dL_law_1448 rfl (lv_at hl 3 rfl) ?_
  refine lv_iload_n hx hb dL_law_1449 rfl (lv_at hl 0 rfl) ?_
  refine lv_iconst (v := 1) hx hb dL_law_1450 (by decide) ?_
  refine lv_iadd hx hb dL_law_1451 ?_
  refine va_sld hx hb hX hbl hbA hS (z_sc hi hL (n := 1) (by decide) (by decide)) dL_law_1452 ?_
  refine zi a1 ea1.symm ?_
  refine lv_aload_n hx hb dL_law_1453 rfl (lv_at hl 3 rfl) ?_
  refine lv_iload_n hx hb dL_law_1454 rfl (lv_at hl 0 rfl) ?_
  refine lv_iconst (v := 2) hx hb dL_law_1455 (by decide) ?_
  refine lv_iadd hx hb dL_law_1456 ?_
  refine va_sld hx hb hX hbl hbA hS (z_sc hi hL (n := 2) (by decide) (by decide)) dL_law_1457 ?_
  refine zi a2 ea2.symm ?_
  refine z_iL (wa := wx) (wb := wm) (va_runV (As := [.int a1, .int a2]) (rest := []) ⟨hx, hb, hml, hown, hts⟩ (wX10_least l dC dI kA _ x0 a1 a2 hX0 hgd hxt) (cwV 2 hts gL_law_X10_least rfl rfl rfl ⟨rfl, hdX10_least⟩ ⟨(Nat.le_of_ble_eq_true rfl), (Nat.le_of_ble_eq_true rfl)⟩) ⟨zPc.blind, XOK_rec hK hX0 hP, zPre hK (wl_P hP) (wl_D hD)⟩ rfl rfl hl.1 rfl (lv_room (Nat.le_of_ble_eq_true rfl)) dL_law_1458 ⟨hc1, hs1⟩) hP hD hS hA (fun r1 w1 H locs hw1 hP hD hS => ?_)
  refine lv_pop hx hb dL_law_1461 rfl ?_
  refine lv_aload_n hx hb dL_law_1462 rfl (lv_at hl 1 rfl) ?_
  refine lv_aload_n hx hb dL_law_1463 rfl (lv_at hl 3 rfl) ?_
  refine lv_iload_n hx hb dL_law_1464 rfl (lv_at hl 0 rfl) ?_
  refine lv_iconst (v := 1) hx hb dL_law_1465 (by decide) ?_
  refine lv_iadd hx hb dL_law_1466 ?_
  refine va_sld hx hb hX hbl hbA hS (z_sc hi hL (n := 1) (by decide) (by decide)) dL_law_1467 ?_
  refine zi a1 ea1.symm ?_
  refine lv_aload_n hx hb dL_law_1468 rfl (lv_at hl 3 rfl) ?_
  refine lv_iload_n hx hb dL_law_1469 rfl (lv_at hl 0 rfl) ?_
  refine lv_iconst (v := 2) hx hb dL_law_1470 (by decide) ?_
  refine lv_iadd hx hb dL_law_1471 ?_
  refine va_sld hx hb hX hbl hbA hS (z_sc hi hL (n := 2) (by decide) (by decide)) dL_law_1472 ?_
  refine zi a2 ea2.symm ?_
  refine z_iL (wa := wm) (wb := w1) (va_runV (As := [.int a1, .int a2]) (rest := []) ⟨hx, hb, hml, hown, hts⟩ (wX11_least l dC dI kA _ n0 a1 a2 hM0) (cwV 2 hts gL_law_X11_least rfl rfl rfl ⟨rfl, hdX11_least⟩ ⟨(Nat.le_of_ble_eq_true rfl), (Nat.le_of_ble_eq_true rfl)⟩) ⟨zPc.blind, MOK_rec hK hM0 (wp_P hP List.perm_append_comm), zPre hK (wl_P (wp_P hP List.perm_append_comm)) (wl_D (wp_D hD List.perm_append_comm))⟩ rfl rfl hl.1 rfl (lv_room (Nat.le_of_ble_eq_true rfl)) dL_law_1473 ⟨hc2, hs2⟩) (wp_P hP List.perm_append_comm) (wp_D hD List.perm_append_comm) hS hA (fun r2 w2 H locs hw2 hP hD hS => ?_)
  have hP := wp_P hP (List.perm_append_comm)
  have hD := wp_D hD (List.perm_append_comm)
  refine lv_pop hx hb dL_law_1476 rfl ?_
  refine lv_goto (tgt := 1730) hx hb dL_law_1477 (by decide) ?_
  refine W.widen (k := cells + 40) (n := slots + 2000) (by omega) (by omega) ?_
  exact kk w1 w2 H locs ls ⟨_, _, _, hw1, hw2⟩ hP hD hS hl
set_option maxHeartbeats 4000000 in
set_option maxRecDepth 100000 in
theorem law_c30 {p : Program} {l : Launch} {e : Env} {s : State} {m : MethodId} {below : List Frame} {meth : Method} {c : Code} {b L : Nat} {xs : Nat → Int32} {dC : Nat → ClassId} {dI : Nat → Nat → Nat} {kA : Nat → ClassId} {aS vS : Nat} {oS : Option Nat} {x0 n0 : Nat} (C0 : lw_At p s m meth c b L xs) (hL : L ≤ 5120) (hK : zK dC dI kA s) (hZ : zStr aS vS oS (fun q : Nat => s.heap.size ≤ q) s s.heap) {i : Int32} (hi : 0 ≤ i.toInt ∧ i.toInt + 10 ≤ L) {cells slots : Nat} (hc : cells + 40 ≤ 600000) (hs : slots + 2000 ≤ 7302249) (kk : ∀ (wx wm : va_W) (H : Heap) (locs : List Loc) (ls : Array Slot), LInv kA x0 n0 wx wm → va_P (dC, dI) vwCl (wx ++ wm) H → va_D (fun q : Nat => s.heap.size ≤ q) (wx ++ wm) → va_S (fun q : Nat => s.heap.size ≤ q) s.heap H locs → lv_has ls 4 [(3, .int i), (2, .ref n0), (1, .ref x0), (0, .ref b)] → W p l e room_1 s m #[Value.ref b] below meth c H locs (cells + 40) (slots + 2000) (lw_Z below #[Value.ref b] s) (F0 m 1730 ls [])) (wx wm : va_W) (H : Heap) (locs : List Loc) (ls : Array Slot) (hI : LInv kA x0 n0 wx wm) (hP : va_P (dC, dI) vwCl (wx ++ wm) H) (hD : va_D (fun q : Nat => s.heap.size ≤ q) (wx ++ wm)) (hS : va_S (fun q : Nat => s.heap.size ≤ q) s.heap H locs) (hl : lv_has ls 4 [(3, .int i), (2, .ref n0), (1, .ref x0), (0, .ref b)]) : W p l e room_1 s m #[Value.ref b] below meth c H locs cells slots (lw_Z below #[Value.ref b] s) (F0 m 1480 ls []) := by
  obtain ⟨hx, hb, hr, hml, hown0, hts0, hX, hbl, hlocks, hgv⟩ := C0
  have hown : s.vm.findClass RL = some m.cls := hown0
  have hts : ∀ w ∈ wsL_law, w.before #[Value.ref b] s = true := fun w h => hts0 w (wsL_law_in w h)
  have hA : ∀ q : Nat, s.heap.size ≤ q → (fun q : Nat => s.heap.size ≤ q) q := fun _ h => h
  have hbA : ¬ (fun q : Nat => s.heap.size ≤ q) b := Nat.not_le.mpr hbl
  obtain ⟨S_, LL, im, hX0, hM0⟩ := hI
  have hgd := MOK4_gd hM0
  have hxt := MOK4_xt hM0
  have hgr := MOK4_gr hM0
  have hgx := MOK4_gx hM0
  have hc1 : cells + 20 ≤ room_1.cells := by show cells + 20 ≤ 600000; omega
  have hs1 : slots + 1000 ≤ room_1.slots := by show slots + 1000 ≤ 7302249; omega
  have hc2 : cells + 20 + 20 ≤ room_1.cells := by show cells + 20 + 20 ≤ 600000; omega
  have hs2 : slots + 1000 + 1000 ≤ room_1.slots := by show slots + 1000 + 1000 ≤ 7302249; omega
  obtain ⟨a1, ea1⟩ : ∃ y : Int32, y = xs (i + 1).toNatClampNeg := ⟨_, rfl⟩
  obtain ⟨a2, ea2⟩ : ∃ y : Int32, y = xs (i + 2).toNatClampNeg := ⟨_, rfl⟩
  obtain ⟨a3, ea3⟩ : ∃ y : Int32, y = xs (i + 3).toNatClampNeg := ⟨_, rfl⟩
  obtain ⟨a4, ea4⟩ : ∃ y : Int32, y = xs (i + 4).toNatClampNeg := ⟨_, rfl⟩
  obtain ⟨a5, ea5⟩ : ∃ y : Int32, y = xs (i + 5).toNatClampNeg := ⟨_, rfl⟩
  refine lv_aload_n hx hb dL_law_1480 rfl (lv_at hl 2 rfl) ?_
  refine lv_aload_n hx hb dL_law_1481 rfl (lv_at hl 3 rfl) ?_
  refine lv_iload_n hx hb dL_law_1482 rfl (lv_at hl 0 rfl) ?_
  refine lv_iconst (v := 1) hx hb dL_law_1483 (by decide) ?_
  refine lv_iadd hx hb dL_law_1484 ?_
  refine va_sld hx hb hX hbl hbA hS (z_sc hi hL (n := 1) (by decide) (by decide)) dL_law_1485 ?_
  refine zi a1 ea1.symm ?_
  refine lv_aload_n hx hb dL_law_1486 rfl (lv_at hl 3 rfl) ?_
  refine lv_iload_n hx hb dL_law_1487 rfl (lv_at hl 0 rfl) ?_
  refine lv_iconst (v := 2) hx hb dL_law_1488 (by decide) ?_
  refine lv_iadd hx hb dL_law_1489 ?_
  refine va_sld hx hb hX hbl hbA hS (z_sc hi hL (n := 2) (by decide) (by decide)) dL_law_1490 ?_
  refine zi a2 ea2.symm ?_
  refine lv_aload_n hx hb dL_law_1491 rfl (lv_at hl 3 rfl) ?_
  refine lv_iload_n hx hb dL_law_1492 rfl (lv_at hl 0 rfl) ?_
  refine lv_iconst (v := 3) hx hb dL_law_1493 (by decide) ?_
  refine lv_iadd hx hb dL_law_1494 ?_
  refine va_sld hx hb hX hbl hbA hS (z_sc hi hL (n := 3) (by decide) (by decide)) dL_law_1495 ?_
  refine zi a3 ea3.symm ?_
  refine lv_aload_n hx hb dL_law_1496 rfl (lv_at hl 3 rfl) ?_
  refine lv_iload_n hx hb dL_law_1497 rfl (lv_at hl 0 rfl) ?_
  refine lv_iconst (v := 4) hx hb dL_law_1498 (by decide) ?_
  refine lv_iadd hx hb dL_law_1499 ?_
  refine va_sld hx hb hX hbl hbA hS (z_sc hi hL (n := 4) (by decide) (by decide)) dL_law_1500 ?_
  refine zi a4 ea4.symm ?_
  refine lv_aload_n hx hb dL_law_1501 rfl (lv_at hl 3 rfl) ?_
  refine lv_iload_n hx hb dL_law_1502 rfl (lv_at hl 0 rfl) ?_
  refine lv_iconst (v := 5) hx hb dL_law_1503 (by decide) ?_
  refine lv_iadd hx hb dL_law_1504 ?_
  refine va_sld hx hb hX hbl hbA hS (z_sc hi hL (n := 5) (by decide) (by decide)) dL_law_1505 ?_
  refine zi a5 ea5.symm ?_
  refine z_iL (wa := wx) (wb := wm) (va_runV (As := [.int a1, .int a2, .int a3, .int a4, .int a5]) (rest := []) ⟨hx, hb, hml, hown, hts⟩ (wX10_nights l dC dI kA _ x0 a1 a2 a3 a4 a5 hX0 hgd hxt) (cwV 5 hts gL_law_X10_nights rfl rfl rfl ⟨rfl, hdX10_nights⟩ ⟨(Nat.le_of_ble_eq_true rfl), (Nat.le_of_ble_eq_true rfl)⟩) ⟨zPc.blind, XOK_rec hK hX0 hP, zPre hK (wl_P hP) (wl_D hD)⟩ rfl rfl hl.1 rfl (lv_room (Nat.le_of_ble_eq_true rfl)) dL_law_1506 ⟨hc1, hs1⟩) hP hD hS hA (fun r1 w1 H locs hw1 hP hD hS => ?_)
  refine lv_pop hx hb dL_law_1509 rfl ?_
  refine lv_aload_n hx hb dL_law_1510 rfl (lv_at hl 1 rfl) ?_
  refine lv_aload_n hx hb dL_law_1511 rfl (lv_at hl 3 rfl) ?_
  refine lv_iload_n hx hb dL_law_1512 rfl (lv_at hl 0 rfl) ?_
  refine lv_iconst (v := 1) hx hb dL_law_1513 (by decide) ?_
  refine lv_iadd hx hb dL_law_1514 ?_
  refine va_sld hx hb hX hbl hbA hS (z_sc hi hL (n := 1) (by decide) (by decide)) dL_law_1515 ?_
  refine zi a1 ea1.symm ?_
  refine lv_aload_n hx hb dL_law_1516 rfl (lv_at hl 3 rfl) ?_
  refine lv_iload_n hx hb dL_law_1517 rfl (lv_at hl 0 rfl) ?_
  refine lv_iconst (v := 2) hx hb dL_law_1518 (by decide) ?_
  refine lv_iadd hx hb dL_law_1519 ?_
  refine va_sld hx hb hX hbl hbA hS (z_sc hi hL (n := 2) (by decide) (by decide)) dL_law_1520 ?_
  refine zi a2 ea2.symm ?_
  refine lv_aload_n hx hb dL_law_1521 rfl (lv_at hl 3 rfl) ?_
  refine lv_iload_n hx hb dL_law_1522 rfl (lv_at hl 0 rfl) ?_
  refine lv_iconst (v := 3) hx hb dL_law_1523 (by decide) ?_
  refine lv_iadd hx hb dL_law_1524 ?_
  refine va_sld hx hb hX hbl hbA hS (z_sc hi hL (n := 3) (by decide) (by decide)) dL_law_1525 ?_
  refine zi a3 ea3.symm ?_
  refine lv_aload_n hx hb dL_law_1526 rfl (lv_at hl 3 rfl) ?_
  refine lv_iload_n hx hb dL_law_1527 rfl (lv_at hl 0 rfl) ?_
  refine lv_iconst (v := 4) hx hb dL_law_1528 (by decide) ?_
  refine lv_iadd hx hb dL_law_1529 ?_
  refine va_sld hx hb hX hbl hbA hS (z_sc hi hL (n := 4) (by decide) (by decide)) dL_law_1530 ?_
  refine zi a4 ea4.symm ?_
  refine lv_aload_n hx hb dL_law_1531 rfl (lv_at hl 3 rfl) ?_
  refine lv_iload_n hx hb dL_law_1532 rfl (lv_at hl 0 rfl) ?_
  refine lv_iconst (v := 5) hx hb dL_law_1533 (by decide) ?_
  refine lv_iadd hx hb dL_law_1534 ?_
  refine va_sld hx hb hX hbl hbA hS (z_sc hi hL (n := 5) (by decide) (by decide)) dL_law_1535 ?_
  refine zi a5 ea5.symm ?_
  refine z_iL (wa := wm) (wb := w1) (va_runV (As := [.int a1, .int a2, .int a3, .int a4, .int a5]) (rest := []) ⟨hx, hb, hml, hown, hts⟩ (wX11_nights l dC dI kA _ n0 a1 a2 a3 a4 a5 hM0) (cwV 5 hts gL_law_X11_nights rfl rfl rfl ⟨rfl, hdX11_nights⟩ ⟨(Nat.le_of_ble_eq_true rfl), (Nat.le_of_ble_eq_true rfl)⟩) ⟨zPc.blind, MOK_rec hK hM0 (wp_P hP List.perm_append_comm), zPre hK (wl_P (wp_P hP List.perm_append_comm)) (wl_D (wp_D hD List.perm_append_comm))⟩ rfl rfl hl.1 rfl (lv_room (Nat.le_of_ble_eq_true rfl)) dL_law_1536 ⟨hc2, hs2⟩) (wp_P hP List.perm_append_comm) (wp_D hD List.perm_append_comm) hS hA (fun r2 w2 H locs hw2 hP hD hS => ?_)
  have hP := wp_P hP (List.perm_append_comm)
  have hD := wp_D hD (List.perm_append_comm)
  refine lv_pop hx hb dL_law_1539 rfl ?_
  refine lv_goto (tgt := 1730) hx hb dL_law_1540 (by decide) ?_
  refine W.widen (k := cells + 40) (n := slots + 2000) (by omega) (by omega) ?_
  exact kk w1 w2 H locs ls ⟨_, _, _, hw1, hw2⟩ hP hD hS hl
set_option maxHeartbeats 4000000 in
set_option maxRecDepth 100000 in
theorem law_c31 {p : Program} {l : Launch} {e : Env} {s : State} {m : MethodId} {below : List Frame} {meth : Method} {c : Code} {b L : Nat} {xs : Nat → Int32} {dC : Nat → ClassId} {dI : Nat → Nat → Nat} {kA : Nat → ClassId} {aS vS : Nat} {oS : Option Nat} {x0 n0 : Nat} (C0 : lw_At p s m meth c b L xs) (hL : L ≤ 5120) (hK : zK dC dI kA s) (hZ : zStr aS vS oS (fun q : Nat => s.heap.size ≤ q) s s.heap) {i : Int32} (hi : 0 ≤ i.toInt ∧ i.toInt + 10 ≤ L) {cells slots : Nat} (hc : cells + 40 ≤ 600000) (hs : slots + 2000 ≤ 7302249) (kk : ∀ (wx wm : va_W) (H : Heap) (locs : List Loc) (ls : Array Slot), LInv kA x0 n0 wx wm → va_P (dC, dI) vwCl (wx ++ wm) H → va_D (fun q : Nat => s.heap.size ≤ q) (wx ++ wm) → va_S (fun q : Nat => s.heap.size ≤ q) s.heap H locs → lv_has ls 4 [(3, .int i), (2, .ref n0), (1, .ref x0), (0, .ref b)] → W p l e room_1 s m #[Value.ref b] below meth c H locs (cells + 40) (slots + 2000) (lw_Z below #[Value.ref b] s) (F0 m 1730 ls [])) (wx wm : va_W) (H : Heap) (locs : List Loc) (ls : Array Slot) (hI : LInv kA x0 n0 wx wm) (hP : va_P (dC, dI) vwCl (wx ++ wm) H) (hD : va_D (fun q : Nat => s.heap.size ≤ q) (wx ++ wm)) (hS : va_S (fun q : Nat => s.heap.size ≤ q) s.heap H locs) (hl : lv_has ls 4 [(3, .int i), (2, .ref n0), (1, .ref x0), (0, .ref b)]) : W p l e room_1 s m #[Value.ref b] below meth c H locs cells slots (lw_Z below #[Value.ref b] s) (F0 m 1543 ls []) := by
  obtain ⟨hx, hb, hr, hml, hown0, hts0, hX, hbl, hlocks, hgv⟩ := C0
  have hown : s.vm.findClass RL = some m.cls := hown0
  have hts : ∀ w ∈ wsL_law, w.before #[Value.ref b] s = true := fun w h => hts0 w (wsL_law_in w h)
  have hA : ∀ q : Nat, s.heap.size ≤ q → (fun q : Nat => s.heap.size ≤ q) q := fun _ h => h
  have hbA : ¬ (fun q : Nat => s.heap.size ≤ q) b := Nat.not_le.mpr hbl
  obtain ⟨S_, LL, im, hX0, hM0⟩ := hI
  have hgd := MOK4_gd hM0
  have hxt := MOK4_xt hM0
  have hgr := MOK4_gr hM0
  have hgx := MOK4_gx hM0
  have hc1 : cells + 20 ≤ room_1.cells := by show cells + 20 ≤ 600000; omega
  have hs1 : slots + 1000 ≤ room_1.slots := by show slots + 1000 ≤ 7302249; omega
  have hc2 : cells + 20 + 20 ≤ room_1.cells := by show cells + 20 + 20 ≤ 600000; omega
  have hs2 : slots + 1000 + 1000 ≤ room_1.slots := by show slots + 1000 + 1000 ≤ 7302249; omega
  obtain ⟨a1, ea1⟩ : ∃ y : Int32, y = xs (i + 1).toNatClampNeg := ⟨_, rfl⟩
  obtain ⟨a2, ea2⟩ : ∃ y : Int32, y = xs (i + 2).toNatClampNeg := ⟨_, rfl⟩
  obtain ⟨a3, ea3⟩ : ∃ y : Int32, y = xs (i + 3).toNatClampNeg := ⟨_, rfl⟩
  obtain ⟨a4, ea4⟩ : ∃ y : Int32, y = xs (i + 4).toNatClampNeg := ⟨_, rfl⟩
  obtain ⟨a5, ea5⟩ : ∃ y : Int32, y = xs (i + 5).toNatClampNeg := ⟨_, rfl⟩
  obtain ⟨a6, ea6⟩ : ∃ y : Int32, y = xs (i + 6).toNatClampNeg := ⟨_, rfl⟩
  refine lv_aload_n hx hb dL_law_1543 rfl (lv_at hl 2 rfl) ?_
  refine lv_aload_n hx hb dL_law_1544 rfl (lv_at hl 3 rfl) ?_
  refine lv_iload_n hx hb dL_law_1545 rfl (lv_at hl 0 rfl) ?_
  refine lv_iconst (v := 1) hx hb dL_law_1546 (by decide) ?_
  refine lv_iadd hx hb dL_law_1547 ?_
  refine va_sld hx hb hX hbl hbA hS (z_sc hi hL (n := 1) (by decide) (by decide)) dL_law_1548 ?_
  refine zi a1 ea1.symm ?_
  refine lv_aload_n hx hb dL_law_1549 rfl (lv_at hl 3 rfl) ?_
  refine lv_iload_n hx hb dL_law_1550 rfl (lv_at hl 0 rfl) ?_
  refine lv_iconst (v := 2) hx hb dL_law_1551 (by decide) ?_
  refine lv_iadd hx hb dL_law_1552 ?_
  refine va_sld hx hb hX hbl hbA hS (z_sc hi hL (n := 2) (by decide) (by decide)) dL_law_1553 ?_
  refine zi a2 ea2.symm ?_
  refine lv_aload_n hx hb dL_law_1554 rfl (lv_at hl 3 rfl) ?_
  refine lv_iload_n hx hb dL_law_1555 rfl (lv_at hl 0 rfl) ?_
  refine lv_iconst (v := 3) hx hb dL_law_1556 (by decide) ?_
  refine lv_iadd hx hb dL_law_1557 ?_
  refine va_sld hx hb hX hbl hbA hS (z_sc hi hL (n := 3) (by decide) (by decide)) dL_law_1558 ?_
  refine zi a3 ea3.symm ?_
  refine lv_aload_n hx hb dL_law_1559 rfl (lv_at hl 3 rfl) ?_
  refine lv_iload_n hx hb dL_law_1560 rfl (lv_at hl 0 rfl) ?_
  refine lv_iconst (v := 4) hx hb dL_law_1561 (by decide) ?_
  refine lv_iadd hx hb dL_law_1562 ?_
  refine va_sld hx hb hX hbl hbA hS (z_sc hi hL (n := 4) (by decide) (by decide)) dL_law_1563 ?_
  refine zi a4 ea4.symm ?_
  refine lv_aload_n hx hb dL_law_1564 rfl (lv_at hl 3 rfl) ?_
  refine lv_iload_n hx hb dL_law_1565 rfl (lv_at hl 0 rfl) ?_
  refine lv_iconst (v := 5) hx hb dL_law_1566 (by decide) ?_
  refine lv_iadd hx hb dL_law_1567 ?_
  refine va_sld hx hb hX hbl hbA hS (z_sc hi hL (n := 5) (by decide) (by decide)) dL_law_1568 ?_
  refine zi a5 ea5.symm ?_
  refine lv_aload_n hx hb dL_law_1569 rfl (lv_at hl 3 rfl) ?_
  refine lv_iload_n hx hb dL_law_1570 rfl (lv_at hl 0 rfl) ?_
  refine lv_bipush (v := 6) hx hb dL_law_1571 (by decide) ?_
  refine lv_iadd hx hb dL_law_1573 ?_
  refine va_sld hx hb hX hbl hbA hS (z_sc hi hL (n := 6) (by decide) (by decide)) dL_law_1574 ?_
  refine zi a6 ea6.symm ?_
  refine z_iL (wa := wx) (wb := wm) (va_runV (As := [.int a1, .int a2, .int a3, .int a4, .int a5, .int a6]) (rest := []) ⟨hx, hb, hml, hown, hts⟩ (wX10_price l dC dI kA _ x0 a1 a2 a3 a4 a5 a6 hX0 hgd hxt) (cwV 6 hts gL_law_X10_price rfl rfl rfl ⟨rfl, hdX10_price⟩ ⟨(Nat.le_of_ble_eq_true rfl), (Nat.le_of_ble_eq_true rfl)⟩) ⟨zPc.blind, XOK_rec hK hX0 hP, zPre hK (wl_P hP) (wl_D hD)⟩ rfl rfl hl.1 rfl (lv_room (Nat.le_of_ble_eq_true rfl)) dL_law_1575 ⟨hc1, hs1⟩) hP hD hS hA (fun r1 w1 H locs hw1 hP hD hS => ?_)
  refine lv_pop hx hb dL_law_1578 rfl ?_
  refine lv_aload_n hx hb dL_law_1579 rfl (lv_at hl 1 rfl) ?_
  refine lv_aload_n hx hb dL_law_1580 rfl (lv_at hl 3 rfl) ?_
  refine lv_iload_n hx hb dL_law_1581 rfl (lv_at hl 0 rfl) ?_
  refine lv_iconst (v := 1) hx hb dL_law_1582 (by decide) ?_
  refine lv_iadd hx hb dL_law_1583 ?_
  refine va_sld hx hb hX hbl hbA hS (z_sc hi hL (n := 1) (by decide) (by decide)) dL_law_1584 ?_
  refine zi a1 ea1.symm ?_
  refine lv_aload_n hx hb dL_law_1585 rfl (lv_at hl 3 rfl) ?_
  refine lv_iload_n hx hb dL_law_1586 rfl (lv_at hl 0 rfl) ?_
  refine lv_iconst (v := 2) hx hb dL_law_1587 (by decide) ?_
  refine lv_iadd hx hb dL_law_1588 ?_
  refine va_sld hx hb hX hbl hbA hS (z_sc hi hL (n := 2) (by decide) (by decide)) dL_law_1589 ?_
  refine zi a2 ea2.symm ?_
  refine lv_aload_n hx hb dL_law_1590 rfl (lv_at hl 3 rfl) ?_
  refine lv_iload_n hx hb dL_law_1591 rfl (lv_at hl 0 rfl) ?_
  refine lv_iconst (v := 3) hx hb dL_law_1592 (by decide) ?_
  refine lv_iadd hx hb dL_law_1593 ?_
  refine va_sld hx hb hX hbl hbA hS (z_sc hi hL (n := 3) (by decide) (by decide)) dL_law_1594 ?_
  refine zi a3 ea3.symm ?_
  refine lv_aload_n hx hb dL_law_1595 rfl (lv_at hl 3 rfl) ?_
  refine lv_iload_n hx hb dL_law_1596 rfl (lv_at hl 0 rfl) ?_
  refine lv_iconst (v := 4) hx hb dL_law_1597 (by decide) ?_
  refine lv_iadd hx hb dL_law_1598 ?_
  refine va_sld hx hb hX hbl hbA hS (z_sc hi hL (n := 4) (by decide) (by decide)) dL_law_1599 ?_
  refine zi a4 ea4.symm ?_
  refine lv_aload_n hx hb dL_law_1600 rfl (lv_at hl 3 rfl) ?_
  refine lv_iload_n hx hb dL_law_1601 rfl (lv_at hl 0 rfl) ?_
  refine lv_iconst (v := 5) hx hb dL_law_1602 (by decide) ?_
  refine lv_iadd hx hb dL_law_1603 ?_
  refine va_sld hx hb hX hbl hbA hS (z_sc hi hL (n := 5) (by decide) (by decide)) dL_law_1604 ?_
  refine zi a5 ea5.symm ?_
  refine lv_aload_n hx hb dL_law_1605 rfl (lv_at hl 3 rfl) ?_
  refine lv_iload_n hx hb dL_law_1606 rfl (lv_at hl 0 rfl) ?_
  refine lv_bipush (v := 6) hx hb dL_law_1607 (by decide) ?_
  refine lv_iadd hx hb dL_law_1609 ?_
  refine va_sld hx hb hX hbl hbA hS (z_sc hi hL (n := 6) (by decide) (by decide)) dL_law_1610 ?_
  refine zi a6 ea6.symm ?_
  refine z_iL (wa := wm) (wb := w1) (va_runV (As := [.int a1, .int a2, .int a3, .int a4, .int a5, .int a6]) (rest := []) ⟨hx, hb, hml, hown, hts⟩ (wX11_price l dC dI kA _ n0 a1 a2 a3 a4 a5 a6 hM0) (cwV 6 hts gL_law_X11_price rfl rfl rfl ⟨rfl, hdX11_price⟩ ⟨(Nat.le_of_ble_eq_true rfl), (Nat.le_of_ble_eq_true rfl)⟩) ⟨zPc.blind, MOK_rec hK hM0 (wp_P hP List.perm_append_comm), zPre hK (wl_P (wp_P hP List.perm_append_comm)) (wl_D (wp_D hD List.perm_append_comm))⟩ rfl rfl hl.1 rfl (lv_room (Nat.le_of_ble_eq_true rfl)) dL_law_1611 ⟨hc2, hs2⟩) (wp_P hP List.perm_append_comm) (wp_D hD List.perm_append_comm) hS hA (fun r2 w2 H locs hw2 hP hD hS => ?_)
  have hP := wp_P hP (List.perm_append_comm)
  have hD := wp_D hD (List.perm_append_comm)
  refine lv_pop hx hb dL_law_1614 rfl ?_
  refine lv_goto (tgt := 1730) hx hb dL_law_1615 (by decide) ?_
  refine W.widen (k := cells + 40) (n := slots + 2000) (by omega) (by omega) ?_
  exact kk w1 w2 H locs ls ⟨_, _, _, hw1, hw2⟩ hP hD hS hl
set_option maxHeartbeats 4000000 in
set_option maxRecDepth 100000 in
theorem law_c32 {p : Program} {l : Launch} {e : Env} {s : State} {m : MethodId} {below : List Frame} {meth : Method} {c : Code} {b L : Nat} {xs : Nat → Int32} {dC : Nat → ClassId} {dI : Nat → Nat → Nat} {kA : Nat → ClassId} {aS vS : Nat} {oS : Option Nat} {x0 n0 : Nat} (C0 : lw_At p s m meth c b L xs) (hL : L ≤ 5120) (hK : zK dC dI kA s) (hZ : zStr aS vS oS (fun q : Nat => s.heap.size ≤ q) s s.heap) {i : Int32} (hi : 0 ≤ i.toInt ∧ i.toInt + 10 ≤ L) {cells slots : Nat} (hc : cells + 40 ≤ 600000) (hs : slots + 2000 ≤ 7302249) (kk : ∀ (wx wm : va_W) (H : Heap) (locs : List Loc) (ls : Array Slot), LInv kA x0 n0 wx wm → va_P (dC, dI) vwCl (wx ++ wm) H → va_D (fun q : Nat => s.heap.size ≤ q) (wx ++ wm) → va_S (fun q : Nat => s.heap.size ≤ q) s.heap H locs → lv_has ls 4 [(3, .int i), (2, .ref n0), (1, .ref x0), (0, .ref b)] → W p l e room_1 s m #[Value.ref b] below meth c H locs (cells + 40) (slots + 2000) (lw_Z below #[Value.ref b] s) (F0 m 1730 ls [])) (wx wm : va_W) (H : Heap) (locs : List Loc) (ls : Array Slot) (hI : LInv kA x0 n0 wx wm) (hP : va_P (dC, dI) vwCl (wx ++ wm) H) (hD : va_D (fun q : Nat => s.heap.size ≤ q) (wx ++ wm)) (hS : va_S (fun q : Nat => s.heap.size ≤ q) s.heap H locs) (hl : lv_has ls 4 [(3, .int i), (2, .ref n0), (1, .ref x0), (0, .ref b)]) : W p l e room_1 s m #[Value.ref b] below meth c H locs cells slots (lw_Z below #[Value.ref b] s) (F0 m 1618 ls []) := by
  obtain ⟨hx, hb, hr, hml, hown0, hts0, hX, hbl, hlocks, hgv⟩ := C0
  have hown : s.vm.findClass RL = some m.cls := hown0
  have hts : ∀ w ∈ wsL_law, w.before #[Value.ref b] s = true := fun w h => hts0 w (wsL_law_in w h)
  have hA : ∀ q : Nat, s.heap.size ≤ q → (fun q : Nat => s.heap.size ≤ q) q := fun _ h => h
  have hbA : ¬ (fun q : Nat => s.heap.size ≤ q) b := Nat.not_le.mpr hbl
  obtain ⟨S_, LL, im, hX0, hM0⟩ := hI
  have hgd := MOK4_gd hM0
  have hxt := MOK4_xt hM0
  have hgr := MOK4_gr hM0
  have hgx := MOK4_gx hM0
  have hc1 : cells + 20 ≤ room_1.cells := by show cells + 20 ≤ 600000; omega
  have hs1 : slots + 1000 ≤ room_1.slots := by show slots + 1000 ≤ 7302249; omega
  have hc2 : cells + 20 + 20 ≤ room_1.cells := by show cells + 20 + 20 ≤ 600000; omega
  have hs2 : slots + 1000 + 1000 ≤ room_1.slots := by show slots + 1000 + 1000 ≤ 7302249; omega
  obtain ⟨a1, ea1⟩ : ∃ y : Int32, y = xs (i + 1).toNatClampNeg := ⟨_, rfl⟩
  obtain ⟨a2, ea2⟩ : ∃ y : Int32, y = xs (i + 2).toNatClampNeg := ⟨_, rfl⟩
  obtain ⟨a3, ea3⟩ : ∃ y : Int32, y = xs (i + 3).toNatClampNeg := ⟨_, rfl⟩
  refine lv_aload_n hx hb dL_law_1618 rfl (lv_at hl 2 rfl) ?_
  refine lv_aload_n hx hb dL_law_1619 rfl (lv_at hl 3 rfl) ?_
  refine lv_iload_n hx hb dL_law_1620 rfl (lv_at hl 0 rfl) ?_
  refine lv_iconst (v := 1) hx hb dL_law_1621 (by decide) ?_
  refine lv_iadd hx hb dL_law_1622 ?_
  refine va_sld hx hb hX hbl hbA hS (z_sc hi hL (n := 1) (by decide) (by decide)) dL_law_1623 ?_
  refine zi a1 ea1.symm ?_
  refine lv_aload_n hx hb dL_law_1624 rfl (lv_at hl 3 rfl) ?_
  refine lv_iload_n hx hb dL_law_1625 rfl (lv_at hl 0 rfl) ?_
  refine lv_iconst (v := 2) hx hb dL_law_1626 (by decide) ?_
  refine lv_iadd hx hb dL_law_1627 ?_
  refine va_sld hx hb hX hbl hbA hS (z_sc hi hL (n := 2) (by decide) (by decide)) dL_law_1628 ?_
  refine zi a2 ea2.symm ?_
  refine lv_aload_n hx hb dL_law_1629 rfl (lv_at hl 3 rfl) ?_
  refine lv_iload_n hx hb dL_law_1630 rfl (lv_at hl 0 rfl) ?_
  refine lv_iconst (v := 3) hx hb dL_law_1631 (by decide) ?_
  refine lv_iadd hx hb dL_law_1632 ?_
  refine va_sld hx hb hX hbl hbA hS (z_sc hi hL (n := 3) (by decide) (by decide)) dL_law_1633 ?_
  refine zi a3 ea3.symm ?_
  refine z_iL (wa := wx) (wb := wm) (va_runV (As := [.int a1, .int a2, .int a3]) (rest := []) ⟨hx, hb, hml, hown, hts⟩ (wX10_ahead l dC dI kA _ x0 a1 a2 a3 hX0 hgd hxt) (cwV 3 hts gL_law_X10_ahead rfl rfl rfl ⟨rfl, hdX10_ahead⟩ ⟨(Nat.le_of_ble_eq_true rfl), (Nat.le_of_ble_eq_true rfl)⟩) ⟨zPc.blind, XOK_rec hK hX0 hP, zPre hK (wl_P hP) (wl_D hD)⟩ rfl rfl hl.1 rfl (lv_room (Nat.le_of_ble_eq_true rfl)) dL_law_1634 ⟨hc1, hs1⟩) hP hD hS hA (fun r1 w1 H locs hw1 hP hD hS => ?_)
  refine lv_pop hx hb dL_law_1637 rfl ?_
  refine lv_aload_n hx hb dL_law_1638 rfl (lv_at hl 1 rfl) ?_
  refine lv_aload_n hx hb dL_law_1639 rfl (lv_at hl 3 rfl) ?_
  refine lv_iload_n hx hb dL_law_1640 rfl (lv_at hl 0 rfl) ?_
  refine lv_iconst (v := 1) hx hb dL_law_1641 (by decide) ?_
  refine lv_iadd hx hb dL_law_1642 ?_
  refine va_sld hx hb hX hbl hbA hS (z_sc hi hL (n := 1) (by decide) (by decide)) dL_law_1643 ?_
  refine zi a1 ea1.symm ?_
  refine lv_aload_n hx hb dL_law_1644 rfl (lv_at hl 3 rfl) ?_
  refine lv_iload_n hx hb dL_law_1645 rfl (lv_at hl 0 rfl) ?_
  refine lv_iconst (v := 2) hx hb dL_law_1646 (by decide) ?_
  refine lv_iadd hx hb dL_law_1647 ?_
  refine va_sld hx hb hX hbl hbA hS (z_sc hi hL (n := 2) (by decide) (by decide)) dL_law_1648 ?_
  refine zi a2 ea2.symm ?_
  refine lv_aload_n hx hb dL_law_1649 rfl (lv_at hl 3 rfl) ?_
  refine lv_iload_n hx hb dL_law_1650 rfl (lv_at hl 0 rfl) ?_
  refine lv_iconst (v := 3) hx hb dL_law_1651 (by decide) ?_
  refine lv_iadd hx hb dL_law_1652 ?_
  refine va_sld hx hb hX hbl hbA hS (z_sc hi hL (n := 3) (by decide) (by decide)) dL_law_1653 ?_
  refine zi a3 ea3.symm ?_
  refine z_iL (wa := wm) (wb := w1) (va_runV (As := [.int a1, .int a2, .int a3]) (rest := []) ⟨hx, hb, hml, hown, hts⟩ (wX11_ahead l dC dI kA _ n0 a1 a2 a3 hM0) (cwV 3 hts gL_law_X11_ahead rfl rfl rfl ⟨rfl, hdX11_ahead⟩ ⟨(Nat.le_of_ble_eq_true rfl), (Nat.le_of_ble_eq_true rfl)⟩) ⟨zPc.blind, MOK_rec hK hM0 (wp_P hP List.perm_append_comm), zPre hK (wl_P (wp_P hP List.perm_append_comm)) (wl_D (wp_D hD List.perm_append_comm))⟩ rfl rfl hl.1 rfl (lv_room (Nat.le_of_ble_eq_true rfl)) dL_law_1654 ⟨hc2, hs2⟩) (wp_P hP List.perm_append_comm) (wp_D hD List.perm_append_comm) hS hA (fun r2 w2 H locs hw2 hP hD hS => ?_)
  have hP := wp_P hP (List.perm_append_comm)
  have hD := wp_D hD (List.perm_append_comm)
  refine lv_pop hx hb dL_law_1657 rfl ?_
  refine lv_goto (tgt := 1730) hx hb dL_law_1658 (by decide) ?_
  refine W.widen (k := cells + 40) (n := slots + 2000) (by omega) (by omega) ?_
  exact kk w1 w2 H locs ls ⟨_, _, _, hw1, hw2.2⟩ hP hD hS hl
set_option maxHeartbeats 4000000 in
set_option maxRecDepth 100000 in
theorem law_c33 {p : Program} {l : Launch} {e : Env} {s : State} {m : MethodId} {below : List Frame} {meth : Method} {c : Code} {b L : Nat} {xs : Nat → Int32} {dC : Nat → ClassId} {dI : Nat → Nat → Nat} {kA : Nat → ClassId} {aS vS : Nat} {oS : Option Nat} {x0 n0 : Nat} (C0 : lw_At p s m meth c b L xs) (hL : L ≤ 5120) (hK : zK dC dI kA s) (hZ : zStr aS vS oS (fun q : Nat => s.heap.size ≤ q) s s.heap) {i : Int32} (hi : 0 ≤ i.toInt ∧ i.toInt + 10 ≤ L) {cells slots : Nat} (hc : cells + 40 ≤ 600000) (hs : slots + 2000 ≤ 7302249) (kk : ∀ (wx wm : va_W) (H : Heap) (locs : List Loc) (ls : Array Slot), LInv kA x0 n0 wx wm → va_P (dC, dI) vwCl (wx ++ wm) H → va_D (fun q : Nat => s.heap.size ≤ q) (wx ++ wm) → va_S (fun q : Nat => s.heap.size ≤ q) s.heap H locs → lv_has ls 4 [(3, .int i), (2, .ref n0), (1, .ref x0), (0, .ref b)] → W p l e room_1 s m #[Value.ref b] below meth c H locs (cells + 40) (slots + 2000) (lw_Z below #[Value.ref b] s) (F0 m 1730 ls [])) (wx wm : va_W) (H : Heap) (locs : List Loc) (ls : Array Slot) (hI : LInv kA x0 n0 wx wm) (hP : va_P (dC, dI) vwCl (wx ++ wm) H) (hD : va_D (fun q : Nat => s.heap.size ≤ q) (wx ++ wm)) (hS : va_S (fun q : Nat => s.heap.size ≤ q) s.heap H locs) (hl : lv_has ls 4 [(3, .int i), (2, .ref n0), (1, .ref x0), (0, .ref b)]) : W p l e room_1 s m #[Value.ref b] below meth c H locs cells slots (lw_Z below #[Value.ref b] s) (F0 m 1661 ls []) := by
  obtain ⟨hx, hb, hr, hml, hown0, hts0, hX, hbl, hlocks, hgv⟩ := C0
  have hown : s.vm.findClass RL = some m.cls := hown0
  have hts : ∀ w ∈ wsL_law, w.before #[Value.ref b] s = true := fun w h => hts0 w (wsL_law_in w h)
  have hA : ∀ q : Nat, s.heap.size ≤ q → (fun q : Nat => s.heap.size ≤ q) q := fun _ h => h
  have hbA : ¬ (fun q : Nat => s.heap.size ≤ q) b := Nat.not_le.mpr hbl
  obtain ⟨S_, LL, im, hX0, hM0⟩ := hI
  have hgd := MOK4_gd hM0
  have hxt := MOK4_xt hM0
  have hgr := MOK4_gr hM0
  have hgx := MOK4_gx hM0
  have hc1 : cells + 20 ≤ room_1.cells := by show cells + 20 ≤ 600000; omega
  have hs1 : slots + 1000 ≤ room_1.slots := by show slots + 1000 ≤ 7302249; omega
  have hc2 : cells + 20 + 20 ≤ room_1.cells := by show cells + 20 + 20 ≤ 600000; omega
  have hs2 : slots + 1000 + 1000 ≤ room_1.slots := by show slots + 1000 + 1000 ≤ 7302249; omega
  obtain ⟨a1, ea1⟩ : ∃ y : Int32, y = xs (i + 1).toNatClampNeg := ⟨_, rfl⟩
  refine lv_aload_n hx hb dL_law_1661 rfl (lv_at hl 2 rfl) ?_
  refine lv_aload_n hx hb dL_law_1662 rfl (lv_at hl 3 rfl) ?_
  refine lv_iload_n hx hb dL_law_1663 rfl (lv_at hl 0 rfl) ?_
  refine lv_iconst (v := 1) hx hb dL_law_1664 (by decide) ?_
  refine lv_iadd hx hb dL_law_1665 ?_
  refine va_sld hx hb hX hbl hbA hS (z_sc hi hL (n := 1) (by decide) (by decide)) dL_law_1666 ?_
  refine zi a1 ea1.symm ?_
  refine z_iL (wa := wx) (wb := wm) (va_runV (As := [.int a1]) (rest := []) ⟨hx, hb, hml, hown, hts⟩ (wX10_count l dC dI kA _ x0 a1 hX0 hgd hxt) (cwV 1 hts gL_law_X10_count rfl rfl rfl ⟨rfl, hdX10_count⟩ ⟨(Nat.le_of_ble_eq_true rfl), (Nat.le_of_ble_eq_true rfl)⟩) ⟨zPc.blind, XOK_rec hK hX0 hP, zPre hK (wl_P hP) (wl_D hD)⟩ rfl rfl hl.1 rfl (lv_room (Nat.le_of_ble_eq_true rfl)) dL_law_1667 ⟨hc1, hs1⟩) hP hD hS hA (fun r1 w1 H locs hw1 hP hD hS => ?_)
  refine lv_pop hx hb dL_law_1670 rfl ?_
  refine lv_aload_n hx hb dL_law_1671 rfl (lv_at hl 1 rfl) ?_
  refine lv_aload_n hx hb dL_law_1672 rfl (lv_at hl 3 rfl) ?_
  refine lv_iload_n hx hb dL_law_1673 rfl (lv_at hl 0 rfl) ?_
  refine lv_iconst (v := 1) hx hb dL_law_1674 (by decide) ?_
  refine lv_iadd hx hb dL_law_1675 ?_
  refine va_sld hx hb hX hbl hbA hS (z_sc hi hL (n := 1) (by decide) (by decide)) dL_law_1676 ?_
  refine zi a1 ea1.symm ?_
  refine z_iL (wa := wm) (wb := w1) (va_runV (As := [.int a1]) (rest := []) ⟨hx, hb, hml, hown, hts⟩ (wX11_count l dC dI kA _ n0 a1 hM0) (cwV 1 hts gL_law_X11_count rfl rfl rfl ⟨rfl, hdX11_count⟩ ⟨(Nat.le_of_ble_eq_true rfl), (Nat.le_of_ble_eq_true rfl)⟩) ⟨zPc.blind, MOK_rec hK hM0 (wp_P hP List.perm_append_comm), zPre hK (wl_P (wp_P hP List.perm_append_comm)) (wl_D (wp_D hD List.perm_append_comm))⟩ rfl rfl hl.1 rfl (lv_room (Nat.le_of_ble_eq_true rfl)) dL_law_1677 ⟨hc2, hs2⟩) (wp_P hP List.perm_append_comm) (wp_D hD List.perm_append_comm) hS hA (fun r2 w2 H locs hw2 hP hD hS => ?_)
  have hP := wp_P hP (List.perm_append_comm)
  have hD := wp_D hD (List.perm_append_comm)
  refine lv_pop hx hb dL_law_1680 rfl ?_
  refine lv_goto (tgt := 1730) hx hb dL_law_1681 (by decide) ?_
  refine W.widen (k := cells + 40) (n := slots + 2000) (by omega) (by omega) ?_
  exact kk w1 w2 H locs ls ⟨_, _, _, hw1.2, hw2.2⟩ hP hD hS hl
set_option maxHeartbeats 4000000 in
set_option maxRecDepth 100000 in
theorem law_c34 {p : Program} {l : Launch} {e : Env} {s : State} {m : MethodId} {below : List Frame} {meth : Method} {c : Code} {b L : Nat} {xs : Nat → Int32} {dC : Nat → ClassId} {dI : Nat → Nat → Nat} {kA : Nat → ClassId} {aS vS : Nat} {oS : Option Nat} {x0 n0 : Nat} (C0 : lw_At p s m meth c b L xs) (hL : L ≤ 5120) (hK : zK dC dI kA s) (hZ : zStr aS vS oS (fun q : Nat => s.heap.size ≤ q) s s.heap) {i : Int32} (hi : 0 ≤ i.toInt ∧ i.toInt + 10 ≤ L) {cells slots : Nat} (hc : cells + 40 ≤ 600000) (hs : slots + 2000 ≤ 7302249) (kk : ∀ (wx wm : va_W) (H : Heap) (locs : List Loc) (ls : Array Slot), LInv kA x0 n0 wx wm → va_P (dC, dI) vwCl (wx ++ wm) H → va_D (fun q : Nat => s.heap.size ≤ q) (wx ++ wm) → va_S (fun q : Nat => s.heap.size ≤ q) s.heap H locs → lv_has ls 4 [(3, .int i), (2, .ref n0), (1, .ref x0), (0, .ref b)] → W p l e room_1 s m #[Value.ref b] below meth c H locs (cells + 40) (slots + 2000) (lw_Z below #[Value.ref b] s) (F0 m 1730 ls [])) (wx wm : va_W) (H : Heap) (locs : List Loc) (ls : Array Slot) (hI : LInv kA x0 n0 wx wm) (hP : va_P (dC, dI) vwCl (wx ++ wm) H) (hD : va_D (fun q : Nat => s.heap.size ≤ q) (wx ++ wm)) (hS : va_S (fun q : Nat => s.heap.size ≤ q) s.heap H locs) (hl : lv_has ls 4 [(3, .int i), (2, .ref n0), (1, .ref x0), (0, .ref b)]) : W p l e room_1 s m #[Value.ref b] below meth c H locs cells slots (lw_Z below #[Value.ref b] s) (F0 m 1684 ls []) := by
  obtain ⟨hx, hb, hr, hml, hown0, hts0, hX, hbl, hlocks, hgv⟩ := C0
  have hown : s.vm.findClass RL = some m.cls := hown0
  have hts : ∀ w ∈ wsL_law, w.before #[Value.ref b] s = true := fun w h => hts0 w (wsL_law_in w h)
  have hA : ∀ q : Nat, s.heap.size ≤ q → (fun q : Nat => s.heap.size ≤ q) q := fun _ h => h
  have hbA : ¬ (fun q : Nat => s.heap.size ≤ q) b := Nat.not_le.mpr hbl
  obtain ⟨S_, LL, im, hX0, hM0⟩ := hI
  have hgd := MOK4_gd hM0
  have hxt := MOK4_xt hM0
  have hgr := MOK4_gr hM0
  have hgx := MOK4_gx hM0
  have hc1 : cells + 20 ≤ room_1.cells := by show cells + 20 ≤ 600000; omega
  have hs1 : slots + 1000 ≤ room_1.slots := by show slots + 1000 ≤ 7302249; omega
  have hc2 : cells + 20 + 20 ≤ room_1.cells := by show cells + 20 + 20 ≤ 600000; omega
  have hs2 : slots + 1000 + 1000 ≤ room_1.slots := by show slots + 1000 + 1000 ≤ 7302249; omega
  obtain ⟨a1, ea1⟩ : ∃ y : Int32, y = xs (i + 1).toNatClampNeg := ⟨_, rfl⟩
  refine lv_aload_n hx hb dL_law_1684 rfl (lv_at hl 2 rfl) ?_
  refine lv_aload_n hx hb dL_law_1685 rfl (lv_at hl 3 rfl) ?_
  refine lv_iload_n hx hb dL_law_1686 rfl (lv_at hl 0 rfl) ?_
  refine lv_iconst (v := 1) hx hb dL_law_1687 (by decide) ?_
  refine lv_iadd hx hb dL_law_1688 ?_
  refine va_sld hx hb hX hbl hbA hS (z_sc hi hL (n := 1) (by decide) (by decide)) dL_law_1689 ?_
  refine zi a1 ea1.symm ?_
  refine z_iL (wa := wx) (wb := wm) (va_runV (As := [.int a1]) (rest := []) ⟨hx, hb, hml, hown, hts⟩ (wX10_image l dC dI kA _ x0 a1 hX0 hgd hxt) (cwV 1 hts gL_law_X10_image rfl rfl rfl ⟨rfl, hdX10_image⟩ ⟨(Nat.le_of_ble_eq_true rfl), (Nat.le_of_ble_eq_true rfl)⟩) ⟨zPc.blind, XOK_rec hK hX0 hP, zPre hK (wl_P hP) (wl_D hD)⟩ rfl rfl hl.1 rfl (lv_room (Nat.le_of_ble_eq_true rfl)) dL_law_1690 ⟨hc1, hs1⟩) hP hD hS hA (fun r1 w1 H locs hw1 hP hD hS => ?_)
  refine lv_pop hx hb dL_law_1693 rfl ?_
  refine lv_aload_n hx hb dL_law_1694 rfl (lv_at hl 1 rfl) ?_
  refine lv_aload_n hx hb dL_law_1695 rfl (lv_at hl 3 rfl) ?_
  refine lv_iload_n hx hb dL_law_1696 rfl (lv_at hl 0 rfl) ?_
  refine lv_iconst (v := 1) hx hb dL_law_1697 (by decide) ?_
  refine lv_iadd hx hb dL_law_1698 ?_
  refine va_sld hx hb hX hbl hbA hS (z_sc hi hL (n := 1) (by decide) (by decide)) dL_law_1699 ?_
  refine zi a1 ea1.symm ?_
  refine z_iL (wa := wm) (wb := w1) (va_runV (As := [.int a1]) (rest := []) ⟨hx, hb, hml, hown, hts⟩ (wX11_image l dC dI kA _ n0 a1 hM0) (cwV 1 hts gL_law_X11_image rfl rfl rfl ⟨rfl, hdX11_image⟩ ⟨(Nat.le_of_ble_eq_true rfl), (Nat.le_of_ble_eq_true rfl)⟩) ⟨zPc.blind, MOK_rec hK hM0 (wp_P hP List.perm_append_comm), zPre hK (wl_P (wp_P hP List.perm_append_comm)) (wl_D (wp_D hD List.perm_append_comm))⟩ rfl rfl hl.1 rfl (lv_room (Nat.le_of_ble_eq_true rfl)) dL_law_1700 ⟨hc2, hs2⟩) (wp_P hP List.perm_append_comm) (wp_D hD List.perm_append_comm) hS hA (fun r2 w2 H locs hw2 hP hD hS => ?_)
  have hP := wp_P hP (List.perm_append_comm)
  have hD := wp_D hD (List.perm_append_comm)
  refine lv_pop hx hb dL_law_1703 rfl ?_
  refine lv_goto (tgt := 1730) hx hb dL_law_1704 (by decide) ?_
  refine W.widen (k := cells + 40) (n := slots + 2000) (by omega) (by omega) ?_
  exact kk w1 w2 H locs ls ⟨_, _, _, hw1.2, hw2.2⟩ hP hD hS hl
set_option maxHeartbeats 4000000 in
set_option maxRecDepth 100000 in
theorem law_c35 {p : Program} {l : Launch} {e : Env} {s : State} {m : MethodId} {below : List Frame} {meth : Method} {c : Code} {b L : Nat} {xs : Nat → Int32} {dC : Nat → ClassId} {dI : Nat → Nat → Nat} {kA : Nat → ClassId} {aS vS : Nat} {oS : Option Nat} {x0 n0 : Nat} (C0 : lw_At p s m meth c b L xs) (hL : L ≤ 5120) (hK : zK dC dI kA s) (hZ : zStr aS vS oS (fun q : Nat => s.heap.size ≤ q) s s.heap) {i : Int32} (hi : 0 ≤ i.toInt ∧ i.toInt + 10 ≤ L) {cells slots : Nat} (hc : cells + 40 ≤ 600000) (hs : slots + 2000 ≤ 7302249) (kk : ∀ (wx wm : va_W) (H : Heap) (locs : List Loc) (ls : Array Slot), LInv kA x0 n0 wx wm → va_P (dC, dI) vwCl (wx ++ wm) H → va_D (fun q : Nat => s.heap.size ≤ q) (wx ++ wm) → va_S (fun q : Nat => s.heap.size ≤ q) s.heap H locs → lv_has ls 4 [(3, .int i), (2, .ref n0), (1, .ref x0), (0, .ref b)] → W p l e room_1 s m #[Value.ref b] below meth c H locs (cells + 40) (slots + 2000) (lw_Z below #[Value.ref b] s) (F0 m 1730 ls [])) (wx wm : va_W) (H : Heap) (locs : List Loc) (ls : Array Slot) (hI : LInv kA x0 n0 wx wm) (hP : va_P (dC, dI) vwCl (wx ++ wm) H) (hD : va_D (fun q : Nat => s.heap.size ≤ q) (wx ++ wm)) (hS : va_S (fun q : Nat => s.heap.size ≤ q) s.heap H locs) (hl : lv_has ls 4 [(3, .int i), (2, .ref n0), (1, .ref x0), (0, .ref b)]) : W p l e room_1 s m #[Value.ref b] below meth c H locs cells slots (lw_Z below #[Value.ref b] s) (F0 m 1707 ls []) := by
  obtain ⟨hx, hb, hr, hml, hown0, hts0, hX, hbl, hlocks, hgv⟩ := C0
  have hown : s.vm.findClass RL = some m.cls := hown0
  have hts : ∀ w ∈ wsL_law, w.before #[Value.ref b] s = true := fun w h => hts0 w (wsL_law_in w h)
  have hA : ∀ q : Nat, s.heap.size ≤ q → (fun q : Nat => s.heap.size ≤ q) q := fun _ h => h
  have hbA : ¬ (fun q : Nat => s.heap.size ≤ q) b := Nat.not_le.mpr hbl
  obtain ⟨S_, LL, im, hX0, hM0⟩ := hI
  have hgd := MOK4_gd hM0
  have hxt := MOK4_xt hM0
  have hgr := MOK4_gr hM0
  have hgx := MOK4_gx hM0
  have hc1 : cells + 20 ≤ room_1.cells := by show cells + 20 ≤ 600000; omega
  have hs1 : slots + 1000 ≤ room_1.slots := by show slots + 1000 ≤ 7302249; omega
  have hc2 : cells + 20 + 20 ≤ room_1.cells := by show cells + 20 + 20 ≤ 600000; omega
  have hs2 : slots + 1000 + 1000 ≤ room_1.slots := by show slots + 1000 + 1000 ≤ 7302249; omega
  obtain ⟨a1, ea1⟩ : ∃ y : Int32, y = xs (i + 1).toNatClampNeg := ⟨_, rfl⟩
  refine lv_aload_n hx hb dL_law_1707 rfl (lv_at hl 2 rfl) ?_
  refine lv_aload_n hx hb dL_law_1708 rfl (lv_at hl 3 rfl) ?_
  refine lv_iload_n hx hb dL_law_1709 rfl (lv_at hl 0 rfl) ?_
  refine lv_iconst (v := 1) hx hb dL_law_1710 (by decide) ?_
  refine lv_iadd hx hb dL_law_1711 ?_
  refine va_sld hx hb hX hbl hbA hS (z_sc hi hL (n := 1) (by decide) (by decide)) dL_law_1712 ?_
  refine zi a1 ea1.symm ?_
  refine z_iL (wa := wx) (wb := wm) (va_runV (As := [.int a1]) (rest := []) ⟨hx, hb, hml, hown, hts⟩ (wX10_back l dC dI kA _ x0 a1 hX0 hgd hxt) (cwV 1 hts gL_law_X10_back rfl rfl rfl ⟨rfl, hdX10_back⟩ ⟨(Nat.le_of_ble_eq_true rfl), (Nat.le_of_ble_eq_true rfl)⟩) ⟨zPc.blind, XOK_rec hK hX0 hP, zPre hK (wl_P hP) (wl_D hD)⟩ rfl rfl hl.1 rfl (lv_room (Nat.le_of_ble_eq_true rfl)) dL_law_1713 ⟨hc1, hs1⟩) hP hD hS hA (fun r1 w1 H locs hw1 hP hD hS => ?_)
  refine lv_pop hx hb dL_law_1716 rfl ?_
  refine lv_aload_n hx hb dL_law_1717 rfl (lv_at hl 1 rfl) ?_
  refine lv_aload_n hx hb dL_law_1718 rfl (lv_at hl 3 rfl) ?_
  refine lv_iload_n hx hb dL_law_1719 rfl (lv_at hl 0 rfl) ?_
  refine lv_iconst (v := 1) hx hb dL_law_1720 (by decide) ?_
  refine lv_iadd hx hb dL_law_1721 ?_
  refine va_sld hx hb hX hbl hbA hS (z_sc hi hL (n := 1) (by decide) (by decide)) dL_law_1722 ?_
  refine zi a1 ea1.symm ?_
  refine z_iL (wa := wm) (wb := w1) (va_runV (As := [.int a1]) (rest := []) ⟨hx, hb, hml, hown, hts⟩ (wX11_back l dC dI kA _ n0 a1 hM0) (cwV 1 hts gL_law_X11_back rfl rfl rfl ⟨rfl, hdX11_back⟩ ⟨(Nat.le_of_ble_eq_true rfl), (Nat.le_of_ble_eq_true rfl)⟩) ⟨zPc.blind, MOK_rec hK hM0 (wp_P hP List.perm_append_comm), zPre hK (wl_P (wp_P hP List.perm_append_comm)) (wl_D (wp_D hD List.perm_append_comm))⟩ rfl rfl hl.1 rfl (lv_room (Nat.le_of_ble_eq_true rfl)) dL_law_1723 ⟨hc2, hs2⟩) (wp_P hP List.perm_append_comm) (wp_D hD List.perm_append_comm) hS hA (fun r2 w2 H locs hw2 hP hD hS => ?_)
  have hP := wp_P hP (List.perm_append_comm)
  have hD := wp_D hD (List.perm_append_comm)
  refine lv_pop hx hb dL_law_1726 rfl ?_
  refine lv_goto (tgt := 1730) hx hb dL_law_1727 (by decide) ?_
  refine W.widen (k := cells + 40) (n := slots + 2000) (by omega) (by omega) ?_
  exact kk w1 w2 H locs ls ⟨_, _, _, hw1.2, hw2.2⟩ hP hD hS hl
set_option maxHeartbeats 4000000 in
set_option maxRecDepth 100000 in
theorem law_c36 {p : Program} {l : Launch} {e : Env} {s : State} {m : MethodId} {below : List Frame} {meth : Method} {c : Code} {b L : Nat} {xs : Nat → Int32} {dC : Nat → ClassId} {dI : Nat → Nat → Nat} {kA : Nat → ClassId} {aS vS : Nat} {oS : Option Nat} {x0 n0 : Nat} (C0 : lw_At p s m meth c b L xs) (hL : L ≤ 5120) (hK : zK dC dI kA s) (hZ : zStr aS vS oS (fun q : Nat => s.heap.size ≤ q) s s.heap) {i : Int32} (hi : 0 ≤ i.toInt ∧ i.toInt + 10 ≤ L) {cells slots : Nat} (hc : cells + 40 ≤ 600000) (hs : slots + 2000 ≤ 7302249) (kk : ∀ (wx wm : va_W) (H : Heap) (locs : List Loc) (ls : Array Slot), LInv kA x0 n0 wx wm → va_P (dC, dI) vwCl (wx ++ wm) H → va_D (fun q : Nat => s.heap.size ≤ q) (wx ++ wm) → va_S (fun q : Nat => s.heap.size ≤ q) s.heap H locs → lv_has ls 4 [(3, .int i), (2, .ref n0), (1, .ref x0), (0, .ref b)] → W p l e room_1 s m #[Value.ref b] below meth c H locs (cells + 40) (slots + 2000) (lw_Z below #[Value.ref b] s) (F0 m 1730 ls [])) (wx wm : va_W) (H : Heap) (locs : List Loc) (ls : Array Slot) (hI : LInv kA x0 n0 wx wm) (hP : va_P (dC, dI) vwCl (wx ++ wm) H) (hD : va_D (fun q : Nat => s.heap.size ≤ q) (wx ++ wm)) (hS : va_S (fun q : Nat => s.heap.size ≤ q) s.heap H locs) (hl : lv_has ls 4 [(3, .int i), (2, .ref n0), (1, .ref x0), (0, .ref b)]) : W p l e room_1 s m #[Value.ref b] below meth c H locs cells slots (lw_Z below #[Value.ref b] s) (F0 m 1730 ls []) := by
  obtain ⟨hx, hb, hr, hml, hown0, hts0, hX, hbl, hlocks, hgv⟩ := C0
  have hown : s.vm.findClass RL = some m.cls := hown0
  have hts : ∀ w ∈ wsL_law, w.before #[Value.ref b] s = true := fun w h => hts0 w (wsL_law_in w h)
  have hA : ∀ q : Nat, s.heap.size ≤ q → (fun q : Nat => s.heap.size ≤ q) q := fun _ h => h
  have hbA : ¬ (fun q : Nat => s.heap.size ≤ q) b := Nat.not_le.mpr hbl
  obtain ⟨S_, LL, im, hX0, hM0⟩ := hI
  have hgd := MOK4_gd hM0
  have hxt := MOK4_xt hM0
  have hgr := MOK4_gr hM0
  have hgx := MOK4_gx hM0
  have hc1 : cells + 20 ≤ room_1.cells := by show cells + 20 ≤ 600000; omega
  have hs1 : slots + 1000 ≤ room_1.slots := by show slots + 1000 ≤ 7302249; omega
  have hc2 : cells + 20 + 20 ≤ room_1.cells := by show cells + 20 + 20 ≤ 600000; omega
  have hs2 : slots + 1000 + 1000 ≤ room_1.slots := by show slots + 1000 + 1000 ≤ 7302249; omega
  refine W.widen (k := cells + 40) (n := slots + 2000) (by omega) (by omega) ?_
  exact kk wx wm H locs ls ⟨S_, LL, im, hX0, hM0⟩ hP hD hS hl
