def ixX11_bits : List Nat := [1288]
def wsX11_bits : List Cond := .code yX11_bits cX11_bits 3 (some .int) :: ixX11_bits.map wt
def dtX11_bits_134_0 : List (Nat × Jvm.ClassFile.Instr × Nat) := [(0, .iconst 0, 1), (1, .istore_n 1, 1), (2, .iload_n 0, 1), (3, .istore_n 2, 1), (4, .iload_n 2, 1), (5, .ifCond .eq 15, 3), (8, .iinc 1 1, 3), (11, .iload_n 2, 1), (12, .iload_n 2, 1), (13, .iconst 1, 1), (14, .isub, 1), (15, .iand, 1), (16, .istore_n 2, 1), (17, .goto (-13), 3), (20, .iload_n 1, 1), (21, .ireturn, 1)]
theorem daX11_bits_134_0 : dtX11_bits_134_0.all (dqd cX11_bits) = true := by decide +kernel
theorem dX11_bits_0 : decode cX11_bits 0 = .ok (.iconst 0, 1) := dq daX11_bits_134_0 0 rfl
theorem dX11_bits_1 : decode cX11_bits 1 = .ok (.istore_n 1, 1) := dq daX11_bits_134_0 1 rfl
theorem dX11_bits_2 : decode cX11_bits 2 = .ok (.iload_n 0, 1) := dq daX11_bits_134_0 2 rfl
theorem dX11_bits_3 : decode cX11_bits 3 = .ok (.istore_n 2, 1) := dq daX11_bits_134_0 3 rfl
theorem dX11_bits_4 : decode cX11_bits 4 = .ok (.iload_n 2, 1) := dq daX11_bits_134_0 4 rfl
theorem dX11_bits_5 : decode cX11_bits 5 = .ok (.ifCond .eq 15, 3) := dq daX11_bits_134_0 5 rfl
theorem dX11_bits_8 : decode cX11_bits 8 = .ok (.iinc 1 1, 3) := dq daX11_bits_134_0 6 rfl
theorem dX11_bits_11 : decode cX11_bits 11 = .ok (.iload_n 2, 1) := dq daX11_bits_134_0 7 rfl
theorem dX11_bits_12 : decode cX11_bits 12 = .ok (.iload_n 2, 1) := dq daX11_bits_134_0 8 rfl
theorem dX11_bits_13 : decode cX11_bits 13 = .ok (.iconst 1, 1) := dq daX11_bits_134_0 9 rfl
theorem dX11_bits_14 : decode cX11_bits 14 = .ok (.isub, 1) := dq daX11_bits_134_0 10 rfl
theorem dX11_bits_15 : decode cX11_bits 15 = .ok (.iand, 1) := dq daX11_bits_134_0 11 rfl
theorem dX11_bits_16 : decode cX11_bits 16 = .ok (.istore_n 2, 1) := dq daX11_bits_134_0 12 rfl
theorem dX11_bits_17 : decode cX11_bits 17 = .ok (.goto (-13), 3) := dq daX11_bits_134_0 13 rfl
theorem dX11_bits_20 : decode cX11_bits 20 = .ok (.iload_n 1, 1) := dq daX11_bits_134_0 14 rfl
theorem dX11_bits_21 : decode cX11_bits 21 = .ok (.ireturn, 1) := dq daX11_bits_134_0 15 rfl
set_option maxRecDepth 100000 in
def fb_mX11_bits_4  (E20 : Int32 → Int32 → Int32) (K : Int32 → Int32 → Int32) (l4_0 : Int32) (l4_1 : Int32) : Int32 := if l4_0 = 0 then (E20 l4_0 l4_1) else (bnd ((l4_1 + 1)) (fun (xy4_2 : Int32) => bnd ((l4_0 &&& (l4_0 - 1))) (fun (xy4_3 : Int32) => K xy4_3 xy4_2)))
def fl_mX11_bits_4  (E20 : Int32 → Int32 → Int32) : Nat → Int32 → Int32 → Int32
  | 0, _, _ => 0
  | n + 1, l4_0, l4_1 => fb_mX11_bits_4 E20 (fl_mX11_bits_4 E20 n) l4_0 l4_1
set_option maxHeartbeats 4000000 in
set_option maxRecDepth 100000 in
theorem lp_mX11_bits_4 {p : Program} {l : Launch} {e : Env} {R : Room} {s : State} {m : MethodId} {args : Array Value} {below : List Frame} {meth : Method} {c : Code} {Q : State → Prop} {dC : Nat → ClassId} {dI : Nat → Nat → Nat} {kA : Nat → ClassId} {A : Nat → Prop} {H0 : Heap} {cells slots : Nat} (hx : p.tables.exec = Jvm.exec) (hb : c.code = cX11_bits) (hml : c.maxLocals = 3) (hts : ∀ w ∈ wsX11_bits, w.before args s = true) (hown : s.vm.findClass RX11 = some m.cls) (hK : zK dC dI kA s) (hA : ∀ q, H0.size ≤ q → A q) (hRf : 0 ≤ R.frames) (hRl : 0 ≤ R.locals) (hRc : cells ≤ R.cells) (hRs : slots ≤ R.slots) (p0 : Int32) {G : Int32} {E20 : Int32 → Int32 → Int32}  (k20 : ∀ (w20_0 : Int32) (w20_1 : Int32) (H : Heap) (locs : List Loc) (ls : Array Slot), E20 w20_0 w20_1 = G → va_P (dC, dI) vwCl [] H → va_D A [] → va_S A H0 H locs → lv_has ls 3 [(2, .int w20_0), (1, .int w20_1), (0, .int p0)] → W p l e R s m args below meth c H locs cells slots Q (F0 m 20 ls []))  : ∀ (n : Nat) (l4_0 : Int32) (l4_1 : Int32) (H : Heap) (locs : List Loc) (ls : Array Slot), l4_0.toBitVec.toNat < n → fl_mX11_bits_4 E20 n l4_0 l4_1 = G → va_P (dC, dI) vwCl [] H → va_D A [] → va_S A H0 H locs → lv_has ls 3 [(2, .int l4_0), (1, .int l4_1), (0, .int p0)] → W p l e R s m args below meth c H locs cells slots Q (F0 m 4 ls []) := by
  intro n
  induction n with
  | zero =>
    intro l4_0 l4_1 H locs ls hn
    exact absurd hn (Nat.not_lt_zero _)
  | succ n ih =>
    intro l4_0 l4_1 H locs ls hn hG  hP hD hS hl
    have hG : fb_mX11_bits_4 E20 (fl_mX11_bits_4 E20 n) l4_0 l4_1 = G := hG
    unfold fb_mX11_bits_4 at hG
    refine lv_iload_n hx hb dX11_bits_4 rfl (lv_at hl 0 rfl) ?_
    refine lv_if_eq (tgt := 20) hx hb dX11_bits_5 (by decide) (fun c_y4_1 => ?_) (fun c_y4_1 => ?_)
    · have hG := zthen hG c_y4_1
      exact k20 l4_0 l4_1 H locs ls hG (hP.sub [] rfl) (hD.sub [] (by decide) rfl) hS (lv_sub hl [0, 1, 2] rfl)
    · have hG := zelse hG c_y4_1
      obtain ⟨xy4_2, exy4_2⟩ : ∃ y : Int32, y = l4_1 + 1 := ⟨_, rfl⟩
      have hG := zbnd hG exy4_2
      refine lv_iinc (v := xy4_2) (lv' := [(1, .int xy4_2), (2, .int l4_0), (0, .int p0)]) hx hb dX11_bits_8 hl (k := 1) rfl (by rw [exy4_2]; rfl) (by decide) rfl (fun ls hl => ?_)
      refine lv_iload_n hx hb dX11_bits_11 rfl (lv_at hl 1 rfl) ?_
      refine lv_iload_n hx hb dX11_bits_12 rfl (lv_at hl 1 rfl) ?_
      refine lv_iconst (v := 1) hx hb dX11_bits_13 (by decide) ?_
      refine lv_isub hx hb dX11_bits_14 ?_
      refine lv_iand hx hb dX11_bits_15 ?_
      refine lv_topi (fun xy4_3 exy4_3 => ?_)
      have hG := zbnd hG exy4_3
      refine lv_istore_n (lv' := [(2, .int xy4_3), (1, .int xy4_2), (0, .int p0)]) hx hb dX11_bits_16 rfl hl (by decide) rfl (fun ls hl => ?_)
      refine lv_goto (tgt := 4) hx hb dX11_bits_17 (by decide) ?_
      exact ih xy4_3 xy4_2 H locs ls (z_bits hn exy4_3 c_y4_1) hG (hP.sub [] rfl) (hD.sub [] (by decide) rfl) hS (lv_sub hl [0, 1, 2] rfl)
set_option maxRecDepth 100000 in
def fX11_bits (p0 : Int32) : Int32 := fl_mX11_bits_4  (fun (w20_0_0 : Int32) (w20_1_0 : Int32) => w20_1_0) (p0.toBitVec.toNat + 1) p0 0
set_option maxHeartbeats 4000000 in
set_option maxRecDepth 100000 in
theorem mX11_bits (l : Launch) (dC : Nat → ClassId) (dI : Nat → Nat → Nat) (kA : Nat → ClassId) (sz : Nat) (p0 : Int32)  : Met l yX11_bits wsX11_bits ({ frames := 0, cells := 0, slots := 0, locals := 0 }) (zPc dC dI kA sz [.int p0] []) (va_Qi (fun (r : Int32) (u : Int32) => r = u ∧ u = fX11_bits p0) (zB dC dI (va_A [] sz) (fun (u : Int32) => [])) (va_A [] sz)) 0 0 (va_A [] sz) := by
  refine Met.ofW (cc := cX11_bits) (maxL := 3) (ret := (some .int)) pnX11 rfl ?_
  intro p e s m args below meth c s₁ B hml hv
  obtain ⟨rfl, hsz, hP, hK, hD0⟩ := hv
  have hx := B.exec
  have hb := B.bytes
  have hr := B.returns
  have hts := atoms_spec (ws := wsX11_bits) B.pre
  have hown : s.vm.findClass RX11 = some m.cls := findClass_of_methodNamed B.named
  have hlocks := B.notSynchronized
  subst hsz
  have hD := hD0.self (sz := s.heap.size)
  generalize hAe : va_A [] s.heap.size = A at hD ⊢
  have hA : ∀ q : Nat, s.heap.size ≤ q → A q := zA_of hAe
  have hS : va_S A s.heap s.heap [] := va_S.rf
  have hP : va_P (dC, dI) vwCl [] s.heap := hP
  have hl := lv_entry ([.int p0]) (n := 3) (Nat.le_of_ble_eq_true rfl)
  rw [lg_entry_eq]
  generalize (lg_sl ([.int p0]) ++ List.replicate (3 - (lg_sl ([.int p0])).length) Slot.unset).toArray = ls at hl ⊢
  have hl : lv_has ls 3 [(0, .int p0)] := hl
  obtain ⟨H, hHe⟩ : ∃ H : Heap, H = s.heap := ⟨_, rfl⟩
  obtain ⟨G, hG0⟩ : ∃ G : Int32, fX11_bits p0 = G := ⟨_, rfl⟩
  have hG := hG0
  unfold fX11_bits at hG
  refine lv_iconst (v := 0) hx hb dX11_bits_0 (by decide) ?_
  refine lv_istore_n (lv' := [(1, .int 0), (0, .int p0)]) hx hb dX11_bits_1 rfl hl (by decide) rfl (fun ls hl => ?_)
  refine lv_iload_n hx hb dX11_bits_2 rfl (lv_at hl 1 rfl) ?_
  refine lv_istore_n (lv' := [(2, .int p0), (1, .int 0), (0, .int p0)]) hx hb dX11_bits_3 rfl hl (by decide) rfl (fun ls hl => ?_)
  refine lp_mX11_bits_4 hx hb hml hts hown hK hA (Nat.le_of_ble_eq_true rfl) (Nat.le_of_ble_eq_true rfl) (Nat.le_of_ble_eq_true rfl) (Nat.le_of_ble_eq_true rfl) p0  (fun w20_0_0 w20_1_0 H locs ls hG hP hD hS hl => ?_) _ p0 0 _ _ ls (Nat.lt_succ_self _) hG hP hD hS (lv_sub hl [0, 1, 2] rfl)
  obtain ⟨hP, hD⟩ := z_re (L := []) hP hD
  refine lv_iload_n hx hb dX11_bits_20 rfl (lv_at hl 1 rfl) ?_
  obtain ⟨hP9, hD9⟩ := z_sb (L' := []) hP hD [] (by decide) rfl
  refine W.widen (k := 0) (n := 0) (Nat.le_of_ble_eq_true rfl) (Nat.le_of_ble_eq_true rfl) ?_
  exact W.iret (v := w20_1_0) hx hb hr (fun t ht hW => ⟨⟨w20_1_0, (w20_1_0), rfl, ⟨rfl, (hG.trans hG0.symm)⟩, by rw [ht]; exact hP9, hD9⟩, hS.F ht⟩) hS.2.2 dX11_bits_21
