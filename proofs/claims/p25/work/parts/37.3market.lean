set_option maxRecDepth 100000 in
def fb_mX3_open_2  (E21 : (Nat → Int32) → Int32 → ((Nat → Int32))) (K : (Nat → Int32) → Int32 → ((Nat → Int32))) (g2_0 : Nat → Int32) (l2_1 : Int32) : (Nat → Int32) := if 6 ≤ l2_1 then (E21 g2_0 l2_1) else (bnd ((upd g2_0 l2_1.toNatClampNeg 0)) (fun (fy2_2 : Nat → Int32) => bnd ((l2_1 + 1)) (fun (xy2_3 : Int32) => K fy2_2 xy2_3)))
def fl_mX3_open_2  (E21 : (Nat → Int32) → Int32 → ((Nat → Int32))) : Nat → (Nat → Int32) → Int32 → ((Nat → Int32))
  | 0, _, _ => (fun _ => 0)
  | n + 1, g2_0, l2_1 => fb_mX3_open_2 E21 (fl_mX3_open_2 E21 n) g2_0 l2_1
set_option maxHeartbeats 4000000 in
set_option maxRecDepth 100000 in
theorem lp_mX3_open_2 {p : Program} {l : Launch} {e : Env} {R : Room} {s : State} {m : MethodId} {args : Array Value} {below : List Frame} {meth : Method} {c : Code} {Q : State → Prop} {dC : Nat → ClassId} {dI : Nat → Nat → Nat} {kA : Nat → ClassId} {A : Nat → Prop} {H0 : Heap} {cells slots : Nat} (hx : p.tables.exec = Jvm.exec) (hb : c.code = cX3_open) (hml : c.maxLocals = 2) (hts : ∀ w ∈ wsX3_open, w.before args s = true) (hown : s.vm.findClass RX3 = some m.cls) (hK : zK dC dI kA s) (hA : ∀ q, H0.size ≤ q → A q) (hRf : 0 ≤ R.frames) (hRl : 0 ≤ R.locals) (hRc : cells ≤ R.cells) (hRs : slots ≤ R.slots) (m0 : Nat) (k_paid : Int32) (ko : Nat) (kc : Nat) (w0 : Nat) {G : (Nat → Int32)} {E21 : (Nat → Int32) → Int32 → ((Nat → Int32))}  (k21 : ∀ (w21_0 : Nat → Int32) (w21_1 : Int32) (H : Heap) (locs : List Loc) (ls : Array Slot), ¬ w21_1 < 0 → E21 w21_0 w21_1 = G → va_P (dC, dI) vwCl [(m0, .inr (3, [.int k_paid, .ref ko, .ref kc, .ref w0])), (ko, .inl (kA 0, 6, .inl w21_0))] H → va_D A [(m0, .inr (3, [.int k_paid, .ref ko, .ref kc, .ref w0])), (ko, .inl (kA 0, 6, .inl w21_0))] → va_S A H0 H locs → lv_has ls 2 [(1, .int w21_1), (0, .ref m0)] → W p l e R s m args below meth c H locs cells slots Q (F0 m 21 ls []))  : ∀ (n : Nat) (g2_0 : Nat → Int32) (l2_1 : Int32) (H : Heap) (locs : List Loc) (ls : Array Slot), ((6 : Int32).toInt - l2_1.toInt).toNat < n → fl_mX3_open_2 E21 n g2_0 l2_1 = G → ¬ l2_1 < 0 → va_P (dC, dI) vwCl [(m0, .inr (3, [.int k_paid, .ref ko, .ref kc, .ref w0])), (ko, .inl (kA 0, 6, .inl g2_0))] H → va_D A [(m0, .inr (3, [.int k_paid, .ref ko, .ref kc, .ref w0])), (ko, .inl (kA 0, 6, .inl g2_0))] → va_S A H0 H locs → lv_has ls 2 [(1, .int l2_1), (0, .ref m0)] → W p l e R s m args below meth c H locs cells slots Q (F0 m 2 ls []) := by
  intro n
  induction n with
  | zero =>
    intro g2_0 l2_1 H locs ls hn
    exact absurd hn (Nat.not_lt_zero _)
  | succ n ih =>
    intro g2_0 l2_1 H locs ls hn hG hi2 hP hD hS hl
    have hG : fb_mX3_open_2 E21 (fl_mX3_open_2 E21 n) g2_0 l2_1 = G := hG
    unfold fb_mX3_open_2 at hG
    refine lv_iload_n hx hb dX3_open_2 rfl (lv_at hl 0 rfl) ?_
    refine lv_bipush (v := 6) hx hb dX3_open_3 (by decide) ?_
    refine lv_icmp_ge (tgt := 21) hx hb dX3_open_5 (by decide) (fun c_y2_1 => ?_) (fun c_y2_1 => ?_)
    · have hG := zthen hG c_y2_1
      exact k21 g2_0 l2_1 H locs ls hi2 hG (hP.sub [0, 1] rfl) (hD.sub [0, 1] (by decide) rfl) hS (lv_sub hl [0, 1] rfl)
    · have hG := zelse hG c_y2_1
      refine lv_aload_n hx hb dX3_open_8 rfl (lv_at hl 1 rfl) ?_
      refine va_get (D := (dC, dI)) (ci := 3) (v := .ref ko) (C := RX3) (T := TX3) (N := 4) hx hb hts iX3_open_X3 hown hK.1 hP 0 rfl rfl 1 (by decide) (kX3_open_1 hts) (fun _ h9 => h9) rfl dX3_open_9 ?_
      refine lv_iload_n hx hb dX3_open_12 rfl (lv_at hl 0 rfl) ?_
      refine lv_iconst (v := 0) hx hb dX3_open_13 (by decide) ?_
      refine va_iast hx hb hK.1 hP hD hS 1 0 rfl rfl (vp_lt (by decide) hi2 c_y2_1) dX3_open_14 (fun H locs hP hD hS => ?_)
      obtain ⟨hP, hD⟩ := z_re (L := [(m0, .inr (3, [.int k_paid, .ref ko, .ref kc, .ref w0])), (ko, .inl (kA 0, 6, .inl (upd g2_0 l2_1.toNatClampNeg 0)))]) hP hD
      obtain ⟨fy2_2, efy2_2⟩ : ∃ y : Nat → Int32, y = (upd g2_0 l2_1.toNatClampNeg 0) := ⟨_, rfl⟩
      rw [← efy2_2] at hP hD
      have hG := zbnd hG efy2_2
      obtain ⟨xy2_3, exy2_3⟩ : ∃ y : Int32, y = l2_1 + 1 := ⟨_, rfl⟩
      have hG := zbnd hG exy2_3
      refine lv_iinc (v := xy2_3) (lv' := [(1, .int xy2_3), (0, .ref m0)]) hx hb dX3_open_15 hl (k := 0) rfl (by rw [exy2_3]; rfl) (by decide) rfl (fun ls hl => ?_)
      refine lv_goto (tgt := 2) hx hb dX3_open_18 (by decide) ?_
      exact ih fy2_2 xy2_3 H locs ls (z_up hn exy2_3 c_y2_1) hG (z_nn exy2_3 c_y2_1 hi2) (hP.sub [0, 1] rfl) (hD.sub [0, 1] (by decide) rfl) hS (lv_sub hl [0, 1] rfl)
set_option maxRecDepth 100000 in
def fX3_open (koF : Nat → Int32) : (Nat → Int32) := fl_mX3_open_2  (fun (w21_0_0 : Nat → Int32) (w21_1_0 : Int32) => w21_0_0) (((6 : Int32).toInt - (0 : Int32).toInt).toNat + 1) koF 0
set_option maxHeartbeats 4000000 in
set_option maxRecDepth 100000 in
theorem mX3_open (l : Launch) (dC : Nat → ClassId) (dI : Nat → Nat → Nat) (kA : Nat → ClassId) (sz : Nat) (m0 : Nat) (k_paid : Int32) (ko : Nat) (kc : Nat) (koF : Nat → Int32) (w0 : Nat)  : Met l yX3_open wsX3_open ({ frames := 0, cells := 0, slots := 0, locals := 0 }) (zPc dC dI kA sz [.ref m0] [(m0, .inr (3, [.int k_paid, .ref ko, .ref kc, .ref w0])), (ko, .inl (kA 0, 6, .inl koF))]) (va_Qv (fun (u : (Nat → Int32)) => u = fX3_open koF) (zB dC dI (va_A [(m0, .inr (3, [.int k_paid, .ref ko, .ref kc, .ref w0])), (ko, .inl (kA 0, 6, .inl koF))] sz) (fun (u : (Nat → Int32)) => [(m0, .inr (3, [.int k_paid, .ref ko, .ref kc, .ref w0])), (ko, .inl (kA 0, 6, .inl u))])) (va_A [(m0, .inr (3, [.int k_paid, .ref ko, .ref kc, .ref w0])), (ko, .inl (kA 0, 6, .inl koF))] sz)) 0 0 (va_A [(m0, .inr (3, [.int k_paid, .ref ko, .ref kc, .ref w0])), (ko, .inl (kA 0, 6, .inl koF))] sz) := by
  refine Met.ofW (cc := cX3_open) (maxL := 2) (ret := none) (by decide) rfl ?_
  intro p e s m args below meth c s₁ B hml hv
  obtain ⟨rfl, hsz, hP, hK, hD0⟩ := hv
  have hx := B.exec
  have hb := B.bytes
  have hr := B.returns
  have hts := atoms_spec (ws := wsX3_open) B.pre
  have hown : s.vm.findClass RX3 = some m.cls := findClass_of_methodNamed B.named
  have hlocks := B.notSynchronized
  subst hsz
  have hD := hD0.self (sz := s.heap.size)
  generalize hAe : va_A [(m0, .inr (3, [.int k_paid, .ref ko, .ref kc, .ref w0])), (ko, .inl (kA 0, 6, .inl koF))] s.heap.size = A at hD ⊢
  have hA : ∀ q : Nat, s.heap.size ≤ q → A q := fun q h => by rw [← hAe]; exact Or.inr h
  have hS : va_S A s.heap s.heap [] := va_S.rf
  have hP : va_P (dC, dI) vwCl [(m0, .inr (3, [.int k_paid, .ref ko, .ref kc, .ref w0])), (ko, .inl (kA 0, 6, .inl koF))] s.heap := hP
  have hl := lv_entry ([.ref m0]) (n := 2) (Nat.le_of_ble_eq_true rfl)
  rw [lg_entry_eq]
  generalize (lg_sl ([.ref m0]) ++ List.replicate (2 - (lg_sl ([.ref m0])).length) Slot.unset).toArray = ls at hl ⊢
  have hl : lv_has ls 2 [(0, .ref m0)] := hl
  obtain ⟨H, hHe⟩ : ∃ H : Heap, H = s.heap := ⟨_, rfl⟩
  obtain ⟨G, hG0⟩ : ∃ G : (Nat → Int32), fX3_open koF = G := ⟨_, rfl⟩
  have hG := hG0
  unfold fX3_open at hG
  refine lv_iconst (v := 0) hx hb dX3_open_0 (by decide) ?_
  refine lv_istore_n (lv' := [(1, .int 0), (0, .ref m0)]) hx hb dX3_open_1 rfl hl (by decide) rfl (fun ls hl => ?_)
  refine lp_mX3_open_2 hx hb hml hts hown hK hA (Nat.le_of_ble_eq_true rfl) (Nat.le_of_ble_eq_true rfl) (Nat.le_of_ble_eq_true rfl) (Nat.le_of_ble_eq_true rfl) m0 k_paid ko kc w0  (fun w21_0_0 w21_1_0 H locs ls hx21_1_nlt00_0 hG hP hD hS hl => ?_) _ koF 0 _ _ ls (Nat.lt_succ_self _) hG (by decide) hP hD hS (lv_sub hl [0, 1] rfl)
  obtain ⟨hP, hD⟩ := z_re (L := [(m0, .inr (3, [.int k_paid, .ref ko, .ref kc, .ref w0])), (ko, .inl (kA 0, 6, .inl w21_0_0))]) hP hD
  obtain ⟨hP9, hD9⟩ := z_sb (L' := [(m0, .inr (3, [.int k_paid, .ref ko, .ref kc, .ref w0])), (ko, .inl (kA 0, 6, .inl w21_0_0))]) hP hD [0, 1] (by decide) rfl
  refine W.widen (k := 0) (n := 0) (Nat.le_of_ble_eq_true rfl) (Nat.le_of_ble_eq_true rfl) ?_
  exact W.vret hx hb hr (fun t ht hW => ⟨⟨(w21_0_0), rfl, (hG.trans hG0.symm), by rw [ht]; exact hP9, hD9⟩, hS.F ht⟩) hS.2.2 dX3_open_21
set_option maxRecDepth 100000 in
def fX3_offer (koF : Nat → Int32) (p0 : Int32) (p1 : Int32) : (Nat → Int32) := if p1 < 0 then (koF) else (if 6 ≤ p1 then (koF) else (bnd (koF p1.toNatClampNeg) (fun (x3 : Int32) => bnd ((1 <<< (p0 &&& 31))) (fun (x4 : Int32) => bnd ((upd koF p1.toNatClampNeg (x3 ||| x4))) (fun (f5 : Nat → Int32) => f5)))))
set_option maxHeartbeats 4000000 in
set_option maxRecDepth 100000 in
theorem mX3_offer (l : Launch) (dC : Nat → ClassId) (dI : Nat → Nat → Nat) (kA : Nat → ClassId) (sz : Nat) (m0 : Nat) (k_paid : Int32) (ko : Nat) (kc : Nat) (koF : Nat → Int32) (w0 : Nat) (p0 : Int32) (p1 : Int32)  : Met l yX3_offer wsX3_offer ({ frames := 0, cells := 0, slots := 0, locals := 0 }) (zPc dC dI kA sz [.ref m0, .int p0, .int p1] [(m0, .inr (3, [.int k_paid, .ref ko, .ref kc, .ref w0])), (ko, .inl (kA 0, 6, .inl koF))]) (va_Qv (fun (u : (Nat → Int32)) => u = fX3_offer koF p0 p1) (zB dC dI (va_A [(m0, .inr (3, [.int k_paid, .ref ko, .ref kc, .ref w0])), (ko, .inl (kA 0, 6, .inl koF))] sz) (fun (u : (Nat → Int32)) => [(m0, .inr (3, [.int k_paid, .ref ko, .ref kc, .ref w0])), (ko, .inl (kA 0, 6, .inl u))])) (va_A [(m0, .inr (3, [.int k_paid, .ref ko, .ref kc, .ref w0])), (ko, .inl (kA 0, 6, .inl koF))] sz)) 0 0 (va_A [(m0, .inr (3, [.int k_paid, .ref ko, .ref kc, .ref w0])), (ko, .inl (kA 0, 6, .inl koF))] sz) := by
  refine Met.ofW (cc := cX3_offer) (maxL := 3) (ret := none) (by decide) rfl ?_
  intro p e s m args below meth c s₁ B hml hv
  obtain ⟨rfl, hsz, hP, hK, hD0⟩ := hv
  have hx := B.exec
  have hb := B.bytes
  have hr := B.returns
  have hts := atoms_spec (ws := wsX3_offer) B.pre
  have hown : s.vm.findClass RX3 = some m.cls := findClass_of_methodNamed B.named
  have hlocks := B.notSynchronized
  subst hsz
  have hD := hD0.self (sz := s.heap.size)
  generalize hAe : va_A [(m0, .inr (3, [.int k_paid, .ref ko, .ref kc, .ref w0])), (ko, .inl (kA 0, 6, .inl koF))] s.heap.size = A at hD ⊢
  have hA : ∀ q : Nat, s.heap.size ≤ q → A q := fun q h => by rw [← hAe]; exact Or.inr h
  have hS : va_S A s.heap s.heap [] := va_S.rf
  have hP : va_P (dC, dI) vwCl [(m0, .inr (3, [.int k_paid, .ref ko, .ref kc, .ref w0])), (ko, .inl (kA 0, 6, .inl koF))] s.heap := hP
  have hl := lv_entry ([.ref m0, .int p0, .int p1]) (n := 3) (Nat.le_of_ble_eq_true rfl)
  rw [lg_entry_eq]
  generalize (lg_sl ([.ref m0, .int p0, .int p1]) ++ List.replicate (3 - (lg_sl ([.ref m0, .int p0, .int p1])).length) Slot.unset).toArray = ls at hl ⊢
  have hl : lv_has ls 3 [(0, .ref m0), (1, .int p0), (2, .int p1)] := hl
  obtain ⟨G, hG0⟩ : ∃ G : (Nat → Int32), fX3_offer koF p0 p1 = G := ⟨_, rfl⟩
  have hG := hG0
  unfold fX3_offer at hG
  refine lv_iload_n hx hb dX3_offer_0 rfl (lv_at hl 2 rfl) ?_
  refine lv_if_lt (tgt := 22) hx hb dX3_offer_1 (by decide) (fun c_1 => ?_) (fun c_1 => ?_)
  · have hG := zthen hG c_1
    obtain ⟨hP9, hD9⟩ := z_sb (L' := [(m0, .inr (3, [.int k_paid, .ref ko, .ref kc, .ref w0])), (ko, .inl (kA 0, 6, .inl koF))]) hP hD [0, 1] (by decide) rfl
    refine W.widen (k := 0) (n := 0) (Nat.le_of_ble_eq_true rfl) (Nat.le_of_ble_eq_true rfl) ?_
    exact W.vret hx hb hr (fun t ht hW => ⟨⟨(koF), rfl, (hG.trans hG0.symm), by rw [ht]; exact hP9, hD9⟩, hS.F ht⟩) hS.2.2 dX3_offer_22
  · have hG := zelse hG c_1
    refine lv_iload_n hx hb dX3_offer_4 rfl (lv_at hl 2 rfl) ?_
    refine lv_bipush (v := 6) hx hb dX3_offer_5 (by decide) ?_
    refine lv_icmp_ge (tgt := 22) hx hb dX3_offer_7 (by decide) (fun c_2 => ?_) (fun c_2 => ?_)
    · have hG := zthen hG c_2
      obtain ⟨hP9, hD9⟩ := z_sb (L' := [(m0, .inr (3, [.int k_paid, .ref ko, .ref kc, .ref w0])), (ko, .inl (kA 0, 6, .inl koF))]) hP hD [0, 1] (by decide) rfl
      refine W.widen (k := 0) (n := 0) (Nat.le_of_ble_eq_true rfl) (Nat.le_of_ble_eq_true rfl) ?_
      exact W.vret hx hb hr (fun t ht hW => ⟨⟨(koF), rfl, (hG.trans hG0.symm), by rw [ht]; exact hP9, hD9⟩, hS.F ht⟩) hS.2.2 dX3_offer_22
    · have hG := zelse hG c_2
      refine lv_aload_n hx hb dX3_offer_10 rfl (lv_at hl 0 rfl) ?_
      refine va_get (D := (dC, dI)) (ci := 3) (v := .ref ko) (C := RX3) (T := TX3) (N := 4) hx hb hts iX3_offer_X3 hown hK.1 hP 0 rfl rfl 1 (by decide) (kX3_offer_1 hts) (fun _ h9 => h9) rfl dX3_offer_11 ?_
      refine lv_iload_n hx hb dX3_offer_14 rfl (lv_at hl 2 rfl) ?_
      refine lv_dup2_11 hx hb dX3_offer_15 rfl rfl ?_
      refine va_iald hx hb hK.1 hP 1 0 rfl rfl (vp_lt (by decide) c_1 c_2) dX3_offer_16 ?_
      refine lv_topi (fun x3 ex3 => ?_)
      have hG := zbnd hG ex3
      refine lv_iconst (v := 1) hx hb dX3_offer_17 (by decide) ?_
      refine lv_iload_n hx hb dX3_offer_18 rfl (lv_at hl 1 rfl) ?_
      refine lv_ishl hx hb dX3_offer_19 ?_
      refine lv_topi (fun x4 ex4 => ?_)
      have hG := zbnd hG ex4
      refine lv_ior hx hb dX3_offer_20 ?_
      refine va_iast hx hb hK.1 hP hD hS 1 0 rfl rfl (vp_lt (by decide) c_1 c_2) dX3_offer_21 (fun H locs hP hD hS => ?_)
      obtain ⟨hP, hD⟩ := z_re (L := [(m0, .inr (3, [.int k_paid, .ref ko, .ref kc, .ref w0])), (ko, .inl (kA 0, 6, .inl (upd koF p1.toNatClampNeg (x3 ||| x4))))]) hP hD
      obtain ⟨f5, ef5⟩ : ∃ y : Nat → Int32, y = (upd koF p1.toNatClampNeg (x3 ||| x4)) := ⟨_, rfl⟩
      rw [← ef5] at hP hD
      have hG := zbnd hG ef5
      obtain ⟨hP9, hD9⟩ := z_sb (L' := [(m0, .inr (3, [.int k_paid, .ref ko, .ref kc, .ref w0])), (ko, .inl (kA 0, 6, .inl f5))]) hP hD [0, 1] (by decide) rfl
      refine W.widen (k := 0) (n := 0) (Nat.le_of_ble_eq_true rfl) (Nat.le_of_ble_eq_true rfl) ?_
      exact W.vret hx hb hr (fun t ht hW => ⟨⟨(f5), rfl, (hG.trans hG0.symm), by rw [ht]; exact hP9, hD9⟩, hS.F ht⟩) hS.2.2 dX3_offer_22
set_option maxRecDepth 100000 in
def fX3_jarFor (kcF : Nat → Int32) (tordersS : Int32) (p0 : Int32) : Int32 := if (hs p0 tordersS) = 0 then ((-2)) else (if 6 ≤ p0 then ((-2)) else (bnd (kcF p0.toNatClampNeg) (fun (x6 : Int32) => x6)))
set_option maxHeartbeats 4000000 in
set_option maxRecDepth 100000 in
theorem mX3_jarFor (l : Launch) (dC : Nat → ClassId) (dI : Nat → Nat → Nat) (kA : Nat → ClassId) (sz : Nat) (m0 : Nat) (k_paid : Int32) (ko : Nat) (kc : Nat) (kcF : Nat → Int32) (w0 : Nat) (tnodes : Nat) (tpasses : Nat) (tjars : Nat) (torders : Nat) (tordersA : Nat) (tordersS : Int32) (tfeasts : Nat) (tway : Nat) (tws : Int32) (tnow : Int32) (tfm : Int32) (tx : Int32) (p0 : Int32)  : Met l yX3_jarFor wsX3_jarFor ({ frames := 1, cells := 0, slots := 0, locals := 21 }) (zPc dC dI kA sz [.ref m0, .int p0] [(m0, .inr (3, [.int k_paid, .ref ko, .ref kc, .ref w0])), (kc, .inl (kA 0, 6, .inl kcF)), (w0, .inr (9, [.ref tnodes, .ref tpasses, .ref tjars, .ref torders, .ref tfeasts, .ref tway, .int tws, .int tnow, .int tfm, .int tx])), (torders, .inr (6, [.int 4, .ref tordersA, .int tordersS]))]) (va_Qi (fun (r : Int32) (u : Int32) => r = u ∧ u = fX3_jarFor kcF tordersS p0) (zB dC dI (va_A [(m0, .inr (3, [.int k_paid, .ref ko, .ref kc, .ref w0])), (kc, .inl (kA 0, 6, .inl kcF)), (w0, .inr (9, [.ref tnodes, .ref tpasses, .ref tjars, .ref torders, .ref tfeasts, .ref tway, .int tws, .int tnow, .int tfm, .int tx])), (torders, .inr (6, [.int 4, .ref tordersA, .int tordersS]))] sz) (fun (u : Int32) => [(m0, .inr (3, [.int k_paid, .ref ko, .ref kc, .ref w0])), (kc, .inl (kA 0, 6, .inl kcF)), (w0, .inr (9, [.ref tnodes, .ref tpasses, .ref tjars, .ref torders, .ref tfeasts, .ref tway, .int tws, .int tnow, .int tfm, .int tx])), (torders, .inr (6, [.int 4, .ref tordersA, .int tordersS]))])) (va_A [(m0, .inr (3, [.int k_paid, .ref ko, .ref kc, .ref w0])), (kc, .inl (kA 0, 6, .inl kcF)), (w0, .inr (9, [.ref tnodes, .ref tpasses, .ref tjars, .ref torders, .ref tfeasts, .ref tway, .int tws, .int tnow, .int tfm, .int tx])), (torders, .inr (6, [.int 4, .ref tordersA, .int tordersS]))] sz)) 0 0 (va_A [(m0, .inr (3, [.int k_paid, .ref ko, .ref kc, .ref w0])), (kc, .inl (kA 0, 6, .inl kcF)), (w0, .inr (9, [.ref tnodes, .ref tpasses, .ref tjars, .ref torders, .ref tfeasts, .ref tway, .int tws, .int tnow, .int tfm, .int tx])), (torders, .inr (6, [.int 4, .ref tordersA, .int tordersS]))] sz) := by
  refine Met.ofW (cc := cX3_jarFor) (maxL := 2) (ret := (some .int)) (by decide) rfl ?_
  intro p e s m args below meth c s₁ B hml hv
  obtain ⟨rfl, hsz, hP, hK, hD0⟩ := hv
  have hx := B.exec
  have hb := B.bytes
  have hr := B.returns
  have hts := atoms_spec (ws := wsX3_jarFor) B.pre
  have hown : s.vm.findClass RX3 = some m.cls := findClass_of_methodNamed B.named
  have hlocks := B.notSynchronized
  subst hsz
  have hD := hD0.self (sz := s.heap.size)
  generalize hAe : va_A [(m0, .inr (3, [.int k_paid, .ref ko, .ref kc, .ref w0])), (kc, .inl (kA 0, 6, .inl kcF)), (w0, .inr (9, [.ref tnodes, .ref tpasses, .ref tjars, .ref torders, .ref tfeasts, .ref tway, .int tws, .int tnow, .int tfm, .int tx])), (torders, .inr (6, [.int 4, .ref tordersA, .int tordersS]))] s.heap.size = A at hD ⊢
  have hA : ∀ q : Nat, s.heap.size ≤ q → A q := fun q h => by rw [← hAe]; exact Or.inr h
  have hS : va_S A s.heap s.heap [] := va_S.rf
  have hP : va_P (dC, dI) vwCl [(m0, .inr (3, [.int k_paid, .ref ko, .ref kc, .ref w0])), (kc, .inl (kA 0, 6, .inl kcF)), (w0, .inr (9, [.ref tnodes, .ref tpasses, .ref tjars, .ref torders, .ref tfeasts, .ref tway, .int tws, .int tnow, .int tfm, .int tx])), (torders, .inr (6, [.int 4, .ref tordersA, .int tordersS]))] s.heap := hP
  have hl := lv_entry ([.ref m0, .int p0]) (n := 2) (Nat.le_of_ble_eq_true rfl)
  rw [lg_entry_eq]
  generalize (lg_sl ([.ref m0, .int p0]) ++ List.replicate (2 - (lg_sl ([.ref m0, .int p0])).length) Slot.unset).toArray = ls at hl ⊢
  have hl : lv_has ls 2 [(0, .ref m0), (1, .int p0)] := hl
  obtain ⟨G, hG0⟩ : ∃ G : Int32, fX3_jarFor kcF tordersS p0 = G := ⟨_, rfl⟩
  have hG := hG0
  unfold fX3_jarFor at hG
  refine lv_aload_n hx hb dX3_jarFor_0 rfl (lv_at hl 0 rfl) ?_
  refine va_get (D := (dC, dI)) (ci := 3) (v := .ref w0) (C := RX3) (T := TX3) (N := 4) hx hb hts iX3_jarFor_X3 hown hK.1 hP 0 rfl rfl 3 (by decide) (kX3_jarFor_1 hts) (fun _ h9 => h9) rfl dX3_jarFor_1 ?_
  refine va_get (D := (dC, dI)) (ci := 9) (v := .ref torders) (C := RX9) (T := TX9) (N := 10) hx hb hts iX3_jarFor_X9 hown hK.1 hP 2 rfl rfl 3 (by decide) (kX3_jarFor_2 hts) (fun _ h9 => h9) rfl dX3_jarFor_4 ?_
  refine lv_iload_n hx hb dX3_jarFor_7 rfl (lv_at hl 1 rfl) ?_
  refine z_i (wr := [(m0, .inr (3, [.int k_paid, .ref ko, .ref kc, .ref w0])), (kc, .inl (kA 0, 6, .inl kcF)), (w0, .inr (9, [.ref tnodes, .ref tpasses, .ref tjars, .ref torders, .ref tfeasts, .ref tway, .int tws, .int tnow, .int tfm, .int tx]))]) (va_runV (As := [.int p0]) (rest := []) ⟨hx, hb, hml, hown, hts⟩ (mX6_has l dC dI kA _ torders tordersA 4 tordersS p0) (cwV 1 hts gX3_jarFor_X6_has rfl rfl rfl ⟨rfl, hdX6_has⟩ ⟨(Nat.le_of_ble_eq_true rfl), (Nat.le_of_ble_eq_true rfl)⟩) ⟨zPc.blind, va_recv hK.1 hP (ci := 6) (q0 := 3) rfl rfl, zPre hK (hP.sub [3] rfl) (hD.sub [3] (by decide) rfl)⟩ rfl rfl hl.1 rfl (lv_room (Nat.le_of_ble_eq_true rfl)) dX3_jarFor_8 ⟨(Nat.le_of_ble_eq_true rfl), (Nat.le_of_ble_eq_true rfl)⟩) hP hD hS hA [3] [0, 1, 2] rfl rfl (by decide) (by decide) (fun r3 u1 H locs hw2 hP hD hS => ?_)
  obtain rfl := hw2
  obtain ⟨hP, hD⟩ := z_re (L := [(m0, .inr (3, [.int k_paid, .ref ko, .ref kc, .ref w0])), (kc, .inl (kA 0, 6, .inl kcF)), (w0, .inr (9, [.ref tnodes, .ref tpasses, .ref tjars, .ref torders, .ref tfeasts, .ref tway, .int tws, .int tnow, .int tfm, .int tx])), (torders, .inr (6, [.int 4, .ref tordersA, .int tordersS]))]) hP hD
  refine lv_if_eq (tgt := 29) hx hb dX3_jarFor_11 (by decide) (fun c_4 => ?_) (fun c_4 => ?_)
  · have hG := zthen hG c_4
    refine lv_bipush (v := (-2)) hx hb dX3_jarFor_29 (by decide) ?_
    obtain ⟨hP9, hD9⟩ := z_sb (L' := [(m0, .inr (3, [.int k_paid, .ref ko, .ref kc, .ref w0])), (kc, .inl (kA 0, 6, .inl kcF)), (w0, .inr (9, [.ref tnodes, .ref tpasses, .ref tjars, .ref torders, .ref tfeasts, .ref tway, .int tws, .int tnow, .int tfm, .int tx])), (torders, .inr (6, [.int 4, .ref tordersA, .int tordersS]))]) hP hD [0, 1, 2, 3] (by decide) rfl
    refine W.widen (k := 0) (n := 0) (Nat.le_of_ble_eq_true rfl) (Nat.le_of_ble_eq_true rfl) ?_
    exact W.iret (v := (-2)) hx hb hr (fun t ht hW => ⟨⟨(-2), ((-2)), rfl, ⟨rfl, (hG.trans hG0.symm)⟩, by rw [ht]; exact hP9, hD9⟩, hS.F ht⟩) hS.2.2 dX3_jarFor_31
  · have hG := zelse hG c_4
    have c_4a := hs_ne c_4
    have c_4b := c_4a.2
    have c_4a := c_4a.1
    refine lv_iload_n hx hb dX3_jarFor_14 rfl (lv_at hl 1 rfl) ?_
    refine lv_bipush (v := 6) hx hb dX3_jarFor_15 (by decide) ?_
    refine lv_icmp_ge (tgt := 29) hx hb dX3_jarFor_17 (by decide) (fun c_5 => ?_) (fun c_5 => ?_)
    · have hG := zthen hG c_5
      refine lv_bipush (v := (-2)) hx hb dX3_jarFor_29 (by decide) ?_
      obtain ⟨hP9, hD9⟩ := z_sb (L' := [(m0, .inr (3, [.int k_paid, .ref ko, .ref kc, .ref w0])), (kc, .inl (kA 0, 6, .inl kcF)), (w0, .inr (9, [.ref tnodes, .ref tpasses, .ref tjars, .ref torders, .ref tfeasts, .ref tway, .int tws, .int tnow, .int tfm, .int tx])), (torders, .inr (6, [.int 4, .ref tordersA, .int tordersS]))]) hP hD [0, 1, 2, 3] (by decide) rfl
      refine W.widen (k := 0) (n := 0) (Nat.le_of_ble_eq_true rfl) (Nat.le_of_ble_eq_true rfl) ?_
      exact W.iret (v := (-2)) hx hb hr (fun t ht hW => ⟨⟨(-2), ((-2)), rfl, ⟨rfl, (hG.trans hG0.symm)⟩, by rw [ht]; exact hP9, hD9⟩, hS.F ht⟩) hS.2.2 dX3_jarFor_31
    · have hG := zelse hG c_5
      refine lv_aload_n hx hb dX3_jarFor_20 rfl (lv_at hl 0 rfl) ?_
      refine va_get (D := (dC, dI)) (ci := 3) (v := .ref kc) (C := RX3) (T := TX3) (N := 4) hx hb hts iX3_jarFor_X3 hown hK.1 hP 0 rfl rfl 2 (by decide) (kX3_jarFor_3 hts) (fun _ h9 => h9) rfl dX3_jarFor_21 ?_
      refine lv_iload_n hx hb dX3_jarFor_24 rfl (lv_at hl 1 rfl) ?_
      refine va_iald hx hb hK.1 hP 1 0 rfl rfl (vp_lt (by decide) c_4a c_5) dX3_jarFor_25 ?_
      refine lv_topi (fun x6 ex6 => ?_)
      have hG := zbnd hG ex6
      refine lv_goto (tgt := 31) hx hb dX3_jarFor_26 (by decide) ?_
      obtain ⟨hP9, hD9⟩ := z_sb (L' := [(m0, .inr (3, [.int k_paid, .ref ko, .ref kc, .ref w0])), (kc, .inl (kA 0, 6, .inl kcF)), (w0, .inr (9, [.ref tnodes, .ref tpasses, .ref tjars, .ref torders, .ref tfeasts, .ref tway, .int tws, .int tnow, .int tfm, .int tx])), (torders, .inr (6, [.int 4, .ref tordersA, .int tordersS]))]) hP hD [0, 1, 2, 3] (by decide) rfl
      refine W.widen (k := 0) (n := 0) (Nat.le_of_ble_eq_true rfl) (Nat.le_of_ble_eq_true rfl) ?_
      exact W.iret (v := x6) hx hb hr (fun t ht hW => ⟨⟨x6, (x6), rfl, ⟨rfl, (hG.trans hG0.symm)⟩, by rw [ht]; exact hP9, hD9⟩, hS.F ht⟩) hS.2.2 dX3_jarFor_31
set_option maxRecDepth 100000 in
def fb_mX3_priceOf_4 (tordersF : Nat → Int32) (p0 : Int32) (E40 : Int32 → Int32 → Int32) (K : Int32 → Int32 → Int32) (l4_0 : Int32) (l4_1 : Int32) : Int32 := if 6 ≤ l4_0 then (E40 l4_0 l4_1) else (bnd ((p0 >>> (l4_0 &&& 31))) (fun (xy4_2 : Int32) => if (xy4_2 &&& 1) = 1 then (bnd (fX6_get_24 4 tordersF l4_0 3) (fun (ry4_7 : Int32) => bnd ((l4_1 + ry4_7)) (fun (xy4_12 : Int32) => bnd ((l4_0 + 1)) (fun (xy4_13 : Int32) => K xy4_13 xy4_12)))) else (bnd ((l4_0 + 1)) (fun (xy4_4 : Int32) => K xy4_4 l4_1))))
def fl_mX3_priceOf_4 (tordersF : Nat → Int32) (p0 : Int32) (E40 : Int32 → Int32 → Int32) : Nat → Int32 → Int32 → Int32
  | 0, _, _ => 0
  | n + 1, l4_0, l4_1 => fb_mX3_priceOf_4 tordersF p0 E40 (fl_mX3_priceOf_4 tordersF p0 E40 n) l4_0 l4_1
set_option maxHeartbeats 4000000 in
set_option maxRecDepth 100000 in
theorem lp_mX3_priceOf_4 {p : Program} {l : Launch} {e : Env} {R : Room} {s : State} {m : MethodId} {args : Array Value} {below : List Frame} {meth : Method} {c : Code} {Q : State → Prop} {dC : Nat → ClassId} {dI : Nat → Nat → Nat} {kA : Nat → ClassId} {A : Nat → Prop} {H0 : Heap} {cells slots : Nat} (hx : p.tables.exec = Jvm.exec) (hb : c.code = cX3_priceOf) (hml : c.maxLocals = 4) (hts : ∀ w ∈ wsX3_priceOf, w.before args s = true) (hown : s.vm.findClass RX3 = some m.cls) (hK : zK dC dI kA s) (hA : ∀ q, H0.size ≤ q → A q) (hRf : 1 ≤ R.frames) (hRl : 23 ≤ R.locals) (hRc : cells ≤ R.cells) (hRs : slots ≤ R.slots) (m0 : Nat) (k_paid : Int32) (ko : Nat) (kc : Nat) (w0 : Nat) (tnodes : Nat) (tpasses : Nat) (tjars : Nat) (torders : Nat) (tordersA : Nat) (tordersS : Int32) (tordersF : Nat → Int32) (tfeasts : Nat) (tway : Nat) (tws : Int32) (tnow : Int32) (tfm : Int32) (tx : Int32) (p0 : Int32) {G : Int32} {E40 : Int32 → Int32 → Int32}  (k40 : ∀ (w40_0 : Int32) (w40_1 : Int32) (H : Heap) (locs : List Loc) (ls : Array Slot), ¬ w40_0 < 0 → E40 w40_0 w40_1 = G → va_P (dC, dI) vwCl [(m0, .inr (3, [.int k_paid, .ref ko, .ref kc, .ref w0])), (w0, .inr (9, [.ref tnodes, .ref tpasses, .ref tjars, .ref torders, .ref tfeasts, .ref tway, .int tws, .int tnow, .int tfm, .int tx])), (torders, .inr (6, [.int 4, .ref tordersA, .int tordersS])), (tordersA, .inl (kA 0, 24, .inl tordersF))] H → va_D A [(m0, .inr (3, [.int k_paid, .ref ko, .ref kc, .ref w0])), (w0, .inr (9, [.ref tnodes, .ref tpasses, .ref tjars, .ref torders, .ref tfeasts, .ref tway, .int tws, .int tnow, .int tfm, .int tx])), (torders, .inr (6, [.int 4, .ref tordersA, .int tordersS])), (tordersA, .inl (kA 0, 24, .inl tordersF))] → va_S A H0 H locs → lv_has ls 4 [(3, .int w40_0), (2, .int w40_1), (0, .ref m0), (1, .int p0)] → W p l e R s m args below meth c H locs cells slots Q (F0 m 40 ls []))  : ∀ (n : Nat) (l4_0 : Int32) (l4_1 : Int32) (H : Heap) (locs : List Loc) (ls : Array Slot), ((6 : Int32).toInt - l4_0.toInt).toNat < n → fl_mX3_priceOf_4 tordersF p0 E40 n l4_0 l4_1 = G → ¬ l4_0 < 0 → va_P (dC, dI) vwCl [(m0, .inr (3, [.int k_paid, .ref ko, .ref kc, .ref w0])), (w0, .inr (9, [.ref tnodes, .ref tpasses, .ref tjars, .ref torders, .ref tfeasts, .ref tway, .int tws, .int tnow, .int tfm, .int tx])), (torders, .inr (6, [.int 4, .ref tordersA, .int tordersS])), (tordersA, .inl (kA 0, 24, .inl tordersF))] H → va_D A [(m0, .inr (3, [.int k_paid, .ref ko, .ref kc, .ref w0])), (w0, .inr (9, [.ref tnodes, .ref tpasses, .ref tjars, .ref torders, .ref tfeasts, .ref tway, .int tws, .int tnow, .int tfm, .int tx])), (torders, .inr (6, [.int 4, .ref tordersA, .int tordersS])), (tordersA, .inl (kA 0, 24, .inl tordersF))] → va_S A H0 H locs → lv_has ls 4 [(3, .int l4_0), (2, .int l4_1), (0, .ref m0), (1, .int p0)] → W p l e R s m args below meth c H locs cells slots Q (F0 m 4 ls []) := by
  intro n
  induction n with
  | zero =>
    intro l4_0 l4_1 H locs ls hn
    exact absurd hn (Nat.not_lt_zero _)
  | succ n ih =>
    intro l4_0 l4_1 H locs ls hn hG hi4 hP hD hS hl
    have hG : fb_mX3_priceOf_4 tordersF p0 E40 (fl_mX3_priceOf_4 tordersF p0 E40 n) l4_0 l4_1 = G := hG
    unfold fb_mX3_priceOf_4 at hG
    refine lv_iload_n hx hb dX3_priceOf_4 rfl (lv_at hl 0 rfl) ?_
    refine lv_bipush (v := 6) hx hb dX3_priceOf_5 (by decide) ?_
    refine lv_icmp_ge (tgt := 40) hx hb dX3_priceOf_7 (by decide) (fun c_y4_1 => ?_) (fun c_y4_1 => ?_)
    · have hG := zthen hG c_y4_1
      exact k40 l4_0 l4_1 H locs ls hi4 hG (hP.sub [0, 1, 2, 3] rfl) (hD.sub [0, 1, 2, 3] (by decide) rfl) hS (lv_sub hl [0, 1, 2, 3] rfl)
    · have hG := zelse hG c_y4_1
      refine lv_iload_n hx hb dX3_priceOf_10 rfl (lv_at hl 3 rfl) ?_
      refine lv_iload_n hx hb dX3_priceOf_11 rfl (lv_at hl 0 rfl) ?_
      refine lv_ishr hx hb dX3_priceOf_12 ?_
      refine lv_topi (fun xy4_2 exy4_2 => ?_)
      have hG := zbnd hG exy4_2
      refine lv_iconst (v := 1) hx hb dX3_priceOf_13 (by decide) ?_
      refine lv_iand hx hb dX3_priceOf_14 ?_
      refine lv_iconst (v := 1) hx hb dX3_priceOf_15 (by decide) ?_
      refine lv_icmp_ne (tgt := 34) hx hb dX3_priceOf_16 (by decide) (fun c_y4_3 => ?_) (fun c_y4_3 => ?_)
      · have hG := zelse hG c_y4_3
        obtain ⟨xy4_4, exy4_4⟩ : ∃ y : Int32, y = l4_0 + 1 := ⟨_, rfl⟩
        have hG := zbnd hG exy4_4
        refine lv_iinc (v := xy4_4) (lv' := [(3, .int xy4_4), (2, .int l4_1), (0, .ref m0), (1, .int p0)]) hx hb dX3_priceOf_34 hl (k := 0) rfl (by rw [exy4_4]; rfl) (by decide) rfl (fun ls hl => ?_)
        refine lv_goto (tgt := 4) hx hb dX3_priceOf_37 (by decide) ?_
        exact ih xy4_4 l4_1 H locs ls (z_up hn exy4_4 c_y4_1) hG (z_nn exy4_4 c_y4_1 hi4) (hP.sub [0, 1, 2, 3] rfl) (hD.sub [0, 1, 2, 3] (by decide) rfl) hS (lv_sub hl [0, 1, 2, 3] rfl)
      · have hG := zthen hG c_y4_3
        refine lv_iload_n hx hb dX3_priceOf_19 rfl (lv_at hl 1 rfl) ?_
        refine lv_aload_n hx hb dX3_priceOf_20 rfl (lv_at hl 2 rfl) ?_
        refine va_get (D := (dC, dI)) (ci := 3) (v := .ref w0) (C := RX3) (T := TX3) (N := 4) hx hb hts iX3_priceOf_X3 hown hK.1 hP 0 rfl rfl 3 (by decide) (kX3_priceOf_1 hts) (fun _ h9 => h9) rfl dX3_priceOf_21 ?_
        refine va_get (D := (dC, dI)) (ci := 9) (v := .ref torders) (C := RX9) (T := TX9) (N := 10) hx hb hts iX3_priceOf_X9 hown hK.1 hP 1 rfl rfl 3 (by decide) (kX3_priceOf_2 hts) (fun _ h9 => h9) rfl dX3_priceOf_24 ?_
        refine lv_iload_n hx hb dX3_priceOf_27 rfl (lv_at hl 0 rfl) ?_
        refine lv_iconst (v := 3) hx hb dX3_priceOf_28 (by decide) ?_
        refine z_i (wr := [(m0, .inr (3, [.int k_paid, .ref ko, .ref kc, .ref w0])), (w0, .inr (9, [.ref tnodes, .ref tpasses, .ref tjars, .ref torders, .ref tfeasts, .ref tway, .int tws, .int tnow, .int tfm, .int tx]))]) (va_runV (As := [.int l4_0, .int 3]) (rest := [.int l4_1]) ⟨hx, hb, hml, hown, hts⟩ (mX6_get_24 l dC dI kA _ torders tordersA 4 tordersS tordersF l4_0 3) (cwV 2 hts gX3_priceOf_X6_get rfl rfl rfl ⟨rfl, hdX6_get⟩ ⟨(Nat.le_trans (Nat.le_of_ble_eq_true rfl) hRf), (Nat.le_trans (Nat.le_of_ble_eq_true rfl) hRl)⟩) ⟨zPc.blind, va_recv hK.1 hP (ci := 6) (q0 := 2) rfl rfl, zPre hK (hP.sub [2, 3] rfl) (hD.sub [2, 3] (by decide) rfl)⟩ rfl rfl hl.1 rfl (lv_room (Nat.le_of_ble_eq_true rfl)) dX3_priceOf_29 ⟨hRc, hRs⟩) hP hD hS hA [2, 3] [0, 1] rfl rfl (by decide) (by decide) (fun ry4_7 uy4_5 H locs hwy4_6 hP hD hS => ?_)
        obtain ⟨ery4_10, hpy4_9⟩ := hwy4_6
        have ery4_10 : ry4_7 = uy4_5 := ery4_10
        subst ery4_10
        have ery4_7 : ry4_7 = fX6_get_24 4 tordersF l4_0 3 := hpy4_9
        have hG := zbnd hG ery4_7
        obtain ⟨hP, hD⟩ := z_re (L := [(m0, .inr (3, [.int k_paid, .ref ko, .ref kc, .ref w0])), (w0, .inr (9, [.ref tnodes, .ref tpasses, .ref tjars, .ref torders, .ref tfeasts, .ref tway, .int tws, .int tnow, .int tfm, .int tx])), (torders, .inr (6, [.int 4, .ref tordersA, .int tordersS])), (tordersA, .inl (kA 0, 24, .inl tordersF))]) hP hD
        refine lv_iadd hx hb dX3_priceOf_32 ?_
        refine lv_topi (fun xy4_12 exy4_12 => ?_)
        have hG := zbnd hG exy4_12
        refine lv_istore_n (lv' := [(2, .int xy4_12), (3, .int l4_0), (0, .ref m0), (1, .int p0)]) hx hb dX3_priceOf_33 rfl hl (by decide) rfl (fun ls hl => ?_)
        obtain ⟨xy4_13, exy4_13⟩ : ∃ y : Int32, y = l4_0 + 1 := ⟨_, rfl⟩
        have hG := zbnd hG exy4_13
        refine lv_iinc (v := xy4_13) (lv' := [(3, .int xy4_13), (2, .int xy4_12), (0, .ref m0), (1, .int p0)]) hx hb dX3_priceOf_34 hl (k := 1) rfl (by rw [exy4_13]; rfl) (by decide) rfl (fun ls hl => ?_)
        refine lv_goto (tgt := 4) hx hb dX3_priceOf_37 (by decide) ?_
        exact ih xy4_13 xy4_12 H locs ls (z_up hn exy4_13 c_y4_1) hG (z_nn exy4_13 c_y4_1 hi4) (hP.sub [0, 1, 2, 3] rfl) (hD.sub [0, 1, 2, 3] (by decide) rfl) hS (lv_sub hl [0, 1, 2, 3] rfl)
set_option maxRecDepth 100000 in
def fX3_priceOf (tordersF : Nat → Int32) (p0 : Int32) : Int32 := fl_mX3_priceOf_4 tordersF p0 (fun (w40_0_0 : Int32) (w40_1_0 : Int32) => w40_1_0) (((6 : Int32).toInt - (0 : Int32).toInt).toNat + 1) 0 0
set_option maxHeartbeats 4000000 in
set_option maxRecDepth 100000 in
theorem mX3_priceOf (l : Launch) (dC : Nat → ClassId) (dI : Nat → Nat → Nat) (kA : Nat → ClassId) (sz : Nat) (m0 : Nat) (k_paid : Int32) (ko : Nat) (kc : Nat) (w0 : Nat) (tnodes : Nat) (tpasses : Nat) (tjars : Nat) (torders : Nat) (tordersA : Nat) (tordersS : Int32) (tordersF : Nat → Int32) (tfeasts : Nat) (tway : Nat) (tws : Int32) (tnow : Int32) (tfm : Int32) (tx : Int32) (p0 : Int32)  : Met l yX3_priceOf wsX3_priceOf ({ frames := 1, cells := 0, slots := 0, locals := 23 }) (zPc dC dI kA sz [.ref m0, .int p0] [(m0, .inr (3, [.int k_paid, .ref ko, .ref kc, .ref w0])), (w0, .inr (9, [.ref tnodes, .ref tpasses, .ref tjars, .ref torders, .ref tfeasts, .ref tway, .int tws, .int tnow, .int tfm, .int tx])), (torders, .inr (6, [.int 4, .ref tordersA, .int tordersS])), (tordersA, .inl (kA 0, 24, .inl tordersF))]) (va_Qi (fun (r : Int32) (u : Int32) => r = u ∧ u = fX3_priceOf tordersF p0) (zB dC dI (va_A [(m0, .inr (3, [.int k_paid, .ref ko, .ref kc, .ref w0])), (w0, .inr (9, [.ref tnodes, .ref tpasses, .ref tjars, .ref torders, .ref tfeasts, .ref tway, .int tws, .int tnow, .int tfm, .int tx])), (torders, .inr (6, [.int 4, .ref tordersA, .int tordersS])), (tordersA, .inl (kA 0, 24, .inl tordersF))] sz) (fun (u : Int32) => [(m0, .inr (3, [.int k_paid, .ref ko, .ref kc, .ref w0])), (w0, .inr (9, [.ref tnodes, .ref tpasses, .ref tjars, .ref torders, .ref tfeasts, .ref tway, .int tws, .int tnow, .int tfm, .int tx])), (torders, .inr (6, [.int 4, .ref tordersA, .int tordersS])), (tordersA, .inl (kA 0, 24, .inl tordersF))])) (va_A [(m0, .inr (3, [.int k_paid, .ref ko, .ref kc, .ref w0])), (w0, .inr (9, [.ref tnodes, .ref tpasses, .ref tjars, .ref torders, .ref tfeasts, .ref tway, .int tws, .int tnow, .int tfm, .int tx])), (torders, .inr (6, [.int 4, .ref tordersA, .int tordersS])), (tordersA, .inl (kA 0, 24, .inl tordersF))] sz)) 0 0 (va_A [(m0, .inr (3, [.int k_paid, .ref ko, .ref kc, .ref w0])), (w0, .inr (9, [.ref tnodes, .ref tpasses, .ref tjars, .ref torders, .ref tfeasts, .ref tway, .int tws, .int tnow, .int tfm, .int tx])), (torders, .inr (6, [.int 4, .ref tordersA, .int tordersS])), (tordersA, .inl (kA 0, 24, .inl tordersF))] sz) := by
  refine Met.ofW (cc := cX3_priceOf) (maxL := 4) (ret := (some .int)) (by decide) rfl ?_
  intro p e s m args below meth c s₁ B hml hv
  obtain ⟨rfl, hsz, hP, hK, hD0⟩ := hv
  have hx := B.exec
  have hb := B.bytes
  have hr := B.returns
  have hts := atoms_spec (ws := wsX3_priceOf) B.pre
  have hown : s.vm.findClass RX3 = some m.cls := findClass_of_methodNamed B.named
  have hlocks := B.notSynchronized
  subst hsz
  have hD := hD0.self (sz := s.heap.size)
  generalize hAe : va_A [(m0, .inr (3, [.int k_paid, .ref ko, .ref kc, .ref w0])), (w0, .inr (9, [.ref tnodes, .ref tpasses, .ref tjars, .ref torders, .ref tfeasts, .ref tway, .int tws, .int tnow, .int tfm, .int tx])), (torders, .inr (6, [.int 4, .ref tordersA, .int tordersS])), (tordersA, .inl (kA 0, 24, .inl tordersF))] s.heap.size = A at hD ⊢
  have hA : ∀ q : Nat, s.heap.size ≤ q → A q := fun q h => by rw [← hAe]; exact Or.inr h
  have hS : va_S A s.heap s.heap [] := va_S.rf
  have hP : va_P (dC, dI) vwCl [(m0, .inr (3, [.int k_paid, .ref ko, .ref kc, .ref w0])), (w0, .inr (9, [.ref tnodes, .ref tpasses, .ref tjars, .ref torders, .ref tfeasts, .ref tway, .int tws, .int tnow, .int tfm, .int tx])), (torders, .inr (6, [.int 4, .ref tordersA, .int tordersS])), (tordersA, .inl (kA 0, 24, .inl tordersF))] s.heap := hP
  have hl := lv_entry ([.ref m0, .int p0]) (n := 4) (Nat.le_of_ble_eq_true rfl)
  rw [lg_entry_eq]
  generalize (lg_sl ([.ref m0, .int p0]) ++ List.replicate (4 - (lg_sl ([.ref m0, .int p0])).length) Slot.unset).toArray = ls at hl ⊢
  have hl : lv_has ls 4 [(0, .ref m0), (1, .int p0)] := hl
  obtain ⟨H, hHe⟩ : ∃ H : Heap, H = s.heap := ⟨_, rfl⟩
  obtain ⟨G, hG0⟩ : ∃ G : Int32, fX3_priceOf tordersF p0 = G := ⟨_, rfl⟩
  have hG := hG0
  unfold fX3_priceOf at hG
  refine lv_iconst (v := 0) hx hb dX3_priceOf_0 (by decide) ?_
  refine lv_istore_n (lv' := [(2, .int 0), (0, .ref m0), (1, .int p0)]) hx hb dX3_priceOf_1 rfl hl (by decide) rfl (fun ls hl => ?_)
  refine lv_iconst (v := 0) hx hb dX3_priceOf_2 (by decide) ?_
  refine lv_istore_n (lv' := [(3, .int 0), (2, .int 0), (0, .ref m0), (1, .int p0)]) hx hb dX3_priceOf_3 rfl hl (by decide) rfl (fun ls hl => ?_)
  refine lp_mX3_priceOf_4 hx hb hml hts hown hK hA (Nat.le_of_ble_eq_true rfl) (Nat.le_of_ble_eq_true rfl) (Nat.le_of_ble_eq_true rfl) (Nat.le_of_ble_eq_true rfl) m0 k_paid ko kc w0 tnodes tpasses tjars torders tordersA tordersS tordersF tfeasts tway tws tnow tfm tx p0  (fun w40_0_0 w40_1_0 H locs ls hx40_3_nlt00_0 hG hP hD hS hl => ?_) _ 0 0 _ _ ls (Nat.lt_succ_self _) hG (by decide) hP hD hS (lv_sub hl [0, 1, 2, 3] rfl)
  obtain ⟨hP, hD⟩ := z_re (L := [(m0, .inr (3, [.int k_paid, .ref ko, .ref kc, .ref w0])), (w0, .inr (9, [.ref tnodes, .ref tpasses, .ref tjars, .ref torders, .ref tfeasts, .ref tway, .int tws, .int tnow, .int tfm, .int tx])), (torders, .inr (6, [.int 4, .ref tordersA, .int tordersS])), (tordersA, .inl (kA 0, 24, .inl tordersF))]) hP hD
  refine lv_iload_n hx hb dX3_priceOf_40 rfl (lv_at hl 1 rfl) ?_
  obtain ⟨hP9, hD9⟩ := z_sb (L' := [(m0, .inr (3, [.int k_paid, .ref ko, .ref kc, .ref w0])), (w0, .inr (9, [.ref tnodes, .ref tpasses, .ref tjars, .ref torders, .ref tfeasts, .ref tway, .int tws, .int tnow, .int tfm, .int tx])), (torders, .inr (6, [.int 4, .ref tordersA, .int tordersS])), (tordersA, .inl (kA 0, 24, .inl tordersF))]) hP hD [0, 1, 2, 3] (by decide) rfl
  refine W.widen (k := 0) (n := 0) (Nat.le_of_ble_eq_true rfl) (Nat.le_of_ble_eq_true rfl) ?_
  exact W.iret (v := w40_1_0) hx hb hr (fun t ht hW => ⟨⟨w40_1_0, (w40_1_0), rfl, ⟨rfl, (hG.trans hG0.symm)⟩, by rw [ht]; exact hP9, hD9⟩, hS.F ht⟩) hS.2.2 dX3_priceOf_41
set_option maxRecDepth 100000 in
def fJ6_bitCount_0f7a4 (p0 : Int32) : Int32 := bnd ((((p0 : Int32).toUInt32 >>> ((1 : Int32).toUInt32 &&& Int32.toUInt32 31)).toInt32)) (fun (x1 : Int32) => bnd ((p0 - (x1 &&& 1431655765))) (fun (x2 : Int32) => bnd ((((x2 : Int32).toUInt32 >>> ((2 : Int32).toUInt32 &&& Int32.toUInt32 31)).toInt32)) (fun (x3 : Int32) => bnd (((x2 &&& 858993459) + (x3 &&& 858993459))) (fun (x4 : Int32) => bnd ((((x4 : Int32).toUInt32 >>> ((4 : Int32).toUInt32 &&& Int32.toUInt32 31)).toInt32)) (fun (x5 : Int32) => bnd (((x4 + x5) &&& 252645135)) (fun (x6 : Int32) => bnd ((((x6 : Int32).toUInt32 >>> ((8 : Int32).toUInt32 &&& Int32.toUInt32 31)).toInt32)) (fun (x7 : Int32) => bnd ((x6 + x7)) (fun (x8 : Int32) => bnd ((((x8 : Int32).toUInt32 >>> ((16 : Int32).toUInt32 &&& Int32.toUInt32 31)).toInt32)) (fun (x9 : Int32) => bnd ((x8 + x9)) (fun (x10 : Int32) => (x10 &&& 63)))))))))))
set_option maxHeartbeats 4000000 in
set_option maxRecDepth 100000 in
theorem mJ6_bitCount_0f7a4 (l : Launch) (dC : Nat → ClassId) (dI : Nat → Nat → Nat) (kA : Nat → ClassId) (sz : Nat) (p0 : Int32)  : Met l yJ6_bitCount_0f7a4 wsJ6_bitCount_0f7a4 ({ frames := 0, cells := 0, slots := 0, locals := 0 }) (zPc dC dI kA sz [.int p0] []) (va_Qi (fun (r : Int32) (u : Int32) => r = u ∧ u = fJ6_bitCount_0f7a4 p0) (zB dC dI (va_A [] sz) (fun (u : Int32) => [])) (va_A [] sz)) 0 0 (va_A [] sz) := by
  refine Met.ofW (cc := cJ6_bitCount_0f7a4) (maxL := 1) (ret := (some .int)) (by decide) rfl ?_
  intro p e s m args below meth c s₁ B hml hv
  obtain ⟨rfl, hsz, hP, hK, hD0⟩ := hv
  have hx := B.exec
  have hb := B.bytes
  have hr := B.returns
  have hts := atoms_spec (ws := wsJ6_bitCount_0f7a4) B.pre
  have hown : s.vm.findClass RJ6 = some m.cls := findClass_of_methodNamed B.named
  have hlocks := B.notSynchronized
  subst hsz
  have hD := hD0.self (sz := s.heap.size)
  generalize hAe : va_A [] s.heap.size = A at hD ⊢
  have hA : ∀ q : Nat, s.heap.size ≤ q → A q := fun q h => by rw [← hAe]; exact Or.inr h
  have hS : va_S A s.heap s.heap [] := va_S.rf
  have hP : va_P (dC, dI) vwCl [] s.heap := hP
  have hl := lv_entry ([.int p0]) (n := 1) (Nat.le_of_ble_eq_true rfl)
  rw [lg_entry_eq]
  generalize (lg_sl ([.int p0]) ++ List.replicate (1 - (lg_sl ([.int p0])).length) Slot.unset).toArray = ls at hl ⊢
  have hl : lv_has ls 1 [(0, .int p0)] := hl
  obtain ⟨G, hG0⟩ : ∃ G : Int32, fJ6_bitCount_0f7a4 p0 = G := ⟨_, rfl⟩
  have hG := hG0
  unfold fJ6_bitCount_0f7a4 at hG
  refine lv_iload_n hx hb dJ6_bitCount_0f7a4_0 rfl (lv_at hl 0 rfl) ?_
  refine lv_iload_n hx hb dJ6_bitCount_0f7a4_1 rfl (lv_at hl 0 rfl) ?_
  refine lv_iconst (v := 1) hx hb dJ6_bitCount_0f7a4_2 (by decide) ?_
  refine lv_iushr hx hb dJ6_bitCount_0f7a4_3 rfl ?_
  refine lv_topi (fun x1 ex1 => ?_)
  have hG := zbnd hG ex1
  refine lv_ldcw hx hb hown (kJ6_bitCount_0f7a4_1 hts) dJ6_bitCount_0f7a4_4 ?_
  refine lv_iand hx hb dJ6_bitCount_0f7a4_7 ?_
  refine lv_isub hx hb dJ6_bitCount_0f7a4_8 ?_
  refine lv_topi (fun x2 ex2 => ?_)
  have hG := zbnd hG ex2
  refine lv_istore_n (lv' := [(0, .int x2)]) hx hb dJ6_bitCount_0f7a4_9 rfl hl (by decide) rfl (fun ls hl => ?_)
  refine lv_iload_n hx hb dJ6_bitCount_0f7a4_10 rfl (lv_at hl 0 rfl) ?_
  refine lv_ldcw hx hb hown (kJ6_bitCount_0f7a4_2 hts) dJ6_bitCount_0f7a4_11 ?_
  refine lv_iand hx hb dJ6_bitCount_0f7a4_14 ?_
  refine lv_iload_n hx hb dJ6_bitCount_0f7a4_15 rfl (lv_at hl 0 rfl) ?_
  refine lv_iconst (v := 2) hx hb dJ6_bitCount_0f7a4_16 (by decide) ?_
  refine lv_iushr hx hb dJ6_bitCount_0f7a4_17 rfl ?_
  refine lv_topi (fun x3 ex3 => ?_)
  have hG := zbnd hG ex3
  refine lv_ldcw hx hb hown (kJ6_bitCount_0f7a4_2 hts) dJ6_bitCount_0f7a4_18 ?_
  refine lv_iand hx hb dJ6_bitCount_0f7a4_21 ?_
  refine lv_iadd hx hb dJ6_bitCount_0f7a4_22 ?_
  refine lv_topi (fun x4 ex4 => ?_)
  have hG := zbnd hG ex4
  refine lv_istore_n (lv' := [(0, .int x4)]) hx hb dJ6_bitCount_0f7a4_23 rfl hl (by decide) rfl (fun ls hl => ?_)
  refine lv_iload_n hx hb dJ6_bitCount_0f7a4_24 rfl (lv_at hl 0 rfl) ?_
  refine lv_iload_n hx hb dJ6_bitCount_0f7a4_25 rfl (lv_at hl 0 rfl) ?_
  refine lv_iconst (v := 4) hx hb dJ6_bitCount_0f7a4_26 (by decide) ?_
  refine lv_iushr hx hb dJ6_bitCount_0f7a4_27 rfl ?_
  refine lv_topi (fun x5 ex5 => ?_)
  have hG := zbnd hG ex5
  refine lv_iadd hx hb dJ6_bitCount_0f7a4_28 ?_
  refine lv_ldcw hx hb hown (kJ6_bitCount_0f7a4_3 hts) dJ6_bitCount_0f7a4_29 ?_
  refine lv_iand hx hb dJ6_bitCount_0f7a4_32 ?_
  refine lv_topi (fun x6 ex6 => ?_)
  have hG := zbnd hG ex6
  refine lv_istore_n (lv' := [(0, .int x6)]) hx hb dJ6_bitCount_0f7a4_33 rfl hl (by decide) rfl (fun ls hl => ?_)
  refine lv_iload_n hx hb dJ6_bitCount_0f7a4_34 rfl (lv_at hl 0 rfl) ?_
  refine lv_iload_n hx hb dJ6_bitCount_0f7a4_35 rfl (lv_at hl 0 rfl) ?_
  refine lv_bipush (v := 8) hx hb dJ6_bitCount_0f7a4_36 (by decide) ?_
  refine lv_iushr hx hb dJ6_bitCount_0f7a4_38 rfl ?_
  refine lv_topi (fun x7 ex7 => ?_)
  have hG := zbnd hG ex7
  refine lv_iadd hx hb dJ6_bitCount_0f7a4_39 ?_
  refine lv_topi (fun x8 ex8 => ?_)
  have hG := zbnd hG ex8
  refine lv_istore_n (lv' := [(0, .int x8)]) hx hb dJ6_bitCount_0f7a4_40 rfl hl (by decide) rfl (fun ls hl => ?_)
  refine lv_iload_n hx hb dJ6_bitCount_0f7a4_41 rfl (lv_at hl 0 rfl) ?_
  refine lv_iload_n hx hb dJ6_bitCount_0f7a4_42 rfl (lv_at hl 0 rfl) ?_
  refine lv_bipush (v := 16) hx hb dJ6_bitCount_0f7a4_43 (by decide) ?_
  refine lv_iushr hx hb dJ6_bitCount_0f7a4_45 rfl ?_
  refine lv_topi (fun x9 ex9 => ?_)
  have hG := zbnd hG ex9
  refine lv_iadd hx hb dJ6_bitCount_0f7a4_46 ?_
  refine lv_topi (fun x10 ex10 => ?_)
  have hG := zbnd hG ex10
  refine lv_istore_n (lv' := [(0, .int x10)]) hx hb dJ6_bitCount_0f7a4_47 rfl hl (by decide) rfl (fun ls hl => ?_)
  refine lv_iload_n hx hb dJ6_bitCount_0f7a4_48 rfl (lv_at hl 0 rfl) ?_
  refine lv_bipush (v := 63) hx hb dJ6_bitCount_0f7a4_49 (by decide) ?_
  refine lv_iand hx hb dJ6_bitCount_0f7a4_51 ?_
  obtain ⟨hP9, hD9⟩ := z_sb (L' := []) hP hD [] (by decide) rfl
  refine W.widen (k := 0) (n := 0) (Nat.le_of_ble_eq_true rfl) (Nat.le_of_ble_eq_true rfl) ?_
  exact W.iret (v := (x10 &&& 63)) hx hb hr (fun t ht hW => ⟨⟨(x10 &&& 63), ((x10 &&& 63)), rfl, ⟨rfl, (hG.trans hG0.symm)⟩, by rw [ht]; exact hP9, hD9⟩, hS.F ht⟩) hS.2.2 dJ6_bitCount_0f7a4_52
set_option maxRecDepth 100000 in
def fb_mX3_canServe_12 (koF : Nat → Int32) (l2_0 : Int32) (E47 : Int32 → Int32 → Int32) (K : Int32 → Int32 → Int32) (l12_0 : Int32) (l12_1 : Int32) : Int32 := if 6 ≤ l12_0 then (E47 l12_0 l12_1) else (bnd ((l2_0 >>> (l12_0 &&& 31))) (fun (xy12_2 : Int32) => if (xy12_2 &&& 1) = 1 then (bnd (koF l12_0.toNatClampNeg) (fun (xy12_5 : Int32) => bnd ((l12_1 ||| xy12_5)) (fun (xy12_6 : Int32) => bnd ((l12_0 + 1)) (fun (xy12_7 : Int32) => K xy12_7 xy12_6)))) else (bnd ((l12_0 + 1)) (fun (xy12_4 : Int32) => K xy12_4 l12_1))))
def fl_mX3_canServe_12 (koF : Nat → Int32) (l2_0 : Int32) (E47 : Int32 → Int32 → Int32) : Nat → Int32 → Int32 → Int32
  | 0, _, _ => 0
  | n + 1, l12_0, l12_1 => fb_mX3_canServe_12 koF l2_0 E47 (fl_mX3_canServe_12 koF l2_0 E47 n) l12_0 l12_1
set_option maxHeartbeats 4000000 in
set_option maxRecDepth 100000 in
theorem lp_mX3_canServe_12 {p : Program} {l : Launch} {e : Env} {R : Room} {s : State} {m : MethodId} {args : Array Value} {below : List Frame} {meth : Method} {c : Code} {Q : State → Prop} {dC : Nat → ClassId} {dI : Nat → Nat → Nat} {kA : Nat → ClassId} {A : Nat → Prop} {H0 : Heap} {cells slots : Nat} (hx : p.tables.exec = Jvm.exec) (hb : c.code = cX3_canServe) (hml : c.maxLocals = 6) (hts : ∀ w ∈ wsX3_canServe, w.before args s = true) (hown : s.vm.findClass RX3 = some m.cls) (hK : zK dC dI kA s) (hA : ∀ q, H0.size ≤ q → A q) (hRf : 0 ≤ R.frames) (hRl : 0 ≤ R.locals) (hRc : cells ≤ R.cells) (hRs : slots ≤ R.slots) (m0 : Nat) (k_paid : Int32) (ko : Nat) (kc : Nat) (koF : Nat → Int32) (w0 : Nat) (p0 : Int32) (p1 : Int32) (l2_0 : Int32) {G : Int32} {E47 : Int32 → Int32 → Int32} (c_y2_1 : ¬ l2_0 ≤ 0) (k47 : ∀ (w47_0 : Int32) (w47_1 : Int32) (H : Heap) (locs : List Loc) (ls : Array Slot), ¬ w47_0 < 0 → E47 w47_0 w47_1 = G → va_P (dC, dI) vwCl [(m0, .inr (3, [.int k_paid, .ref ko, .ref kc, .ref w0])), (ko, .inl (kA 0, 6, .inl koF))] H → va_D A [(m0, .inr (3, [.int k_paid, .ref ko, .ref kc, .ref w0])), (ko, .inl (kA 0, 6, .inl koF))] → va_S A H0 H locs → lv_has ls 6 [(5, .int w47_0), (4, .int w47_1), (3, .int l2_0), (0, .ref m0), (1, .int p0), (2, .int p1)] → W p l e R s m args below meth c H locs cells slots Q (F0 m 47 ls []))  : ∀ (n : Nat) (l12_0 : Int32) (l12_1 : Int32) (H : Heap) (locs : List Loc) (ls : Array Slot), ((6 : Int32).toInt - l12_0.toInt).toNat < n → fl_mX3_canServe_12 koF l2_0 E47 n l12_0 l12_1 = G → ¬ l12_0 < 0 → va_P (dC, dI) vwCl [(m0, .inr (3, [.int k_paid, .ref ko, .ref kc, .ref w0])), (ko, .inl (kA 0, 6, .inl koF))] H → va_D A [(m0, .inr (3, [.int k_paid, .ref ko, .ref kc, .ref w0])), (ko, .inl (kA 0, 6, .inl koF))] → va_S A H0 H locs → lv_has ls 6 [(5, .int l12_0), (4, .int l12_1), (3, .int l2_0), (0, .ref m0), (1, .int p0), (2, .int p1)] → W p l e R s m args below meth c H locs cells slots Q (F0 m 12 ls []) := by
  intro n
  induction n with
  | zero =>
    intro l12_0 l12_1 H locs ls hn
    exact absurd hn (Nat.not_lt_zero _)
  | succ n ih =>
    intro l12_0 l12_1 H locs ls hn hG hi12 hP hD hS hl
    have hG : fb_mX3_canServe_12 koF l2_0 E47 (fl_mX3_canServe_12 koF l2_0 E47 n) l12_0 l12_1 = G := hG
    unfold fb_mX3_canServe_12 at hG
    refine lv_iload hx hb dX3_canServe_12 (lv_at hl 0 rfl) ?_
    refine lv_bipush (v := 6) hx hb dX3_canServe_14 (by decide) ?_
    refine lv_icmp_ge (tgt := 47) hx hb dX3_canServe_16 (by decide) (fun c_y12_1 => ?_) (fun c_y12_1 => ?_)
    · have hG := zthen hG c_y12_1
      exact k47 l12_0 l12_1 H locs ls hi12 hG (hP.sub [0, 1] rfl) (hD.sub [0, 1] (by decide) rfl) hS (lv_sub hl [0, 1, 2, 3, 4, 5] rfl)
    · have hG := zelse hG c_y12_1
      refine lv_iload_n hx hb dX3_canServe_19 rfl (lv_at hl 2 rfl) ?_
      refine lv_iload hx hb dX3_canServe_20 (lv_at hl 0 rfl) ?_
      refine lv_ishr hx hb dX3_canServe_22 ?_
      refine lv_topi (fun xy12_2 exy12_2 => ?_)
      have hG := zbnd hG exy12_2
      refine lv_iconst (v := 1) hx hb dX3_canServe_23 (by decide) ?_
      refine lv_iand hx hb dX3_canServe_24 ?_
      refine lv_iconst (v := 1) hx hb dX3_canServe_25 (by decide) ?_
      refine lv_icmp_ne (tgt := 41) hx hb dX3_canServe_26 (by decide) (fun c_y12_3 => ?_) (fun c_y12_3 => ?_)
      · have hG := zelse hG c_y12_3
        obtain ⟨xy12_4, exy12_4⟩ : ∃ y : Int32, y = l12_0 + 1 := ⟨_, rfl⟩
        have hG := zbnd hG exy12_4
        refine lv_iinc (v := xy12_4) (lv' := [(5, .int xy12_4), (4, .int l12_1), (3, .int l2_0), (0, .ref m0), (1, .int p0), (2, .int p1)]) hx hb dX3_canServe_41 hl (k := 0) rfl (by rw [exy12_4]; rfl) (by decide) rfl (fun ls hl => ?_)
        refine lv_goto (tgt := 12) hx hb dX3_canServe_44 (by decide) ?_
        exact ih xy12_4 l12_1 H locs ls (z_up hn exy12_4 c_y12_1) hG (z_nn exy12_4 c_y12_1 hi12) (hP.sub [0, 1] rfl) (hD.sub [0, 1] (by decide) rfl) hS (lv_sub hl [0, 1, 2, 3, 4, 5] rfl)
      · have hG := zthen hG c_y12_3
        refine lv_iload hx hb dX3_canServe_29 (lv_at hl 1 rfl) ?_
        refine lv_aload_n hx hb dX3_canServe_31 rfl (lv_at hl 3 rfl) ?_
        refine va_get (D := (dC, dI)) (ci := 3) (v := .ref ko) (C := RX3) (T := TX3) (N := 4) hx hb hts iX3_canServe_X3 hown hK.1 hP 0 rfl rfl 1 (by decide) (kX3_canServe_1 hts) (fun _ h9 => h9) rfl dX3_canServe_32 ?_
        refine lv_iload hx hb dX3_canServe_35 (lv_at hl 0 rfl) ?_
        refine va_iald hx hb hK.1 hP 1 0 rfl rfl (vp_lt (by decide) hi12 c_y12_1) dX3_canServe_37 ?_
        refine lv_topi (fun xy12_5 exy12_5 => ?_)
        have hG := zbnd hG exy12_5
        refine lv_ior hx hb dX3_canServe_38 ?_
        refine lv_topi (fun xy12_6 exy12_6 => ?_)
        have hG := zbnd hG exy12_6
        refine lv_istore (lv' := [(4, .int xy12_6), (5, .int l12_0), (3, .int l2_0), (0, .ref m0), (1, .int p0), (2, .int p1)]) hx hb dX3_canServe_39 hl (by decide) rfl (fun ls hl => ?_)
        obtain ⟨xy12_7, exy12_7⟩ : ∃ y : Int32, y = l12_0 + 1 := ⟨_, rfl⟩
        have hG := zbnd hG exy12_7
        refine lv_iinc (v := xy12_7) (lv' := [(5, .int xy12_7), (4, .int xy12_6), (3, .int l2_0), (0, .ref m0), (1, .int p0), (2, .int p1)]) hx hb dX3_canServe_41 hl (k := 1) rfl (by rw [exy12_7]; rfl) (by decide) rfl (fun ls hl => ?_)
        refine lv_goto (tgt := 12) hx hb dX3_canServe_44 (by decide) ?_
        exact ih xy12_7 xy12_6 H locs ls (z_up hn exy12_7 c_y12_1) hG (z_nn exy12_7 c_y12_1 hi12) (hP.sub [0, 1] rfl) (hD.sub [0, 1] (by decide) rfl) hS (lv_sub hl [0, 1, 2, 3, 4, 5] rfl)
set_option maxRecDepth 100000 in
def fb_mX3_canServe_2 (koF : Nat → Int32) (p0 : Int32) (p1 : Int32) (E63 : Int32 → Int32 → Int32 → Int32) (E74 : Int32 → Int32) (K : Int32 → Int32) (l2_0 : Int32) : Int32 := if l2_0 ≤ 0 then (E74 l2_0) else (fl_mX3_canServe_12 koF l2_0 (fun (w47_0_y2_0 : Int32) (w47_1_y2_0 : Int32) => bnd (fJ6_bitCount_0f7a4 (w47_1_y2_0 &&& (p1 ^^^ (-1)))) (fun (ry2_4 : Int32) => bnd (fJ6_bitCount_0f7a4 l2_0) (fun (ry2_11 : Int32) => if ry2_11 ≤ ry2_4 then (bnd (((l2_0 - 1) &&& p0)) (fun (xy2_17 : Int32) => K xy2_17)) else (E63 l2_0 w47_1_y2_0 w47_0_y2_0)))) (((6 : Int32).toInt - (0 : Int32).toInt).toNat + 1) 0 0)
def fl_mX3_canServe_2 (koF : Nat → Int32) (p0 : Int32) (p1 : Int32) (E63 : Int32 → Int32 → Int32 → Int32) (E74 : Int32 → Int32) : Nat → Int32 → Int32
  | 0, _ => 0
  | n + 1, l2_0 => fb_mX3_canServe_2 koF p0 p1 E63 E74 (fl_mX3_canServe_2 koF p0 p1 E63 E74 n) l2_0
set_option maxHeartbeats 4000000 in
set_option maxRecDepth 100000 in
theorem lp_mX3_canServe_2 {p : Program} {l : Launch} {e : Env} {R : Room} {s : State} {m : MethodId} {args : Array Value} {below : List Frame} {meth : Method} {c : Code} {Q : State → Prop} {dC : Nat → ClassId} {dI : Nat → Nat → Nat} {kA : Nat → ClassId} {A : Nat → Prop} {H0 : Heap} {cells slots : Nat} (hx : p.tables.exec = Jvm.exec) (hb : c.code = cX3_canServe) (hml : c.maxLocals = 6) (hts : ∀ w ∈ wsX3_canServe, w.before args s = true) (hown : s.vm.findClass RX3 = some m.cls) (hK : zK dC dI kA s) (hA : ∀ q, H0.size ≤ q → A q) (hRf : 1 ≤ R.frames) (hRl : 20 ≤ R.locals) (hRc : cells ≤ R.cells) (hRs : slots ≤ R.slots) (m0 : Nat) (k_paid : Int32) (ko : Nat) (kc : Nat) (koF : Nat → Int32) (w0 : Nat) (p0 : Int32) (p1 : Int32) {G : Int32} {E63 : Int32 → Int32 → Int32 → Int32} {E74 : Int32 → Int32}  (k63 : ∀ (w63_0 : Int32) (w63_1 : Int32) (w63_2 : Int32) (H : Heap) (locs : List Loc) (ls : Array Slot), ¬ w63_2 < 0 → E63 w63_0 w63_1 w63_2 = G → va_P (dC, dI) vwCl [(m0, .inr (3, [.int k_paid, .ref ko, .ref kc, .ref w0])), (ko, .inl (kA 0, 6, .inl koF))] H → va_D A [(m0, .inr (3, [.int k_paid, .ref ko, .ref kc, .ref w0])), (ko, .inl (kA 0, 6, .inl koF))] → va_S A H0 H locs → lv_has ls 6 [(3, .int w63_0), (0, .ref m0), (1, .int p0), (2, .int p1), (4, .int w63_1), (5, .int w63_2)] → W p l e R s m args below meth c H locs cells slots Q (F0 m 63 ls [])) (k74 : ∀ (w74_0 : Int32) (H : Heap) (locs : List Loc) (ls : Array Slot), E74 w74_0 = G → va_P (dC, dI) vwCl [(m0, .inr (3, [.int k_paid, .ref ko, .ref kc, .ref w0])), (ko, .inl (kA 0, 6, .inl koF))] H → va_D A [(m0, .inr (3, [.int k_paid, .ref ko, .ref kc, .ref w0])), (ko, .inl (kA 0, 6, .inl koF))] → va_S A H0 H locs → lv_has ls 6 [(3, .int w74_0), (0, .ref m0), (1, .int p0), (2, .int p1)] → W p l e R s m args below meth c H locs cells slots Q (F0 m 74 ls []))  : ∀ (n : Nat) (l2_0 : Int32) (H : Heap) (locs : List Loc) (ls : Array Slot), l2_0.toInt.toNat < n → fl_mX3_canServe_2 koF p0 p1 E63 E74 n l2_0 = G → va_P (dC, dI) vwCl [(m0, .inr (3, [.int k_paid, .ref ko, .ref kc, .ref w0])), (ko, .inl (kA 0, 6, .inl koF))] H → va_D A [(m0, .inr (3, [.int k_paid, .ref ko, .ref kc, .ref w0])), (ko, .inl (kA 0, 6, .inl koF))] → va_S A H0 H locs → lv_has ls 6 [(3, .int l2_0), (0, .ref m0), (1, .int p0), (2, .int p1)] → W p l e R s m args below meth c H locs cells slots Q (F0 m 2 ls []) := by
  intro n
  induction n with
  | zero =>
    intro l2_0 H locs ls hn
    exact absurd hn (Nat.not_lt_zero _)
  | succ n ih =>
    intro l2_0 H locs ls hn hG  hP hD hS hl
    have hG : fb_mX3_canServe_2 koF p0 p1 E63 E74 (fl_mX3_canServe_2 koF p0 p1 E63 E74 n) l2_0 = G := hG
    unfold fb_mX3_canServe_2 at hG
    refine lv_iload_n hx hb dX3_canServe_2 rfl (lv_at hl 0 rfl) ?_
    refine lv_if_le (tgt := 74) hx hb dX3_canServe_3 (by decide) (fun c_y2_1 => ?_) (fun c_y2_1 => ?_)
    · have hG := zthen hG c_y2_1
      exact k74 l2_0 H locs ls hG (hP.sub [0, 1] rfl) (hD.sub [0, 1] (by decide) rfl) hS (lv_sub hl [0, 1, 2, 3] rfl)
    · have hG := zelse hG c_y2_1
      refine lv_iconst (v := 0) hx hb dX3_canServe_6 (by decide) ?_
      refine lv_istore (lv' := [(4, .int 0), (3, .int l2_0), (0, .ref m0), (1, .int p0), (2, .int p1)]) hx hb dX3_canServe_7 hl (by decide) rfl (fun ls hl => ?_)
      refine lv_iconst (v := 0) hx hb dX3_canServe_9 (by decide) ?_
      refine lv_istore (lv' := [(5, .int 0), (4, .int 0), (3, .int l2_0), (0, .ref m0), (1, .int p0), (2, .int p1)]) hx hb dX3_canServe_10 hl (by decide) rfl (fun ls hl => ?_)
      refine lp_mX3_canServe_12 hx hb hml hts hown hK hA (Nat.le_trans (Nat.le_of_ble_eq_true rfl) hRf) (Nat.le_trans (Nat.le_of_ble_eq_true rfl) hRl) hRc hRs m0 k_paid ko kc koF w0 p0 p1 l2_0 c_y2_1 (fun w47_0_y2_0 w47_1_y2_0 H locs ls hx47_5_nlt00_y2_0 hG hP hD hS hl => ?_) _ 0 0 _ _ ls (Nat.lt_succ_self _) hG (by decide) hP hD hS (lv_sub hl [0, 1, 2, 3, 4, 5] rfl)
      obtain ⟨hP, hD⟩ := z_re (L := [(m0, .inr (3, [.int k_paid, .ref ko, .ref kc, .ref w0])), (ko, .inl (kA 0, 6, .inl koF))]) hP hD
      refine lv_iload hx hb dX3_canServe_47 (lv_at hl 1 rfl) ?_
      refine lv_iload_n hx hb dX3_canServe_49 rfl (lv_at hl 5 rfl) ?_
      refine lv_iconst (v := (-1)) hx hb dX3_canServe_50 (by decide) ?_
      refine lv_ixor hx hb dX3_canServe_51 ?_
      refine lv_iand hx hb dX3_canServe_52 ?_
      refine z_i (wr := [(m0, .inr (3, [.int k_paid, .ref ko, .ref kc, .ref w0])), (ko, .inl (kA 0, 6, .inl koF))]) (va_runS (As := [.int (w47_1_y2_0 &&& (p1 ^^^ (-1)))]) (rest := []) ⟨hx, hb, hml, hown, hts⟩ (mJ6_bitCount_0f7a4 l dC dI kA _ (w47_1_y2_0 &&& (p1 ^^^ (-1)))) (va_cwS 1 hts gX3_canServe_J6_bitCount_0f7a4 rfl rfl rfl hdJ6_bitCount_0f7a4 ⟨(Nat.le_trans (Nat.le_of_ble_eq_true rfl) hRf), (Nat.le_trans (Nat.le_of_ble_eq_true rfl) hRl)⟩) ⟨zPc.blind, zPre hK (hP.sub [] rfl) (hD.sub [] (by decide) rfl)⟩ rfl rfl hl.1 rfl (lv_room (Nat.le_of_ble_eq_true rfl)) dX3_canServe_53 ⟨hRc, hRs⟩) hP hD hS hA [] [0, 1] rfl rfl (by decide) (by decide) (fun ry2_4 uy2_2 H locs hwy2_3 hP hD hS => ?_)
      obtain ⟨ery2_7, hpy2_6⟩ := hwy2_3
      have ery2_7 : ry2_4 = uy2_2 := ery2_7
      subst ery2_7
      have ery2_4 : ry2_4 = fJ6_bitCount_0f7a4 (w47_1_y2_0 &&& (p1 ^^^ (-1))) := hpy2_6
      have hG := zbnd hG ery2_4
      obtain ⟨hP, hD⟩ := z_re (L := [(m0, .inr (3, [.int k_paid, .ref ko, .ref kc, .ref w0])), (ko, .inl (kA 0, 6, .inl koF))]) hP hD
      refine lv_iload_n hx hb dX3_canServe_56 rfl (lv_at hl 2 rfl) ?_
      refine z_i (wr := [(m0, .inr (3, [.int k_paid, .ref ko, .ref kc, .ref w0])), (ko, .inl (kA 0, 6, .inl koF))]) (va_runS (As := [.int l2_0]) (rest := [.int ry2_4]) ⟨hx, hb, hml, hown, hts⟩ (mJ6_bitCount_0f7a4 l dC dI kA _ l2_0) (va_cwS 1 hts gX3_canServe_J6_bitCount_0f7a4 rfl rfl rfl hdJ6_bitCount_0f7a4 ⟨(Nat.le_trans (Nat.le_of_ble_eq_true rfl) hRf), (Nat.le_trans (Nat.le_of_ble_eq_true rfl) hRl)⟩) ⟨zPc.blind, zPre hK (hP.sub [] rfl) (hD.sub [] (by decide) rfl)⟩ rfl rfl hl.1 rfl (lv_room (Nat.le_of_ble_eq_true rfl)) dX3_canServe_57 ⟨hRc, hRs⟩) hP hD hS hA [] [0, 1] rfl rfl (by decide) (by decide) (fun ry2_11 uy2_9 H locs hwy2_10 hP hD hS => ?_)
      obtain ⟨ery2_14, hpy2_13⟩ := hwy2_10
      have ery2_14 : ry2_11 = uy2_9 := ery2_14
      subst ery2_14
      have ery2_11 : ry2_11 = fJ6_bitCount_0f7a4 l2_0 := hpy2_13
      have hG := zbnd hG ery2_11
      obtain ⟨hP, hD⟩ := z_re (L := [(m0, .inr (3, [.int k_paid, .ref ko, .ref kc, .ref w0])), (ko, .inl (kA 0, 6, .inl koF))]) hP hD
      refine lv_icmp_ge (tgt := 65) hx hb dX3_canServe_60 (by decide) (fun c_y2_16 => ?_) (fun c_y2_16 => ?_)
      · have hG := zthen hG c_y2_16
        refine lv_iload_n hx hb dX3_canServe_65 rfl (lv_at hl 2 rfl) ?_
        refine lv_iconst (v := 1) hx hb dX3_canServe_66 (by decide) ?_
        refine lv_isub hx hb dX3_canServe_67 ?_
        refine lv_iload_n hx hb dX3_canServe_68 rfl (lv_at hl 4 rfl) ?_
        refine lv_iand hx hb dX3_canServe_69 ?_
        refine lv_topi (fun xy2_17 exy2_17 => ?_)
        have hG := zbnd hG exy2_17
        refine lv_istore_n (lv' := [(3, .int xy2_17), (5, .int w47_0_y2_0), (4, .int w47_1_y2_0), (0, .ref m0), (1, .int p0), (2, .int p1)]) hx hb dX3_canServe_70 rfl hl (by decide) rfl (fun ls hl => ?_)
        refine lv_goto (tgt := 2) hx hb dX3_canServe_71 (by decide) ?_
        exact ih xy2_17 H locs ls (z_part hn exy2_17 c_y2_1) hG (hP.sub [0, 1] rfl) (hD.sub [0, 1] (by decide) rfl) hS (lv_sub hl [0, 3, 4, 5] rfl)
      · have hG := zelse hG c_y2_16
        exact k63 l2_0 w47_1_y2_0 w47_0_y2_0 H locs ls hx47_5_nlt00_y2_0 hG (hP.sub [0, 1] rfl) (hD.sub [0, 1] (by decide) rfl) hS (lv_sub hl [2, 3, 4, 5, 1, 0] rfl)
set_option maxRecDepth 100000 in
def fX3_canServe (koF : Nat → Int32) (p0 : Int32) (p1 : Int32) : Int32 := fl_mX3_canServe_2 koF p0 p1 (fun (w63_0_0 : Int32) (w63_1_0 : Int32) (w63_2_0 : Int32) => 0) (fun (w74_0_0 : Int32) => 1) (p0.toInt.toNat + 1) p0
set_option maxHeartbeats 4000000 in
set_option maxRecDepth 100000 in
theorem mX3_canServe (l : Launch) (dC : Nat → ClassId) (dI : Nat → Nat → Nat) (kA : Nat → ClassId) (sz : Nat) (m0 : Nat) (k_paid : Int32) (ko : Nat) (kc : Nat) (koF : Nat → Int32) (w0 : Nat) (p0 : Int32) (p1 : Int32)  : Met l yX3_canServe wsX3_canServe ({ frames := 1, cells := 0, slots := 0, locals := 20 }) (zPc dC dI kA sz [.ref m0, .int p0, .int p1] [(m0, .inr (3, [.int k_paid, .ref ko, .ref kc, .ref w0])), (ko, .inl (kA 0, 6, .inl koF))]) (va_Qi (fun (r : Int32) (u : Int32) => r = u ∧ u = fX3_canServe koF p0 p1 ∧ (u = 0 ∨ u = 1)) (zB dC dI (va_A [(m0, .inr (3, [.int k_paid, .ref ko, .ref kc, .ref w0])), (ko, .inl (kA 0, 6, .inl koF))] sz) (fun (u : Int32) => [(m0, .inr (3, [.int k_paid, .ref ko, .ref kc, .ref w0])), (ko, .inl (kA 0, 6, .inl koF))])) (va_A [(m0, .inr (3, [.int k_paid, .ref ko, .ref kc, .ref w0])), (ko, .inl (kA 0, 6, .inl koF))] sz)) 0 0 (va_A [(m0, .inr (3, [.int k_paid, .ref ko, .ref kc, .ref w0])), (ko, .inl (kA 0, 6, .inl koF))] sz) := by
  refine Met.ofW (cc := cX3_canServe) (maxL := 6) (ret := (some .boolean)) (by decide) rfl ?_
  intro p e s m args below meth c s₁ B hml hv
  obtain ⟨rfl, hsz, hP, hK, hD0⟩ := hv
  have hx := B.exec
  have hb := B.bytes
  have hr := B.returns
  have hts := atoms_spec (ws := wsX3_canServe) B.pre
  have hown : s.vm.findClass RX3 = some m.cls := findClass_of_methodNamed B.named
  have hlocks := B.notSynchronized
  subst hsz
  have hD := hD0.self (sz := s.heap.size)
  generalize hAe : va_A [(m0, .inr (3, [.int k_paid, .ref ko, .ref kc, .ref w0])), (ko, .inl (kA 0, 6, .inl koF))] s.heap.size = A at hD ⊢
  have hA : ∀ q : Nat, s.heap.size ≤ q → A q := fun q h => by rw [← hAe]; exact Or.inr h
  have hS : va_S A s.heap s.heap [] := va_S.rf
  have hP : va_P (dC, dI) vwCl [(m0, .inr (3, [.int k_paid, .ref ko, .ref kc, .ref w0])), (ko, .inl (kA 0, 6, .inl koF))] s.heap := hP
  have hl := lv_entry ([.ref m0, .int p0, .int p1]) (n := 6) (Nat.le_of_ble_eq_true rfl)
  rw [lg_entry_eq]
  generalize (lg_sl ([.ref m0, .int p0, .int p1]) ++ List.replicate (6 - (lg_sl ([.ref m0, .int p0, .int p1])).length) Slot.unset).toArray = ls at hl ⊢
  have hl : lv_has ls 6 [(0, .ref m0), (1, .int p0), (2, .int p1)] := hl
  obtain ⟨H, hHe⟩ : ∃ H : Heap, H = s.heap := ⟨_, rfl⟩
  obtain ⟨G, hG0⟩ : ∃ G : Int32, fX3_canServe koF p0 p1 = G := ⟨_, rfl⟩
  have hG := hG0
  unfold fX3_canServe at hG
  refine lv_iload_n hx hb dX3_canServe_0 rfl (lv_at hl 1 rfl) ?_
  refine lv_istore_n (lv' := [(3, .int p0), (0, .ref m0), (1, .int p0), (2, .int p1)]) hx hb dX3_canServe_1 rfl hl (by decide) rfl (fun ls hl => ?_)
  refine lp_mX3_canServe_2 hx hb hml hts hown hK hA (Nat.le_of_ble_eq_true rfl) (Nat.le_of_ble_eq_true rfl) (Nat.le_of_ble_eq_true rfl) (Nat.le_of_ble_eq_true rfl) m0 k_paid ko kc koF w0 p0 p1  (fun w63_0_0 w63_1_0 w63_2_0 H locs ls hx63_5_nlt00_0 hG hP hD hS hl => ?_) (fun w74_0_0 H locs ls hG hP hD hS hl => ?_) _ p0 _ _ ls (Nat.lt_succ_self _) hG hP hD hS (lv_sub hl [0, 1, 2, 3] rfl)
  · obtain ⟨hP, hD⟩ := z_re (L := [(m0, .inr (3, [.int k_paid, .ref ko, .ref kc, .ref w0])), (ko, .inl (kA 0, 6, .inl koF))]) hP hD
    refine lv_iconst (v := 0) hx hb dX3_canServe_63 (by decide) ?_
    obtain ⟨hP9, hD9⟩ := z_sb (L' := [(m0, .inr (3, [.int k_paid, .ref ko, .ref kc, .ref w0])), (ko, .inl (kA 0, 6, .inl koF))]) hP hD [0, 1] (by decide) rfl
    refine W.widen (k := 0) (n := 0) (Nat.le_of_ble_eq_true rfl) (Nat.le_of_ble_eq_true rfl) ?_
    exact W.zret (v := 0) hx hb hr rfl (fun t ht hW => ⟨⟨0, (0), rfl, ⟨rfl, (hG.trans hG0.symm), (Or.inl rfl)⟩, by rw [ht]; exact hP9, hD9⟩, hS.F ht⟩) hS.2.2 dX3_canServe_64
  · obtain ⟨hP, hD⟩ := z_re (L := [(m0, .inr (3, [.int k_paid, .ref ko, .ref kc, .ref w0])), (ko, .inl (kA 0, 6, .inl koF))]) hP hD
    refine lv_iconst (v := 1) hx hb dX3_canServe_74 (by decide) ?_
    obtain ⟨hP9, hD9⟩ := z_sb (L' := [(m0, .inr (3, [.int k_paid, .ref ko, .ref kc, .ref w0])), (ko, .inl (kA 0, 6, .inl koF))]) hP hD [0, 1] (by decide) rfl
    refine W.widen (k := 0) (n := 0) (Nat.le_of_ble_eq_true rfl) (Nat.le_of_ble_eq_true rfl) ?_
    exact W.zret (v := 1) hx hb hr rfl (fun t ht hW => ⟨⟨1, (1), rfl, ⟨rfl, (hG.trans hG0.symm), (Or.inr rfl)⟩, by rw [ht]; exact hP9, hD9⟩, hS.F ht⟩) hS.2.2 dX3_canServe_75
set_option maxRecDepth 100000 in
def fb_mX3_greatest_19 (koF : Nat → Int32) (tordersF : Nat → Int32) (p0 : Int32) (p1 : Int32) (x1 : Int32) (E64 : Int32 → Int32 → Int32) (K : Int32 → Int32 → Int32) (l19_0 : Int32) (l19_1 : Int32) : Int32 := if x1 ≤ l19_0 then (E64 l19_0 l19_1) else (bnd (fX3_priceOf tordersF l19_0) (fun (ry19_4 : Int32) => if ry19_4 ≤ l19_1 then (bnd ((1 <<< (p0 &&& 31))) (fun (xy19_10 : Int32) => bnd ((l19_0 + xy19_10)) (fun (xy19_11 : Int32) => K xy19_11 l19_1))) else (bnd (fX3_canServe koF l19_0 p1) (fun (ry19_14 : Int32) => if ry19_14 = 0 then (bnd ((1 <<< (p0 &&& 31))) (fun (xy19_21 : Int32) => bnd ((l19_0 + xy19_21)) (fun (xy19_22 : Int32) => K xy19_22 l19_1))) else (bnd ((1 <<< (p0 &&& 31))) (fun (xy19_23 : Int32) => bnd ((l19_0 + xy19_23)) (fun (xy19_24 : Int32) => K xy19_24 ry19_4)))))))
def fl_mX3_greatest_19 (koF : Nat → Int32) (tordersF : Nat → Int32) (p0 : Int32) (p1 : Int32) (x1 : Int32) (E64 : Int32 → Int32 → Int32) : Nat → Int32 → Int32 → Int32
  | 0, _, _ => 0
  | n + 1, l19_0, l19_1 => fb_mX3_greatest_19 koF tordersF p0 p1 x1 E64 (fl_mX3_greatest_19 koF tordersF p0 p1 x1 E64 n) l19_0 l19_1
set_option maxHeartbeats 4000000 in
set_option maxRecDepth 100000 in
theorem lp_mX3_greatest_19 {p : Program} {l : Launch} {e : Env} {R : Room} {s : State} {m : MethodId} {args : Array Value} {below : List Frame} {meth : Method} {c : Code} {Q : State → Prop} {dC : Nat → ClassId} {dI : Nat → Nat → Nat} {kA : Nat → ClassId} {A : Nat → Prop} {H0 : Heap} {cells slots : Nat} (hx : p.tables.exec = Jvm.exec) (hb : c.code = cX3_greatest) (hml : c.maxLocals = 7) (hts : ∀ w ∈ wsX3_greatest, w.before args s = true) (hown : s.vm.findClass RX3 = some m.cls) (hK : zK dC dI kA s) (hA : ∀ q, H0.size ≤ q → A q) (hRf : 2 ≤ R.frames) (hRl : 46 ≤ R.locals) (hRc : cells ≤ R.cells) (hRs : slots ≤ R.slots) (m0 : Nat) (k_paid : Int32) (ko : Nat) (kc : Nat) (koF : Nat → Int32) (w0 : Nat) (tnodes : Nat) (tpasses : Nat) (tjars : Nat) (torders : Nat) (tordersA : Nat) (tordersS : Int32) (tordersF : Nat → Int32) (tfeasts : Nat) (tway : Nat) (tws : Int32) (tnow : Int32) (tfm : Int32) (tx : Int32) (p0 : Int32) (p1 : Int32) (x1 : Int32) {G : Int32} {E64 : Int32 → Int32 → Int32} (ho0 : ¬ tordersS < 0) (ho6 : ¬ 6 < tordersS) (hf0 : ¬ p0 < 0) (hf6 : ¬ 6 < p0) (h1x1 : ¬ x1 < 1) (h2x1 : ¬ 64 < x1) (k64 : ∀ (w64_0 : Int32) (w64_1 : Int32) (H : Heap) (locs : List Loc) (ls : Array Slot), ¬ w64_0 < 0 → E64 w64_0 w64_1 = G → va_P (dC, dI) vwCl [(m0, .inr (3, [.int k_paid, .ref ko, .ref kc, .ref w0])), (ko, .inl (kA 0, 6, .inl koF)), (w0, .inr (9, [.ref tnodes, .ref tpasses, .ref tjars, .ref torders, .ref tfeasts, .ref tway, .int tws, .int tnow, .int tfm, .int tx])), (torders, .inr (6, [.int 4, .ref tordersA, .int tordersS])), (tordersA, .inl (kA 0, 24, .inl tordersF))] H → va_D A [(m0, .inr (3, [.int k_paid, .ref ko, .ref kc, .ref w0])), (ko, .inl (kA 0, 6, .inl koF)), (w0, .inr (9, [.ref tnodes, .ref tpasses, .ref tjars, .ref torders, .ref tfeasts, .ref tway, .int tws, .int tnow, .int tfm, .int tx])), (torders, .inr (6, [.int 4, .ref tordersA, .int tordersS])), (tordersA, .inl (kA 0, 24, .inl tordersF))] → va_S A H0 H locs → lv_has ls 7 [(5, .int w64_0), (4, .int x1), (3, .int w64_1), (0, .ref m0), (1, .int p0), (2, .int p1)] → W p l e R s m args below meth c H locs cells slots Q (F0 m 64 ls []))  : ∀ (n : Nat) (l19_0 : Int32) (l19_1 : Int32) (H : Heap) (locs : List Loc) (ls : Array Slot), (x1.toInt - l19_0.toInt).toNat < n → fl_mX3_greatest_19 koF tordersF p0 p1 x1 E64 n l19_0 l19_1 = G → ¬ l19_0 < 0 → va_P (dC, dI) vwCl [(m0, .inr (3, [.int k_paid, .ref ko, .ref kc, .ref w0])), (ko, .inl (kA 0, 6, .inl koF)), (w0, .inr (9, [.ref tnodes, .ref tpasses, .ref tjars, .ref torders, .ref tfeasts, .ref tway, .int tws, .int tnow, .int tfm, .int tx])), (torders, .inr (6, [.int 4, .ref tordersA, .int tordersS])), (tordersA, .inl (kA 0, 24, .inl tordersF))] H → va_D A [(m0, .inr (3, [.int k_paid, .ref ko, .ref kc, .ref w0])), (ko, .inl (kA 0, 6, .inl koF)), (w0, .inr (9, [.ref tnodes, .ref tpasses, .ref tjars, .ref torders, .ref tfeasts, .ref tway, .int tws, .int tnow, .int tfm, .int tx])), (torders, .inr (6, [.int 4, .ref tordersA, .int tordersS])), (tordersA, .inl (kA 0, 24, .inl tordersF))] → va_S A H0 H locs → lv_has ls 7 [(5, .int l19_0), (4, .int x1), (3, .int l19_1), (0, .ref m0), (1, .int p0), (2, .int p1)] → W p l e R s m args below meth c H locs cells slots Q (F0 m 19 ls []) := by
  intro n
  induction n with
  | zero =>
    intro l19_0 l19_1 H locs ls hn
    exact absurd hn (Nat.not_lt_zero _)
  | succ n ih =>
    intro l19_0 l19_1 H locs ls hn hG hg0 hP hD hS hl
    have hG : fb_mX3_greatest_19 koF tordersF p0 p1 x1 E64 (fl_mX3_greatest_19 koF tordersF p0 p1 x1 E64 n) l19_0 l19_1 = G := hG
    unfold fb_mX3_greatest_19 at hG
    refine lv_iload hx hb dX3_greatest_19 (lv_at hl 0 rfl) ?_
    refine lv_iload hx hb dX3_greatest_21 (lv_at hl 1 rfl) ?_
    refine lv_icmp_ge (tgt := 64) hx hb dX3_greatest_23 (by decide) (fun c_y19_1 => ?_) (fun c_y19_1 => ?_)
    · have hG := zthen hG c_y19_1
      exact k64 l19_0 l19_1 H locs ls hg0 hG (hP.sub [0, 1, 2, 3, 4] rfl) (hD.sub [0, 1, 2, 3, 4] (by decide) rfl) hS (lv_sub hl [0, 1, 2, 3, 4, 5] rfl)
    · have hG := zelse hG c_y19_1
      refine lv_aload_n hx hb dX3_greatest_26 rfl (lv_at hl 3 rfl) ?_
      refine lv_iload hx hb dX3_greatest_27 (lv_at hl 0 rfl) ?_
      refine z_i (wr := [(ko, .inl (kA 0, 6, .inl koF))]) (va_runV (As := [.int l19_0]) (rest := []) ⟨hx, hb, hml, hown, hts⟩ (mX3_priceOf l dC dI kA _ m0 k_paid ko kc w0 tnodes tpasses tjars torders tordersA tordersS tordersF tfeasts tway tws tnow tfm tx l19_0) (cwV 1 hts gX3_greatest_X3_priceOf rfl rfl rfl ⟨rfl, hdX3_priceOf⟩ ⟨(Nat.le_trans (Nat.le_of_ble_eq_true rfl) hRf), (Nat.le_trans (Nat.le_of_ble_eq_true rfl) hRl)⟩) ⟨zPc.blind, va_recv hK.1 hP (ci := 3) (q0 := 0) rfl rfl, zPre hK (hP.sub [0, 2, 3, 4] rfl) (hD.sub [0, 2, 3, 4] (by decide) rfl)⟩ rfl rfl hl.1 rfl (lv_room (Nat.le_of_ble_eq_true rfl)) dX3_greatest_29 ⟨hRc, hRs⟩) hP hD hS hA [0, 2, 3, 4] [1] rfl rfl (by decide) (by decide) (fun ry19_4 uy19_2 H locs hwy19_3 hP hD hS => ?_)
      obtain ⟨ery19_7, hpy19_6⟩ := hwy19_3
      have ery19_7 : ry19_4 = uy19_2 := ery19_7
      subst ery19_7
      have ery19_4 : ry19_4 = fX3_priceOf tordersF l19_0 := hpy19_6
      have hG := zbnd hG ery19_4
      obtain ⟨hP, hD⟩ := z_re (L := [(ko, .inl (kA 0, 6, .inl koF)), (m0, .inr (3, [.int k_paid, .ref ko, .ref kc, .ref w0])), (w0, .inr (9, [.ref tnodes, .ref tpasses, .ref tjars, .ref torders, .ref tfeasts, .ref tway, .int tws, .int tnow, .int tfm, .int tx])), (torders, .inr (6, [.int 4, .ref tordersA, .int tordersS])), (tordersA, .inl (kA 0, 24, .inl tordersF))]) hP hD
      refine lv_istore (lv' := [(6, .int ry19_4), (5, .int l19_0), (4, .int x1), (3, .int l19_1), (0, .ref m0), (1, .int p0), (2, .int p1)]) hx hb dX3_greatest_32 hl (by decide) rfl (fun ls hl => ?_)
      refine lv_iload hx hb dX3_greatest_34 (lv_at hl 0 rfl) ?_
      refine lv_iload_n hx hb dX3_greatest_36 rfl (lv_at hl 3 rfl) ?_
      refine lv_icmp_le (tgt := 53) hx hb dX3_greatest_37 (by decide) (fun c_y19_9 => ?_) (fun c_y19_9 => ?_)
      · have hG := zthen hG c_y19_9
        refine lv_iload hx hb dX3_greatest_53 (lv_at hl 1 rfl) ?_
        refine lv_iconst (v := 1) hx hb dX3_greatest_55 (by decide) ?_
        refine lv_iload_n hx hb dX3_greatest_56 rfl (lv_at hl 5 rfl) ?_
        refine lv_ishl hx hb dX3_greatest_57 ?_
        refine lv_topi (fun xy19_10 exy19_10 => ?_)
        have hG := zbnd hG exy19_10
        have h1xy19_10 := z_shl1 exy19_10 hf0 hf6
        have h2xy19_10 := h1xy19_10.2
        have h1xy19_10 := h1xy19_10.1
        refine lv_iadd hx hb dX3_greatest_58 ?_
        refine lv_topi (fun xy19_11 exy19_11 => ?_)
        have hG := zbnd hG exy19_11
        refine lv_istore (lv' := [(5, .int xy19_11), (6, .int ry19_4), (4, .int x1), (3, .int l19_1), (0, .ref m0), (1, .int p0), (2, .int p1)]) hx hb dX3_greatest_59 hl (by decide) rfl (fun ls hl => ?_)
        refine lv_goto (tgt := 19) hx hb dX3_greatest_61 (by decide) ?_
        exact ih xy19_11 l19_1 H locs ls (z_step hn exy19_11 c_y19_1 hg0 h1xy19_10 h2xy19_10 h2x1) hG (z_step0 exy19_11 c_y19_1 hg0 h1xy19_10 h2xy19_10 h2x1) (hP.sub [1, 0, 2, 3, 4] rfl) (hD.sub [1, 0, 2, 3, 4] (by decide) rfl) hS (lv_sub hl [0, 2, 3, 4, 5, 6] rfl)
      · have hG := zelse hG c_y19_9
        refine lv_aload_n hx hb dX3_greatest_40 rfl (lv_at hl 4 rfl) ?_
        refine lv_iload hx hb dX3_greatest_41 (lv_at hl 1 rfl) ?_
        refine lv_iload_n hx hb dX3_greatest_43 rfl (lv_at hl 6 rfl) ?_
        refine z_i (wr := [(w0, .inr (9, [.ref tnodes, .ref tpasses, .ref tjars, .ref torders, .ref tfeasts, .ref tway, .int tws, .int tnow, .int tfm, .int tx])), (torders, .inr (6, [.int 4, .ref tordersA, .int tordersS])), (tordersA, .inl (kA 0, 24, .inl tordersF))]) (va_runV (As := [.int l19_0, .int p1]) (rest := []) ⟨hx, hb, hml, hown, hts⟩ (mX3_canServe l dC dI kA _ m0 k_paid ko kc koF w0 l19_0 p1) (cwV 2 hts gX3_greatest_X3_canServe rfl rfl rfl ⟨rfl, hdX3_canServe⟩ ⟨(Nat.le_trans (Nat.le_of_ble_eq_true rfl) hRf), (Nat.le_trans (Nat.le_of_ble_eq_true rfl) hRl)⟩) ⟨zPc.blind, va_recv hK.1 hP (ci := 3) (q0 := 1) rfl rfl, zPre hK (hP.sub [1, 0] rfl) (hD.sub [1, 0] (by decide) rfl)⟩ rfl rfl hl.1 rfl (lv_room (Nat.le_of_ble_eq_true rfl)) dX3_greatest_44 ⟨hRc, hRs⟩) hP hD hS hA [1, 0] [2, 3, 4] rfl rfl (by decide) (by decide) (fun ry19_14 uy19_12 H locs hwy19_13 hP hD hS => ?_)
        obtain ⟨ery19_18, hpy19_16, hpy19_17⟩ := hwy19_13
        have ery19_18 : ry19_14 = uy19_12 := ery19_18
        subst ery19_18
        have ery19_14 : ry19_14 = fX3_canServe koF l19_0 p1 := hpy19_16
        have hG := zbnd hG ery19_14
        obtain ⟨hP, hD⟩ := z_re (L := [(w0, .inr (9, [.ref tnodes, .ref tpasses, .ref tjars, .ref torders, .ref tfeasts, .ref tway, .int tws, .int tnow, .int tfm, .int tx])), (torders, .inr (6, [.int 4, .ref tordersA, .int tordersS])), (tordersA, .inl (kA 0, 24, .inl tordersF)), (m0, .inr (3, [.int k_paid, .ref ko, .ref kc, .ref w0])), (ko, .inl (kA 0, 6, .inl koF))]) hP hD
        refine lv_if_eq (tgt := 53) hx hb dX3_greatest_47 (by decide) (fun c_y19_20 => ?_) (fun c_y19_20 => ?_)
        · have hG := zthen hG c_y19_20
          refine lv_iload hx hb dX3_greatest_53 (lv_at hl 1 rfl) ?_
          refine lv_iconst (v := 1) hx hb dX3_greatest_55 (by decide) ?_
          refine lv_iload_n hx hb dX3_greatest_56 rfl (lv_at hl 5 rfl) ?_
          refine lv_ishl hx hb dX3_greatest_57 ?_
          refine lv_topi (fun xy19_21 exy19_21 => ?_)
          have hG := zbnd hG exy19_21
          have h1xy19_21 := z_shl1 exy19_21 hf0 hf6
          have h2xy19_21 := h1xy19_21.2
          have h1xy19_21 := h1xy19_21.1
          refine lv_iadd hx hb dX3_greatest_58 ?_
          refine lv_topi (fun xy19_22 exy19_22 => ?_)
          have hG := zbnd hG exy19_22
          refine lv_istore (lv' := [(5, .int xy19_22), (6, .int ry19_4), (4, .int x1), (3, .int l19_1), (0, .ref m0), (1, .int p0), (2, .int p1)]) hx hb dX3_greatest_59 hl (by decide) rfl (fun ls hl => ?_)
          refine lv_goto (tgt := 19) hx hb dX3_greatest_61 (by decide) ?_
          exact ih xy19_22 l19_1 H locs ls (z_step hn exy19_22 c_y19_1 hg0 h1xy19_21 h2xy19_21 h2x1) hG (z_step0 exy19_22 c_y19_1 hg0 h1xy19_21 h2xy19_21 h2x1) (hP.sub [3, 4, 0, 1, 2] rfl) (hD.sub [3, 4, 0, 1, 2] (by decide) rfl) hS (lv_sub hl [0, 2, 3, 4, 5, 6] rfl)
        · have hG := zelse hG c_y19_20
          refine lv_iload hx hb dX3_greatest_50 (lv_at hl 0 rfl) ?_
          refine lv_istore_n (lv' := [(3, .int ry19_4), (6, .int ry19_4), (5, .int l19_0), (4, .int x1), (0, .ref m0), (1, .int p0), (2, .int p1)]) hx hb dX3_greatest_52 rfl hl (by decide) rfl (fun ls hl => ?_)
          refine lv_iload hx hb dX3_greatest_53 (lv_at hl 2 rfl) ?_
          refine lv_iconst (v := 1) hx hb dX3_greatest_55 (by decide) ?_
          refine lv_iload_n hx hb dX3_greatest_56 rfl (lv_at hl 5 rfl) ?_
          refine lv_ishl hx hb dX3_greatest_57 ?_
          refine lv_topi (fun xy19_23 exy19_23 => ?_)
          have hG := zbnd hG exy19_23
          have h1xy19_23 := z_shl1 exy19_23 hf0 hf6
          have h2xy19_23 := h1xy19_23.2
          have h1xy19_23 := h1xy19_23.1
          refine lv_iadd hx hb dX3_greatest_58 ?_
          refine lv_topi (fun xy19_24 exy19_24 => ?_)
          have hG := zbnd hG exy19_24
          refine lv_istore (lv' := [(5, .int xy19_24), (3, .int ry19_4), (6, .int ry19_4), (4, .int x1), (0, .ref m0), (1, .int p0), (2, .int p1)]) hx hb dX3_greatest_59 hl (by decide) rfl (fun ls hl => ?_)
          refine lv_goto (tgt := 19) hx hb dX3_greatest_61 (by decide) ?_
          exact ih xy19_24 ry19_4 H locs ls (z_step hn exy19_24 c_y19_1 hg0 h1xy19_23 h2xy19_23 h2x1) hG (z_step0 exy19_24 c_y19_1 hg0 h1xy19_23 h2xy19_23 h2x1) (hP.sub [3, 4, 0, 1, 2] rfl) (hD.sub [3, 4, 0, 1, 2] (by decide) rfl) hS (lv_sub hl [0, 3, 1, 4, 5, 6] rfl)
set_option maxRecDepth 100000 in
def fX3_greatest (koF : Nat → Int32) (tordersS : Int32) (tordersF : Nat → Int32) (p0 : Int32) (p1 : Int32) : Int32 := bnd ((1 <<< (tordersS &&& 31))) (fun (x1 : Int32) => fl_mX3_greatest_19 koF tordersF p0 p1 x1 (fun (w64_0_0 : Int32) (w64_1_0 : Int32) => w64_1_0) ((x1.toInt - (0 : Int32).toInt).toNat + 1) 0 0)
set_option maxHeartbeats 4000000 in
set_option maxRecDepth 100000 in
theorem mX3_greatest (l : Launch) (dC : Nat → ClassId) (dI : Nat → Nat → Nat) (kA : Nat → ClassId) (sz : Nat) (m0 : Nat) (k_paid : Int32) (ko : Nat) (kc : Nat) (koF : Nat → Int32) (w0 : Nat) (tnodes : Nat) (tpasses : Nat) (tjars : Nat) (torders : Nat) (tordersA : Nat) (tordersS : Int32) (tordersF : Nat → Int32) (tfeasts : Nat) (tway : Nat) (tws : Int32) (tnow : Int32) (tfm : Int32) (tx : Int32) (p0 : Int32) (p1 : Int32) (ho0 : ¬ tordersS < 0) (ho6 : ¬ 6 < tordersS) (hf0 : ¬ p0 < 0) (hf6 : ¬ 6 < p0) : Met l yX3_greatest wsX3_greatest ({ frames := 2, cells := 0, slots := 0, locals := 46 }) (zPc dC dI kA sz [.ref m0, .int p0, .int p1] [(m0, .inr (3, [.int k_paid, .ref ko, .ref kc, .ref w0])), (ko, .inl (kA 0, 6, .inl koF)), (w0, .inr (9, [.ref tnodes, .ref tpasses, .ref tjars, .ref torders, .ref tfeasts, .ref tway, .int tws, .int tnow, .int tfm, .int tx])), (torders, .inr (6, [.int 4, .ref tordersA, .int tordersS])), (tordersA, .inl (kA 0, 24, .inl tordersF))]) (va_Qi (fun (r : Int32) (u : Int32) => r = u ∧ u = fX3_greatest koF tordersS tordersF p0 p1) (zB dC dI (va_A [(m0, .inr (3, [.int k_paid, .ref ko, .ref kc, .ref w0])), (ko, .inl (kA 0, 6, .inl koF)), (w0, .inr (9, [.ref tnodes, .ref tpasses, .ref tjars, .ref torders, .ref tfeasts, .ref tway, .int tws, .int tnow, .int tfm, .int tx])), (torders, .inr (6, [.int 4, .ref tordersA, .int tordersS])), (tordersA, .inl (kA 0, 24, .inl tordersF))] sz) (fun (u : Int32) => [(m0, .inr (3, [.int k_paid, .ref ko, .ref kc, .ref w0])), (ko, .inl (kA 0, 6, .inl koF)), (w0, .inr (9, [.ref tnodes, .ref tpasses, .ref tjars, .ref torders, .ref tfeasts, .ref tway, .int tws, .int tnow, .int tfm, .int tx])), (torders, .inr (6, [.int 4, .ref tordersA, .int tordersS])), (tordersA, .inl (kA 0, 24, .inl tordersF))])) (va_A [(m0, .inr (3, [.int k_paid, .ref ko, .ref kc, .ref w0])), (ko, .inl (kA 0, 6, .inl koF)), (w0, .inr (9, [.ref tnodes, .ref tpasses, .ref tjars, .ref torders, .ref tfeasts, .ref tway, .int tws, .int tnow, .int tfm, .int tx])), (torders, .inr (6, [.int 4, .ref tordersA, .int tordersS])), (tordersA, .inl (kA 0, 24, .inl tordersF))] sz)) 0 0 (va_A [(m0, .inr (3, [.int k_paid, .ref ko, .ref kc, .ref w0])), (ko, .inl (kA 0, 6, .inl koF)), (w0, .inr (9, [.ref tnodes, .ref tpasses, .ref tjars, .ref torders, .ref tfeasts, .ref tway, .int tws, .int tnow, .int tfm, .int tx])), (torders, .inr (6, [.int 4, .ref tordersA, .int tordersS])), (tordersA, .inl (kA 0, 24, .inl tordersF))] sz) := by
  refine Met.ofW (cc := cX3_greatest) (maxL := 7) (ret := (some .int)) (by decide) rfl ?_
  intro p e s m args below meth c s₁ B hml hv
  obtain ⟨rfl, hsz, hP, hK, hD0⟩ := hv
  have hx := B.exec
  have hb := B.bytes
  have hr := B.returns
  have hts := atoms_spec (ws := wsX3_greatest) B.pre
  have hown : s.vm.findClass RX3 = some m.cls := findClass_of_methodNamed B.named
  have hlocks := B.notSynchronized
  subst hsz
  have hD := hD0.self (sz := s.heap.size)
  generalize hAe : va_A [(m0, .inr (3, [.int k_paid, .ref ko, .ref kc, .ref w0])), (ko, .inl (kA 0, 6, .inl koF)), (w0, .inr (9, [.ref tnodes, .ref tpasses, .ref tjars, .ref torders, .ref tfeasts, .ref tway, .int tws, .int tnow, .int tfm, .int tx])), (torders, .inr (6, [.int 4, .ref tordersA, .int tordersS])), (tordersA, .inl (kA 0, 24, .inl tordersF))] s.heap.size = A at hD ⊢
  have hA : ∀ q : Nat, s.heap.size ≤ q → A q := fun q h => by rw [← hAe]; exact Or.inr h
  have hS : va_S A s.heap s.heap [] := va_S.rf
  have hP : va_P (dC, dI) vwCl [(m0, .inr (3, [.int k_paid, .ref ko, .ref kc, .ref w0])), (ko, .inl (kA 0, 6, .inl koF)), (w0, .inr (9, [.ref tnodes, .ref tpasses, .ref tjars, .ref torders, .ref tfeasts, .ref tway, .int tws, .int tnow, .int tfm, .int tx])), (torders, .inr (6, [.int 4, .ref tordersA, .int tordersS])), (tordersA, .inl (kA 0, 24, .inl tordersF))] s.heap := hP
  have hl := lv_entry ([.ref m0, .int p0, .int p1]) (n := 7) (Nat.le_of_ble_eq_true rfl)
  rw [lg_entry_eq]
  generalize (lg_sl ([.ref m0, .int p0, .int p1]) ++ List.replicate (7 - (lg_sl ([.ref m0, .int p0, .int p1])).length) Slot.unset).toArray = ls at hl ⊢
  have hl : lv_has ls 7 [(0, .ref m0), (1, .int p0), (2, .int p1)] := hl
  obtain ⟨H, hHe⟩ : ∃ H : Heap, H = s.heap := ⟨_, rfl⟩
  obtain ⟨G, hG0⟩ : ∃ G : Int32, fX3_greatest koF tordersS tordersF p0 p1 = G := ⟨_, rfl⟩
  have hG := hG0
  unfold fX3_greatest at hG
  refine lv_iconst (v := 0) hx hb dX3_greatest_0 (by decide) ?_
  refine lv_istore_n (lv' := [(3, .int 0), (0, .ref m0), (1, .int p0), (2, .int p1)]) hx hb dX3_greatest_1 rfl hl (by decide) rfl (fun ls hl => ?_)
  refine lv_iconst (v := 1) hx hb dX3_greatest_2 (by decide) ?_
  refine lv_aload_n hx hb dX3_greatest_3 rfl (lv_at hl 1 rfl) ?_
  refine va_get (D := (dC, dI)) (ci := 3) (v := .ref w0) (C := RX3) (T := TX3) (N := 4) hx hb hts iX3_greatest_X3 hown hK.1 hP 0 rfl rfl 3 (by decide) (kX3_greatest_1 hts) (fun _ h9 => h9) rfl dX3_greatest_4 ?_
  refine va_get (D := (dC, dI)) (ci := 9) (v := .ref torders) (C := RX9) (T := TX9) (N := 10) hx hb hts iX3_greatest_X9 hown hK.1 hP 2 rfl rfl 3 (by decide) (kX3_greatest_2 hts) (fun _ h9 => h9) rfl dX3_greatest_7 ?_
  refine va_get (D := (dC, dI)) (ci := 6) (v := .int tordersS) (C := RX6) (T := TX6) (N := 3) hx hb hts iX3_greatest_X6 hown hK.1 hP 3 rfl rfl 2 (by decide) (kX3_greatest_3 hts) (fun _ h9 => h9) rfl dX3_greatest_10 ?_
  refine lv_ishl hx hb dX3_greatest_13 ?_
  refine lv_topi (fun x1 ex1 => ?_)
  have hG := zbnd hG ex1
  have h1x1 := z_shl1 ex1 ho0 ho6
  have h2x1 := h1x1.2
  have h1x1 := h1x1.1
  refine lv_istore (lv' := [(4, .int x1), (3, .int 0), (0, .ref m0), (1, .int p0), (2, .int p1)]) hx hb dX3_greatest_14 hl (by decide) rfl (fun ls hl => ?_)
  refine lv_iconst (v := 0) hx hb dX3_greatest_16 (by decide) ?_
  refine lv_istore (lv' := [(5, .int 0), (4, .int x1), (3, .int 0), (0, .ref m0), (1, .int p0), (2, .int p1)]) hx hb dX3_greatest_17 hl (by decide) rfl (fun ls hl => ?_)
  refine lp_mX3_greatest_19 hx hb hml hts hown hK hA (Nat.le_of_ble_eq_true rfl) (Nat.le_of_ble_eq_true rfl) (Nat.le_of_ble_eq_true rfl) (Nat.le_of_ble_eq_true rfl) m0 k_paid ko kc koF w0 tnodes tpasses tjars torders tordersA tordersS tordersF tfeasts tway tws tnow tfm tx p0 p1 x1 ho0 ho6 hf0 hf6 h1x1 h2x1 (fun w64_0_0 w64_1_0 H locs ls hx64_5_nlt00_0 hG hP hD hS hl => ?_) _ 0 0 _ _ ls (Nat.lt_succ_self _) hG (by decide) hP hD hS (lv_sub hl [0, 1, 2, 3, 4, 5] rfl)
  obtain ⟨hP, hD⟩ := z_re (L := [(m0, .inr (3, [.int k_paid, .ref ko, .ref kc, .ref w0])), (ko, .inl (kA 0, 6, .inl koF)), (w0, .inr (9, [.ref tnodes, .ref tpasses, .ref tjars, .ref torders, .ref tfeasts, .ref tway, .int tws, .int tnow, .int tfm, .int tx])), (torders, .inr (6, [.int 4, .ref tordersA, .int tordersS])), (tordersA, .inl (kA 0, 24, .inl tordersF))]) hP hD
  refine lv_iload_n hx hb dX3_greatest_64 rfl (lv_at hl 2 rfl) ?_
  obtain ⟨hP9, hD9⟩ := z_sb (L' := [(m0, .inr (3, [.int k_paid, .ref ko, .ref kc, .ref w0])), (ko, .inl (kA 0, 6, .inl koF)), (w0, .inr (9, [.ref tnodes, .ref tpasses, .ref tjars, .ref torders, .ref tfeasts, .ref tway, .int tws, .int tnow, .int tfm, .int tx])), (torders, .inr (6, [.int 4, .ref tordersA, .int tordersS])), (tordersA, .inl (kA 0, 24, .inl tordersF))]) hP hD [0, 1, 2, 3, 4] (by decide) rfl
  refine W.widen (k := 0) (n := 0) (Nat.le_of_ble_eq_true rfl) (Nat.le_of_ble_eq_true rfl) ?_
  exact W.iret (v := w64_1_0) hx hb hr (fun t ht hW => ⟨⟨w64_1_0, (w64_1_0), rfl, ⟨rfl, (hG.trans hG0.symm)⟩, by rw [ht]; exact hP9, hD9⟩, hS.F ht⟩) hS.2.2 dX3_greatest_65
set_option maxRecDepth 100000 in
def fb_mX3_firstJar_19 (koF : Nat → Int32) (tordersS : Int32) (tordersF : Nat → Int32) (p0 : Int32) (p1 : Int32) (x8 : Int32) (E82 : Int32 → Int32 → Int32 → Int32) (E91 : Int32 → Int32) (K : Int32 → Int32) (l19_0 : Int32) : Int32 := if 16 ≤ l19_0 then (E91 l19_0) else (bnd ((1 <<< (l19_0 &&& 31))) (fun (xy19_2 : Int32) => if 6 ≤ p0 then (bnd ((l19_0 + 1)) (fun (xy19_5 : Int32) => K xy19_5)) else (bnd (koF p0.toNatClampNeg) (fun (xy19_6 : Int32) => if ((xy19_6 &&& xy19_2) &&& (p1 ^^^ (-1))) = 0 then (bnd ((l19_0 + 1)) (fun (xy19_9 : Int32) => K xy19_9)) else (bnd (fX3_greatest koF tordersS tordersF (p0 + 1) (p1 ||| xy19_2)) (fun (ry19_13 : Int32) => if ry19_13 = x8 then (E82 l19_0 xy19_2 1) else (bnd ((l19_0 + 1)) (fun (xy19_19 : Int32) => K xy19_19))))))))
def fl_mX3_firstJar_19 (koF : Nat → Int32) (tordersS : Int32) (tordersF : Nat → Int32) (p0 : Int32) (p1 : Int32) (x8 : Int32) (E82 : Int32 → Int32 → Int32 → Int32) (E91 : Int32 → Int32) : Nat → Int32 → Int32
  | 0, _ => 0
  | n + 1, l19_0 => fb_mX3_firstJar_19 koF tordersS tordersF p0 p1 x8 E82 E91 (fl_mX3_firstJar_19 koF tordersS tordersF p0 p1 x8 E82 E91 n) l19_0
set_option maxHeartbeats 4000000 in
set_option maxRecDepth 100000 in
theorem lp_mX3_firstJar_19 {p : Program} {l : Launch} {e : Env} {R : Room} {s : State} {m : MethodId} {args : Array Value} {below : List Frame} {meth : Method} {c : Code} {Q : State → Prop} {dC : Nat → ClassId} {dI : Nat → Nat → Nat} {kA : Nat → ClassId} {A : Nat → Prop} {H0 : Heap} {cells slots : Nat} (hx : p.tables.exec = Jvm.exec) (hb : c.code = cX3_firstJar) (hml : c.maxLocals = 8) (hts : ∀ w ∈ wsX3_firstJar, w.before args s = true) (hown : s.vm.findClass RX3 = some m.cls) (hK : zK dC dI kA s) (hA : ∀ q, H0.size ≤ q → A q) (hRf : 3 ≤ R.frames) (hRl : 72 ≤ R.locals) (hRc : cells ≤ R.cells) (hRs : slots ≤ R.slots) (m0 : Nat) (k_paid : Int32) (ko : Nat) (kc : Nat) (koF : Nat → Int32) (w0 : Nat) (tnodes : Nat) (tpasses : Nat) (tjars : Nat) (torders : Nat) (tordersA : Nat) (tordersS : Int32) (tordersF : Nat → Int32) (tfeasts : Nat) (tway : Nat) (tws : Int32) (tnow : Int32) (tfm : Int32) (tx : Int32) (p0 : Int32) (p1 : Int32) (p2 : Int32) (x8 : Int32) {G : Int32} {E82 : Int32 → Int32 → Int32 → Int32} {E91 : Int32 → Int32} (ho0 : ¬ tordersS < 0) (ho6 : ¬ 6 < tordersS) (hf0 : ¬ p0 < 0) (hf6 : ¬ 6 ≤ p0) (k82 : ∀ (w82_0 : Int32) (w82_1 : Int32) (w82_2 : Int32) (H : Heap) (locs : List Loc) (ls : Array Slot), ¬ 16 ≤ w82_0 → ¬ w82_0 < 0 → ¬ w82_2 < 0 → E82 w82_0 w82_1 w82_2 = G → va_P (dC, dI) vwCl [(m0, .inr (3, [.int k_paid, .ref ko, .ref kc, .ref w0])), (ko, .inl (kA 0, 6, .inl koF)), (w0, .inr (9, [.ref tnodes, .ref tpasses, .ref tjars, .ref torders, .ref tfeasts, .ref tway, .int tws, .int tnow, .int tfm, .int tx])), (torders, .inr (6, [.int 4, .ref tordersA, .int tordersS])), (tordersA, .inl (kA 0, 24, .inl tordersF))] H → va_D A [(m0, .inr (3, [.int k_paid, .ref ko, .ref kc, .ref w0])), (ko, .inl (kA 0, 6, .inl koF)), (w0, .inr (9, [.ref tnodes, .ref tpasses, .ref tjars, .ref torders, .ref tfeasts, .ref tway, .int tws, .int tnow, .int tfm, .int tx])), (torders, .inr (6, [.int 4, .ref tordersA, .int tordersS])), (tordersA, .inl (kA 0, 24, .inl tordersF))] → va_S A H0 H locs → lv_has ls 8 [(5, .int w82_0), (4, .int x8), (0, .ref m0), (1, .int p0), (2, .int p1), (3, .int p2), (6, .int w82_1), (7, .int w82_2)] → W p l e R s m args below meth c H locs cells slots Q (F0 m 82 ls [])) (k91 : ∀ (w91_0 : Int32) (H : Heap) (locs : List Loc) (ls : Array Slot), ¬ w91_0 < 0 → E91 w91_0 = G → va_P (dC, dI) vwCl [(m0, .inr (3, [.int k_paid, .ref ko, .ref kc, .ref w0])), (ko, .inl (kA 0, 6, .inl koF)), (w0, .inr (9, [.ref tnodes, .ref tpasses, .ref tjars, .ref torders, .ref tfeasts, .ref tway, .int tws, .int tnow, .int tfm, .int tx])), (torders, .inr (6, [.int 4, .ref tordersA, .int tordersS])), (tordersA, .inl (kA 0, 24, .inl tordersF))] H → va_D A [(m0, .inr (3, [.int k_paid, .ref ko, .ref kc, .ref w0])), (ko, .inl (kA 0, 6, .inl koF)), (w0, .inr (9, [.ref tnodes, .ref tpasses, .ref tjars, .ref torders, .ref tfeasts, .ref tway, .int tws, .int tnow, .int tfm, .int tx])), (torders, .inr (6, [.int 4, .ref tordersA, .int tordersS])), (tordersA, .inl (kA 0, 24, .inl tordersF))] → va_S A H0 H locs → lv_has ls 8 [(5, .int w91_0), (4, .int x8), (0, .ref m0), (1, .int p0), (2, .int p1), (3, .int p2)] → W p l e R s m args below meth c H locs cells slots Q (F0 m 91 ls []))  : ∀ (n : Nat) (l19_0 : Int32) (H : Heap) (locs : List Loc) (ls : Array Slot), ((16 : Int32).toInt - l19_0.toInt).toNat < n → fl_mX3_firstJar_19 koF tordersS tordersF p0 p1 x8 E82 E91 n l19_0 = G → ¬ l19_0 < 0 → va_P (dC, dI) vwCl [(m0, .inr (3, [.int k_paid, .ref ko, .ref kc, .ref w0])), (ko, .inl (kA 0, 6, .inl koF)), (w0, .inr (9, [.ref tnodes, .ref tpasses, .ref tjars, .ref torders, .ref tfeasts, .ref tway, .int tws, .int tnow, .int tfm, .int tx])), (torders, .inr (6, [.int 4, .ref tordersA, .int tordersS])), (tordersA, .inl (kA 0, 24, .inl tordersF))] H → va_D A [(m0, .inr (3, [.int k_paid, .ref ko, .ref kc, .ref w0])), (ko, .inl (kA 0, 6, .inl koF)), (w0, .inr (9, [.ref tnodes, .ref tpasses, .ref tjars, .ref torders, .ref tfeasts, .ref tway, .int tws, .int tnow, .int tfm, .int tx])), (torders, .inr (6, [.int 4, .ref tordersA, .int tordersS])), (tordersA, .inl (kA 0, 24, .inl tordersF))] → va_S A H0 H locs → lv_has ls 8 [(5, .int l19_0), (4, .int x8), (0, .ref m0), (1, .int p0), (2, .int p1), (3, .int p2)] → W p l e R s m args below meth c H locs cells slots Q (F0 m 19 ls []) := by
  intro n
  induction n with
  | zero =>
    intro l19_0 H locs ls hn
    exact absurd hn (Nat.not_lt_zero _)
  | succ n ih =>
    intro l19_0 H locs ls hn hG hi19 hP hD hS hl
    have hG : fb_mX3_firstJar_19 koF tordersS tordersF p0 p1 x8 E82 E91 (fl_mX3_firstJar_19 koF tordersS tordersF p0 p1 x8 E82 E91 n) l19_0 = G := hG
    unfold fb_mX3_firstJar_19 at hG
    refine lv_iload hx hb dX3_firstJar_19 (lv_at hl 0 rfl) ?_
    refine lv_bipush (v := 16) hx hb dX3_firstJar_21 (by decide) ?_
    refine lv_icmp_ge (tgt := 91) hx hb dX3_firstJar_23 (by decide) (fun c_y19_1 => ?_) (fun c_y19_1 => ?_)
    · have hG := zthen hG c_y19_1
      exact k91 l19_0 H locs ls hi19 hG (hP.sub [0, 1, 2, 3, 4] rfl) (hD.sub [0, 1, 2, 3, 4] (by decide) rfl) hS (lv_sub hl [0, 1, 2, 3, 4, 5] rfl)
    · have hG := zelse hG c_y19_1
      refine lv_iconst (v := 1) hx hb dX3_firstJar_26 (by decide) ?_
      refine lv_iload hx hb dX3_firstJar_27 (lv_at hl 0 rfl) ?_
      refine lv_ishl hx hb dX3_firstJar_29 ?_
      refine lv_topi (fun xy19_2 exy19_2 => ?_)
      have hG := zbnd hG exy19_2
      refine lv_istore (lv' := [(6, .int xy19_2), (5, .int l19_0), (4, .int x8), (0, .ref m0), (1, .int p0), (2, .int p1), (3, .int p2)]) hx hb dX3_firstJar_30 hl (by decide) rfl (fun ls hl => ?_)
      refine lv_iload_n hx hb dX3_firstJar_32 rfl (lv_at hl 4 rfl) ?_
      refine lv_bipush (v := 6) hx hb dX3_firstJar_33 (by decide) ?_
      refine lv_icmp_ge (tgt := 58) hx hb dX3_firstJar_35 (by decide) (fun c_y19_3 => ?_) (fun c_y19_3 => ?_)
      · have hG := zthen hG c_y19_3
        refine lv_iconst (v := 0) hx hb dX3_firstJar_58 (by decide) ?_
        refine lv_istore (lv' := [(7, .int 0), (6, .int xy19_2), (5, .int l19_0), (4, .int x8), (0, .ref m0), (1, .int p0), (2, .int p1), (3, .int p2)]) hx hb dX3_firstJar_59 hl (by decide) rfl (fun ls hl => ?_)
        refine lv_iload hx hb dX3_firstJar_61 (lv_at hl 0 rfl) ?_
        refine lv_if_eq (tgt := 85) hx hb dX3_firstJar_63 (by decide) (fun _ => ?_) (fun c_y19_4 => absurd (by decide) c_y19_4)
        obtain ⟨xy19_5, exy19_5⟩ : ∃ y : Int32, y = l19_0 + 1 := ⟨_, rfl⟩
        have hG := zbnd hG exy19_5
        refine lv_iinc (v := xy19_5) (lv' := [(5, .int xy19_5), (7, .int 0), (6, .int xy19_2), (4, .int x8), (0, .ref m0), (1, .int p0), (2, .int p1), (3, .int p2)]) hx hb dX3_firstJar_85 hl (k := 2) rfl (by rw [exy19_5]; rfl) (by decide) rfl (fun ls hl => ?_)
        refine lv_goto (tgt := 19) hx hb dX3_firstJar_88 (by decide) ?_
        exact ih xy19_5 H locs ls (z_up hn exy19_5 c_y19_1) hG (z_nn exy19_5 c_y19_1 hi19) (hP.sub [0, 1, 2, 3, 4] rfl) (hD.sub [0, 1, 2, 3, 4] (by decide) rfl) hS (lv_sub hl [0, 3, 4, 5, 6, 7] rfl)
      · have hG := zelse hG c_y19_3
        refine lv_aload_n hx hb dX3_firstJar_38 rfl (lv_at hl 3 rfl) ?_
        refine va_get (D := (dC, dI)) (ci := 3) (v := .ref ko) (C := RX3) (T := TX3) (N := 4) hx hb hts iX3_firstJar_X3 hown hK.1 hP 0 rfl rfl 1 (by decide) (kX3_firstJar_3 hts) (fun _ h9 => h9) rfl dX3_firstJar_39 ?_
        refine lv_iload_n hx hb dX3_firstJar_42 rfl (lv_at hl 4 rfl) ?_
        refine va_iald hx hb hK.1 hP 1 0 rfl rfl (vp_lt (by decide) hf0 hf6) dX3_firstJar_43 ?_
        refine lv_topi (fun xy19_6 exy19_6 => ?_)
        have hG := zbnd hG exy19_6
        refine lv_iload hx hb dX3_firstJar_44 (lv_at hl 0 rfl) ?_
        refine lv_iand hx hb dX3_firstJar_46 ?_
        refine lv_iload_n hx hb dX3_firstJar_47 rfl (lv_at hl 5 rfl) ?_
        refine lv_iconst (v := (-1)) hx hb dX3_firstJar_48 (by decide) ?_
        refine lv_ixor hx hb dX3_firstJar_49 ?_
        refine lv_iand hx hb dX3_firstJar_50 ?_
        refine lv_if_eq (tgt := 58) hx hb dX3_firstJar_51 (by decide) (fun c_y19_7 => ?_) (fun c_y19_7 => ?_)
        · have hG := zthen hG c_y19_7
          refine lv_iconst (v := 0) hx hb dX3_firstJar_58 (by decide) ?_
          refine lv_istore (lv' := [(7, .int 0), (6, .int xy19_2), (5, .int l19_0), (4, .int x8), (0, .ref m0), (1, .int p0), (2, .int p1), (3, .int p2)]) hx hb dX3_firstJar_59 hl (by decide) rfl (fun ls hl => ?_)
          refine lv_iload hx hb dX3_firstJar_61 (lv_at hl 0 rfl) ?_
          refine lv_if_eq (tgt := 85) hx hb dX3_firstJar_63 (by decide) (fun _ => ?_) (fun c_y19_8 => absurd (by decide) c_y19_8)
          obtain ⟨xy19_9, exy19_9⟩ : ∃ y : Int32, y = l19_0 + 1 := ⟨_, rfl⟩
          have hG := zbnd hG exy19_9
          refine lv_iinc (v := xy19_9) (lv' := [(5, .int xy19_9), (7, .int 0), (6, .int xy19_2), (4, .int x8), (0, .ref m0), (1, .int p0), (2, .int p1), (3, .int p2)]) hx hb dX3_firstJar_85 hl (k := 2) rfl (by rw [exy19_9]; rfl) (by decide) rfl (fun ls hl => ?_)
          refine lv_goto (tgt := 19) hx hb dX3_firstJar_88 (by decide) ?_
          exact ih xy19_9 H locs ls (z_up hn exy19_9 c_y19_1) hG (z_nn exy19_9 c_y19_1 hi19) (hP.sub [0, 1, 2, 3, 4] rfl) (hD.sub [0, 1, 2, 3, 4] (by decide) rfl) hS (lv_sub hl [0, 3, 4, 5, 6, 7] rfl)
        · have hG := zelse hG c_y19_7
          refine lv_iconst (v := 1) hx hb dX3_firstJar_54 (by decide) ?_
          refine lv_goto (tgt := 59) hx hb dX3_firstJar_55 (by decide) ?_
          refine lv_istore (lv' := [(7, .int 1), (6, .int xy19_2), (5, .int l19_0), (4, .int x8), (0, .ref m0), (1, .int p0), (2, .int p1), (3, .int p2)]) hx hb dX3_firstJar_59 hl (by decide) rfl (fun ls hl => ?_)
          refine lv_iload hx hb dX3_firstJar_61 (lv_at hl 0 rfl) ?_
          refine lv_if_eq (tgt := 85) hx hb dX3_firstJar_63 (by decide) (fun c_y19_10 => absurd c_y19_10 (by decide)) (fun _ => ?_)
          refine lv_aload_n hx hb dX3_firstJar_66 rfl (lv_at hl 4 rfl) ?_
          refine lv_iload_n hx hb dX3_firstJar_67 rfl (lv_at hl 5 rfl) ?_
          refine lv_iconst (v := 1) hx hb dX3_firstJar_68 (by decide) ?_
          refine lv_iadd hx hb dX3_firstJar_69 ?_
          refine lv_iload_n hx hb dX3_firstJar_70 rfl (lv_at hl 6 rfl) ?_
          refine lv_iload hx hb dX3_firstJar_71 (lv_at hl 1 rfl) ?_
          refine lv_ior hx hb dX3_firstJar_73 ?_
          refine z_i (wr := []) (va_runV (As := [.int (p0 + 1), .int (p1 ||| xy19_2)]) (rest := []) ⟨hx, hb, hml, hown, hts⟩ (mX3_greatest l dC dI kA _ m0 k_paid ko kc koF w0 tnodes tpasses tjars torders tordersA tordersS tordersF tfeasts tway tws tnow tfm tx (p0 + 1) (p1 ||| xy19_2) ho0 ho6 (z_inc6 hf0 hf6).1 (z_inc6 hf0 hf6).2) (cwV 2 hts gX3_firstJar_X3_greatest rfl rfl rfl ⟨rfl, hdX3_greatest⟩ ⟨(Nat.le_trans (Nat.le_of_ble_eq_true rfl) hRf), (Nat.le_trans (Nat.le_of_ble_eq_true rfl) hRl)⟩) ⟨zPc.blind, va_recv hK.1 hP (ci := 3) (q0 := 0) rfl rfl, zPre hK (hP.sub [0, 1, 2, 3, 4] rfl) (hD.sub [0, 1, 2, 3, 4] (by decide) rfl)⟩ rfl rfl hl.1 rfl (lv_room (Nat.le_of_ble_eq_true rfl)) dX3_firstJar_74 ⟨hRc, hRs⟩) hP hD hS hA [0, 1, 2, 3, 4] [] rfl rfl (by decide) (by decide) (fun ry19_13 uy19_11 H locs hwy19_12 hP hD hS => ?_)
          obtain ⟨ery19_16, hpy19_15⟩ := hwy19_12
          have ery19_16 : ry19_13 = uy19_11 := ery19_16
          subst ery19_16
          have ery19_13 : ry19_13 = fX3_greatest koF tordersS tordersF (p0 + 1) (p1 ||| xy19_2) := hpy19_15
          have hG := zbnd hG ery19_13
          obtain ⟨hP, hD⟩ := z_re (L := [(m0, .inr (3, [.int k_paid, .ref ko, .ref kc, .ref w0])), (ko, .inl (kA 0, 6, .inl koF)), (w0, .inr (9, [.ref tnodes, .ref tpasses, .ref tjars, .ref torders, .ref tfeasts, .ref tway, .int tws, .int tnow, .int tfm, .int tx])), (torders, .inr (6, [.int 4, .ref tordersA, .int tordersS])), (tordersA, .inl (kA 0, 24, .inl tordersF))]) hP hD
          refine lv_iload hx hb dX3_firstJar_77 (lv_at hl 3 rfl) ?_
          refine lv_icmp_ne (tgt := 85) hx hb dX3_firstJar_79 (by decide) (fun c_y19_18 => ?_) (fun c_y19_18 => ?_)
          · have hG := zelse hG c_y19_18
            obtain ⟨xy19_19, exy19_19⟩ : ∃ y : Int32, y = l19_0 + 1 := ⟨_, rfl⟩
            have hG := zbnd hG exy19_19
            refine lv_iinc (v := xy19_19) (lv' := [(5, .int xy19_19), (7, .int 1), (6, .int xy19_2), (4, .int x8), (0, .ref m0), (1, .int p0), (2, .int p1), (3, .int p2)]) hx hb dX3_firstJar_85 hl (k := 2) rfl (by rw [exy19_19]; rfl) (by decide) rfl (fun ls hl => ?_)
            refine lv_goto (tgt := 19) hx hb dX3_firstJar_88 (by decide) ?_
            exact ih xy19_19 H locs ls (z_up hn exy19_19 c_y19_1) hG (z_nn exy19_19 c_y19_1 hi19) (hP.sub [0, 1, 2, 3, 4] rfl) (hD.sub [0, 1, 2, 3, 4] (by decide) rfl) hS (lv_sub hl [0, 3, 4, 5, 6, 7] rfl)
          · have hG := zthen hG c_y19_18
            exact k82 l19_0 xy19_2 1 H locs ls c_y19_1 hi19 (by decide) hG (hP.sub [0, 1, 2, 3, 4] rfl) (hD.sub [0, 1, 2, 3, 4] (by decide) rfl) hS (lv_sub hl [2, 3, 4, 5, 6, 7, 1, 0] rfl)
set_option maxRecDepth 100000 in
def fX3_firstJar (koF : Nat → Int32) (tordersS : Int32) (tordersF : Nat → Int32) (p0 : Int32) (p1 : Int32) (p2 : Int32) : Int32 := bnd (fX6_get_24 4 tordersF p0 3) (fun (r3 : Int32) => bnd ((p2 - r3)) (fun (x8 : Int32) => fl_mX3_firstJar_19 koF tordersS tordersF p0 p1 x8 (fun (w82_0_0 : Int32) (w82_1_0 : Int32) (w82_2_0 : Int32) => w82_0_0) (fun (w91_0_0 : Int32) => 16) (((16 : Int32).toInt - (0 : Int32).toInt).toNat + 1) 0))
set_option maxHeartbeats 4000000 in
set_option maxRecDepth 100000 in
theorem mX3_firstJar (l : Launch) (dC : Nat → ClassId) (dI : Nat → Nat → Nat) (kA : Nat → ClassId) (sz : Nat) (m0 : Nat) (k_paid : Int32) (ko : Nat) (kc : Nat) (koF : Nat → Int32) (w0 : Nat) (tnodes : Nat) (tpasses : Nat) (tjars : Nat) (torders : Nat) (tordersA : Nat) (tordersS : Int32) (tordersF : Nat → Int32) (tfeasts : Nat) (tway : Nat) (tws : Int32) (tnow : Int32) (tfm : Int32) (tx : Int32) (p0 : Int32) (p1 : Int32) (p2 : Int32) (ho0 : ¬ tordersS < 0) (ho6 : ¬ 6 < tordersS) (hf0 : ¬ p0 < 0) (hf6 : ¬ 6 ≤ p0) : Met l yX3_firstJar wsX3_firstJar ({ frames := 3, cells := 0, slots := 0, locals := 72 }) (zPc dC dI kA sz [.ref m0, .int p0, .int p1, .int p2] [(m0, .inr (3, [.int k_paid, .ref ko, .ref kc, .ref w0])), (ko, .inl (kA 0, 6, .inl koF)), (w0, .inr (9, [.ref tnodes, .ref tpasses, .ref tjars, .ref torders, .ref tfeasts, .ref tway, .int tws, .int tnow, .int tfm, .int tx])), (torders, .inr (6, [.int 4, .ref tordersA, .int tordersS])), (tordersA, .inl (kA 0, 24, .inl tordersF))]) (va_Qi (fun (r : Int32) (u : Int32) => r = u ∧ u = fX3_firstJar koF tordersS tordersF p0 p1 p2) (zB dC dI (va_A [(m0, .inr (3, [.int k_paid, .ref ko, .ref kc, .ref w0])), (ko, .inl (kA 0, 6, .inl koF)), (w0, .inr (9, [.ref tnodes, .ref tpasses, .ref tjars, .ref torders, .ref tfeasts, .ref tway, .int tws, .int tnow, .int tfm, .int tx])), (torders, .inr (6, [.int 4, .ref tordersA, .int tordersS])), (tordersA, .inl (kA 0, 24, .inl tordersF))] sz) (fun (u : Int32) => [(m0, .inr (3, [.int k_paid, .ref ko, .ref kc, .ref w0])), (ko, .inl (kA 0, 6, .inl koF)), (w0, .inr (9, [.ref tnodes, .ref tpasses, .ref tjars, .ref torders, .ref tfeasts, .ref tway, .int tws, .int tnow, .int tfm, .int tx])), (torders, .inr (6, [.int 4, .ref tordersA, .int tordersS])), (tordersA, .inl (kA 0, 24, .inl tordersF))])) (va_A [(m0, .inr (3, [.int k_paid, .ref ko, .ref kc, .ref w0])), (ko, .inl (kA 0, 6, .inl koF)), (w0, .inr (9, [.ref tnodes, .ref tpasses, .ref tjars, .ref torders, .ref tfeasts, .ref tway, .int tws, .int tnow, .int tfm, .int tx])), (torders, .inr (6, [.int 4, .ref tordersA, .int tordersS])), (tordersA, .inl (kA 0, 24, .inl tordersF))] sz)) 0 0 (va_A [(m0, .inr (3, [.int k_paid, .ref ko, .ref kc, .ref w0])), (ko, .inl (kA 0, 6, .inl koF)), (w0, .inr (9, [.ref tnodes, .ref tpasses, .ref tjars, .ref torders, .ref tfeasts, .ref tway, .int tws, .int tnow, .int tfm, .int tx])), (torders, .inr (6, [.int 4, .ref tordersA, .int tordersS])), (tordersA, .inl (kA 0, 24, .inl tordersF))] sz) := by
  refine Met.ofW (cc := cX3_firstJar) (maxL := 8) (ret := (some .int)) (by decide) rfl ?_
  intro p e s m args below meth c s₁ B hml hv
  obtain ⟨rfl, hsz, hP, hK, hD0⟩ := hv
  have hx := B.exec
  have hb := B.bytes
  have hr := B.returns
  have hts := atoms_spec (ws := wsX3_firstJar) B.pre
  have hown : s.vm.findClass RX3 = some m.cls := findClass_of_methodNamed B.named
  have hlocks := B.notSynchronized
  subst hsz
  have hD := hD0.self (sz := s.heap.size)
  generalize hAe : va_A [(m0, .inr (3, [.int k_paid, .ref ko, .ref kc, .ref w0])), (ko, .inl (kA 0, 6, .inl koF)), (w0, .inr (9, [.ref tnodes, .ref tpasses, .ref tjars, .ref torders, .ref tfeasts, .ref tway, .int tws, .int tnow, .int tfm, .int tx])), (torders, .inr (6, [.int 4, .ref tordersA, .int tordersS])), (tordersA, .inl (kA 0, 24, .inl tordersF))] s.heap.size = A at hD ⊢
  have hA : ∀ q : Nat, s.heap.size ≤ q → A q := fun q h => by rw [← hAe]; exact Or.inr h
  have hS : va_S A s.heap s.heap [] := va_S.rf
  have hP : va_P (dC, dI) vwCl [(m0, .inr (3, [.int k_paid, .ref ko, .ref kc, .ref w0])), (ko, .inl (kA 0, 6, .inl koF)), (w0, .inr (9, [.ref tnodes, .ref tpasses, .ref tjars, .ref torders, .ref tfeasts, .ref tway, .int tws, .int tnow, .int tfm, .int tx])), (torders, .inr (6, [.int 4, .ref tordersA, .int tordersS])), (tordersA, .inl (kA 0, 24, .inl tordersF))] s.heap := hP
  have hl := lv_entry ([.ref m0, .int p0, .int p1, .int p2]) (n := 8) (Nat.le_of_ble_eq_true rfl)
  rw [lg_entry_eq]
  generalize (lg_sl ([.ref m0, .int p0, .int p1, .int p2]) ++ List.replicate (8 - (lg_sl ([.ref m0, .int p0, .int p1, .int p2])).length) Slot.unset).toArray = ls at hl ⊢
  have hl : lv_has ls 8 [(0, .ref m0), (1, .int p0), (2, .int p1), (3, .int p2)] := hl
  obtain ⟨H, hHe⟩ : ∃ H : Heap, H = s.heap := ⟨_, rfl⟩
  obtain ⟨G, hG0⟩ : ∃ G : Int32, fX3_firstJar koF tordersS tordersF p0 p1 p2 = G := ⟨_, rfl⟩
  have hG := hG0
  unfold fX3_firstJar at hG
  refine lv_iload_n hx hb dX3_firstJar_0 rfl (lv_at hl 3 rfl) ?_
  refine lv_aload_n hx hb dX3_firstJar_1 rfl (lv_at hl 0 rfl) ?_
  refine va_get (D := (dC, dI)) (ci := 3) (v := .ref w0) (C := RX3) (T := TX3) (N := 4) hx hb hts iX3_firstJar_X3 hown hK.1 hP 0 rfl rfl 3 (by decide) (kX3_firstJar_1 hts) (fun _ h9 => h9) rfl dX3_firstJar_2 ?_
  refine va_get (D := (dC, dI)) (ci := 9) (v := .ref torders) (C := RX9) (T := TX9) (N := 10) hx hb hts iX3_firstJar_X9 hown hK.1 hP 2 rfl rfl 3 (by decide) (kX3_firstJar_2 hts) (fun _ h9 => h9) rfl dX3_firstJar_5 ?_
  refine lv_iload_n hx hb dX3_firstJar_8 rfl (lv_at hl 1 rfl) ?_
  refine lv_iconst (v := 3) hx hb dX3_firstJar_9 (by decide) ?_
  refine z_i (wr := [(m0, .inr (3, [.int k_paid, .ref ko, .ref kc, .ref w0])), (ko, .inl (kA 0, 6, .inl koF)), (w0, .inr (9, [.ref tnodes, .ref tpasses, .ref tjars, .ref torders, .ref tfeasts, .ref tway, .int tws, .int tnow, .int tfm, .int tx]))]) (va_runV (As := [.int p0, .int 3]) (rest := [.int p2]) ⟨hx, hb, hml, hown, hts⟩ (mX6_get_24 l dC dI kA _ torders tordersA 4 tordersS tordersF p0 3) (cwV 2 hts gX3_firstJar_X6_get rfl rfl rfl ⟨rfl, hdX6_get⟩ ⟨(Nat.le_of_ble_eq_true rfl), (Nat.le_of_ble_eq_true rfl)⟩) ⟨zPc.blind, va_recv hK.1 hP (ci := 6) (q0 := 3) rfl rfl, zPre hK (hP.sub [3, 4] rfl) (hD.sub [3, 4] (by decide) rfl)⟩ rfl rfl hl.1 rfl (lv_room (Nat.le_of_ble_eq_true rfl)) dX3_firstJar_10 ⟨(Nat.le_of_ble_eq_true rfl), (Nat.le_of_ble_eq_true rfl)⟩) hP hD hS hA [3, 4] [0, 1, 2] rfl rfl (by decide) (by decide) (fun r3 u1 H locs hw2 hP hD hS => ?_)
  obtain ⟨er6, hp5⟩ := hw2
  have er6 : r3 = u1 := er6
  subst er6
  have er3 : r3 = fX6_get_24 4 tordersF p0 3 := hp5
  have hG := zbnd hG er3
  obtain ⟨hP, hD⟩ := z_re (L := [(m0, .inr (3, [.int k_paid, .ref ko, .ref kc, .ref w0])), (ko, .inl (kA 0, 6, .inl koF)), (w0, .inr (9, [.ref tnodes, .ref tpasses, .ref tjars, .ref torders, .ref tfeasts, .ref tway, .int tws, .int tnow, .int tfm, .int tx])), (torders, .inr (6, [.int 4, .ref tordersA, .int tordersS])), (tordersA, .inl (kA 0, 24, .inl tordersF))]) hP hD
  refine lv_isub hx hb dX3_firstJar_13 ?_
  refine lv_topi (fun x8 ex8 => ?_)
  have hG := zbnd hG ex8
  refine lv_istore (lv' := [(4, .int x8), (0, .ref m0), (1, .int p0), (2, .int p1), (3, .int p2)]) hx hb dX3_firstJar_14 hl (by decide) rfl (fun ls hl => ?_)
  refine lv_iconst (v := 0) hx hb dX3_firstJar_16 (by decide) ?_
  refine lv_istore (lv' := [(5, .int 0), (4, .int x8), (0, .ref m0), (1, .int p0), (2, .int p1), (3, .int p2)]) hx hb dX3_firstJar_17 hl (by decide) rfl (fun ls hl => ?_)
  refine lp_mX3_firstJar_19 hx hb hml hts hown hK hA (Nat.le_of_ble_eq_true rfl) (Nat.le_of_ble_eq_true rfl) (Nat.le_of_ble_eq_true rfl) (Nat.le_of_ble_eq_true rfl) m0 k_paid ko kc koF w0 tnodes tpasses tjars torders tordersA tordersS tordersF tfeasts tway tws tnow tfm tx p0 p1 p2 x8 ho0 ho6 hf0 hf6 (fun w82_0_0 w82_1_0 w82_2_0 H locs ls hx82_5_nle16_0 hx82_5_nlt00_0 hx82_7_nlt00_0 hG hP hD hS hl => ?_) (fun w91_0_0 H locs ls hx91_5_nlt00_0 hG hP hD hS hl => ?_) _ 0 _ _ ls (Nat.lt_succ_self _) hG (by decide) hP hD hS (lv_sub hl [0, 1, 2, 3, 4, 5] rfl)
  · obtain ⟨hP, hD⟩ := z_re (L := [(m0, .inr (3, [.int k_paid, .ref ko, .ref kc, .ref w0])), (ko, .inl (kA 0, 6, .inl koF)), (w0, .inr (9, [.ref tnodes, .ref tpasses, .ref tjars, .ref torders, .ref tfeasts, .ref tway, .int tws, .int tnow, .int tfm, .int tx])), (torders, .inr (6, [.int 4, .ref tordersA, .int tordersS])), (tordersA, .inl (kA 0, 24, .inl tordersF))]) hP hD
    refine lv_iload hx hb dX3_firstJar_82 (lv_at hl 0 rfl) ?_
    obtain ⟨hP9, hD9⟩ := z_sb (L' := [(m0, .inr (3, [.int k_paid, .ref ko, .ref kc, .ref w0])), (ko, .inl (kA 0, 6, .inl koF)), (w0, .inr (9, [.ref tnodes, .ref tpasses, .ref tjars, .ref torders, .ref tfeasts, .ref tway, .int tws, .int tnow, .int tfm, .int tx])), (torders, .inr (6, [.int 4, .ref tordersA, .int tordersS])), (tordersA, .inl (kA 0, 24, .inl tordersF))]) hP hD [0, 1, 2, 3, 4] (by decide) rfl
    refine W.widen (k := 0) (n := 0) (Nat.le_of_ble_eq_true rfl) (Nat.le_of_ble_eq_true rfl) ?_
    exact W.iret (v := w82_0_0) hx hb hr (fun t ht hW => ⟨⟨w82_0_0, (w82_0_0), rfl, ⟨rfl, (hG.trans hG0.symm)⟩, by rw [ht]; exact hP9, hD9⟩, hS.F ht⟩) hS.2.2 dX3_firstJar_84
  · obtain ⟨hP, hD⟩ := z_re (L := [(m0, .inr (3, [.int k_paid, .ref ko, .ref kc, .ref w0])), (ko, .inl (kA 0, 6, .inl koF)), (w0, .inr (9, [.ref tnodes, .ref tpasses, .ref tjars, .ref torders, .ref tfeasts, .ref tway, .int tws, .int tnow, .int tfm, .int tx])), (torders, .inr (6, [.int 4, .ref tordersA, .int tordersS])), (tordersA, .inl (kA 0, 24, .inl tordersF))]) hP hD
    refine lv_bipush (v := 16) hx hb dX3_firstJar_91 (by decide) ?_
    obtain ⟨hP9, hD9⟩ := z_sb (L' := [(m0, .inr (3, [.int k_paid, .ref ko, .ref kc, .ref w0])), (ko, .inl (kA 0, 6, .inl koF)), (w0, .inr (9, [.ref tnodes, .ref tpasses, .ref tjars, .ref torders, .ref tfeasts, .ref tway, .int tws, .int tnow, .int tfm, .int tx])), (torders, .inr (6, [.int 4, .ref tordersA, .int tordersS])), (tordersA, .inl (kA 0, 24, .inl tordersF))]) hP hD [0, 1, 2, 3, 4] (by decide) rfl
    refine W.widen (k := 0) (n := 0) (Nat.le_of_ble_eq_true rfl) (Nat.le_of_ble_eq_true rfl) ?_
    exact W.iret (v := 16) hx hb hr (fun t ht hW => ⟨⟨16, (16), rfl, ⟨rfl, (hG.trans hG0.symm)⟩, by rw [ht]; exact hP9, hD9⟩, hS.F ht⟩) hS.2.2 dX3_firstJar_93
set_option maxRecDepth 100000 in
def fb_mX3_choose_19 (koF : Nat → Int32) (tordersS : Int32) (tordersF : Nat → Int32) (E91 : (Nat → Int32) → Int32 → Int32 → Int32 → (Int32 × (Nat → Int32))) (K : (Nat → Int32) → Int32 → Int32 → Int32 → (Int32 × (Nat → Int32))) (g19_0 : Nat → Int32) (l19_1 : Int32) (l19_2 : Int32) (l19_3 : Int32) : Int32 × (Nat → Int32) := if tordersS ≤ l19_1 then (E91 g19_0 l19_1 l19_2 l19_3) else (if 6 ≤ l19_1 then (E91 g19_0 l19_1 l19_2 l19_3) else (bnd (fX3_firstJar koF tordersS tordersF l19_1 l19_2 l19_3) (fun (ry19_5 : Int32) => bnd ((upd g19_0 l19_1.toNatClampNeg ry19_5)) (fun (fy19_10 : Nat → Int32) => if ry19_5 = 16 then (bnd ((l19_1 + 1)) (fun (xy19_12 : Int32) => K fy19_10 xy19_12 l19_2 l19_3)) else (bnd ((1 <<< (ry19_5 &&& 31))) (fun (xy19_13 : Int32) => bnd ((l19_2 ||| xy19_13)) (fun (xy19_14 : Int32) => bnd (fX6_get_24 4 tordersF l19_1 3) (fun (ry19_17 : Int32) => bnd ((l19_3 - ry19_17)) (fun (xy19_22 : Int32) => bnd ((l19_1 + 1)) (fun (xy19_23 : Int32) => K fy19_10 xy19_23 xy19_14 xy19_22))))))))))
def fl_mX3_choose_19 (koF : Nat → Int32) (tordersS : Int32) (tordersF : Nat → Int32) (E91 : (Nat → Int32) → Int32 → Int32 → Int32 → (Int32 × (Nat → Int32))) : Nat → (Nat → Int32) → Int32 → Int32 → Int32 → (Int32 × (Nat → Int32))
  | 0, _, _, _, _ => (0, (fun _ => 0))
  | n + 1, g19_0, l19_1, l19_2, l19_3 => fb_mX3_choose_19 koF tordersS tordersF E91 (fl_mX3_choose_19 koF tordersS tordersF E91 n) g19_0 l19_1 l19_2 l19_3
set_option maxHeartbeats 4000000 in
set_option maxRecDepth 100000 in
theorem lp_mX3_choose_19 {p : Program} {l : Launch} {e : Env} {R : Room} {s : State} {m : MethodId} {args : Array Value} {below : List Frame} {meth : Method} {c : Code} {Q : State → Prop} {dC : Nat → ClassId} {dI : Nat → Nat → Nat} {kA : Nat → ClassId} {A : Nat → Prop} {H0 : Heap} {cells slots : Nat} (hx : p.tables.exec = Jvm.exec) (hb : c.code = cX3_choose) (hml : c.maxLocals = 5) (hts : ∀ w ∈ wsX3_choose, w.before args s = true) (hown : s.vm.findClass RX3 = some m.cls) (hK : zK dC dI kA s) (hA : ∀ q, H0.size ≤ q → A q) (hRf : 4 ≤ R.frames) (hRl : 99 ≤ R.locals) (hRc : cells ≤ R.cells) (hRs : slots ≤ R.slots) (m0 : Nat) (ko : Nat) (kc : Nat) (koF : Nat → Int32) (w0 : Nat) (tnodes : Nat) (tpasses : Nat) (tjars : Nat) (torders : Nat) (tordersA : Nat) (tordersS : Int32) (tordersF : Nat → Int32) (tfeasts : Nat) (tway : Nat) (tws : Int32) (tnow : Int32) (tfm : Int32) (tx : Int32) (r3 : Int32) {G : Int32 × (Nat → Int32)} {E91 : (Nat → Int32) → Int32 → Int32 → Int32 → (Int32 × (Nat → Int32))} (ho0 : ¬ tordersS < 0) (ho6 : ¬ 6 < tordersS) (k91 : ∀ (w91_0 : Nat → Int32) (w91_1 : Int32) (w91_2 : Int32) (w91_3 : Int32) (H : Heap) (locs : List Loc) (ls : Array Slot), ¬ w91_1 < 0 → E91 w91_0 w91_1 w91_2 w91_3 = G → va_P (dC, dI) vwCl [(kc, .inl (kA 0, 6, .inl w91_0)), (m0, .inr (3, [.int r3, .ref ko, .ref kc, .ref w0])), (ko, .inl (kA 0, 6, .inl koF)), (w0, .inr (9, [.ref tnodes, .ref tpasses, .ref tjars, .ref torders, .ref tfeasts, .ref tway, .int tws, .int tnow, .int tfm, .int tx])), (torders, .inr (6, [.int 4, .ref tordersA, .int tordersS])), (tordersA, .inl (kA 0, 24, .inl tordersF))] H → va_D A [(kc, .inl (kA 0, 6, .inl w91_0)), (m0, .inr (3, [.int r3, .ref ko, .ref kc, .ref w0])), (ko, .inl (kA 0, 6, .inl koF)), (w0, .inr (9, [.ref tnodes, .ref tpasses, .ref tjars, .ref torders, .ref tfeasts, .ref tway, .int tws, .int tnow, .int tfm, .int tx])), (torders, .inr (6, [.int 4, .ref tordersA, .int tordersS])), (tordersA, .inl (kA 0, 24, .inl tordersF))] → va_S A H0 H locs → lv_has ls 5 [(3, .int w91_1), (2, .int w91_2), (1, .int w91_3), (0, .ref m0)] → W p l e R s m args below meth c H locs cells slots Q (F0 m 91 ls []))  : ∀ (n : Nat) (g19_0 : Nat → Int32) (l19_1 : Int32) (l19_2 : Int32) (l19_3 : Int32) (H : Heap) (locs : List Loc) (ls : Array Slot), ((tordersS : Int32).toInt - l19_1.toInt).toNat < n → fl_mX3_choose_19 koF tordersS tordersF E91 n g19_0 l19_1 l19_2 l19_3 = G → ¬ l19_1 < 0 → va_P (dC, dI) vwCl [(kc, .inl (kA 0, 6, .inl g19_0)), (m0, .inr (3, [.int r3, .ref ko, .ref kc, .ref w0])), (ko, .inl (kA 0, 6, .inl koF)), (w0, .inr (9, [.ref tnodes, .ref tpasses, .ref tjars, .ref torders, .ref tfeasts, .ref tway, .int tws, .int tnow, .int tfm, .int tx])), (torders, .inr (6, [.int 4, .ref tordersA, .int tordersS])), (tordersA, .inl (kA 0, 24, .inl tordersF))] H → va_D A [(kc, .inl (kA 0, 6, .inl g19_0)), (m0, .inr (3, [.int r3, .ref ko, .ref kc, .ref w0])), (ko, .inl (kA 0, 6, .inl koF)), (w0, .inr (9, [.ref tnodes, .ref tpasses, .ref tjars, .ref torders, .ref tfeasts, .ref tway, .int tws, .int tnow, .int tfm, .int tx])), (torders, .inr (6, [.int 4, .ref tordersA, .int tordersS])), (tordersA, .inl (kA 0, 24, .inl tordersF))] → va_S A H0 H locs → lv_has ls 5 [(3, .int l19_1), (2, .int l19_2), (1, .int l19_3), (0, .ref m0)] → W p l e R s m args below meth c H locs cells slots Q (F0 m 19 ls []) := by
  intro n
  induction n with
  | zero =>
    intro g19_0 l19_1 l19_2 l19_3 H locs ls hn
    exact absurd hn (Nat.not_lt_zero _)
  | succ n ih =>
    intro g19_0 l19_1 l19_2 l19_3 H locs ls hn hG hi19 hP hD hS hl
    have hG : fb_mX3_choose_19 koF tordersS tordersF E91 (fl_mX3_choose_19 koF tordersS tordersF E91 n) g19_0 l19_1 l19_2 l19_3 = G := hG
    unfold fb_mX3_choose_19 at hG
    refine lv_iload_n hx hb dX3_choose_19 rfl (lv_at hl 0 rfl) ?_
    refine lv_aload_n hx hb dX3_choose_20 rfl (lv_at hl 3 rfl) ?_
    refine va_get (D := (dC, dI)) (ci := 3) (v := .ref w0) (C := RX3) (T := TX3) (N := 4) hx hb hts iX3_choose_X3 hown hK.1 hP 1 rfl rfl 3 (by decide) (kX3_choose_2 hts) (fun _ h9 => h9) rfl dX3_choose_21 ?_
    refine va_get (D := (dC, dI)) (ci := 9) (v := .ref torders) (C := RX9) (T := TX9) (N := 10) hx hb hts iX3_choose_X9 hown hK.1 hP 3 rfl rfl 3 (by decide) (kX3_choose_3 hts) (fun _ h9 => h9) rfl dX3_choose_24 ?_
    refine va_get (D := (dC, dI)) (ci := 6) (v := .int tordersS) (C := RX6) (T := TX6) (N := 3) hx hb hts iX3_choose_X6 hown hK.1 hP 4 rfl rfl 2 (by decide) (kX3_choose_4 hts) (fun _ h9 => h9) rfl dX3_choose_27 ?_
    refine lv_icmp_ge (tgt := 91) hx hb dX3_choose_30 (by decide) (fun c_y19_1 => ?_) (fun c_y19_1 => ?_)
    · have hG := zthen hG c_y19_1
      exact k91 g19_0 l19_1 l19_2 l19_3 H locs ls hi19 hG (hP.sub [0, 1, 2, 3, 4, 5] rfl) (hD.sub [0, 1, 2, 3, 4, 5] (by decide) rfl) hS (lv_sub hl [0, 1, 2, 3] rfl)
    · have hG := zelse hG c_y19_1
      refine lv_iload_n hx hb dX3_choose_33 rfl (lv_at hl 0 rfl) ?_
      refine lv_bipush (v := 6) hx hb dX3_choose_34 (by decide) ?_
      refine lv_icmp_ge (tgt := 91) hx hb dX3_choose_36 (by decide) (fun c_y19_2 => ?_) (fun c_y19_2 => ?_)
      · have hG := zthen hG c_y19_2
        exact k91 g19_0 l19_1 l19_2 l19_3 H locs ls hi19 hG (hP.sub [0, 1, 2, 3, 4, 5] rfl) (hD.sub [0, 1, 2, 3, 4, 5] (by decide) rfl) hS (lv_sub hl [0, 1, 2, 3] rfl)
      · have hG := zelse hG c_y19_2
        refine lv_aload_n hx hb dX3_choose_39 rfl (lv_at hl 3 rfl) ?_
        refine lv_iload_n hx hb dX3_choose_40 rfl (lv_at hl 0 rfl) ?_
        refine lv_iload_n hx hb dX3_choose_41 rfl (lv_at hl 1 rfl) ?_
        refine lv_iload_n hx hb dX3_choose_42 rfl (lv_at hl 2 rfl) ?_
        refine z_i (wr := [(kc, .inl (kA 0, 6, .inl g19_0))]) (va_runV (As := [.int l19_1, .int l19_2, .int l19_3]) (rest := []) ⟨hx, hb, hml, hown, hts⟩ (mX3_firstJar l dC dI kA _ m0 r3 ko kc koF w0 tnodes tpasses tjars torders tordersA tordersS tordersF tfeasts tway tws tnow tfm tx l19_1 l19_2 l19_3 ho0 ho6 hi19 c_y19_2) (cwV 3 hts gX3_choose_X3_firstJar rfl rfl rfl ⟨rfl, hdX3_firstJar⟩ ⟨(Nat.le_trans (Nat.le_of_ble_eq_true rfl) hRf), (Nat.le_trans (Nat.le_of_ble_eq_true rfl) hRl)⟩) ⟨zPc.blind, va_recv hK.1 hP (ci := 3) (q0 := 1) rfl rfl, zPre hK (hP.sub [1, 2, 3, 4, 5] rfl) (hD.sub [1, 2, 3, 4, 5] (by decide) rfl)⟩ rfl rfl hl.1 rfl (lv_room (Nat.le_of_ble_eq_true rfl)) dX3_choose_43 ⟨hRc, hRs⟩) hP hD hS hA [1, 2, 3, 4, 5] [0] rfl rfl (by decide) (by decide) (fun ry19_5 uy19_3 H locs hwy19_4 hP hD hS => ?_)
        obtain ⟨ery19_8, hpy19_7⟩ := hwy19_4
        have ery19_8 : ry19_5 = uy19_3 := ery19_8
        subst ery19_8
        have ery19_5 : ry19_5 = fX3_firstJar koF tordersS tordersF l19_1 l19_2 l19_3 := hpy19_7
        have hG := zbnd hG ery19_5
        obtain ⟨hP, hD⟩ := z_re (L := [(kc, .inl (kA 0, 6, .inl g19_0)), (m0, .inr (3, [.int r3, .ref ko, .ref kc, .ref w0])), (ko, .inl (kA 0, 6, .inl koF)), (w0, .inr (9, [.ref tnodes, .ref tpasses, .ref tjars, .ref torders, .ref tfeasts, .ref tway, .int tws, .int tnow, .int tfm, .int tx])), (torders, .inr (6, [.int 4, .ref tordersA, .int tordersS])), (tordersA, .inl (kA 0, 24, .inl tordersF))]) hP hD
        refine lv_istore (lv' := [(4, .int ry19_5), (3, .int l19_1), (2, .int l19_2), (1, .int l19_3), (0, .ref m0)]) hx hb dX3_choose_46 hl (by decide) rfl (fun ls hl => ?_)
        refine lv_aload_n hx hb dX3_choose_48 rfl (lv_at hl 4 rfl) ?_
        refine va_get (D := (dC, dI)) (ci := 3) (v := .ref kc) (C := RX3) (T := TX3) (N := 4) hx hb hts iX3_choose_X3 hown hK.1 hP 1 rfl rfl 2 (by decide) (kX3_choose_5 hts) (fun _ h9 => h9) rfl dX3_choose_49 ?_
        refine lv_iload_n hx hb dX3_choose_52 rfl (lv_at hl 1 rfl) ?_
        refine lv_iload hx hb dX3_choose_53 (lv_at hl 0 rfl) ?_
        refine va_iast hx hb hK.1 hP hD hS 0 0 rfl rfl (vp_lt (by decide) hi19 c_y19_2) dX3_choose_55 (fun H locs hP hD hS => ?_)
        obtain ⟨hP, hD⟩ := z_re (L := [(kc, .inl (kA 0, 6, .inl (upd g19_0 l19_1.toNatClampNeg ry19_5))), (m0, .inr (3, [.int r3, .ref ko, .ref kc, .ref w0])), (ko, .inl (kA 0, 6, .inl koF)), (w0, .inr (9, [.ref tnodes, .ref tpasses, .ref tjars, .ref torders, .ref tfeasts, .ref tway, .int tws, .int tnow, .int tfm, .int tx])), (torders, .inr (6, [.int 4, .ref tordersA, .int tordersS])), (tordersA, .inl (kA 0, 24, .inl tordersF))]) hP hD
        obtain ⟨fy19_10, efy19_10⟩ : ∃ y : Nat → Int32, y = (upd g19_0 l19_1.toNatClampNeg ry19_5) := ⟨_, rfl⟩
        rw [← efy19_10] at hP hD
        have hG := zbnd hG efy19_10
        refine lv_iload hx hb dX3_choose_56 (lv_at hl 0 rfl) ?_
        refine lv_bipush (v := 16) hx hb dX3_choose_58 (by decide) ?_
        refine lv_icmp_eq (tgt := 85) hx hb dX3_choose_60 (by decide) (fun c_y19_11 => ?_) (fun c_y19_11 => ?_)
        · have hG := zthen hG c_y19_11
          obtain ⟨xy19_12, exy19_12⟩ : ∃ y : Int32, y = l19_1 + 1 := ⟨_, rfl⟩
          have hG := zbnd hG exy19_12
          refine lv_iinc (v := xy19_12) (lv' := [(3, .int xy19_12), (4, .int ry19_5), (2, .int l19_2), (1, .int l19_3), (0, .ref m0)]) hx hb dX3_choose_85 hl (k := 1) rfl (by rw [exy19_12]; rfl) (by decide) rfl (fun ls hl => ?_)
          refine lv_goto (tgt := 19) hx hb dX3_choose_88 (by decide) ?_
          exact ih fy19_10 xy19_12 l19_2 l19_3 H locs ls (z_up hn exy19_12 c_y19_1) hG (z_nn exy19_12 c_y19_1 hi19) (hP.sub [0, 1, 2, 3, 4, 5] rfl) (hD.sub [0, 1, 2, 3, 4, 5] (by decide) rfl) hS (lv_sub hl [0, 2, 3, 4] rfl)
        · have hG := zelse hG c_y19_11
          refine lv_iload_n hx hb dX3_choose_63 rfl (lv_at hl 2 rfl) ?_
          refine lv_iconst (v := 1) hx hb dX3_choose_64 (by decide) ?_
          refine lv_iload hx hb dX3_choose_65 (lv_at hl 0 rfl) ?_
          refine lv_ishl hx hb dX3_choose_67 ?_
          refine lv_topi (fun xy19_13 exy19_13 => ?_)
          have hG := zbnd hG exy19_13
          refine lv_ior hx hb dX3_choose_68 ?_
          refine lv_topi (fun xy19_14 exy19_14 => ?_)
          have hG := zbnd hG exy19_14
          refine lv_istore_n (lv' := [(2, .int xy19_14), (4, .int ry19_5), (3, .int l19_1), (1, .int l19_3), (0, .ref m0)]) hx hb dX3_choose_69 rfl hl (by decide) rfl (fun ls hl => ?_)
          refine lv_iload_n hx hb dX3_choose_70 rfl (lv_at hl 3 rfl) ?_
          refine lv_aload_n hx hb dX3_choose_71 rfl (lv_at hl 4 rfl) ?_
          refine va_get (D := (dC, dI)) (ci := 3) (v := .ref w0) (C := RX3) (T := TX3) (N := 4) hx hb hts iX3_choose_X3 hown hK.1 hP 1 rfl rfl 3 (by decide) (kX3_choose_2 hts) (fun _ h9 => h9) rfl dX3_choose_72 ?_
          refine va_get (D := (dC, dI)) (ci := 9) (v := .ref torders) (C := RX9) (T := TX9) (N := 10) hx hb hts iX3_choose_X9 hown hK.1 hP 3 rfl rfl 3 (by decide) (kX3_choose_3 hts) (fun _ h9 => h9) rfl dX3_choose_75 ?_
          refine lv_iload_n hx hb dX3_choose_78 rfl (lv_at hl 2 rfl) ?_
          refine lv_iconst (v := 3) hx hb dX3_choose_79 (by decide) ?_
          refine z_i (wr := [(kc, .inl (kA 0, 6, .inl fy19_10)), (m0, .inr (3, [.int r3, .ref ko, .ref kc, .ref w0])), (ko, .inl (kA 0, 6, .inl koF)), (w0, .inr (9, [.ref tnodes, .ref tpasses, .ref tjars, .ref torders, .ref tfeasts, .ref tway, .int tws, .int tnow, .int tfm, .int tx]))]) (va_runV (As := [.int l19_1, .int 3]) (rest := [.int l19_3]) ⟨hx, hb, hml, hown, hts⟩ (mX6_get_24 l dC dI kA _ torders tordersA 4 tordersS tordersF l19_1 3) (cwV 2 hts gX3_choose_X6_get rfl rfl rfl ⟨rfl, hdX6_get⟩ ⟨(Nat.le_trans (Nat.le_of_ble_eq_true rfl) hRf), (Nat.le_trans (Nat.le_of_ble_eq_true rfl) hRl)⟩) ⟨zPc.blind, va_recv hK.1 hP (ci := 6) (q0 := 4) rfl rfl, zPre hK (hP.sub [4, 5] rfl) (hD.sub [4, 5] (by decide) rfl)⟩ rfl rfl hl.1 rfl (lv_room (Nat.le_of_ble_eq_true rfl)) dX3_choose_80 ⟨hRc, hRs⟩) hP hD hS hA [4, 5] [0, 1, 2, 3] rfl rfl (by decide) (by decide) (fun ry19_17 uy19_15 H locs hwy19_16 hP hD hS => ?_)
          obtain ⟨ery19_20, hpy19_19⟩ := hwy19_16
          have ery19_20 : ry19_17 = uy19_15 := ery19_20
          subst ery19_20
          have ery19_17 : ry19_17 = fX6_get_24 4 tordersF l19_1 3 := hpy19_19
          have hG := zbnd hG ery19_17
          obtain ⟨hP, hD⟩ := z_re (L := [(kc, .inl (kA 0, 6, .inl fy19_10)), (m0, .inr (3, [.int r3, .ref ko, .ref kc, .ref w0])), (ko, .inl (kA 0, 6, .inl koF)), (w0, .inr (9, [.ref tnodes, .ref tpasses, .ref tjars, .ref torders, .ref tfeasts, .ref tway, .int tws, .int tnow, .int tfm, .int tx])), (torders, .inr (6, [.int 4, .ref tordersA, .int tordersS])), (tordersA, .inl (kA 0, 24, .inl tordersF))]) hP hD
          refine lv_isub hx hb dX3_choose_83 ?_
          refine lv_topi (fun xy19_22 exy19_22 => ?_)
          have hG := zbnd hG exy19_22
          refine lv_istore_n (lv' := [(1, .int xy19_22), (2, .int xy19_14), (4, .int ry19_5), (3, .int l19_1), (0, .ref m0)]) hx hb dX3_choose_84 rfl hl (by decide) rfl (fun ls hl => ?_)
          obtain ⟨xy19_23, exy19_23⟩ : ∃ y : Int32, y = l19_1 + 1 := ⟨_, rfl⟩
          have hG := zbnd hG exy19_23
          refine lv_iinc (v := xy19_23) (lv' := [(3, .int xy19_23), (1, .int xy19_22), (2, .int xy19_14), (4, .int ry19_5), (0, .ref m0)]) hx hb dX3_choose_85 hl (k := 3) rfl (by rw [exy19_23]; rfl) (by decide) rfl (fun ls hl => ?_)
          refine lv_goto (tgt := 19) hx hb dX3_choose_88 (by decide) ?_
          exact ih fy19_10 xy19_23 xy19_14 xy19_22 H locs ls (z_up hn exy19_23 c_y19_1) hG (z_nn exy19_23 c_y19_1 hi19) (hP.sub [0, 1, 2, 3, 4, 5] rfl) (hD.sub [0, 1, 2, 3, 4, 5] (by decide) rfl) hS (lv_sub hl [0, 2, 1, 4] rfl)
set_option maxRecDepth 100000 in
def fX3_choose (koF : Nat → Int32) (kcF : Nat → Int32) (tordersS : Int32) (tordersF : Nat → Int32) : Int32 × (Nat → Int32) := bnd (fX3_greatest koF tordersS tordersF 0 0) (fun (r3 : Int32) => fl_mX3_choose_19 koF tordersS tordersF (fun (w91_0_0 : Nat → Int32) (w91_1_0 : Int32) (w91_2_0 : Int32) (w91_3_0 : Int32) => (r3, w91_0_0)) (((tordersS : Int32).toInt - (0 : Int32).toInt).toNat + 1) kcF 0 0 r3)
set_option maxHeartbeats 4000000 in
set_option maxRecDepth 100000 in
theorem mX3_choose (l : Launch) (dC : Nat → ClassId) (dI : Nat → Nat → Nat) (kA : Nat → ClassId) (sz : Nat) (m0 : Nat) (k_paid : Int32) (ko : Nat) (kc : Nat) (koF : Nat → Int32) (kcF : Nat → Int32) (w0 : Nat) (tnodes : Nat) (tpasses : Nat) (tjars : Nat) (torders : Nat) (tordersA : Nat) (tordersS : Int32) (tordersF : Nat → Int32) (tfeasts : Nat) (tway : Nat) (tws : Int32) (tnow : Int32) (tfm : Int32) (tx : Int32) (ho0 : ¬ tordersS < 0) (ho6 : ¬ 6 < tordersS) : Met l yX3_choose wsX3_choose ({ frames := 4, cells := 0, slots := 0, locals := 99 }) (zPc dC dI kA sz [.ref m0] [(m0, .inr (3, [.int k_paid, .ref ko, .ref kc, .ref w0])), (ko, .inl (kA 0, 6, .inl koF)), (kc, .inl (kA 0, 6, .inl kcF)), (w0, .inr (9, [.ref tnodes, .ref tpasses, .ref tjars, .ref torders, .ref tfeasts, .ref tway, .int tws, .int tnow, .int tfm, .int tx])), (torders, .inr (6, [.int 4, .ref tordersA, .int tordersS])), (tordersA, .inl (kA 0, 24, .inl tordersF))]) (va_Qv (fun (u : Int32 × (Nat → Int32)) => (u.1, u.2) = fX3_choose koF kcF tordersS tordersF) (zB dC dI (va_A [(m0, .inr (3, [.int k_paid, .ref ko, .ref kc, .ref w0])), (ko, .inl (kA 0, 6, .inl koF)), (kc, .inl (kA 0, 6, .inl kcF)), (w0, .inr (9, [.ref tnodes, .ref tpasses, .ref tjars, .ref torders, .ref tfeasts, .ref tway, .int tws, .int tnow, .int tfm, .int tx])), (torders, .inr (6, [.int 4, .ref tordersA, .int tordersS])), (tordersA, .inl (kA 0, 24, .inl tordersF))] sz) (fun (u : Int32 × (Nat → Int32)) => [(m0, .inr (3, [.int u.1, .ref ko, .ref kc, .ref w0])), (ko, .inl (kA 0, 6, .inl koF)), (kc, .inl (kA 0, 6, .inl u.2)), (w0, .inr (9, [.ref tnodes, .ref tpasses, .ref tjars, .ref torders, .ref tfeasts, .ref tway, .int tws, .int tnow, .int tfm, .int tx])), (torders, .inr (6, [.int 4, .ref tordersA, .int tordersS])), (tordersA, .inl (kA 0, 24, .inl tordersF))])) (va_A [(m0, .inr (3, [.int k_paid, .ref ko, .ref kc, .ref w0])), (ko, .inl (kA 0, 6, .inl koF)), (kc, .inl (kA 0, 6, .inl kcF)), (w0, .inr (9, [.ref tnodes, .ref tpasses, .ref tjars, .ref torders, .ref tfeasts, .ref tway, .int tws, .int tnow, .int tfm, .int tx])), (torders, .inr (6, [.int 4, .ref tordersA, .int tordersS])), (tordersA, .inl (kA 0, 24, .inl tordersF))] sz)) 0 0 (va_A [(m0, .inr (3, [.int k_paid, .ref ko, .ref kc, .ref w0])), (ko, .inl (kA 0, 6, .inl koF)), (kc, .inl (kA 0, 6, .inl kcF)), (w0, .inr (9, [.ref tnodes, .ref tpasses, .ref tjars, .ref torders, .ref tfeasts, .ref tway, .int tws, .int tnow, .int tfm, .int tx])), (torders, .inr (6, [.int 4, .ref tordersA, .int tordersS])), (tordersA, .inl (kA 0, 24, .inl tordersF))] sz) := by
  refine Met.ofW (cc := cX3_choose) (maxL := 5) (ret := none) (by decide) rfl ?_
  intro p e s m args below meth c s₁ B hml hv
  obtain ⟨rfl, hsz, hP, hK, hD0⟩ := hv
  have hx := B.exec
  have hb := B.bytes
  have hr := B.returns
  have hts := atoms_spec (ws := wsX3_choose) B.pre
  have hown : s.vm.findClass RX3 = some m.cls := findClass_of_methodNamed B.named
  have hlocks := B.notSynchronized
  subst hsz
  have hD := hD0.self (sz := s.heap.size)
  generalize hAe : va_A [(m0, .inr (3, [.int k_paid, .ref ko, .ref kc, .ref w0])), (ko, .inl (kA 0, 6, .inl koF)), (kc, .inl (kA 0, 6, .inl kcF)), (w0, .inr (9, [.ref tnodes, .ref tpasses, .ref tjars, .ref torders, .ref tfeasts, .ref tway, .int tws, .int tnow, .int tfm, .int tx])), (torders, .inr (6, [.int 4, .ref tordersA, .int tordersS])), (tordersA, .inl (kA 0, 24, .inl tordersF))] s.heap.size = A at hD ⊢
  have hA : ∀ q : Nat, s.heap.size ≤ q → A q := fun q h => by rw [← hAe]; exact Or.inr h
  have hS : va_S A s.heap s.heap [] := va_S.rf
  have hP : va_P (dC, dI) vwCl [(m0, .inr (3, [.int k_paid, .ref ko, .ref kc, .ref w0])), (ko, .inl (kA 0, 6, .inl koF)), (kc, .inl (kA 0, 6, .inl kcF)), (w0, .inr (9, [.ref tnodes, .ref tpasses, .ref tjars, .ref torders, .ref tfeasts, .ref tway, .int tws, .int tnow, .int tfm, .int tx])), (torders, .inr (6, [.int 4, .ref tordersA, .int tordersS])), (tordersA, .inl (kA 0, 24, .inl tordersF))] s.heap := hP
  have hl := lv_entry ([.ref m0]) (n := 5) (Nat.le_of_ble_eq_true rfl)
  rw [lg_entry_eq]
  generalize (lg_sl ([.ref m0]) ++ List.replicate (5 - (lg_sl ([.ref m0])).length) Slot.unset).toArray = ls at hl ⊢
  have hl : lv_has ls 5 [(0, .ref m0)] := hl
  obtain ⟨H, hHe⟩ : ∃ H : Heap, H = s.heap := ⟨_, rfl⟩
  obtain ⟨G, hG0⟩ : ∃ G : Int32 × (Nat → Int32), fX3_choose koF kcF tordersS tordersF = G := ⟨_, rfl⟩
  have hG := hG0
  unfold fX3_choose at hG
  refine lv_aload_n hx hb dX3_choose_0 rfl (lv_at hl 0 rfl) ?_
  refine lv_aload_n hx hb dX3_choose_1 rfl (lv_at hl 0 rfl) ?_
  refine lv_iconst (v := 0) hx hb dX3_choose_2 (by decide) ?_
  refine lv_iconst (v := 0) hx hb dX3_choose_3 (by decide) ?_
  refine z_i (wr := [(kc, .inl (kA 0, 6, .inl kcF))]) (va_runV (As := [.int 0, .int 0]) (rest := [.ref m0]) ⟨hx, hb, hml, hown, hts⟩ (mX3_greatest l dC dI kA _ m0 k_paid ko kc koF w0 tnodes tpasses tjars torders tordersA tordersS tordersF tfeasts tway tws tnow tfm tx 0 0 ho0 ho6 (by decide) (by decide)) (cwV 2 hts gX3_choose_X3_greatest rfl rfl rfl ⟨rfl, hdX3_greatest⟩ ⟨(Nat.le_of_ble_eq_true rfl), (Nat.le_of_ble_eq_true rfl)⟩) ⟨zPc.blind, va_recv hK.1 hP (ci := 3) (q0 := 0) rfl rfl, zPre hK (hP.sub [0, 1, 3, 4, 5] rfl) (hD.sub [0, 1, 3, 4, 5] (by decide) rfl)⟩ rfl rfl hl.1 rfl (lv_room (Nat.le_of_ble_eq_true rfl)) dX3_choose_4 ⟨(Nat.le_of_ble_eq_true rfl), (Nat.le_of_ble_eq_true rfl)⟩) hP hD hS hA [0, 1, 3, 4, 5] [2] rfl rfl (by decide) (by decide) (fun r3 u1 H locs hw2 hP hD hS => ?_)
  obtain ⟨er6, hp5⟩ := hw2
  have er6 : r3 = u1 := er6
  subst er6
  have er3 : r3 = fX3_greatest koF tordersS tordersF 0 0 := hp5
  have hG := zbnd hG er3
  obtain ⟨hP, hD⟩ := z_re (L := [(kc, .inl (kA 0, 6, .inl kcF)), (m0, .inr (3, [.int k_paid, .ref ko, .ref kc, .ref w0])), (ko, .inl (kA 0, 6, .inl koF)), (w0, .inr (9, [.ref tnodes, .ref tpasses, .ref tjars, .ref torders, .ref tfeasts, .ref tway, .int tws, .int tnow, .int tfm, .int tx])), (torders, .inr (6, [.int 4, .ref tordersA, .int tordersS])), (tordersA, .inl (kA 0, 24, .inl tordersF))]) hP hD
  refine va_put (D := (dC, dI)) (ci := 3) (v := .int r3) (ty := .int) (C := RX3) (T := TX3) (N := 4) hx hb hts iX3_choose_X3 tyX3 tyX3_ok nmX3 hown hK.1 hP hD hS 1 rfl rfl 0 (by decide) (kX3_choose_1 hts) (fun _ h9 => h9) rfl (by decide +kernel) rfl rfl (Nat.le_of_ble_eq_true rfl) dX3_choose_7 (fun H locs hP hD hS => ?_)
  obtain ⟨hP, hD⟩ := z_re (L := [(kc, .inl (kA 0, 6, .inl kcF)), (m0, .inr (3, [.int r3, .ref ko, .ref kc, .ref w0])), (ko, .inl (kA 0, 6, .inl koF)), (w0, .inr (9, [.ref tnodes, .ref tpasses, .ref tjars, .ref torders, .ref tfeasts, .ref tway, .int tws, .int tnow, .int tfm, .int tx])), (torders, .inr (6, [.int 4, .ref tordersA, .int tordersS])), (tordersA, .inl (kA 0, 24, .inl tordersF))]) hP hD
  refine lv_aload_n hx hb dX3_choose_10 rfl (lv_at hl 0 rfl) ?_
  refine va_get (D := (dC, dI)) (ci := 3) (v := .int r3) (C := RX3) (T := TX3) (N := 4) hx hb hts iX3_choose_X3 hown hK.1 hP 1 rfl rfl 0 (by decide) (kX3_choose_1 hts) (fun _ h9 => h9) rfl dX3_choose_11 ?_
  refine lv_istore_n (lv' := [(1, .int r3), (0, .ref m0)]) hx hb dX3_choose_14 rfl hl (by decide) rfl (fun ls hl => ?_)
  refine lv_iconst (v := 0) hx hb dX3_choose_15 (by decide) ?_
  refine lv_istore_n (lv' := [(2, .int 0), (1, .int r3), (0, .ref m0)]) hx hb dX3_choose_16 rfl hl (by decide) rfl (fun ls hl => ?_)
  refine lv_iconst (v := 0) hx hb dX3_choose_17 (by decide) ?_
  refine lv_istore_n (lv' := [(3, .int 0), (2, .int 0), (1, .int r3), (0, .ref m0)]) hx hb dX3_choose_18 rfl hl (by decide) rfl (fun ls hl => ?_)
  refine lp_mX3_choose_19 hx hb hml hts hown hK hA (Nat.le_of_ble_eq_true rfl) (Nat.le_of_ble_eq_true rfl) (Nat.le_of_ble_eq_true rfl) (Nat.le_of_ble_eq_true rfl) m0 ko kc koF w0 tnodes tpasses tjars torders tordersA tordersS tordersF tfeasts tway tws tnow tfm tx r3 ho0 ho6 (fun w91_0_0 w91_1_0 w91_2_0 w91_3_0 H locs ls hx91_3_nlt00_0 hG hP hD hS hl => ?_) _ kcF 0 0 r3 _ _ ls (Nat.lt_succ_self _) hG (by decide) hP hD hS (lv_sub hl [0, 1, 2, 3] rfl)
  obtain ⟨hP, hD⟩ := z_re (L := [(kc, .inl (kA 0, 6, .inl w91_0_0)), (m0, .inr (3, [.int r3, .ref ko, .ref kc, .ref w0])), (ko, .inl (kA 0, 6, .inl koF)), (w0, .inr (9, [.ref tnodes, .ref tpasses, .ref tjars, .ref torders, .ref tfeasts, .ref tway, .int tws, .int tnow, .int tfm, .int tx])), (torders, .inr (6, [.int 4, .ref tordersA, .int tordersS])), (tordersA, .inl (kA 0, 24, .inl tordersF))]) hP hD
  obtain ⟨hP9, hD9⟩ := z_sb (L' := [(m0, .inr (3, [.int r3, .ref ko, .ref kc, .ref w0])), (ko, .inl (kA 0, 6, .inl koF)), (kc, .inl (kA 0, 6, .inl w91_0_0)), (w0, .inr (9, [.ref tnodes, .ref tpasses, .ref tjars, .ref torders, .ref tfeasts, .ref tway, .int tws, .int tnow, .int tfm, .int tx])), (torders, .inr (6, [.int 4, .ref tordersA, .int tordersS])), (tordersA, .inl (kA 0, 24, .inl tordersF))]) hP hD [1, 2, 0, 3, 4, 5] (by decide) rfl
  refine W.widen (k := 0) (n := 0) (Nat.le_of_ble_eq_true rfl) (Nat.le_of_ble_eq_true rfl) ?_
  exact W.vret hx hb hr (fun t ht hW => ⟨⟨(r3, w91_0_0), rfl, (hG.trans hG0.symm), by rw [ht]; exact hP9, hD9⟩, hS.F ht⟩) hS.2.2 dX3_choose_91
