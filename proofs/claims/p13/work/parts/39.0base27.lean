def tS : String := "month hour day height sun cold node drops felt salt gone melt rest share burst chain if or and not "
def bS : List Int32 := 109 :: 111 :: 110 :: 116 :: 104 :: 32 :: 104 :: 111 :: 117 :: 114 :: 32 :: 100 :: 97 :: 121 :: 32 :: 104 :: 101 :: 105 :: 103 :: 104 :: 116 :: 32 :: 115 :: 117 :: 110 :: 32 :: 99 :: 111 :: 108 :: 100 :: 32 :: 110 :: 111 :: 100 :: 101 :: 32 :: 100 :: 114 :: 111 :: 112 :: 115 :: 32 :: 102 :: 101 :: 108 :: 116 :: 32 :: 115 :: 97 :: 108 :: 116 :: 32 :: 103 :: 111 :: 110 :: 101 :: 32 :: 109 :: 101 :: 108 :: 116 :: 32 :: 114 :: 101 :: 115 :: 116 :: 32 :: 115 :: 104 :: 97 :: 114 :: 101 :: 32 :: 98 :: 117 :: 114 :: 115 :: 116 :: 32 :: 99 :: 104 :: 97 :: 105 :: 110 :: 32 :: 105 :: 102 :: 32 :: 111 :: 114 :: 32 :: 97 :: 110 :: 100 :: 32 :: 110 :: 111 :: 116 :: 32 :: []
def CHR (r : Int32) : Prop := narrow .char (.int r) = .int r
/-- the String constant that the reader of laws reads, and what its methods ask of the start -/
def zStr (aS vS : Nat) (oS : Option Nat) (A : Nat → Prop) (U : State) (H : Heap) : Prop := vk_R RX2 91 tS aS U ∧ va_O "java/lang/String" aS A U H ∧ va_OF "java/lang/String" "coder" "B" (.int 0) aS A U H ∧ va_OF "java/lang/String" "value" "[B" (.ref vS) aS A U H ∧ va_T .byte vS 99 (fun j => .int (bS.getD j 0)) A U H ∧ va_Z "java/lang/String" "COMPACT_STRINGS" "Z" (.int 1) A U H ∧ va_Z "jdk/internal/util/Preconditions" "SIOOBE_FORMATTER" "Ljava/util/function/BiFunction;" (va_rf oS) A U H
theorem zStr.kept {aS vS : Nat} {oS : Option Nat} {A : Nat → Prop} {U : State} {H H1 : Heap} (h : zStr aS vS oS A U H) (hq : ∀ a : Nat, a < H.size → ¬ A a → H1[a]? = H[a]?) : zStr aS vS oS A U H1 := ⟨h.1, h.2.1.kept hq, h.2.2.1.kept hq, h.2.2.2.1.kept hq, h.2.2.2.2.1.kept hq, h.2.2.2.2.2.1.kept hq, h.2.2.2.2.2.2.kept hq⟩
theorem zStr.narrow {aS vS : Nat} {oS : Option Nat} {A B : Nat → Prop} {U : State} {H : Heap} (h : zStr aS vS oS A U H) (hAB : ∀ q, B q → A q) : zStr aS vS oS B U H := ⟨h.1, h.2.1.narrow hAB, h.2.2.1.narrow hAB, h.2.2.2.1.narrow hAB, h.2.2.2.2.1.narrow hAB, h.2.2.2.2.2.1.narrow hAB, h.2.2.2.2.2.2.narrow hAB⟩
theorem zStr.warm {aS vS : Nat} {oS : Option Nat} {A : Nat → Prop} {s U : State} {H : Heap} (hW : s.WarmedH U.vm) (h : zStr aS vS oS A s H) : zStr aS vS oS A U H := ⟨h.1.warm hW, va_O.moved hW.alike h.2.1, va_OF.moved hW.alike h.2.2.1, va_OF.moved hW.alike h.2.2.2.1, va_T.moved hW.alike h.2.2.2.2.1, va_Z.moved hW.alike h.2.2.2.2.2.1, va_Z.moved hW.alike h.2.2.2.2.2.2⟩
theorem zStr.calling {aS vS : Nat} {oS : Option Nat} {A : Nat → Prop} {U : State} {g : JFrame} {mk : MethodId} {a : Array Value} (h : zStr aS vS oS A U U.heap) : zStr aS vS oS A (U.calling g mk a) (U.calling g mk a).heap := ⟨vk_R.same (u := U) (U := U.calling g mk a) rfl h.1, va_O.moved (u := U) (U := U.calling g mk a) (Vm.Alike.refl U.vm) h.2.1, va_OF.moved (u := U) (U := U.calling g mk a) (Vm.Alike.refl U.vm) h.2.2.1, va_OF.moved (u := U) (U := U.calling g mk a) (Vm.Alike.refl U.vm) h.2.2.2.1, va_T.moved (u := U) (U := U.calling g mk a) (Vm.Alike.refl U.vm) h.2.2.2.2.1, va_Z.moved (u := U) (U := U.calling g mk a) (Vm.Alike.refl U.vm) h.2.2.2.2.2.1, va_Z.moved (u := U) (U := U.calling g mk a) (Vm.Alike.refl U.vm) h.2.2.2.2.2.2⟩
abbrev zPcS (dC : Nat → ClassId) (dI : Nat → Nat → Nat) (kA : Nat → ClassId) (sz aS vS : Nat) (oS : Option Nat) (av : List Value) (ws : va_W) : Array Value → State → Prop := va_Pc av (fun U => U.heap.size = sz ∧ va_P (dC, dI) vwCl ws U.heap ∧ zK dC dI kA U ∧ va_D (fun _ => True) ws ∧ zStr aS vS oS (va_A ws sz) U U.heap)
theorem zPcS.blind {dC : Nat → ClassId} {dI : Nat → Nat → Nat} {kA : Nat → ClassId} {sz aS vS : Nat} {oS : Option Nat} {av : List Value} {ws : va_W} : FrameBlind (zPcS dC dI kA sz aS vS oS av ws) := fun _ _ _ _ h => ⟨h.1, h.2.1, h.2.2.1, h.2.2.2.1.calling, h.2.2.2.2.1, h.2.2.2.2.2.calling⟩
theorem zPreS {dC : Nat → ClassId} {dI : Nat → Nat → Nat} {kA : Nat → ClassId} {s : State} {H : Heap} {A : Nat → Prop} {av : List Value} {wc : va_W} {aS vS : Nat} {oS : Option Nat} {locs : List Loc} (hK : zK dC dI kA s) (hP : va_P (dC, dI) vwCl wc H) (hD : va_D A wc) (hZ : zStr aS vS oS A s s.heap) (hS : va_S A s.heap H locs) (hF : ∀ q, va_A wc H.size q → A q) : ∀ U : State, U.heap = H → s.WarmedH U.vm → zPcS dC dI kA H.size aS vS oS av wc av.toArray U := fun U hU hW => ⟨rfl, by rw [hU], by rw [hU]; exact hP, hK.warm hW, hD.weaken (fun _ _ _ _ => trivial), by rw [hU]; exact ((hZ.kept hS.2.1).narrow hF).warm hW⟩
theorem zrecS {s : State} {H : Heap} {A : Nat → Prop} {aS vS : Nat} {oS : Option Nat} {locs : List Loc} (hZ : zStr aS vS oS A s s.heap) (hS : va_S A s.heap H locs) : ∃ cell : Cell, H[aS]? = some cell ∧ cell.vm.isStatics = false ∧ s.vm.findClass "java/lang/String" = some cell.cls := by
  obtain ⟨cell, h1, h2, h3, -⟩ := hZ.2.1.kept hS.2.1
  exact ⟨cell, h1, h2, h3⟩
theorem z_weakS {l : Launch} {y : MethodName} {cw : List Cond} {rm : Room} {dC : Nat → ClassId} {dI : Nat → Nat → Nat} {kA : Nat → ClassId} {sz aS vS : Nat} {oS : Option Nat} {av : List Value} {ws : va_W} {Qc : Array Value → State → Outcome → State → Prop} {mc ms : Nat} {free : Addr → Prop} (h : Met l y cw rm (zPc dC dI kA sz av ws) Qc mc ms free) : Met l y cw rm (zPcS dC dI kA sz aS vS oS av ws) Qc mc ms free :=
  Met_up h (Nat.le_refl _) (Nat.le_refl _) (Nat.le_refl _) (Nat.le_refl _) (Nat.le_refl _) (Nat.le_refl _) (fun _ _ hp => ⟨hp.1, hp.2.1, hp.2.2.1, hp.2.2.2.1, hp.2.2.2.2.1⟩) (fun _ _ _ _ _ hq => hq) (fun _ hq => hq)
/-- a contract over some cells, as one over a world that holds them -/
theorem z_wrapS {l : Launch} {y : MethodName} {cw : List Cond} {rm rm' : Room} {dC : Nat → ClassId} {dI : Nat → Nat → Nat} {kA : Nat → ClassId} {sz aS vS : Nat} {oS : Option Nat} {av : List Value} {S : Type} {post : Int32 → S → Prop} {w1 : S → va_W} {wc X wr T ws : va_W} {post' : Int32 → va_W → Prop} {mc ms mc' ms' : Nat}
    (h : Met l y cw rm (zPcS dC dI kA sz aS vS oS av wc) (va_Qi post (zB dC dI (va_A wc sz) w1) (va_A wc sz)) mc ms (va_A wc sz))
    (hf : rm.frames ≤ rm'.frames) (hl : rm.locals ≤ rm'.locals) (hc : rm.cells ≤ rm'.cells) (hs : rm.slots ≤ rm'.slots) (hmc : mc ≤ mc') (hms : ms ≤ ms')
    (hp : ws.Perm (X ++ T)) (isC isR : List Nat) (hC : isC.map (fun i => X[i]?) = wc.map some) (hnC : va_nd isC = true) (hR : isR.map (fun i => X[i]?) = wr.map some) (hn : va_nd isR = true) (hdis : ∀ i ∈ isR, i ∉ isC)
    (X2 : S → va_W) (isO : List Nat) (hO : ∀ u, isO.map (fun i => (wr ++ w1 u)[i]?) = (X2 u).map some) (hnO : va_nd isO = true) (hpost : ∀ r u, post r u → post' r (X2 u ++ T)) :
    Met l y cw rm' (zPcS dC dI kA sz aS vS oS av ws) (va_Qi post' (zB dC dI (va_A ws sz) (fun u => u)) (va_A ws sz)) mc' ms' (va_A ws sz) := by
  have memX : ∀ x ∈ wc, x ∈ ws := fun x hx => hp.mem_iff.mpr (List.mem_append_left _ (map_mem hC x hx))
  have sub : ∀ q, va_A wc sz q → va_A ws sz q := fun q hq => wp_A hq memX
  refine Met_up h hf hl hc hs hmc hms ?_ ?_ sub
  · intro a s ⟨ha, hsz, hP, hK, hD, hZ⟩
    have hP2 := wp_P hP hp
    have hD2 := wp_D hD hp
    refine ⟨ha, hsz, fun k q hk => ?_, hK, ?_, hZ.narrow sub⟩
    · obtain ⟨i, hi⟩ := List.getElem?_of_mem (memX q (List.mem_of_getElem? hk))
      exact hP i q hi
    · have h0 := hD2.part isC hnC hC
      refine h0.by id (fun k q hq => ?_) (fun i j _ _ e => e)
      show (wc ++ T)[k]? = some q
      rw [List.getElem?_append_left (List.getElem?_eq_some_iff.mp hq).1]
      exact hq
  · intro a s o t ⟨ha, hsz, hP, hK, hD, hZ⟩ ⟨⟨r, u, ho, hr, hP1, hD1⟩, hF1, hF2⟩
    have hP2 := wp_P hP hp
    have hD2 : va_D (va_A ws sz) (X ++ T) := wp_D (hD.self (sz := sz)) hp
    rw [hsz] at hF2
    have hj := va_joinQ (A0 := va_A ws sz) (X := X) (cx := wc) (wr := wr) (w1 := w1 u) (pl := T) (H := s.heap) (H1 := t.heap) hP2 hD2 isC isR hC hR hn hdis (by rw [hsz]; exact hF2) (by rw [hsz]; exact sub) hP1 (by rw [hsz]; exact hD1)
    refine ⟨⟨r, X2 u ++ T, ho, hpost r u hr, hj.1.part isO (hO u), hj.2.part isO hnO (hO u)⟩, hF1, fun q hq hn => ?_⟩
    rw [hsz] at hq
    exact hF2 q hq (fun x => hn (sub q x))
