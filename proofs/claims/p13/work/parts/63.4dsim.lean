/-- the bytes of c from k on are those of c2 -/
def CHk (c c2 : ByteArray) (k : Nat) : Prop := ∀ (p : Nat) (h : p < c2.size), ∃ h2 : k + p < c.size, c[k + p]'h2 = c2[p]'h
def Sim (c c2 : ByteArray) (k : Nat) {α : Type} (d : Jvm.ClassFile.Decoder α) : Prop := ∀ (p : Nat) (r : α) (q : Nat), Jvm.ClassFile.Reader.runAt d c2 p = .ok (r, q) → Jvm.ClassFile.Reader.runAt d c (k + p) = .ok (r, k + q)
theorem ra_bind {α β : Type} {d : Jvm.ClassFile.Decoder α} {f : α → Jvm.ClassFile.Decoder β} {c : ByteArray} {p : Nat} : Jvm.ClassFile.Reader.runAt (d >>= f) c p = (Jvm.ClassFile.Reader.runAt d c p) >>= (fun aq => Jvm.ClassFile.Reader.runAt (f aq.1) c aq.2) := rfl
theorem ra_map {α β : Type} {d : Jvm.ClassFile.Decoder α} {f : α → β} {c : ByteArray} {p : Nat} : Jvm.ClassFile.Reader.runAt (f <$> d) c p = (Jvm.ClassFile.Reader.runAt d c p) >>= (fun aq => pure (f aq.1, aq.2)) := rfl
theorem ra_u1 {c : ByteArray} {p : Nat} (h : p < c.size) : Jvm.ClassFile.Reader.runAt (Jvm.ClassFile.Reader.u1 : Jvm.ClassFile.Decoder Nat) c p = .ok ((c[p]'h).toNat, p + 1) := by
  have e : Jvm.ClassFile.Reader.runAt (Jvm.ClassFile.Reader.u1 : Jvm.ClassFile.Decoder Nat) c p = Jvm.ClassFile.Reader.runAt (if h : p < c.size then (do set (p + 1); pure (c[p]'h).toNat) else throw (Jvm.ClassFile.HasTruncated.truncated p) : Jvm.ClassFile.Decoder Nat) c p := rfl
  rw [e, dif_pos h]
  rfl
theorem ra_u1n {c : ByteArray} {p : Nat} (h : ¬ p < c.size) : Jvm.ClassFile.Reader.runAt (Jvm.ClassFile.Reader.u1 : Jvm.ClassFile.Decoder Nat) c p = .error (Jvm.ClassFile.HasTruncated.truncated p) := by
  have e : Jvm.ClassFile.Reader.runAt (Jvm.ClassFile.Reader.u1 : Jvm.ClassFile.Decoder Nat) c p = Jvm.ClassFile.Reader.runAt (if h : p < c.size then (do set (p + 1); pure (c[p]'h).toNat) else throw (Jvm.ClassFile.HasTruncated.truncated p) : Jvm.ClassFile.Decoder Nat) c p := rfl
  rw [e, dif_neg h]
  rfl
theorem sim_pure {c c2 : ByteArray} {k : Nat} {α : Type} {x : α} : Sim c c2 k (pure x : Jvm.ClassFile.Decoder α) := by
  intro p r q e
  have e2 : (Except.ok (x, p) : Except Jvm.ClassFile.DecodeError (α × Nat)) = .ok (r, q) := e
  injection e2 with e3
  injection e3 with e4 e5
  subst e4
  subst e5
  rfl
theorem sim_u1 {c c2 : ByteArray} {k : Nat} (hc : CHk c c2 k) : Sim c c2 k (Jvm.ClassFile.Reader.u1 : Jvm.ClassFile.Decoder Nat) := by
  intro p r q e
  by_cases h : p < c2.size
  · rw [ra_u1 h] at e
    obtain ⟨h2, e2⟩ := hc p h
    rw [ra_u1 h2, e2]
    injection e with e3
    injection e3 with e4 e5
    rw [e4, ← e5]
    rfl
  · rw [ra_u1n h] at e
    exact absurd e (fun w => by injection w)
theorem sim_bind {c c2 : ByteArray} {k : Nat} {α β : Type} {d : Jvm.ClassFile.Decoder α} {f : α → Jvm.ClassFile.Decoder β} (hd : Sim c c2 k d) (hf : ∀ a, Sim c c2 k (f a)) : Sim c c2 k (d >>= f) := by
  intro p r q e
  rw [ra_bind] at e ⊢
  rcases h1 : Jvm.ClassFile.Reader.runAt d c2 p with x | v
  · rw [h1] at e
    have e2 : (Except.error x : Except Jvm.ClassFile.DecodeError (β × Nat)) = .ok (r, q) := e
    exact absurd e2 (fun w => by injection w)
  · rw [h1] at e
    rw [hd p v.1 v.2 h1]
    exact hf v.1 v.2 r q e
theorem sim_map {c c2 : ByteArray} {k : Nat} {α β : Type} {d : Jvm.ClassFile.Decoder α} {f : α → β} (hd : Sim c c2 k d) : Sim c c2 k (f <$> d) := by
  intro p r q e
  rw [ra_map] at e ⊢
  rcases h1 : Jvm.ClassFile.Reader.runAt d c2 p with x | v
  · rw [h1] at e
    have e2 : (Except.error x : Except Jvm.ClassFile.DecodeError (β × Nat)) = .ok (r, q) := e
    exact absurd e2 (fun w => by injection w)
  · rw [h1] at e
    rw [hd p v.1 v.2 h1]
    have e2 : (Except.ok (f v.1, v.2) : Except Jvm.ClassFile.DecodeError (β × Nat)) = .ok (r, q) := e
    injection e2 with e3
    injection e3 with e4 e5
    subst e4
    subst e5
    rfl
theorem sim_u2 {c c2 : ByteArray} {k : Nat} (hc : CHk c c2 k) : Sim c c2 k (Jvm.ClassFile.Reader.u2 : Jvm.ClassFile.Decoder Nat) := sim_bind (sim_u1 hc) (fun _ => sim_bind (sim_u1 hc) (fun _ => sim_pure))
theorem sim_s1 {c c2 : ByteArray} {k : Nat} (hc : CHk c c2 k) : Sim c c2 k (Jvm.ClassFile.Reader.s1 : Jvm.ClassFile.Decoder Int) := sim_map (sim_u1 hc)
theorem sim_s2 {c c2 : ByteArray} {k : Nat} (hc : CHk c c2 k) : Sim c c2 k (Jvm.ClassFile.Reader.s2 : Jvm.ClassFile.Decoder Int) := sim_map (sim_u2 hc)
/-- an instruction that begins with b reads on by d -/
def OpB (b : Nat) (d : Jvm.ClassFile.Decoder Jvm.ClassFile.Instr) : Prop := ∀ (pc : Nat) (c : ByteArray) (p : Nat) (h : p < c.size), (c[p]'h).toNat = b → Jvm.ClassFile.Reader.runAt (Jvm.ClassFile.Decoder.instr pc) c p = Jvm.ClassFile.Reader.runAt d c (p + 1)
theorem op_sim {c c2 : ByteArray} {k b p : Nat} {d : Jvm.ClassFile.Decoder Jvm.ClassFile.Instr} (ho : OpB b d) (hc : CHk c c2 k) (hs : Sim c c2 k d) (h : p < c2.size) (hv : (c2[p]'h).toNat = b) {pc q : Nat} {r : Jvm.ClassFile.Instr} (e : Jvm.ClassFile.Reader.runAt (Jvm.ClassFile.Decoder.instr pc) c2 p = .ok (r, q)) : Jvm.ClassFile.Reader.runAt (Jvm.ClassFile.Decoder.instr pc) c (k + p) = .ok (r, k + q) := by
  obtain ⟨h2, e2⟩ := hc p h
  rw [ho pc c2 p h hv] at e
  rw [ho pc c (k + p) h2 (by rw [e2]; exact hv)]
  exact hs (p + 1) r q e
set_option maxRecDepth 20000 in
theorem opb_2 : OpB 2 (pure (.iconst (-1))) := by
  intro pc c p h hv
  unfold Jvm.ClassFile.Decoder.instr
  rw [ra_bind, ra_u1 h, hv]
  rfl
set_option maxRecDepth 20000 in
theorem opb_3 : OpB 3 (pure (.iconst (0))) := by
  intro pc c p h hv
  unfold Jvm.ClassFile.Decoder.instr
  rw [ra_bind, ra_u1 h, hv]
  rfl
set_option maxRecDepth 20000 in
theorem opb_4 : OpB 4 (pure (.iconst (1))) := by
  intro pc c p h hv
  unfold Jvm.ClassFile.Decoder.instr
  rw [ra_bind, ra_u1 h, hv]
  rfl
set_option maxRecDepth 20000 in
theorem opb_5 : OpB 5 (pure (.iconst (2))) := by
  intro pc c p h hv
  unfold Jvm.ClassFile.Decoder.instr
  rw [ra_bind, ra_u1 h, hv]
  rfl
set_option maxRecDepth 20000 in
theorem opb_6 : OpB 6 (pure (.iconst (3))) := by
  intro pc c p h hv
  unfold Jvm.ClassFile.Decoder.instr
  rw [ra_bind, ra_u1 h, hv]
  rfl
set_option maxRecDepth 20000 in
theorem opb_7 : OpB 7 (pure (.iconst (4))) := by
  intro pc c p h hv
  unfold Jvm.ClassFile.Decoder.instr
  rw [ra_bind, ra_u1 h, hv]
  rfl
set_option maxRecDepth 20000 in
theorem opb_8 : OpB 8 (pure (.iconst (5))) := by
  intro pc c p h hv
  unfold Jvm.ClassFile.Decoder.instr
  rw [ra_bind, ra_u1 h, hv]
  rfl
set_option maxRecDepth 20000 in
theorem opb_16 : OpB 16 (Jvm.ClassFile.Reader.s1 >>= fun a => pure (.bipush a)) := by
  intro pc c p h hv
  unfold Jvm.ClassFile.Decoder.instr
  rw [ra_bind, ra_u1 h, hv]
  rfl
set_option maxRecDepth 20000 in
theorem opb_26 : OpB 26 (pure (.iload_n 0)) := by
  intro pc c p h hv
  unfold Jvm.ClassFile.Decoder.instr
  rw [ra_bind, ra_u1 h, hv]
  rfl
set_option maxRecDepth 20000 in
theorem opb_27 : OpB 27 (pure (.iload_n 1)) := by
  intro pc c p h hv
  unfold Jvm.ClassFile.Decoder.instr
  rw [ra_bind, ra_u1 h, hv]
  rfl
set_option maxRecDepth 20000 in
theorem opb_28 : OpB 28 (pure (.iload_n 2)) := by
  intro pc c p h hv
  unfold Jvm.ClassFile.Decoder.instr
  rw [ra_bind, ra_u1 h, hv]
  rfl
set_option maxRecDepth 20000 in
theorem opb_29 : OpB 29 (pure (.iload_n 3)) := by
  intro pc c p h hv
  unfold Jvm.ClassFile.Decoder.instr
  rw [ra_bind, ra_u1 h, hv]
  rfl
set_option maxRecDepth 20000 in
theorem opb_42 : OpB 42 (pure (.aload_n 0)) := by
  intro pc c p h hv
  unfold Jvm.ClassFile.Decoder.instr
  rw [ra_bind, ra_u1 h, hv]
  rfl
set_option maxRecDepth 20000 in
theorem opb_43 : OpB 43 (pure (.aload_n 1)) := by
  intro pc c p h hv
  unfold Jvm.ClassFile.Decoder.instr
  rw [ra_bind, ra_u1 h, hv]
  rfl
set_option maxRecDepth 20000 in
theorem opb_44 : OpB 44 (pure (.aload_n 2)) := by
  intro pc c p h hv
  unfold Jvm.ClassFile.Decoder.instr
  rw [ra_bind, ra_u1 h, hv]
  rfl
set_option maxRecDepth 20000 in
theorem opb_45 : OpB 45 (pure (.aload_n 3)) := by
  intro pc c p h hv
  unfold Jvm.ClassFile.Decoder.instr
  rw [ra_bind, ra_u1 h, hv]
  rfl
set_option maxRecDepth 20000 in
theorem opb_46 : OpB 46 (pure .iaload) := by
  intro pc c p h hv
  unfold Jvm.ClassFile.Decoder.instr
  rw [ra_bind, ra_u1 h, hv]
  rfl
set_option maxRecDepth 20000 in
theorem opb_87 : OpB 87 (pure .pop) := by
  intro pc c p h hv
  unfold Jvm.ClassFile.Decoder.instr
  rw [ra_bind, ra_u1 h, hv]
  rfl
set_option maxRecDepth 20000 in
theorem opb_96 : OpB 96 (pure .iadd) := by
  intro pc c p h hv
  unfold Jvm.ClassFile.Decoder.instr
  rw [ra_bind, ra_u1 h, hv]
  rfl
set_option maxRecDepth 20000 in
theorem opb_100 : OpB 100 (pure .isub) := by
  intro pc c p h hv
  unfold Jvm.ClassFile.Decoder.instr
  rw [ra_bind, ra_u1 h, hv]
  rfl
set_option maxRecDepth 20000 in
theorem opb_126 : OpB 126 (pure .iand) := by
  intro pc c p h hv
  unfold Jvm.ClassFile.Decoder.instr
  rw [ra_bind, ra_u1 h, hv]
  rfl
set_option maxRecDepth 20000 in
theorem opb_132 : OpB 132 (Jvm.ClassFile.Reader.u1 >>= fun a => Jvm.ClassFile.Reader.s1 >>= fun b => pure (.iinc a b)) := by
  intro pc c p h hv
  unfold Jvm.ClassFile.Decoder.instr
  rw [ra_bind, ra_u1 h, hv]
  rfl
set_option maxRecDepth 20000 in
theorem opb_167 : OpB 167 (Jvm.ClassFile.Reader.s2 >>= fun a => pure (.goto a)) := by
  intro pc c p h hv
  unfold Jvm.ClassFile.Decoder.instr
  rw [ra_bind, ra_u1 h, hv]
  rfl
set_option maxRecDepth 20000 in
theorem opb_172 : OpB 172 (pure .ireturn) := by
  intro pc c p h hv
  unfold Jvm.ClassFile.Decoder.instr
  rw [ra_bind, ra_u1 h, hv]
  rfl
set_option maxRecDepth 20000 in
theorem opb_182 : OpB 182 (Jvm.ClassFile.Reader.u2 >>= fun a => pure (.invokevirtual a)) := by
  intro pc c p h hv
  unfold Jvm.ClassFile.Decoder.instr
  rw [ra_bind, ra_u1 h, hv]
  rfl
set_option maxRecDepth 20000 in
theorem opb_190 : OpB 190 (pure .arraylength) := by
  intro pc c p h hv
  unfold Jvm.ClassFile.Decoder.instr
  rw [ra_bind, ra_u1 h, hv]
  rfl
def opL : List Nat := [2, 3, 4, 5, 6, 7, 8, 16, 26, 27, 28, 29, 42, 43, 44, 45, 46, 87, 96, 100, 126, 132, 167, 172, 182, 190]
theorem dec_sim {c c2 : ByteArray} {k p : Nat} (hc : CHk c c2 k) (h : p < c2.size) (hv : (c2[p]'h).toNat ∈ opL) {pc q : Nat} {r : Jvm.ClassFile.Instr} (e : Jvm.ClassFile.Reader.runAt (Jvm.ClassFile.Decoder.instr pc) c2 p = .ok (r, q)) : Jvm.ClassFile.Reader.runAt (Jvm.ClassFile.Decoder.instr pc) c (k + p) = .ok (r, k + q) := by
  unfold opL at hv
  simp only [List.mem_cons, List.not_mem_nil, or_false] at hv
  rcases hv with hv | hv | hv | hv | hv | hv | hv | hv | hv | hv | hv | hv | hv | hv | hv | hv | hv | hv | hv | hv | hv | hv | hv | hv | hv | hv
  · exact op_sim opb_2 hc (sim_pure) h hv e
  · exact op_sim opb_3 hc (sim_pure) h hv e
  · exact op_sim opb_4 hc (sim_pure) h hv e
  · exact op_sim opb_5 hc (sim_pure) h hv e
  · exact op_sim opb_6 hc (sim_pure) h hv e
  · exact op_sim opb_7 hc (sim_pure) h hv e
  · exact op_sim opb_8 hc (sim_pure) h hv e
  · exact op_sim opb_16 hc (sim_bind (sim_s1 hc) (fun _ => sim_pure)) h hv e
  · exact op_sim opb_26 hc (sim_pure) h hv e
  · exact op_sim opb_27 hc (sim_pure) h hv e
  · exact op_sim opb_28 hc (sim_pure) h hv e
  · exact op_sim opb_29 hc (sim_pure) h hv e
  · exact op_sim opb_42 hc (sim_pure) h hv e
  · exact op_sim opb_43 hc (sim_pure) h hv e
  · exact op_sim opb_44 hc (sim_pure) h hv e
  · exact op_sim opb_45 hc (sim_pure) h hv e
  · exact op_sim opb_46 hc (sim_pure) h hv e
  · exact op_sim opb_87 hc (sim_pure) h hv e
  · exact op_sim opb_96 hc (sim_pure) h hv e
  · exact op_sim opb_100 hc (sim_pure) h hv e
  · exact op_sim opb_126 hc (sim_pure) h hv e
  · exact op_sim opb_132 hc (sim_bind (sim_u1 hc) (fun _ => sim_bind (sim_s1 hc) (fun _ => sim_pure))) h hv e
  · exact op_sim opb_167 hc (sim_bind (sim_s2 hc) (fun _ => sim_pure)) h hv e
  · exact op_sim opb_172 hc (sim_pure) h hv e
  · exact op_sim opb_182 hc (sim_bind (sim_u2 hc) (fun _ => sim_pure)) h hv e
  · exact op_sim opb_190 hc (sim_pure) h hv e
def dqs1 (c2 : ByteArray) (k : Nat) (e : Nat × Jvm.ClassFile.Instr × Nat) : Bool := (if h : e.1 < c2.size then decide ((c2[e.1]'h).toNat ∈ opL) else false) && decide (Jvm.ClassFile.Reader.runAt (Jvm.ClassFile.Decoder.instr (k + e.1)) c2 e.1 = .ok (e.2.1, e.1 + e.2.2))
theorem ch_of {c : ByteArray} {k m : Nat} {l : List UInt8} (hk : (c.data.toList.drop k).take m = l) : CHk c ⟨⟨l⟩⟩ k := by
  intro p h
  have hl : p < l.length := h
  have e1 : l[p]? = some (l[p]'hl) := List.getElem?_eq_getElem hl
  have e2 : ((c.data.toList.drop k).take m)[p]? = some (l[p]'hl) := by rw [hk]; exact e1
  rw [List.getElem?_take] at e2
  by_cases y : p < m
  · rw [if_pos y, List.getElem?_drop] at e2
    obtain ⟨h3, e4⟩ := List.getElem?_eq_some_iff.mp e2
    exact ⟨h3, e4⟩
  · rw [if_neg y] at e2
    exact absurd e2 (fun w => by injection w)
theorem dqs {c : ByteArray} {k m : Nat} {l : List UInt8} (hk : (c.data.toList.drop k).take m = l) {L : List (Nat × Jvm.ClassFile.Instr × Nat)} (ha : L.all (dqs1 ⟨⟨l⟩⟩ k) = true) (i : Nat) {p : Nat} {j : Jvm.ClassFile.Instr} {n : Nat} (e : L[i]? = some (p, j, n)) : decode c (k + p) = .ok (j, n) := by
  obtain ⟨h3, e4⟩ := List.getElem?_eq_some_iff.mp e
  have q := List.all_eq_true.mp ha (p, j, n) (e4 ▸ List.getElem_mem h3)
  unfold dqs1 at q
  rw [Bool.and_eq_true, decide_eq_true_iff] at q
  obtain ⟨q1, q2⟩ := q
  by_cases h : p < (⟨⟨l⟩⟩ : ByteArray).size
  · rw [dif_pos h, decide_eq_true_iff] at q1
    have z := dec_sim (ch_of hk) h q1 q2
    show (Jvm.ClassFile.Reader.runAt (Jvm.ClassFile.Decoder.instr (k + p)) c (k + p)) >>= (fun aq => pure (aq.1, aq.2 - (k + p))) = _
    rw [z]
    show (Except.ok (j, k + (p + n) - (k + p)) : Except Jvm.ClassFile.DecodeError (Jvm.ClassFile.Instr × Nat)) = _
    rw [show k + (p + n) - (k + p) = n by omega]
  · rw [dif_neg h] at q1
    exact absurd q1 Bool.false_ne_true
