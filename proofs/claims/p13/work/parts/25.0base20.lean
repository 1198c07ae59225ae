/-- worlds in another order -/
theorem va_D_pw {A : Nat → Prop} {ws : va_W} : va_D A ws ↔ ws.Pairwise (fun p q => p.1 ≠ q.1) ∧ ∀ q ∈ ws, A q.1 := by
  constructor
  · intro h
    refine ⟨List.pairwise_iff_getElem.mpr (fun i j hi hj hij e => ?_), fun q hq => ?_⟩
    · have := h.1 i j _ _ (List.getElem?_eq_getElem hi) (List.getElem?_eq_getElem hj) e
      omega
    · obtain ⟨k, hk⟩ := List.getElem?_of_mem hq
      exact h.2 k q hk
  · intro h
    have hp := List.pairwise_iff_getElem.mp h.1
    refine ⟨fun i j p q hi hj e => ?_, fun k q hk => h.2 q (List.mem_of_getElem? hk)⟩
    obtain ⟨li, ei⟩ := List.getElem?_eq_some_iff.mp hi
    obtain ⟨lj, ej⟩ := List.getElem?_eq_some_iff.mp hj
    rcases Nat.lt_trichotomy i j with c | c | c
    · exact absurd (by rw [ei, ej]; exact e) (hp i j li lj c)
    · exact c
    · exact absurd (by rw [ei, ej]; exact e.symm) (hp j i lj li c)
theorem wp_D {A : Nat → Prop} {ws ws' : va_W} (h : va_D A ws) (p : ws.Perm ws') : va_D A ws' := by
  rw [va_D_pw] at h ⊢
  exact ⟨p.pairwise h.1 (fun h1 h2 => h1 h2.symm), fun q hq => h.2 q (p.mem_iff.mpr hq)⟩
theorem wp_P {D : va_G} {cl : List vw_C} {ws ws' : va_W} {H : Heap} (h : va_P D cl ws H) (p : ws.Perm ws') : va_P D cl ws' H := fun k q hk => by
  obtain ⟨i, hi⟩ := List.getElem?_of_mem (p.mem_iff.mpr (List.mem_of_getElem? hk))
  exact h i q hi
theorem wp_A {ws ws' : va_W} {sz q : Nat} (h : va_A ws sz q) (p : ∀ x ∈ ws, x ∈ ws') : va_A ws' sz q := by
  rcases h with ⟨k, e, h⟩ | h
  · obtain ⟨i, hi⟩ := List.getElem?_of_mem (p _ (List.mem_of_getElem? h))
    exact Or.inl ⟨i, e, hi⟩
  · exact Or.inr h
theorem map_mem {X wc : va_W} {is : List Nat} (hC : is.map (fun i => X[i]?) = wc.map some) : ∀ x ∈ wc, x ∈ X := by
  intro x hx
  obtain ⟨k, hk⟩ := List.getElem?_of_mem hx
  have h1 : (is.map (fun i => X[i]?))[k]? = some (some x) := by rw [hC, List.getElem?_map, hk]; rfl
  rw [List.getElem?_map] at h1
  cases hi : is[k]? with
  | none => rw [hi] at h1; cases h1
  | some i => rw [hi] at h1; exact List.mem_of_getElem? (Option.some.inj h1)
theorem wp_room {s : State} {pl : Platform} {r r' : Room} (hf : r.frames ≤ r'.frames) (hl : r.locals ≤ r'.locals) (hc : r.cells ≤ r'.cells) (hs : r.slots ≤ r'.slots) (h : s.hasRoom pl r' = true) : s.hasRoom pl r = true := by
  simp only [State.hasRoom, Bool.and_eq_true, decide_eq_true_eq] at h ⊢
  obtain ⟨⟨⟨⟨y, a, b, c, d, e⟩, f⟩, g⟩, i⟩ := h
  exact ⟨⟨⟨⟨by omega, by omega, by omega, by omega, by omega, e⟩, by omega⟩, by omega⟩, i⟩
/-- a contract in more room, from a stronger start, to a weaker end -/
theorem Met_up {l : Launch} {y : MethodName} {ws : List Cond} {rm rm' : Room} {Pc Pc' : Array Value → State → Prop} {Qc Qc' : Array Value → State → Outcome → State → Prop} {mc ms mc' ms' : Nat} {free free' : Addr → Prop} (h : Met l y ws rm Pc Qc mc ms free)
    (hf : rm.frames ≤ rm'.frames) (hl : rm.locals ≤ rm'.locals) (hc : rm.cells ≤ rm'.cells) (hs : rm.slots ≤ rm'.slots) (hmc : mc ≤ mc') (hms : ms ≤ ms') (hP : ∀ a s, Pc' a s → Pc a s) (hQ : ∀ a s o t, Pc' a s → Qc a s o t → Qc' a s o t) (hfr : ∀ q, free q → free' q) : Met l y ws rm' Pc' Qc' mc' ms' free' := by
  intro p e ha hcs hk s m args below hfm happ hp hk'
  obtain ⟨a1, a2, a3, a4, a5, a6, a7, a8⟩ := (Spec.appliesLoose_iff hfm).mp happ
  obtain ⟨n, o, h1, h2, h3, h4, L, ⟨f1, f2, g1, g2, g3, g4, g5, g6⟩, h6⟩ := h p e ha hcs hk s m args below hfm ((Spec.appliesLoose_iff hfm).mpr ⟨a1, a2, a3, a4, a5, a6, wp_room (r := rm) (r' := rm') hf hl hc hs a7, a8⟩) (hP _ _ hp) hk'
  exact ⟨n, o, h1, h2, h3, hQ _ _ _ _ hp h4, L, ⟨f1, f2, g1, g2, Nat.le_trans g3 (Nat.add_le_add_left hmc _), g4, Nat.le_trans g5 hms, g6⟩, fun q hq => hfr _ (h6 q hq)⟩
/-- a contract over some cells, as one over a world that holds them -/
theorem z_wrap {l : Launch} {y : MethodName} {cw : List Cond} {rm rm' : Room} {dC : Nat → ClassId} {dI : Nat → Nat → Nat} {kA : Nat → ClassId} {sz : Nat} {av : List Value} {S : Type} {post : Int32 → S → Prop} {w1 : S → va_W} {wc X wr T ws : va_W} {post' : Int32 → va_W → Prop} {mc ms mc' ms' : Nat}
    (h : Met l y cw rm (zPc dC dI kA sz av wc) (va_Qi post (zB dC dI (va_A wc sz) w1) (va_A wc sz)) mc ms (va_A wc sz))
    (hf : rm.frames ≤ rm'.frames) (hl : rm.locals ≤ rm'.locals) (hc : rm.cells ≤ rm'.cells) (hs : rm.slots ≤ rm'.slots) (hmc : mc ≤ mc') (hms : ms ≤ ms')
    (hp : ws.Perm (X ++ T)) (isC isR : List Nat) (hC : isC.map (fun i => X[i]?) = wc.map some) (hnC : va_nd isC = true) (hR : isR.map (fun i => X[i]?) = wr.map some) (hn : va_nd isR = true) (hdis : ∀ i ∈ isR, i ∉ isC)
    (X2 : S → va_W) (isO : List Nat) (hO : ∀ u, isO.map (fun i => (wr ++ w1 u)[i]?) = (X2 u).map some) (hnO : va_nd isO = true) (hpost : ∀ r u, post r u → post' r (X2 u ++ T)) :
    Met l y cw rm' (zPc dC dI kA sz av ws) (va_Qi post' (zB dC dI (va_A ws sz) (fun u => u)) (va_A ws sz)) mc' ms' (va_A ws sz) := by
  have memX : ∀ x ∈ wc, x ∈ ws := fun x hx => hp.mem_iff.mpr (List.mem_append_left _ (map_mem hC x hx))
  have sub : ∀ q, va_A wc sz q → va_A ws sz q := fun q hq => wp_A hq memX
  refine Met_up h hf hl hc hs hmc hms ?_ ?_ sub
  · intro a s ⟨ha, hsz, hP, hK, hD⟩
    have hP2 := wp_P hP hp
    have hD2 := wp_D hD hp
    refine ⟨ha, hsz, fun k q hk => ?_, hK, ?_⟩
    · obtain ⟨i, hi⟩ := List.getElem?_of_mem (memX q (List.mem_of_getElem? hk))
      exact hP i q hi
    · have h0 := hD2.part isC hnC hC
      refine h0.by id (fun k q hq => ?_) (fun i j _ _ e => e)
      show (wc ++ T)[k]? = some q
      rw [List.getElem?_append_left (List.getElem?_eq_some_iff.mp hq).1]
      exact hq
  · intro a s o t ⟨ha, hsz, hP, hK, hD⟩ ⟨⟨r, u, ho, hr, hP1, hD1⟩, hF1, hF2⟩
    have hP2 := wp_P hP hp
    have hD2 : va_D (va_A ws sz) (X ++ T) := wp_D (hD.self (sz := sz)) hp
    rw [hsz] at hF2
    have hj := va_joinQ (A0 := va_A ws sz) (X := X) (cx := wc) (wr := wr) (w1 := w1 u) (pl := T) (H := s.heap) (H1 := t.heap) hP2 hD2 isC isR hC hR hn hdis (by rw [hsz]; exact hF2) (by rw [hsz]; exact sub) hP1 (by rw [hsz]; exact hD1)
    refine ⟨⟨r, X2 u ++ T, ho, hpost r u hr, hj.1.part isO (hO u), hj.2.part isO hnO (hO u)⟩, hF1, fun q hq hn => ?_⟩
    rw [hsz] at hq
    exact hF2 q hq (fun x => hn (sub q x))
/-- pieces of a world, one behind the other -/
def flatN (P : Nat → va_W) : Nat → va_W
  | 0 => []
  | n + 1 => flatN P n ++ P n
def pup (P : Nat → va_W) (j : Nat) (w : va_W) : Nat → va_W := fun i => if i = j then w else P i
theorem pup_at (P : Nat → va_W) (j : Nat) (w : va_W) : pup P j w j = w := if_pos rfl
theorem pup_ne {P : Nat → va_W} {j i : Nat} {w : va_W} (h : i ≠ j) : pup P j w i = P i := if_neg h
theorem flat_cg {P Q : Nat → va_W} : ∀ n : Nat, (∀ i, i < n → Q i = P i) → flatN Q n = flatN P n
  | 0, _ => rfl
  | n + 1, h => by
    show flatN Q n ++ Q n = flatN P n ++ P n
    rw [flat_cg n (fun i hi => h i (by omega)), h n (by omega)]
theorem flat_pull {P : Nat → va_W} {j : Nat} : ∀ n : Nat, j < n → (flatN P n).Perm (P j ++ flatN (pup P j []) n)
  | 0, h => absurd h (Nat.not_lt_zero _)
  | n + 1, h => by
    show (flatN P n ++ P n).Perm (P j ++ (flatN (pup P j []) n ++ pup P j [] n))
    by_cases e : j = n
    · subst e
      rw [pup_at, List.append_nil, flat_cg j (fun i hi => pup_ne (P := P) (w := []) (by omega))]
      exact List.perm_append_comm
    · rw [pup_ne (by omega), ← List.append_assoc]
      exact (flat_pull n (by omega)).append_right _
theorem pup_pup (P : Nat → va_W) (j : Nat) (w v : va_W) : pup (pup P j w) j v = pup P j v := by
  funext i
  unfold pup
  by_cases e : i = j
  · rw [if_pos e, if_pos e]
  · rw [if_neg e, if_neg e, if_neg e]
theorem flat_put {P : Nat → va_W} {j n : Nat} (w : va_W) (h : j < n) : (flatN (pup P j w) n).Perm (w ++ flatN (pup P j []) n) := by
  have := flat_pull (P := pup P j w) n h
  rw [pup_at, pup_pup] at this
  exact this
/-- a world of the law's: the first part is the callee's -/
theorem rng_map (a : va_W) : (List.range a.length).map (fun i => a[i]?) = a.map some := by
  apply List.ext_getElem?
  intro k
  rw [List.getElem?_map, List.getElem?_map]
  by_cases h : k < a.length
  · rw [List.getElem?_range h, List.getElem?_eq_getElem h]
    show some a[k]? = some (some a[k])
    rw [List.getElem?_eq_getElem h]
  · rw [List.getElem?_eq_none (by rw [List.length_range]; omega), List.getElem?_eq_none (by omega)]; rfl
section ZL
variable {p : Program} {l : Launch} {e : Env} {R : Room} {s : State} {m : MethodId} {args : Array Value} {below : List Frame} {meth : Method} {c : Code} {H : Heap} {locs : List Loc} {cells slots : Nat} {Q : State → Prop}
variable {pc : Nat} {ls : Array Slot} {rest st0 : List Value} {dC : Nat → ClassId} {dI : Nat → Nat → Nat} {kA : Nat → ClassId} {A0 : Nat → Prop} {H0 : Heap} {wa wb : va_W} {mc ms : Nat} {a : Array Value}
theorem z_iL {post : Int32 → va_W → Prop} (hr : va_Run p l e R s m args below meth c H locs cells slots mc ms (F0 m pc ls st0) rest (va_Qi post (zB dC dI (va_A wa H.size) (fun u => u)) (va_A wa H.size) a) (va_A wa H.size)) (hP : va_P (dC, dI) vwCl (wa ++ wb) H) (hD : va_D A0 (wa ++ wb)) (hS : va_S A0 H0 H locs) (hA : ∀ q, H0.size ≤ q → A0 q)
    (kk : ∀ (r : Int32) (u : va_W) (H1 : Heap) (locs1 : List Loc), post r u → va_P (dC, dI) vwCl (u ++ wb) H1 → va_D A0 (u ++ wb) → va_S A0 H0 H1 locs1 → W p l e R s m args below meth c H1 locs1 (cells + mc) (slots + ms) Q (F0 m (pc + 3) ls (.int r :: rest))) : W p l e R s m args below meth c H locs cells slots Q (F0 m pc ls st0) := by
  have hF : ∀ q, va_A wa H.size q → A0 q := by
    intro q h
    rcases h with ⟨k, e1, h⟩ | h
    · exact hD.2 k (q, e1) (by rw [List.getElem?_append_left (List.getElem?_eq_some_iff.mp h).1]; exact h)
    · exact hA q (Nat.le_trans hS.1 h)
  refine va_calli hr hS (fun q _ h => hF q h) hF (fun r u t H1 locs1 ht _ hw hB _ hk hS1 => ?_)
  obtain ⟨hP1, hD1⟩ := hB
  rw [ht] at hP1
  have hj := va_joinQ (A0 := A0) (X := wa) (cx := wa) (wr := []) (w1 := u) (pl := wb) hP hD (List.range wa.length) [] (rng_map wa) rfl rfl (fun _ h => by cases h) hk hF hP1 hD1
  exact kk r u H1 locs1 hw hj.1 hj.2 hS1
end ZL
theorem wl_P {D : va_G} {cl : List vw_C} {a b : va_W} {H : Heap} (h : va_P D cl (a ++ b) H) : va_P D cl a H := fun k q hk => h k q (by rw [List.getElem?_append_left (List.getElem?_eq_some_iff.mp hk).1]; exact hk)
theorem wl_D {A : Nat → Prop} {a b : va_W} (h : va_D A (a ++ b)) : va_D A a := h.by id (fun k q hk => by
  show (a ++ b)[k]? = some q
  rw [List.getElem?_append_left (List.getElem?_eq_some_iff.mp hk).1]; exact hk) (fun _ _ _ _ e => e)
