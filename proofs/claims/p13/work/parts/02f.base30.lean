def bnd {α β : Type} (v : α) (b : α → β) : β := b v
theorem zbnd {α β : Type} {v x : α} {b : α → β} {G : β} (h : bnd v b = G) (e : x = v) : b x = G := by subst e; exact h
theorem zthen {c : Prop} [Decidable c] {β : Type} {a b G : β} (h : (if c then a else b) = G) (hc : c) : a = G := by rw [if_pos hc] at h; exact h
theorem zelse {c : Prop} [Decidable c] {β : Type} {a b G : β} (h : (if c then a else b) = G) (hc : ¬ c) : b = G := by rw [if_neg hc] at h; exact h
