theorem tv_in {tv : Nat → Nat} {a : Nat} (h : a < 6) : tv a ∈ [(tv 0), (tv 1), (tv 2), (tv 3), (tv 4), (tv 5)] := by
  have : a = 0 ∨ a = 1 ∨ a = 2 ∨ a = 3 ∨ a = 4 ∨ a = 5 := by omega
  rcases this with rfl | rfl | rfl | rfl | rfl | rfl <;> simp








