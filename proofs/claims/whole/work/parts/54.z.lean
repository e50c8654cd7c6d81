/-- THE STATEMENT IS FALSE of this code: at the script SCR the law answers 0 -/
theorem whole_false : ¬ (Claimed_1_1 ∧ Claimed_1_2) := fun h => not_at (l := launch0) rfl w15_start rfl w15_ints h.2
