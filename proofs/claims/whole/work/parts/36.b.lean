/-! what is asked -/
theorem dyA_0 {x : Int32} : ¬ dyA x = 0 ↔ ¬ x = -1 := by
  unfold dyA
  by_cases h : x = -1
  · rw [if_pos h]; exact ⟨fun e => absurd rfl e, fun e => absurd h e⟩
  · rw [if_neg h]; exact ⟨fun _ => h, fun _ => by decide⟩
