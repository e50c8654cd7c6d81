
theorem IV.rs {B : Int} {s : AS} {l : Int32} (h : RV s ∧ RC s ∧ 0 ≤ (s.1 1).toInt ∧ (s.1 1).toInt ≤ B) (hl : 1 ≤ l.toInt ∧ l.toInt ≤ 5000) : IV B (rs0 l s) := by
  have c0 : (0 : Int32).toInt = 0 := by decide
  refine ⟨h.1, h.2.1, h.2.2.1, ?_, ?_, ?_, hl.2⟩
  · show (s.1 1).toInt ≤ B + (0 : Int32).toInt
    omega
  · show 0 ≤ (0 : Int32).toInt
    decide
  · show (0 : Int32).toInt ≤ l.toInt
    omega

