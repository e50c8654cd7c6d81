


theorem q_12 {q : Nat} {n ii : Int32} (hq : ii = nI q) (h30 : q ≤ 30) (hqn : (q : Int) ≤ n.toInt) (h : n ≤ ii) : q = n.toNatClampNeg := by
  rw [Int32.le_iff_toInt_le, hq, nI_toInt (by omega)] at h
  have := clamp_i (x := n) (by omega)
  omega

