theorem up_lt {ii z : Int32} {a k : Nat} (hk : k < 2 ^ 31) (hii : ii = nI a) (ha : a ≤ k) (hz : z ≤ nI k) (h : ¬ z ≤ ii) : a < k := by
  subst hii
  rcases Nat.lt_or_ge a k with h1 | h1
  · exact h1
  · have : a = k := by omega
    subst this
    exact absurd hz h
theorem up_in {ii z : Int32} {n N k : Nat} (hk : k < 2 ^ 31) (hm : ∃ a : Nat, ii = nI a ∧ a ≤ k ∧ k < a + n) (hz : z ≤ nI k) (h : ¬ z ≤ ii) (hN : k ≤ N) (hN2 : N < 2 ^ 31) : vp_in ii N := by
  obtain ⟨a, hii, h1, h2⟩ := hm
  have h4 := up_lt hk hii h1 hz h
  rw [hii]
  exact vp_in_nI (by omega) hN2
theorem up_nx {ii z : Int32} {n k : Nat} (hk : k < 2 ^ 31) (hm : ∃ a : Nat, ii = nI a ∧ a ≤ k ∧ k < a + (n + 1)) (hz : z ≤ nI k) (h : ¬ z ≤ ii) : ∃ a : Nat, ii + 1 = nI a ∧ a ≤ k ∧ k < a + n := by
  obtain ⟨a, hii, h1, h2⟩ := hm
  have h4 := up_lt hk hii h1 hz h
  exact ⟨a + 1, by rw [hii]; exact nI_1 a, by omega, by omega⟩

