section AG
variable {tc tm : Nat → Int32} {n : Nat}
end AG
section TOK
variable {t : Nat → Int32} {n : Nat}
theorem sk_le {p : Nat} (h : p ≤ n) : p ≤ sk t n p ∧ sk t n p ≤ n := ⟨re_ge, re_le h⟩
theorem sk_sk {p : Nat} (h : p ≤ n) : sk t n (sk t n p) = sk t n p := re_again h
theorem nx_le {p : Nat} (h : p < n) : p < nx t n p ∧ nx t n p ≤ n := by
  unfold nx
  by_cases h1 : isL (t p) = true
  · rw [if_pos h1]
    have e : le_ t n p = le_ t n (p + 1) := re_go h h1
    have := re_ge (Q := fun x => isL (t x)) (n := n) (p := p + 1)
    exact ⟨by rw [e]; unfold le_; omega, re_le (by omega)⟩
  · rw [if_neg h1]
    by_cases h2 : isD (t p) = true
    · rw [if_pos h2]
      have e : de_ t n p = de_ t n (p + 1) := re_go h h2
      have := re_ge (Q := fun x => isD (t x)) (n := n) (p := p + 1)
      exact ⟨by rw [e]; unfold de_; omega, re_le (by omega)⟩
    · rw [if_neg h2]; omega
theorem wn_rg (t : Nat → Int32) (p len : Nat) : wn t p len = -3 ∨ 1 ≤ wn t p len ∧ wn t p len ≤ 19 := (wn_cm t p len).2
theorem Kp_0 {q : Nat} : Kp t n q = 0 ↔ n ≤ q := by
  constructor
  · intro e
    rcases Nat.lt_or_ge q n with hq | hq
    · exfalso
      unfold Kp at e
      rw [if_pos hq] at e
      by_cases h1 : isL (t q) = true
      · rw [if_pos h1] at e
        rcases wn_rg t q (le_ t n q - q) with g | g
        · rw [g] at e; exact absurd e (by decide)
        · rw [e] at g; exact absurd g (by decide)
      · rw [if_neg h1] at e
        by_cases h2 : isD (t q) = true
        · rw [if_pos h2] at e
          by_cases h4 : 4 < de_ t n q - q
          · rw [if_pos h4] at e; exact absurd e (by decide)
          · rw [if_neg h4] at e; exact absurd e (by decide)
        · rw [if_neg h2] at e
          by_cases h3 : isG (t q) = true
          · rw [if_pos h3] at e
            rw [e] at h3
            exact absurd h3 (by decide)
          · rw [if_neg h3] at e; exact absurd e (by decide)
    · exact hq
  · intro h
    unfold Kp
    rw [if_neg (by omega)]
end TOK
