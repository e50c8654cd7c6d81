theorem hN_01 {s : AS} (h : ∀ k : Nat, k < 6 → s.2 10 k = 0 ∨ s.2 10 k = 1) : ∀ (n k : Nat), k < 6 → (hN n s).2 10 k = 0 ∨ (hN n s).2 10 k = 1 := fun n k hk => by
  cases n with
  | zero => exact h k hk
  | succ n => rw [hN_s]; exact Or.inl (if_pos hk)







