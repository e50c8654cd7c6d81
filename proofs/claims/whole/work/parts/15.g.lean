theorem nfX0 : ∀ j, j < 8 → defaultValue (tyX0 j) = vp_V [.int 0, .int 0, .int 0, .int 0, .int 0, .int 0, .int 0, .int 0] j := fun j hj => by
  match j, hj with
  | 0, _ => rfl
  | 1, _ => rfl
  | 2, _ => rfl
  | 3, _ => rfl
  | 4, _ => rfl
  | 5, _ => rfl
  | 6, _ => rfl
  | 7, _ => rfl
  | n + 8, h => exact absurd h (by omega)



theorem up_le {ii : Int32} {n k : Nat} (hk : k + 1 < 2 ^ 31) (hm : ∃ a : Nat, ii = nI a ∧ a ≤ k + 1 ∧ k + 1 < a + (n + 1)) (h : ¬ nI k < ii) : ∃ a : Nat, ii + 1 = nI a ∧ a ≤ k + 1 ∧ k + 1 < a + n := by
  obtain ⟨a, rfl, h1, h2⟩ := hm
  have h3 : a ≤ k := by
    rcases Nat.lt_or_ge k a with h4 | h4
    · exact absurd (nI_lt h4 (by omega)) h
    · exact h4
  exact ⟨a + 1, nI_1 a, by omega, by omega⟩
noncomputable def Dbl (x : Int32) (n : Nat) : Prop := (x = 1 ∧ 4 < n) ∨ (x = 2 ∧ 3 < n) ∨ (x = 4 ∧ 2 < n) ∨ (x = 8 ∧ 1 < n) ∨ (x = 16 ∧ 0 < n)
theorem Dbl.z {x : Int32} (h : Dbl x 0) : False := by
  rcases h with ⟨-, h⟩ | ⟨-, h⟩ | ⟨-, h⟩ | ⟨-, h⟩ | ⟨-, h⟩ <;> omega
theorem Dbl.nx {x z : Int32} {n : Nat} (h : Dbl x (n + 1)) (h8 : ¬ 8 < x) (hz : z = x * 2) : Dbl z n := by
  subst hz
  rcases h with ⟨rfl, h⟩ | ⟨rfl, h⟩ | ⟨rfl, h⟩ | ⟨rfl, h⟩ | ⟨rfl, h⟩
  · exact Or.inr (Or.inl ⟨by decide, by omega⟩)
  · exact Or.inr (Or.inr (Or.inl ⟨by decide, by omega⟩))
  · exact Or.inr (Or.inr (Or.inr (Or.inl ⟨by decide, by omega⟩)))
  · exact Or.inr (Or.inr (Or.inr (Or.inr ⟨by decide, by omega⟩)))
  · exact absurd (by decide) h8
/-- append: the shift, the times done, the tape's length -/
noncomputable def Ap (tl k : Int32) (x : Int32) (n : Nat) : Prop := ∃ i : Nat, ((i = 0 ∧ x = 24) ∨ (i = 1 ∧ x = 16) ∨ (i = 2 ∧ x = 8) ∨ (i = 3 ∧ x = 0) ∨ (i = 4 ∧ x = -8)) ∧ 4 < i + n ∧ (0 ≤ tl.toInt → tl.toInt ≤ 1496 → k.toInt = tl.toInt + i)
theorem Ap.z {tl k x : Int32} (h : Ap tl k x 0) : False := by
  obtain ⟨i, h1, h2, -⟩ := h
  rcases h1 with ⟨h, -⟩ | ⟨h, -⟩ | ⟨h, -⟩ | ⟨h, -⟩ | ⟨h, -⟩ <;> omega
theorem Ap.nx {tl k k2 x : Int32} {n : Nat} (h : Ap tl k x (n + 1)) (h0 : ¬ x < 0) (hk : 0 ≤ k.toInt → k.toInt ≤ 1499 → k2.toInt = k.toInt + 1) : Ap tl k2 (x + (-8)) n := by
  obtain ⟨i, h1, h2, h3⟩ := h
  refine ⟨i + 1, ?_, by omega, fun a b => ?_⟩
  · rcases h1 with ⟨rfl, rfl⟩ | ⟨rfl, rfl⟩ | ⟨rfl, rfl⟩ | ⟨rfl, rfl⟩ | ⟨rfl, rfl⟩
    · exact Or.inr (Or.inl ⟨rfl, by decide⟩)
    · exact Or.inr (Or.inr (Or.inl ⟨rfl, by decide⟩))
    · exact Or.inr (Or.inr (Or.inr (Or.inl ⟨rfl, by decide⟩)))
    · exact Or.inr (Or.inr (Or.inr (Or.inr ⟨rfl, by decide⟩)))
    · exact absurd (by decide) h0
  · have h4 := h3 a b
    have h5 : i ≤ 3 := by
      rcases h1 with ⟨h, -⟩ | ⟨h, -⟩ | ⟨h, -⟩ | ⟨h, -⟩ | ⟨h, e⟩
      · omega
      · omega
      · omega
      · omega
      · subst e; exact absurd (by decide) h0
    have := hk (by omega) (by omega)
    push_cast
    omega
theorem Ap.e {tl k x : Int32} {n : Nat} (h : Ap tl k x n) (h0 : x < 0) : 0 ≤ tl.toInt → tl.toInt ≤ 1496 → k.toInt = tl.toInt + 4 := by
  obtain ⟨i, h1, -, h3⟩ := h
  intro a b
  have := h3 a b
  rcases h1 with ⟨rfl, rfl⟩ | ⟨rfl, rfl⟩ | ⟨rfl, rfl⟩ | ⟨rfl, rfl⟩ | ⟨rfl, rfl⟩
  · exact absurd h0 (by decide)
  · exact absurd h0 (by decide)
  · exact absurd h0 (by decide)
  · exact absurd h0 (by decide)
  · exact this

theorem inw_X1_reachesBy_0 : ∀ w ∈ wsX00, w ∈ wsX1_reachesBy := fun _ h => List.mem_cons_of_mem _ (List.mem_append_left _ (List.mem_append_right _ h))
theorem inw_X1_reachesBy_1 : ∀ w ∈ wsX10, w ∈ wsX1_reachesBy := fun _ h => List.mem_cons_of_mem _ (List.mem_append_left _ (List.mem_append_left _ (List.mem_append_right _ h)))
theorem inw_X1_reachesBy_7 : ∀ w ∈ wsX70, w ∈ wsX1_reachesBy := fun _ h => List.mem_cons_of_mem _ (List.mem_append_right _ h)

theorem inw_X1_reaches_0 : ∀ w ∈ wsX00, w ∈ wsX1_reaches := fun _ h => List.mem_cons_of_mem _ (List.mem_append_left _ (List.mem_append_right _ h))
theorem inw_X1_reaches_1 : ∀ w ∈ wsX10, w ∈ wsX1_reaches := fun _ h => List.mem_cons_of_mem _ (List.mem_append_left _ (List.mem_append_left _ (List.mem_append_right _ h)))


theorem inw_X1_fewest_1 : ∀ w ∈ wsX10, w ∈ wsX1_fewest := fun _ h => List.mem_cons_of_mem _ (List.mem_append_left _ (List.mem_append_left _ (List.mem_append_left _ (List.mem_append_left _ (List.mem_append_right _ h)))))

theorem inw_X9_plan_0 : ∀ w ∈ wsX00, w ∈ wsX9_plan := fun _ h => List.mem_cons_of_mem _ (List.mem_append_left _ (List.mem_append_left _ (List.mem_append_left _ (List.mem_append_left _ (List.mem_append_left _ (List.mem_append_left _ (List.mem_append_left _ (List.mem_append_right _ h))))))))
theorem inw_X9_plan_9 : ∀ w ∈ wsX90, w ∈ wsX9_plan := fun _ h => List.mem_cons_of_mem _ (List.mem_append_left _ (List.mem_append_left _ (List.mem_append_left _ (List.mem_append_left _ (List.mem_append_left _ (List.mem_append_left _ (List.mem_append_right _ h)))))))




theorem inw_X9_cloth_0 : ∀ w ∈ wsX00, w ∈ wsX9_cloth := fun _ h => List.mem_cons_of_mem _ (List.mem_append_right _ h)
theorem inw_X9_cloth_9 : ∀ w ∈ wsX90, w ∈ wsX9_cloth := fun _ h => List.mem_cons_of_mem _ (List.mem_append_left _ (List.mem_append_right _ h))

