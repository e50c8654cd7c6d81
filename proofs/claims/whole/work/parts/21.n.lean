theorem ne0_of {z w : Int32} (hz : z = w) (h : 1 ≤ w.toInt) : z ≠ 0 := fun e => by
  rw [← hz, e] at h
  exact absurd h (by decide)
theorem ne0_100 {z x w : Int32} (hz : z = 100 + x) (hx : x = w) (h : 1 ≤ w.toInt) (h2 : w.toInt ≤ 50) : z ≠ 0 := fun e => by
  subst hx
  have e1 := add_i hz (by have : (100 : Int32).toInt = 100 := by decide
                          omega) (by have : (100 : Int32).toInt = 100 := by decide
                                     omega)
  have : (100 : Int32).toInt = 100 := by decide
  have e0 : (0 : Int32).toInt = 0 := by decide
  rw [e] at e1
  omega
/-- the cloths: at most 30, each of a weight of 1 to 50 -/
noncomputable def CI (cl : Int32) (w : Nat → Int32) : Prop := 0 ≤ cl.toInt ∧ cl.toInt ≤ 30 ∧ ∀ k : Nat, (k : Int) < cl.toInt → 1 ≤ (w k).toInt ∧ (w k).toInt ≤ 50
theorem CI.at {cl x : Int32} {w : Nat → Int32} (h : CI cl w) (hc : 0 ≤ x.toInt ∧ x.toInt < cl.toInt) : vp_in x 30 ∧ 1 ≤ (w x.toNatClampNeg).toInt ∧ (w x.toNatClampNeg).toInt ≤ 50 := by
  refine ⟨in_i hc.1 (by have := h.2.1; omega), h.2.2 _ ?_⟩
  rw [clamp_i hc.1]
  exact hc.2
theorem CI.add {cl z x : Int32} {w : Nat → Int32} (h : CI cl w) (hn : cl.toInt ≠ 30) (hz : z = cl + 1) (h1 : 1 ≤ x.toInt) (h2 : x.toInt ≤ 50) : CI z (upd w cl.toNatClampNeg x) := by
  have e := add_i hz (by have := h.1; have e1 : (1 : Int32).toInt = 1 := by decide
                         omega) (by have := h.2.1; have e1 : (1 : Int32).toInt = 1 := by decide
                                    omega)
  have e1 : (1 : Int32).toInt = 1 := by decide
  rw [e1] at e
  have h0 := h.1
  have h3 := h.2.1
  refine ⟨by omega, by omega, fun k hk => ?_⟩
  have hc := clamp_i h.1
  by_cases hkc : k = cl.toNatClampNeg
  · subst hkc
    simp only [upd, if_pos]
    exact ⟨h1, h2⟩
  · simp only [upd, hkc, if_false]
    exact h.2.2 k (by omega)

theorem inw_X10_right_10 : ∀ w ∈ wsX100, w ∈ wsX10_right := fun _ h => List.mem_cons_of_mem _ (List.mem_append_right _ h)

theorem inw_X10_isVat_10 : ∀ w ∈ wsX100, w ∈ wsX10_isVat := fun _ h => List.mem_cons_of_mem _ (List.mem_append_right _ h)

theorem inw_X10_isCloth_10 : ∀ w ∈ wsX100, w ∈ wsX10_isCloth := fun _ h => List.mem_cons_of_mem _ (List.mem_append_right _ h)

theorem inw_X10_isDry_10 : ∀ w ∈ wsX100, w ∈ wsX10_isDry := fun _ h => List.mem_cons_of_mem _ (List.mem_append_right _ h)

theorem inw_X10_shadeOf_10 : ∀ w ∈ wsX100, w ∈ wsX10_shadeOf := fun _ h => List.mem_cons_of_mem _ (List.mem_append_right _ h)

theorem inw_X10_charge_10 : ∀ w ∈ wsX100, w ∈ wsX10_charge := fun _ h => List.mem_cons_of_mem _ (List.mem_append_right _ h)

theorem inw_X10_feeds_10 : ∀ w ∈ wsX100, w ∈ wsX10_feeds := fun _ h => List.mem_cons_of_mem _ (List.mem_append_right _ h)

theorem inw_X10_feed_10 : ∀ w ∈ wsX100, w ∈ wsX10_feed := fun _ h => List.mem_cons_of_mem _ (List.mem_append_right _ h)

theorem inw_X10_limes_10 : ∀ w ∈ wsX100, w ∈ wsX10_limes := fun _ h => List.mem_cons_of_mem _ (List.mem_append_right _ h)

theorem inw_X10_lime_10 : ∀ w ∈ wsX100, w ∈ wsX10_lime := fun _ h => List.mem_cons_of_mem _ (List.mem_append_right _ h)





theorem inw_X10_cloth_10 : ∀ w ∈ wsX100, w ∈ wsX10_cloth := fun _ h => List.mem_cons_of_mem _ (List.mem_append_right _ h)

theorem inw_X10_moves_10 : ∀ w ∈ wsX100, w ∈ wsX10_moves := fun _ h => List.mem_cons_of_mem _ (List.mem_append_right _ h)



theorem inw_X10_airs_10 : ∀ w ∈ wsX100, w ∈ wsX10_airs := fun _ h => List.mem_cons_of_mem _ (List.mem_append_right _ h)

theorem inw_X10_washes_10 : ∀ w ∈ wsX100, w ∈ wsX10_washes := fun _ h => List.mem_cons_of_mem _ (List.mem_append_right _ h)

theorem inw_X10_treat_10 : ∀ w ∈ wsX100, w ∈ wsX10_treat := fun _ h => List.mem_cons_of_mem _ (List.mem_append_right _ h)

/-- lays: the shift, the times done, what is taped -/
noncomputable def La (tl k : Int32) (x : Int32) (n : Nat) : Prop := ∃ i : Nat, ((i = 0 ∧ x = 24) ∨ (i = 1 ∧ x = 16) ∨ (i = 2 ∧ x = 8) ∨ (i = 3 ∧ x = 0) ∨ (i = 4 ∧ x = -8)) ∧ 4 < i + n ∧ k.toInt = tl.toInt + i
theorem La.z {tl k x : Int32} (h : La tl k x 0) : False := by
  obtain ⟨i, h1, h2, -⟩ := h
  rcases h1 with ⟨h, -⟩ | ⟨h, -⟩ | ⟨h, -⟩ | ⟨h, -⟩ | ⟨h, -⟩ <;> omega
theorem La.in {tl k x : Int32} {n : Nat} (h : La tl k x (n + 1)) (h0 : ¬ x < 0) (ht : 0 ≤ tl.toInt ∧ tl.toInt ≤ 1496) : 0 ≤ k.toInt ∧ k.toInt < 1500 := by
  obtain ⟨i, h1, -, h3⟩ := h
  have h5 : i ≤ 3 := by
    rcases h1 with ⟨h, -⟩ | ⟨h, -⟩ | ⟨h, -⟩ | ⟨h, -⟩ | ⟨h, e⟩
    · omega
    · omega
    · omega
    · omega
    · subst e; exact absurd (by decide) h0
  omega
theorem La.nx {tl k z x : Int32} {n : Nat} (h : La tl k x (n + 1)) (h0 : ¬ x < 0) (ht : 0 ≤ tl.toInt ∧ tl.toInt ≤ 1496) (hz : z = k + 1) : La tl z (x + (-8)) n := by
  have hin := h.in h0 ht
  have ez := inc_toInt (a := k) (b := 1500) (by rw [Int32.lt_iff_toInt_lt]; have e : (1500 : Int32).toInt = 1500 := by decide
                                                omega)
  rw [← hz] at ez
  obtain ⟨i, h1, h2, h3⟩ := h
  refine ⟨i + 1, ?_, by omega, by push_cast; omega⟩
  rcases h1 with ⟨rfl, rfl⟩ | ⟨rfl, rfl⟩ | ⟨rfl, rfl⟩ | ⟨rfl, rfl⟩ | ⟨rfl, rfl⟩
  · exact Or.inr (Or.inl ⟨rfl, by decide⟩)
  · exact Or.inr (Or.inr (Or.inl ⟨rfl, by decide⟩))
  · exact Or.inr (Or.inr (Or.inr (Or.inl ⟨rfl, by decide⟩)))
  · exact Or.inr (Or.inr (Or.inr (Or.inr ⟨rfl, by decide⟩)))
  · exact absurd (by decide) h0
theorem La.e {tl k x : Int32} {n : Nat} (h : La tl k x n) (h0 : x < 0) : k.toInt = tl.toInt + 4 := by
  obtain ⟨i, h1, -, h3⟩ := h
  rcases h1 with ⟨rfl, rfl⟩ | ⟨rfl, rfl⟩ | ⟨rfl, rfl⟩ | ⟨rfl, rfl⟩ | ⟨rfl, rfl⟩
  · exact absurd h0 (by decide)
  · exact absurd h0 (by decide)
  · exact absurd h0 (by decide)
  · exact absurd h0 (by decide)
  · exact h3





theorem inw_X10_planned_10 : ∀ w ∈ wsX100, w ∈ wsX10_planned := fun _ h => List.mem_cons_of_mem _ (List.mem_append_right _ h)







