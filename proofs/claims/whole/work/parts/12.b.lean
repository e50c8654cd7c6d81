theorem nlt_le {a b : Int32} (h : ¬ a < b) : b ≤ a := by
  rw [Int32.le_iff_toInt_le]; rw [Int32.lt_iff_toInt_lt] at h; omega
theorem lt_nle {a b : Int32} (h : a < b) : ¬ b ≤ a := by
  rw [Int32.le_iff_toInt_le]; rw [Int32.lt_iff_toInt_lt] at h; omega
theorem vin {v N : Int32} (n : Nat) (hn : n < 2 ^ 31) (hN : N = nI n) (h0 : ¬ v < 0) (h1 : ¬ N ≤ v) : vp_in v n := by
  subst hN
  obtain ⟨j, hj, hv, -⟩ := pk_mu h0 h1 hn
  rw [hv]; exact vp_in_nI hj hn
theorem nz {w : Int32} (h : ¬ w < 1) : w ≠ 0 := fun e => h (by rw [e]; decide)
theorem nz1 {w : Int32} (h : 1 ≤ w) : w ≠ 0 := fun e => absurd (e ▸ h : (1 : Int32) ≤ 0) (by decide)

theorem inw_X0_shade_0 : ∀ w ∈ wsX00, w ∈ wsX0_shade := fun _ h => List.mem_cons_of_mem _ (List.mem_append_right _ h)




theorem inw_X7_givesTo_0 : ∀ w ∈ wsX00, w ∈ wsX7_givesTo := fun _ h => List.mem_cons_of_mem _ (List.mem_append_left _ (List.mem_append_right _ h))
theorem inw_X7_givesTo_7 : ∀ w ∈ wsX70, w ∈ wsX7_givesTo := fun _ h => List.mem_cons_of_mem _ (List.mem_append_right _ h)

theorem inw_X8_vatAt_8 : ∀ w ∈ wsX80, w ∈ wsX8_vatAt := fun _ h => List.mem_cons_of_mem _ (List.mem_append_left _ (List.mem_append_right _ h))
theorem inx_X8_vatAt_8 : ∀ w ∈ (xN RX8 24).filter goodWord, w ∈ wsX8_vatAt := fun _ h => List.mem_cons_of_mem _ (List.mem_append_right _ h)

theorem inx_X9_demand_i : ∀ w ∈ (xI RX9 256).filter goodWord, w ∈ wsX9_demand := fun _ h => List.mem_cons_of_mem _ (List.mem_append_right _ h)

theorem inw_X9_clothAt_9 : ∀ w ∈ wsX90, w ∈ wsX9_clothAt := fun _ h => List.mem_cons_of_mem _ (List.mem_append_left _ (List.mem_append_right _ h))
theorem inx_X9_clothAt_9 : ∀ w ∈ (xN RX9 153).filter goodWord, w ∈ wsX9_clothAt := fun _ h => List.mem_cons_of_mem _ (List.mem_append_right _ h)
