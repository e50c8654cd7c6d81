theorem inw_X0_room_0 : ∀ w ∈ wsX00, w ∈ wsX0_room := fun _ h => List.mem_cons_of_mem _ (List.mem_append_right _ h)

theorem inw_X0_loseByAir_0 : ∀ w ∈ wsX00, w ∈ wsX0_loseByAir := fun _ h => List.mem_cons_of_mem _ (List.mem_append_right _ h)

theorem inw_X0_loseByWash_0 : ∀ w ∈ wsX00, w ∈ wsX0_loseByWash := fun _ h => List.mem_cons_of_mem _ (List.mem_append_right _ h)


theorem inw_X0_copyFrom_0 : ∀ w ∈ wsX00, w ∈ wsX0_copyFrom := fun _ h => List.mem_cons_of_mem _ (List.mem_append_right _ h)

theorem inw_X7_soak_0 : ∀ w ∈ wsX00, w ∈ wsX7_soak := fun _ h => List.mem_cons_of_mem _ (List.mem_append_right _ h)
theorem inw_X7_soak_7 : ∀ w ∈ wsX70, w ∈ wsX7_soak := fun _ h => List.mem_cons_of_mem _ (List.mem_append_left _ (List.mem_append_right _ h))

theorem inw_X7_takeFood_7 : ∀ w ∈ wsX70, w ∈ wsX7_takeFood := fun _ h => List.mem_cons_of_mem _ (List.mem_append_right _ h)

theorem inw_X7_takeLime_7 : ∀ w ∈ wsX70, w ∈ wsX7_takeLime := fun _ h => List.mem_cons_of_mem _ (List.mem_append_right _ h)


theorem inw_X7_copyFrom_7 : ∀ w ∈ wsX70, w ∈ wsX7_copyFrom := fun _ h => List.mem_cons_of_mem _ (List.mem_append_right _ h)

theorem inw_X8_airOut_8 : ∀ w ∈ wsX80, w ∈ wsX8_airOut := fun _ h => List.mem_cons_of_mem _ (List.mem_append_left _ (List.mem_append_right _ h))

theorem inw_X8_washOut_8 : ∀ w ∈ wsX80, w ∈ wsX8_washOut := fun _ h => List.mem_cons_of_mem _ (List.mem_append_left _ (List.mem_append_right _ h))

theorem inw_X8_dryOut_0 : ∀ w ∈ wsX00, w ∈ wsX8_dryOut := fun _ h => List.mem_cons_of_mem _ (List.mem_append_left _ (List.mem_append_right _ h))
theorem inw_X8_dryOut_8 : ∀ w ∈ wsX80, w ∈ wsX8_dryOut := fun _ h => List.mem_cons_of_mem _ (List.mem_append_right _ h)

