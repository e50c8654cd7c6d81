

theorem inw_X9_planned_1 : ∀ w ∈ wsX10, w ∈ wsX9_planned := fun _ h => List.mem_cons_of_mem _ (List.mem_append_left _ (List.mem_append_right _ h))
theorem inw_X9_planned_9 : ∀ w ∈ wsX90, w ∈ wsX9_planned := fun _ h => List.mem_cons_of_mem _ (List.mem_append_left _ (List.mem_append_left _ (List.mem_append_right _ h)))
theorem inx_X9_planned_9 : ∀ w ∈ (xN RX9 153).filter goodWord, w ∈ wsX9_planned := fun _ h => List.mem_cons_of_mem _ (List.mem_append_right _ h)
