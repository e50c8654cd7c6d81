theorem tab_out_1_6 {x : Int32} (h1 : ¬ x = 1) (h2 : ¬ x = 2) (h3 : ¬ x = 3) (h4 : ¬ x = 4) (h5 : ¬ x = 5) (h6 : ¬ x = 6) : x.toInt < 1 ∨ 6 < x.toInt := by
  have e1 : x.toInt ≠ 1 := fun h => h1 (Int32.toInt_inj.mp h)
  have e2 : x.toInt ≠ 2 := fun h => h2 (Int32.toInt_inj.mp h)
  have e3 : x.toInt ≠ 3 := fun h => h3 (Int32.toInt_inj.mp h)
  have e4 : x.toInt ≠ 4 := fun h => h4 (Int32.toInt_inj.mp h)
  have e5 : x.toInt ≠ 5 := fun h => h5 (Int32.toInt_inj.mp h)
  have e6 : x.toInt ≠ 6 := fun h => h6 (Int32.toInt_inj.mp h)
  omega

theorem tab_out_8_11 {x : Int32} (h8 : ¬ x = 8) (h9 : ¬ x = 9) (h10 : ¬ x = 10) (h11 : ¬ x = 11) : x.toInt < 8 ∨ 11 < x.toInt := by
  have e8 : x.toInt ≠ 8 := fun h => h8 (Int32.toInt_inj.mp h)
  have e9 : x.toInt ≠ 9 := fun h => h9 (Int32.toInt_inj.mp h)
  have e10 : x.toInt ≠ 10 := fun h => h10 (Int32.toInt_inj.mp h)
  have e11 : x.toInt ≠ 11 := fun h => h11 (Int32.toInt_inj.mp h)
  omega

theorem tab_out_15_18 {x : Int32} (h15 : ¬ x = 15) (h16 : ¬ x = 16) (h17 : ¬ x = 17) (h18 : ¬ x = 18) : x.toInt < 15 ∨ 18 < x.toInt := by
  have e15 : x.toInt ≠ 15 := fun h => h15 (Int32.toInt_inj.mp h)
  have e16 : x.toInt ≠ 16 := fun h => h16 (Int32.toInt_inj.mp h)
  have e17 : x.toInt ≠ 17 := fun h => h17 (Int32.toInt_inj.mp h)
  have e18 : x.toInt ≠ 18 := fun h => h18 (Int32.toInt_inj.mp h)
  omega

theorem tab_out_8_10 {x : Int32} (h8 : ¬ x = 8) (h9 : ¬ x = 9) (h10 : ¬ x = 10) : x.toInt < 8 ∨ 10 < x.toInt := by
  have e8 : x.toInt ≠ 8 := fun h => h8 (Int32.toInt_inj.mp h)
  have e9 : x.toInt ≠ 9 := fun h => h9 (Int32.toInt_inj.mp h)
  have e10 : x.toInt ≠ 10 := fun h => h10 (Int32.toInt_inj.mp h)
  omega

theorem inc_toInt {a b : Int32} (h : a < b) : (a + 1).toInt = a.toInt + 1 := by
  rw [Int32.lt_iff_toInt_lt] at h
  have h1 := Int32.toInt_lt b
  have h2 := Int32.le_toInt a
  rw [Int32.toInt_add]
  have h3 : (1 : Int32).toInt = 1 := by decide
  rw [h3, Int.bmod_def]
  omega

theorem inw_X4_mayCount_4 : ∀ w ∈ wsX40, w ∈ wsX4_mayCount := fun _ h => List.mem_cons_of_mem _ (List.mem_append_right _ h)

theorem inw_X4_doAir_0 : ∀ w ∈ wsX00, w ∈ wsX4_doAir := fun _ h => List.mem_cons_of_mem _ (List.mem_append_left _ (List.mem_append_left _ (List.mem_append_right _ h)))
theorem inw_X4_doAir_4 : ∀ w ∈ wsX40, w ∈ wsX4_doAir := fun _ h => List.mem_cons_of_mem _ (List.mem_append_left _ (List.mem_append_right _ h))

theorem inw_X4_doLime_7 : ∀ w ∈ wsX70, w ∈ wsX4_doLime := fun _ h => List.mem_cons_of_mem _ (List.mem_append_right _ h)

theorem inw_X4_doDip_4 : ∀ w ∈ wsX40, w ∈ wsX4_doDip := fun _ h => List.mem_cons_of_mem _ (List.mem_append_left _ (List.mem_append_left _ (List.mem_append_right _ h)))
theorem inw_X4_doDip_7 : ∀ w ∈ wsX70, w ∈ wsX4_doDip := fun _ h => List.mem_cons_of_mem _ (List.mem_append_left _ (List.mem_append_left _ (List.mem_append_left _ (List.mem_append_right _ h))))


theorem inw_X4_lookAt_0 : ∀ w ∈ wsX00, w ∈ wsX4_lookAt := fun _ h => List.mem_cons_of_mem _ (List.mem_append_left _ (List.mem_append_left _ (List.mem_append_left _ (List.mem_append_left _ (List.mem_append_right _ h)))))
theorem inw_X4_lookAt_4 : ∀ w ∈ wsX40, w ∈ wsX4_lookAt := fun _ h => List.mem_cons_of_mem _ (List.mem_append_left _ (List.mem_append_left _ (List.mem_append_left _ (List.mem_append_right _ h))))
theorem inw_X4_lookAt_5 : ∀ w ∈ wsX50, w ∈ wsX4_lookAt := fun _ h => List.mem_cons_of_mem _ (List.mem_append_left _ (List.mem_append_left _ (List.mem_append_left _ (List.mem_append_left _ (List.mem_append_left _ (List.mem_append_right _ h))))))
theorem inw_X4_lookAt_7 : ∀ w ∈ wsX70, w ∈ wsX4_lookAt := fun _ h => List.mem_cons_of_mem _ (List.mem_append_left _ (List.mem_append_left _ (List.mem_append_right _ h)))
theorem inw_X4_lookAt_8 : ∀ w ∈ wsX80, w ∈ wsX4_lookAt := fun _ h => List.mem_cons_of_mem _ (List.mem_append_left _ (List.mem_append_right _ h))

theorem inw_X4_holds_5 : ∀ w ∈ wsX50, w ∈ wsX4_holds := fun _ h => List.mem_cons_of_mem _ (List.mem_append_left _ (List.mem_append_left _ (List.mem_append_left _ (List.mem_append_left _ (List.mem_append_left _ (List.mem_append_right _ h))))))

theorem inw_X4_doRest_4 : ∀ w ∈ wsX40, w ∈ wsX4_doRest := fun _ h => List.mem_cons_of_mem _ (List.mem_append_left _ (List.mem_append_left _ (List.mem_append_right _ h)))

theorem inw_X4_doPlain_4 : ∀ w ∈ wsX40, w ∈ wsX4_doPlain := fun _ h => List.mem_cons_of_mem _ (List.mem_append_left _ (List.mem_append_left _ (List.mem_append_left _ (List.mem_append_left _ (List.mem_append_right _ h)))))
theorem inw_X4_doPlain_5 : ∀ w ∈ wsX50, w ∈ wsX4_doPlain := fun _ h => List.mem_cons_of_mem _ (List.mem_append_left _ (List.mem_append_left _ (List.mem_append_left _ (List.mem_append_left _ (List.mem_append_left _ (List.mem_append_right _ h))))))

theorem inw_X4_doTimes_5 : ∀ w ∈ wsX50, w ∈ wsX4_doTimes := fun _ h => List.mem_cons_of_mem _ (List.mem_append_left _ (List.mem_append_left _ (List.mem_append_left _ (List.mem_append_left _ (List.mem_append_left _ (List.mem_append_right _ h))))))

theorem inw_X4_doUntil_4 : ∀ w ∈ wsX40, w ∈ wsX4_doUntil := fun _ h => List.mem_cons_of_mem _ (List.mem_append_left _ (List.mem_append_left _ (List.mem_append_left _ (List.mem_append_right _ h))))
theorem inw_X4_doUntil_5 : ∀ w ∈ wsX50, w ∈ wsX4_doUntil := fun _ h => List.mem_cons_of_mem _ (List.mem_append_left _ (List.mem_append_left _ (List.mem_append_left _ (List.mem_append_left _ (List.mem_append_left _ (List.mem_append_right _ h))))))

theorem inw_X4_doTry_5 : ∀ w ∈ wsX50, w ∈ wsX4_doTry := fun _ h => List.mem_cons_of_mem _ (List.mem_append_left _ (List.mem_append_left _ (List.mem_append_left _ (List.mem_append_left _ (List.mem_append_left _ (List.mem_append_right _ h))))))

theorem inw_X4_doWithLast_5 : ∀ w ∈ wsX50, w ∈ wsX4_doWithLast := fun _ h => List.mem_cons_of_mem _ (List.mem_append_left _ (List.mem_append_left _ (List.mem_append_left _ (List.mem_append_left _ (List.mem_append_left _ (List.mem_append_right _ h))))))

theorem inw_X4_doBuilt_5 : ∀ w ∈ wsX50, w ∈ wsX4_doBuilt := fun _ h => List.mem_cons_of_mem _ (List.mem_append_left _ (List.mem_append_left _ (List.mem_append_left _ (List.mem_append_left _ (List.mem_append_left _ (List.mem_append_right _ h))))))


theorem inw_X4_doSteps_5 : ∀ w ∈ wsX50, w ∈ wsX4_doSteps := fun _ h => List.mem_cons_of_mem _ (List.mem_append_left _ (List.mem_append_left _ (List.mem_append_left _ (List.mem_append_left _ (List.mem_append_left _ (List.mem_append_right _ h))))))


theorem inw_X4_follow_4 : ∀ w ∈ wsX40, w ∈ wsX4_follow := fun _ h => List.mem_cons_of_mem _ (List.mem_append_left _ (List.mem_append_left _ (List.mem_append_left _ (List.mem_append_left _ (List.mem_append_left _ (List.mem_append_right _ h))))))

theorem inw_X9_run_0 : ∀ w ∈ wsX00, w ∈ wsX9_run := fun _ h => List.mem_cons_of_mem _ (List.mem_append_left _ (List.mem_append_left _ (List.mem_append_left _ (List.mem_append_left _ (List.mem_append_left _ (List.mem_append_left _ (List.mem_append_left _ (List.mem_append_right _ h))))))))
theorem inw_X9_run_3 : ∀ w ∈ wsX30, w ∈ wsX9_run := fun _ h => List.mem_cons_of_mem _ (List.mem_append_left _ (List.mem_append_left _ (List.mem_append_left _ (List.mem_append_left _ (List.mem_append_left _ (List.mem_append_left _ (List.mem_append_right _ h)))))))
theorem inw_X9_run_9 : ∀ w ∈ wsX90, w ∈ wsX9_run := fun _ h => List.mem_cons_of_mem _ (List.mem_append_left _ (List.mem_append_left _ (List.mem_append_left _ (List.mem_append_left _ (List.mem_append_left _ (List.mem_append_left _ (List.mem_append_left _ (List.mem_append_left _ (List.mem_append_right _ h)))))))))
