theorem inw_X0_room_0 : ∀ w ∈ wsX00, w ∈ wsX0_room := by decide +kernel

theorem inw_X0_loseByAir_0 : ∀ w ∈ wsX00, w ∈ wsX0_loseByAir := by decide +kernel

theorem inw_X0_loseByWash_0 : ∀ w ∈ wsX00, w ∈ wsX0_loseByWash := by decide +kernel

theorem inw_X0_hasSpan_0 : ∀ w ∈ wsX00, w ∈ wsX0_hasSpan := by decide +kernel

theorem inw_X0_copyFrom_0 : ∀ w ∈ wsX00, w ∈ wsX0_copyFrom := by decide +kernel

theorem inw_X7_soak_0 : ∀ w ∈ wsX00, w ∈ wsX7_soak := by decide +kernel
theorem inw_X7_soak_7 : ∀ w ∈ wsX70, w ∈ wsX7_soak := by decide +kernel

theorem inw_X7_takeFood_7 : ∀ w ∈ wsX70, w ∈ wsX7_takeFood := by decide +kernel

theorem inw_X7_takeLime_7 : ∀ w ∈ wsX70, w ∈ wsX7_takeLime := by decide +kernel

theorem inw_X7_liveThrough_7 : ∀ w ∈ wsX70, w ∈ wsX7_liveThrough := by decide +kernel

theorem inw_X7_copyFrom_7 : ∀ w ∈ wsX70, w ∈ wsX7_copyFrom := by decide +kernel

theorem inw_X8_airOut_8 : ∀ w ∈ wsX80, w ∈ wsX8_airOut := by decide +kernel

theorem inw_X8_washOut_8 : ∀ w ∈ wsX80, w ∈ wsX8_washOut := by decide +kernel

theorem inw_X8_dryOut_0 : ∀ w ∈ wsX00, w ∈ wsX8_dryOut := by decide +kernel
theorem inw_X8_dryOut_8 : ∀ w ∈ wsX80, w ∈ wsX8_dryOut := by decide +kernel

theorem inw_X8_dipInto_0 : ∀ w ∈ wsX00, w ∈ wsX8_dipInto := by decide +kernel
theorem inw_X8_dipInto_7 : ∀ w ∈ wsX70, w ∈ wsX8_dipInto := by decide +kernel
theorem inw_X8_dipInto_8 : ∀ w ∈ wsX80, w ∈ wsX8_dipInto := by decide +kernel
