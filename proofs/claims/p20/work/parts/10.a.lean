noncomputable abbrev rm_X0_room : Room := { frames := 0, cells := 0, slots := 0, locals := 0 }
theorem inw_X0_room_0 : ∀ w ∈ wsX00, w ∈ wsX0_room := fun _ h => List.mem_cons_of_mem _ (List.mem_append_right _ h)
set_option maxHeartbeats 800000 in
set_option maxRecDepth 100000 in
theorem t_X0_room (l : Launch) (dC : Nat → ClassId) (dI : Nat → Nat → Nat) (sa : Nat → Nat) (hlt : l.stackTraces = false) (g : Nat → Nat) (L : List Nat) (f : Nat → va_E) (h0 : Nat) (sz : Nat) (hT : TP g L f [(h0, (0, 0, 0))]) : KC l dC dI sa g yX0_room wsX0_room rm_X0_room [.ref h0] L f sz (fun r L' f' => (∃ z : Int32, r = some (.int z)) ∧ Fr [] L f f') 0 0 := by
  refine CT.start (cc := cX0_room) (maxL := 1) (ret := (some .int)) (by decide) rfl (Nat.le_of_ble_eq_true rfl) ?_
  intro p e s m below meth c ls hst hP hK hD hev hS hl
  obtain ⟨hx, hb, hr, hml, hts, hown, hlocks, hin⟩ := hst
  have hown : s.vm.findClass RX0 = some m.cls := hown
  have hin : meth.name = yX0_room.name := hin
  have hA : ∀ q : Nat, s.heap.size ≤ q → va_A (va_pl L f) s.heap.size q := fun _ h => Or.inr h
  have hE : Ext L f L f := Ext.rf
  have hF : Fr [] L f f := Fr.rf
  have hl : lv_has ls 1 [(0, .ref h0)] := hl
  refine lv_sipush (v := 200) hx hb dX0_room_0 (by decide) ?_
  refine lv_aload_n hx hb dX0_room_3 rfl (lv_at hl 0 rfl) ?_
  refine T_get (ci := 0) (C := RX0) (T := TX0) (N := 8) (t := tI) hx hb hts inw_X0_room_0 hown hK hP hT 0 rfl rfl 1 (by decide) (hts (.fieldLink RX0 18 "VatHouse$Cloth" "weight" "I") (List.mem_of_getElem? (i := 1) (by exact rfl))) (fun _ h9 => h9) rfl dX0_room_4 (fun v_3 hv_1 hr_2 => ?_)
  obtain ⟨z_4, rfl⟩ := hv_1
  refine lv_imul hx hb dX0_room_7 ?_
  refine lv_topi (fun z_5 ez_5 => ?_)
  refine lv_aload_n hx hb dX0_room_8 rfl (lv_at hl 0 rfl) ?_
  refine T_get (ci := 0) (C := RX0) (T := TX0) (N := 8) (t := tI) hx hb hts inw_X0_room_0 hown hK hP hT 0 rfl rfl 2 (by decide) (hts (.fieldLink RX0 24 "VatHouse$Cloth" "loose" "I") (List.mem_of_getElem? (i := 2) (by exact rfl))) (fun _ h9 => h9) rfl dX0_room_9 (fun v_8 hv_6 hr_7 => ?_)
  obtain ⟨z_9, rfl⟩ := hv_6
  refine lv_isub hx hb dX0_room_12 ?_
  refine lv_topi (fun z_10 ez_10 => ?_)
  refine lv_aload_n hx hb dX0_room_13 rfl (lv_at hl 0 rfl) ?_
  refine T_get (ci := 0) (C := RX0) (T := TX0) (N := 8) (t := tI) hx hb hts inw_X0_room_0 hown hK hP hT 0 rfl rfl 3 (by decide) (hts (.fieldLink RX0 21 "VatHouse$Cloth" "fast" "I") (List.mem_of_getElem? (i := 3) (by exact rfl))) (fun _ h9 => h9) rfl dX0_room_14 (fun v_13 hv_11 hr_12 => ?_)
  obtain ⟨z_14, rfl⟩ := hv_11
  refine lv_isub hx hb dX0_room_17 ?_
  refine lv_topi (fun z_15 ez_15 => ?_)
  exact K_i hx hb hr hlocks hP hD hK hS hT hE ⟨⟨_, rfl⟩, hF⟩ (Nat.le_of_ble_eq_true rfl) (Nat.le_of_ble_eq_true rfl) dX0_room_18

theorem inw_X0_loseByAir_0 : ∀ w ∈ wsX00, w ∈ wsX0_loseByAir := fun _ h => List.mem_cons_of_mem _ (List.mem_append_right _ h)

theorem inw_X0_loseByWash_0 : ∀ w ∈ wsX00, w ∈ wsX0_loseByWash := fun _ h => List.mem_cons_of_mem _ (List.mem_append_right _ h)

theorem inw_X0_hasSpan_0 : ∀ w ∈ wsX00, w ∈ wsX0_hasSpan := fun _ h => List.mem_cons_of_mem _ (List.mem_append_right _ h)

theorem inw_X0_copyFrom_0 : ∀ w ∈ wsX00, w ∈ wsX0_copyFrom := fun _ h => List.mem_cons_of_mem _ (List.mem_append_right _ h)

theorem inw_X7_soak_0 : ∀ w ∈ wsX00, w ∈ wsX7_soak := fun _ h => List.mem_cons_of_mem _ (List.mem_append_right _ h)
theorem inw_X7_soak_7 : ∀ w ∈ wsX70, w ∈ wsX7_soak := fun _ h => List.mem_cons_of_mem _ (List.mem_append_left _ (List.mem_append_right _ h))

theorem inw_X7_takeFood_7 : ∀ w ∈ wsX70, w ∈ wsX7_takeFood := fun _ h => List.mem_cons_of_mem _ (List.mem_append_right _ h)

theorem inw_X7_takeLime_7 : ∀ w ∈ wsX70, w ∈ wsX7_takeLime := fun _ h => List.mem_cons_of_mem _ (List.mem_append_right _ h)

theorem inw_X7_liveThrough_7 : ∀ w ∈ wsX70, w ∈ wsX7_liveThrough := fun _ h => List.mem_cons_of_mem _ (List.mem_append_right _ h)

theorem inw_X7_copyFrom_7 : ∀ w ∈ wsX70, w ∈ wsX7_copyFrom := fun _ h => List.mem_cons_of_mem _ (List.mem_append_right _ h)

theorem inw_X8_airOut_8 : ∀ w ∈ wsX80, w ∈ wsX8_airOut := fun _ h => List.mem_cons_of_mem _ (List.mem_append_left _ (List.mem_append_right _ h))

theorem inw_X8_washOut_8 : ∀ w ∈ wsX80, w ∈ wsX8_washOut := fun _ h => List.mem_cons_of_mem _ (List.mem_append_left _ (List.mem_append_right _ h))

theorem inw_X8_dryOut_0 : ∀ w ∈ wsX00, w ∈ wsX8_dryOut := fun _ h => List.mem_cons_of_mem _ (List.mem_append_left _ (List.mem_append_right _ h))
theorem inw_X8_dryOut_8 : ∀ w ∈ wsX80, w ∈ wsX8_dryOut := fun _ h => List.mem_cons_of_mem _ (List.mem_append_right _ h)

theorem inw_X8_dipInto_0 : ∀ w ∈ wsX00, w ∈ wsX8_dipInto := fun _ h => List.mem_cons_of_mem _ (List.mem_append_right _ h)
theorem inw_X8_dipInto_7 : ∀ w ∈ wsX70, w ∈ wsX8_dipInto := fun _ h => List.mem_cons_of_mem _ (List.mem_append_left _ (List.mem_append_right _ h))
theorem inw_X8_dipInto_8 : ∀ w ∈ wsX80, w ∈ wsX8_dipInto := fun _ h => List.mem_cons_of_mem _ (List.mem_append_left _ (List.mem_append_left _ (List.mem_append_right _ h)))
