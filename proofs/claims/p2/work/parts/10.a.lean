abbrev rm_X0_room : Room := { frames := 0, cells := 0, slots := 0, locals := 0 }
theorem inw_X0_room_0 : ∀ w ∈ wsX00, w ∈ wsX0_room := by decide +kernel
set_option maxHeartbeats 800000 in
set_option maxRecDepth 100000 in
theorem t_X0_room (l : Launch) (dC : Nat → ClassId) (dI : Nat → Nat → Nat) (sa : Nat → Nat) (hlt : l.stackTraces = false) (g : Nat → Nat) (L : List Nat) (f : Nat → va_E) (h0 : Nat) (sz : Nat) (hT : TP g L f [(h0, (0, 0, 0))]) : KC l dC dI sa g yX0_room wsX0_room rm_X0_room [.ref h0] L f sz (fun r L' f' => (∃ z : Int32, r = some (.int z)) ∧ Fr [] L f f') 0 0 := by
  refine CT.start (cc := cX0_room) (maxL := 1) (ret := (some .int)) (by decide) rfl (Nat.le_of_ble_eq_true rfl) ?_
  intro p e s m below meth c ls hst hP hK hD hev hS hl
  obtain ⟨hx, hb, hr, hml, hts, hown, hlocks, hin⟩ := hst
  have hown : s.vm.findClass RX0 = some m.cls := hown
  have hin : meth.name = yX0_room.name := hin
  have hA : ∀ q : Nat, s.heap.size ≤ q → va_A (va_pl L f) s.heap.size q := fun _ h => Or.inr h
  have hE : Ext L f L f := Ext.rf
  have hF : Fr [] L f f := Fr.rf
  have hl : lv_has ls 1 [(0, .ref h0)] := hl
  refine lv_sipush (v := 200) hx hb dX0_room_0 (by decide) ?_
  refine lv_aload_n hx hb dX0_room_3 rfl (lv_at hl 0 rfl) ?_
  refine T_get (ci := 0) (C := RX0) (T := TX0) (N := 8) (t := tI) hx hb hts inw_X0_room_0 hown hK hP hT 0 rfl rfl 1 (by decide) (hts (.fieldLink RX0 18 "VatHouse$Cloth" "weight" "I") (by decide +kernel)) (fun _ h9 => h9) rfl dX0_room_4 (fun v_3 hv_1 hr_2 => ?_)
  obtain ⟨z_4, rfl⟩ := hv_1
  refine lv_imul hx hb dX0_room_7 ?_
  refine lv_topi (fun z_5 ez_5 => ?_)
  refine lv_aload_n hx hb dX0_room_8 rfl (lv_at hl 0 rfl) ?_
  refine T_get (ci := 0) (C := RX0) (T := TX0) (N := 8) (t := tI) hx hb hts inw_X0_room_0 hown hK hP hT 0 rfl rfl 2 (by decide) (hts (.fieldLink RX0 24 "VatHouse$Cloth" "loose" "I") (by decide +kernel)) (fun _ h9 => h9) rfl dX0_room_9 (fun v_8 hv_6 hr_7 => ?_)
  obtain ⟨z_9, rfl⟩ := hv_6
  refine lv_isub hx hb dX0_room_12 ?_
  refine lv_topi (fun z_10 ez_10 => ?_)
  refine lv_aload_n hx hb dX0_room_13 rfl (lv_at hl 0 rfl) ?_
  refine T_get (ci := 0) (C := RX0) (T := TX0) (N := 8) (t := tI) hx hb hts inw_X0_room_0 hown hK hP hT 0 rfl rfl 3 (by decide) (hts (.fieldLink RX0 21 "VatHouse$Cloth" "fast" "I") (by decide +kernel)) (fun _ h9 => h9) rfl dX0_room_14 (fun v_13 hv_11 hr_12 => ?_)
  obtain ⟨z_14, rfl⟩ := hv_11
  refine lv_isub hx hb dX0_room_17 ?_
  refine lv_topi (fun z_15 ez_15 => ?_)
  exact K_i hx hb hr hlocks hP hD hK hS hT hE ⟨⟨_, rfl⟩, hF⟩ (Nat.le_of_ble_eq_true rfl) (Nat.le_of_ble_eq_true rfl) dX0_room_18

abbrev rm_X0_loseByAir : Room := { frames := 0, cells := 0, slots := 0, locals := 0 }
theorem inw_X0_loseByAir_0 : ∀ w ∈ wsX00, w ∈ wsX0_loseByAir := by decide +kernel
set_option maxHeartbeats 800000 in
set_option maxRecDepth 100000 in
theorem t_X0_loseByAir (l : Launch) (dC : Nat → ClassId) (dI : Nat → Nat → Nat) (sa : Nat → Nat) (hlt : l.stackTraces = false) (g : Nat → Nat) (L : List Nat) (f : Nat → va_E) (h0 : Nat) (sz : Nat) (hT : TP g L f [(h0, (0, 0, 0))]) : KC l dC dI sa g yX0_loseByAir wsX0_loseByAir rm_X0_loseByAir [.ref h0] L f sz (fun r L' f' => (∃ z : Int32, r = some (.int z)) ∧ Fr [(0, 0), (0, 1), (0, 2), (0, 3), (0, 4), (0, 5), (0, 6), (0, 7)] L f f') 0 0 := by
  refine CT.start (cc := cX0_loseByAir) (maxL := 2) (ret := (some .int)) (by decide) rfl (Nat.le_of_ble_eq_true rfl) ?_
  intro p e s m below meth c ls hst hP hK hD hev hS hl
  obtain ⟨hx, hb, hr, hml, hts, hown, hlocks, hin⟩ := hst
  have hown : s.vm.findClass RX0 = some m.cls := hown
  have hin : meth.name = yX0_loseByAir.name := hin
  have hA : ∀ q : Nat, s.heap.size ≤ q → va_A (va_pl L f) s.heap.size q := fun _ h => Or.inr h
  have hE : Ext L f L f := Ext.rf
  have hF : Fr [(0, 0), (0, 1), (0, 2), (0, 3), (0, 4), (0, 5), (0, 6), (0, 7)] L f f := Fr.rf
  have hl : lv_has ls 2 [(0, .ref h0)] := hl
  refine lv_aload_n hx hb dX0_loseByAir_0 rfl (lv_at hl 0 rfl) ?_
  refine T_get (ci := 0) (C := RX0) (T := TX0) (N := 8) (t := tI) hx hb hts inw_X0_loseByAir_0 hown hK hP hT 0 rfl rfl 2 (by decide) (hts (.fieldLink RX0 24 "VatHouse$Cloth" "loose" "I") (by decide +kernel)) (fun _ h9 => h9) rfl dX0_loseByAir_1 (fun v_3 hv_1 hr_2 => ?_)
  obtain ⟨z_4, rfl⟩ := hv_1
  refine lv_bipush (v := 8) hx hb dX0_loseByAir_4 (by decide) ?_
  refine lv_idiv hx hb dX0_loseByAir_6 (by decide) ?_
  refine lv_topi (fun z_5 ez_5 => ?_)
  refine lv_istore_n (lv' := [(1, .int z_5), (0, .ref h0)]) hx hb dX0_loseByAir_7 rfl hl (by decide) rfl (fun ls hl => ?_)
  refine lv_aload_n hx hb dX0_loseByAir_8 rfl (lv_at hl 1 rfl) ?_
  refine lv_dup hx hb dX0_loseByAir_9 rfl ?_
  refine T_get (ci := 0) (C := RX0) (T := TX0) (N := 8) (t := tI) hx hb hts inw_X0_loseByAir_0 hown hK hP hT 0 rfl rfl 3 (by decide) (hts (.fieldLink RX0 21 "VatHouse$Cloth" "fast" "I") (by decide +kernel)) (fun _ h9 => h9) rfl dX0_loseByAir_10 (fun v_8 hv_6 hr_7 => ?_)
  obtain ⟨z_9, rfl⟩ := hv_6
  refine lv_aload_n hx hb dX0_loseByAir_13 rfl (lv_at hl 1 rfl) ?_
  refine T_get (ci := 0) (C := RX0) (T := TX0) (N := 8) (t := tI) hx hb hts inw_X0_loseByAir_0 hown hK hP hT 0 rfl rfl 2 (by decide) (hts (.fieldLink RX0 24 "VatHouse$Cloth" "loose" "I") (by decide +kernel)) (fun _ h9 => h9) rfl dX0_loseByAir_14 (fun v_12 hv_10 hr_11 => ?_)
  obtain rfl : v_12 = .int z_4 := hr_11.symm.trans hr_2
  refine lv_iload_n hx hb dX0_loseByAir_17 rfl (lv_at hl 0 rfl) ?_
  refine lv_isub hx hb dX0_loseByAir_18 ?_
  refine lv_topi (fun z_13 ez_13 => ?_)
  refine lv_iadd hx hb dX0_loseByAir_19 ?_
  refine lv_topi (fun z_14 ez_14 => ?_)
  refine T_put (ci := 0) (v := .int z_14) (ty := .int) (t := tI) (C := RX0) (T := TX0) (N := 8) hx hb hts inw_X0_loseByAir_0 tyX0 tyX0_ok nmX0 hown hK hP hD hS hT 0 rfl rfl 3 (by decide) (hts (.fieldLink RX0 21 "VatHouse$Cloth" "fast" "I") (by decide +kernel)) (fun _ h9 => h9) rfl (by decide +kernel) rfl rfl rfl ⟨_, rfl⟩ dX0_loseByAir_20 (fun f_15 H locs hP hD hS hT hE1 hrd_16 hup_17 => ?_)
  have hF := Fr.put (a := h0) (ci := 0) hF hE ((hE1 h0 (hT.at 0 rfl).1).2.symm.trans (hT.at 0 rfl).2) (by decide) hrd_16 hup_17
  have hE := hE.tr hE1
  refine lv_aload_n hx hb dX0_loseByAir_23 rfl (lv_at hl 1 rfl) ?_
  refine lv_iconst (v := 0) hx hb dX0_loseByAir_24 (by decide) ?_
  refine T_put (ci := 0) (v := .int 0) (ty := .int) (t := tI) (C := RX0) (T := TX0) (N := 8) hx hb hts inw_X0_loseByAir_0 tyX0 tyX0_ok nmX0 hown hK hP hD hS hT 0 rfl rfl 2 (by decide) (hts (.fieldLink RX0 24 "VatHouse$Cloth" "loose" "I") (by decide +kernel)) (fun _ h9 => h9) rfl (by decide +kernel) rfl rfl rfl ⟨_, rfl⟩ dX0_loseByAir_25 (fun f_18 H locs hP hD hS hT hE1 hrd_19 hup_20 => ?_)
  have hF := Fr.put (a := h0) (ci := 0) hF hE ((hE1 h0 (hT.at 0 rfl).1).2.symm.trans (hT.at 0 rfl).2) (by decide) hrd_19 hup_20
  have hE := hE.tr hE1
  refine lv_iload_n hx hb dX0_loseByAir_28 rfl (lv_at hl 0 rfl) ?_
  exact K_i hx hb hr hlocks hP hD hK hS hT hE ⟨⟨_, rfl⟩, hF⟩ (Nat.le_of_ble_eq_true rfl) (Nat.le_of_ble_eq_true rfl) dX0_loseByAir_29

abbrev rm_X0_loseByWash : Room := { frames := 0, cells := 0, slots := 0, locals := 0 }
theorem inw_X0_loseByWash_0 : ∀ w ∈ wsX00, w ∈ wsX0_loseByWash := by decide +kernel
set_option maxHeartbeats 800000 in
set_option maxRecDepth 100000 in
theorem t_X0_loseByWash (l : Launch) (dC : Nat → ClassId) (dI : Nat → Nat → Nat) (sa : Nat → Nat) (hlt : l.stackTraces = false) (g : Nat → Nat) (L : List Nat) (f : Nat → va_E) (h0 : Nat) (sz : Nat) (hT : TP g L f [(h0, (0, 0, 0))]) : KC l dC dI sa g yX0_loseByWash wsX0_loseByWash rm_X0_loseByWash [.ref h0] L f sz (fun r L' f' => (∃ z : Int32, r = some (.int z)) ∧ Fr [(0, 0), (0, 1), (0, 2), (0, 3), (0, 4), (0, 5), (0, 6), (0, 7)] L f f') 0 0 := by
  refine CT.start (cc := cX0_loseByWash) (maxL := 3) (ret := (some .int)) (by decide) rfl (Nat.le_of_ble_eq_true rfl) ?_
  intro p e s m below meth c ls hst hP hK hD hev hS hl
  obtain ⟨hx, hb, hr, hml, hts, hown, hlocks, hin⟩ := hst
  have hown : s.vm.findClass RX0 = some m.cls := hown
  have hin : meth.name = yX0_loseByWash.name := hin
  have hA : ∀ q : Nat, s.heap.size ≤ q → va_A (va_pl L f) s.heap.size q := fun _ h => Or.inr h
  have hE : Ext L f L f := Ext.rf
  have hF : Fr [(0, 0), (0, 1), (0, 2), (0, 3), (0, 4), (0, 5), (0, 6), (0, 7)] L f f := Fr.rf
  have hl : lv_has ls 3 [(0, .ref h0)] := hl
  refine lv_aload_n hx hb dX0_loseByWash_0 rfl (lv_at hl 0 rfl) ?_
  refine T_get (ci := 0) (C := RX0) (T := TX0) (N := 8) (t := tI) hx hb hts inw_X0_loseByWash_0 hown hK hP hT 0 rfl rfl 3 (by decide) (hts (.fieldLink RX0 21 "VatHouse$Cloth" "fast" "I") (by decide +kernel)) (fun _ h9 => h9) rfl dX0_loseByWash_1 (fun v_3 hv_1 hr_2 => ?_)
  obtain ⟨z_4, rfl⟩ := hv_1
  refine lv_bipush (v := 20) hx hb dX0_loseByWash_4 (by decide) ?_
  refine lv_idiv hx hb dX0_loseByWash_6 (by decide) ?_
  refine lv_topi (fun z_5 ez_5 => ?_)
  refine lv_istore_n (lv' := [(1, .int z_5), (0, .ref h0)]) hx hb dX0_loseByWash_7 rfl hl (by decide) rfl (fun ls hl => ?_)
  refine lv_aload_n hx hb dX0_loseByWash_8 rfl (lv_at hl 1 rfl) ?_
  refine T_get (ci := 0) (C := RX0) (T := TX0) (N := 8) (t := tI) hx hb hts inw_X0_loseByWash_0 hown hK hP hT 0 rfl rfl 2 (by decide) (hts (.fieldLink RX0 24 "VatHouse$Cloth" "loose" "I") (by decide +kernel)) (fun _ h9 => h9) rfl dX0_loseByWash_9 (fun v_8 hv_6 hr_7 => ?_)
  obtain ⟨z_9, rfl⟩ := hv_6
  refine lv_iload_n hx hb dX0_loseByWash_12 rfl (lv_at hl 0 rfl) ?_
  refine lv_iadd hx hb dX0_loseByWash_13 ?_
  refine lv_topi (fun z_10 ez_10 => ?_)
  refine lv_istore_n (lv' := [(2, .int z_10), (1, .int z_5), (0, .ref h0)]) hx hb dX0_loseByWash_14 rfl hl (by decide) rfl (fun ls hl => ?_)
  refine lv_aload_n hx hb dX0_loseByWash_15 rfl (lv_at hl 2 rfl) ?_
  refine lv_dup hx hb dX0_loseByWash_16 rfl ?_
  refine T_get (ci := 0) (C := RX0) (T := TX0) (N := 8) (t := tI) hx hb hts inw_X0_loseByWash_0 hown hK hP hT 0 rfl rfl 3 (by decide) (hts (.fieldLink RX0 21 "VatHouse$Cloth" "fast" "I") (by decide +kernel)) (fun _ h9 => h9) rfl dX0_loseByWash_17 (fun v_13 hv_11 hr_12 => ?_)
  obtain rfl : v_13 = .int z_4 := hr_12.symm.trans hr_2
  refine lv_iload_n hx hb dX0_loseByWash_20 rfl (lv_at hl 1 rfl) ?_
  refine lv_isub hx hb dX0_loseByWash_21 ?_
  refine lv_topi (fun z_14 ez_14 => ?_)
  refine T_put (ci := 0) (v := .int z_14) (ty := .int) (t := tI) (C := RX0) (T := TX0) (N := 8) hx hb hts inw_X0_loseByWash_0 tyX0 tyX0_ok nmX0 hown hK hP hD hS hT 0 rfl rfl 3 (by decide) (hts (.fieldLink RX0 21 "VatHouse$Cloth" "fast" "I") (by decide +kernel)) (fun _ h9 => h9) rfl (by decide +kernel) rfl rfl rfl ⟨_, rfl⟩ dX0_loseByWash_22 (fun f_15 H locs hP hD hS hT hE1 hrd_16 hup_17 => ?_)
  have hF := Fr.put (a := h0) (ci := 0) hF hE ((hE1 h0 (hT.at 0 rfl).1).2.symm.trans (hT.at 0 rfl).2) (by decide) hrd_16 hup_17
  have hE := hE.tr hE1
  refine lv_aload_n hx hb dX0_loseByWash_25 rfl (lv_at hl 2 rfl) ?_
  refine lv_iconst (v := 0) hx hb dX0_loseByWash_26 (by decide) ?_
  refine T_put (ci := 0) (v := .int 0) (ty := .int) (t := tI) (C := RX0) (T := TX0) (N := 8) hx hb hts inw_X0_loseByWash_0 tyX0 tyX0_ok nmX0 hown hK hP hD hS hT 0 rfl rfl 2 (by decide) (hts (.fieldLink RX0 24 "VatHouse$Cloth" "loose" "I") (by decide +kernel)) (fun _ h9 => h9) rfl (by decide +kernel) rfl rfl rfl ⟨_, rfl⟩ dX0_loseByWash_27 (fun f_18 H locs hP hD hS hT hE1 hrd_19 hup_20 => ?_)
  have hF := Fr.put (a := h0) (ci := 0) hF hE ((hE1 h0 (hT.at 0 rfl).1).2.symm.trans (hT.at 0 rfl).2) (by decide) hrd_19 hup_20
  have hE := hE.tr hE1
  refine lv_iload_n hx hb dX0_loseByWash_30 rfl (lv_at hl 0 rfl) ?_
  exact K_i hx hb hr hlocks hP hD hK hS hT hE ⟨⟨_, rfl⟩, hF⟩ (Nat.le_of_ble_eq_true rfl) (Nat.le_of_ble_eq_true rfl) dX0_loseByWash_31

abbrev rm_X0_hasSpan : Room := { frames := 0, cells := 0, slots := 0, locals := 0 }
theorem inw_X0_hasSpan_0 : ∀ w ∈ wsX00, w ∈ wsX0_hasSpan := by decide +kernel
set_option maxHeartbeats 800000 in
set_option maxRecDepth 100000 in
theorem t_X0_hasSpan (l : Launch) (dC : Nat → ClassId) (dI : Nat → Nat → Nat) (sa : Nat → Nat) (hlt : l.stackTraces = false) (g : Nat → Nat) (L : List Nat) (f : Nat → va_E) (h0 : Nat) (d : Int32) (sz : Nat) (hT : TP g L f [(h0, (0, 0, 0))]) : KC l dC dI sa g yX0_hasSpan wsX0_hasSpan rm_X0_hasSpan [.ref h0, .int d] L f sz (fun r L' f' => (∃ z : Int32, r = some (.int z) ∧ (z = 0 ∨ z = 1)) ∧ Fr [] L f f') 0 0 := by
  refine CT.start (cc := cX0_hasSpan) (maxL := 2) (ret := (some .boolean)) (by decide) rfl (Nat.le_of_ble_eq_true rfl) ?_
  intro p e s m below meth c ls hst hP hK hD hev hS hl
  obtain ⟨hx, hb, hr, hml, hts, hown, hlocks, hin⟩ := hst
  have hown : s.vm.findClass RX0 = some m.cls := hown
  have hin : meth.name = yX0_hasSpan.name := hin
  have hA : ∀ q : Nat, s.heap.size ≤ q → va_A (va_pl L f) s.heap.size q := fun _ h => Or.inr h
  have hE : Ext L f L f := Ext.rf
  have hF : Fr [] L f f := Fr.rf
  have hl : lv_has ls 2 [(0, .ref h0), (1, .int d)] := hl
  refine lv_aload_n hx hb dX0_hasSpan_0 rfl (lv_at hl 0 rfl) ?_
  refine T_get (ci := 0) (C := RX0) (T := TX0) (N := 8) (t := tI) hx hb hts inw_X0_hasSpan_0 hown hK hP hT 0 rfl rfl 4 (by decide) (hts (.fieldLink RX0 27 "VatHouse$Cloth" "dry" "Z") (by decide +kernel)) (fun _ h9 => h9) rfl dX0_hasSpan_1 (fun v_3 hv_1 hr_2 => ?_)
  obtain ⟨z_4, rfl⟩ := hv_1
  refine lv_if_eq (tgt := 19) hx hb dX0_hasSpan_4 (by decide) (fun c_5 => ?_) (fun c_5 => ?_)
  · refine lv_iconst (v := 0) hx hb dX0_hasSpan_19 (by decide) ?_
    exact K_z hx hb hr rfl hlocks hP hD hK hS hT hE ⟨⟨_, rfl, Or.inl rfl⟩, hF⟩ (Nat.le_of_ble_eq_true rfl) (Nat.le_of_ble_eq_true rfl) dX0_hasSpan_20
  · refine lv_iload_n hx hb dX0_hasSpan_7 rfl (lv_at hl 1 rfl) ?_
    refine lv_aload_n hx hb dX0_hasSpan_8 rfl (lv_at hl 0 rfl) ?_
    refine T_get (ci := 0) (C := RX0) (T := TX0) (N := 8) (t := tI) hx hb hts inw_X0_hasSpan_0 hown hK hP hT 0 rfl rfl 5 (by decide) (hts (.fieldLink RX0 9 "VatHouse$Cloth" "day" "I") (by decide +kernel)) (fun _ h9 => h9) rfl dX0_hasSpan_9 (fun v_8 hv_6 hr_7 => ?_)
    obtain ⟨z_9, rfl⟩ := hv_6
    refine lv_icmp_lt (tgt := 19) hx hb dX0_hasSpan_12 (by decide) (fun c_10 => ?_) (fun c_10 => ?_)
    · refine lv_iconst (v := 0) hx hb dX0_hasSpan_19 (by decide) ?_
      exact K_z hx hb hr rfl hlocks hP hD hK hS hT hE ⟨⟨_, rfl, Or.inl rfl⟩, hF⟩ (Nat.le_of_ble_eq_true rfl) (Nat.le_of_ble_eq_true rfl) dX0_hasSpan_20
    · refine lv_iconst (v := 1) hx hb dX0_hasSpan_15 (by decide) ?_
      refine lv_goto (tgt := 20) hx hb dX0_hasSpan_16 (by decide) ?_
      exact K_z hx hb hr rfl hlocks hP hD hK hS hT hE ⟨⟨_, rfl, Or.inr rfl⟩, hF⟩ (Nat.le_of_ble_eq_true rfl) (Nat.le_of_ble_eq_true rfl) dX0_hasSpan_20

abbrev rm_X0_copyFrom : Room := { frames := 0, cells := 0, slots := 0, locals := 0 }
theorem inw_X0_copyFrom_0 : ∀ w ∈ wsX00, w ∈ wsX0_copyFrom := by decide +kernel
set_option maxHeartbeats 800000 in
set_option maxRecDepth 100000 in
theorem t_X0_copyFrom (l : Launch) (dC : Nat → ClassId) (dI : Nat → Nat → Nat) (sa : Nat → Nat) (hlt : l.stackTraces = false) (g : Nat → Nat) (L : List Nat) (f : Nat → va_E) (h0 : Nat) (o : Nat) (sz : Nat) (hT : TP g L f [(h0, (0, 0, 0)), (o, (0, 0, 0))]) : KC l dC dI sa g yX0_copyFrom wsX0_copyFrom rm_X0_copyFrom [.ref h0, .ref o] L f sz (fun r L' f' => (r = none) ∧ Fr [(0, 0), (0, 1), (0, 2), (0, 3), (0, 4), (0, 5), (0, 6), (0, 7)] L f f') 0 0 := by
  refine CT.start (cc := cX0_copyFrom) (maxL := 2) (ret := none) (by decide) rfl (Nat.le_of_ble_eq_true rfl) ?_
  intro p e s m below meth c ls hst hP hK hD hev hS hl
  obtain ⟨hx, hb, hr, hml, hts, hown, hlocks, hin⟩ := hst
  have hown : s.vm.findClass RX0 = some m.cls := hown
  have hin : meth.name = yX0_copyFrom.name := hin
  have hA : ∀ q : Nat, s.heap.size ≤ q → va_A (va_pl L f) s.heap.size q := fun _ h => Or.inr h
  have hE : Ext L f L f := Ext.rf
  have hF : Fr [(0, 0), (0, 1), (0, 2), (0, 3), (0, 4), (0, 5), (0, 6), (0, 7)] L f f := Fr.rf
  have hl : lv_has ls 2 [(0, .ref h0), (1, .ref o)] := hl
  refine lv_aload_n hx hb dX0_copyFrom_0 rfl (lv_at hl 0 rfl) ?_
  refine lv_aload_n hx hb dX0_copyFrom_1 rfl (lv_at hl 1 rfl) ?_
  refine T_get (ci := 0) (C := RX0) (T := TX0) (N := 8) (t := tI) hx hb hts inw_X0_copyFrom_0 hown hK hP hT 1 rfl rfl 1 (by decide) (hts (.fieldLink RX0 18 "VatHouse$Cloth" "weight" "I") (by decide +kernel)) (fun _ h9 => h9) rfl dX0_copyFrom_2 (fun v_3 hv_1 hr_2 => ?_)
  obtain ⟨z_4, rfl⟩ := hv_1
  refine T_put (ci := 0) (v := .int z_4) (ty := .int) (t := tI) (C := RX0) (T := TX0) (N := 8) hx hb hts inw_X0_copyFrom_0 tyX0 tyX0_ok nmX0 hown hK hP hD hS hT 0 rfl rfl 1 (by decide) (hts (.fieldLink RX0 18 "VatHouse$Cloth" "weight" "I") (by decide +kernel)) (fun _ h9 => h9) rfl (by decide +kernel) rfl rfl rfl ⟨_, rfl⟩ dX0_copyFrom_5 (fun f_5 H locs hP hD hS hT hE1 hrd_6 hup_7 => ?_)
  have hF := Fr.put (a := h0) (ci := 0) hF hE ((hE1 h0 (hT.at 0 rfl).1).2.symm.trans (hT.at 0 rfl).2) (by decide) hrd_6 hup_7
  have hE := hE.tr hE1
  refine lv_aload_n hx hb dX0_copyFrom_8 rfl (lv_at hl 0 rfl) ?_
  refine lv_aload_n hx hb dX0_copyFrom_9 rfl (lv_at hl 1 rfl) ?_
  refine T_get (ci := 0) (C := RX0) (T := TX0) (N := 8) (t := tI) hx hb hts inw_X0_copyFrom_0 hown hK hP hT 1 rfl rfl 2 (by decide) (hts (.fieldLink RX0 24 "VatHouse$Cloth" "loose" "I") (by decide +kernel)) (fun _ h9 => h9) rfl dX0_copyFrom_10 (fun v_10 hv_8 hr_9 => ?_)
  obtain ⟨z_11, rfl⟩ := hv_8
  refine T_put (ci := 0) (v := .int z_11) (ty := .int) (t := tI) (C := RX0) (T := TX0) (N := 8) hx hb hts inw_X0_copyFrom_0 tyX0 tyX0_ok nmX0 hown hK hP hD hS hT 0 rfl rfl 2 (by decide) (hts (.fieldLink RX0 24 "VatHouse$Cloth" "loose" "I") (by decide +kernel)) (fun _ h9 => h9) rfl (by decide +kernel) rfl rfl rfl ⟨_, rfl⟩ dX0_copyFrom_13 (fun f_12 H locs hP hD hS hT hE1 hrd_13 hup_14 => ?_)
  have hF := Fr.put (a := h0) (ci := 0) hF hE ((hE1 h0 (hT.at 0 rfl).1).2.symm.trans (hT.at 0 rfl).2) (by decide) hrd_13 hup_14
  have hE := hE.tr hE1
  refine lv_aload_n hx hb dX0_copyFrom_16 rfl (lv_at hl 0 rfl) ?_
  refine lv_aload_n hx hb dX0_copyFrom_17 rfl (lv_at hl 1 rfl) ?_
  refine T_get (ci := 0) (C := RX0) (T := TX0) (N := 8) (t := tI) hx hb hts inw_X0_copyFrom_0 hown hK hP hT 1 rfl rfl 3 (by decide) (hts (.fieldLink RX0 21 "VatHouse$Cloth" "fast" "I") (by decide +kernel)) (fun _ h9 => h9) rfl dX0_copyFrom_18 (fun v_17 hv_15 hr_16 => ?_)
  obtain ⟨z_18, rfl⟩ := hv_15
  refine T_put (ci := 0) (v := .int z_18) (ty := .int) (t := tI) (C := RX0) (T := TX0) (N := 8) hx hb hts inw_X0_copyFrom_0 tyX0 tyX0_ok nmX0 hown hK hP hD hS hT 0 rfl rfl 3 (by decide) (hts (.fieldLink RX0 21 "VatHouse$Cloth" "fast" "I") (by decide +kernel)) (fun _ h9 => h9) rfl (by decide +kernel) rfl rfl rfl ⟨_, rfl⟩ dX0_copyFrom_21 (fun f_19 H locs hP hD hS hT hE1 hrd_20 hup_21 => ?_)
  have hF := Fr.put (a := h0) (ci := 0) hF hE ((hE1 h0 (hT.at 0 rfl).1).2.symm.trans (hT.at 0 rfl).2) (by decide) hrd_20 hup_21
  have hE := hE.tr hE1
  exact K_v hx hb hr hlocks hP hD hK hS hT hE ⟨rfl, hF⟩ (Nat.le_of_ble_eq_true rfl) (Nat.le_of_ble_eq_true rfl) dX0_copyFrom_24

abbrev rm_X7_soak : Room := { frames := 0, cells := 0, slots := 0, locals := 0 }
theorem inw_X7_soak_0 : ∀ w ∈ wsX00, w ∈ wsX7_soak := by decide +kernel
theorem inw_X7_soak_7 : ∀ w ∈ wsX70, w ∈ wsX7_soak := by decide +kernel
set_option maxHeartbeats 800000 in
set_option maxRecDepth 100000 in
theorem t_X7_soak (l : Launch) (dC : Nat → ClassId) (dI : Nat → Nat → Nat) (sa : Nat → Nat) (hlt : l.stackTraces = false) (g : Nat → Nat) (L : List Nat) (f : Nat → va_E) (h0 : Nat) (o : Nat) (mm : Int32) (mv : Int32) (sz : Nat) (hT : TP g L f [(h0, (0, 7, 0)), (o, (0, 0, 0))]) : KC l dC dI sa g yX7_soak wsX7_soak rm_X7_soak [.ref h0, .ref o, .int mm, .int mv] L f sz (fun r L' f' => (r = none) ∧ Fr [(0, 0), (0, 1), (0, 2), (0, 3), (0, 4), (0, 5), (0, 6), (0, 7), (7, 0), (7, 1), (7, 2), (7, 3), (7, 4), (7, 5), (7, 6), (7, 7)] L f f') 0 0 := by
  refine CT.start (cc := cX7_soak) (maxL := 4) (ret := none) (by decide) rfl (Nat.le_of_ble_eq_true rfl) ?_
  intro p e s m below meth c ls hst hP hK hD hev hS hl
  obtain ⟨hx, hb, hr, hml, hts, hown, hlocks, hin⟩ := hst
  have hown : s.vm.findClass RX7 = some m.cls := hown
  have hin : meth.name = yX7_soak.name := hin
  have hA : ∀ q : Nat, s.heap.size ≤ q → va_A (va_pl L f) s.heap.size q := fun _ h => Or.inr h
  have hE : Ext L f L f := Ext.rf
  have hF : Fr [(0, 0), (0, 1), (0, 2), (0, 3), (0, 4), (0, 5), (0, 6), (0, 7), (7, 0), (7, 1), (7, 2), (7, 3), (7, 4), (7, 5), (7, 6), (7, 7)] L f f := Fr.rf
  have hl : lv_has ls 4 [(0, .ref h0), (1, .ref o), (2, .int mm), (3, .int mv)] := hl
  refine lv_aload_n hx hb dX7_soak_0 rfl (lv_at hl 0 rfl) ?_
  refine lv_dup hx hb dX7_soak_1 rfl ?_
  refine T_get (ci := 7) (C := RX7) (T := TX7) (N := 8) (t := tI) hx hb hts inw_X7_soak_7 hown hK hP hT 0 rfl rfl 1 (by decide) (hts (.fieldLink RX7 26 "VatHouse$Vat" "grains" "I") (by decide +kernel)) (fun _ h9 => h9) rfl dX7_soak_2 (fun v_3 hv_1 hr_2 => ?_)
  obtain ⟨z_4, rfl⟩ := hv_1
  refine lv_iload_n hx hb dX7_soak_5 rfl (lv_at hl 3 rfl) ?_
  refine lv_isub hx hb dX7_soak_6 ?_
  refine lv_topi (fun z_5 ez_5 => ?_)
  refine T_put (ci := 7) (v := .int z_5) (ty := .int) (t := tI) (C := RX7) (T := TX7) (N := 8) hx hb hts inw_X7_soak_7 tyX7 tyX7_ok nmX7 hown hK hP hD hS hT 0 rfl rfl 1 (by decide) (hts (.fieldLink RX7 26 "VatHouse$Vat" "grains" "I") (by decide +kernel)) (fun _ h9 => h9) rfl (by decide +kernel) rfl rfl rfl ⟨_, rfl⟩ dX7_soak_7 (fun f_6 H locs hP hD hS hT hE1 hrd_7 hup_8 => ?_)
  have hF := Fr.put (a := h0) (ci := 7) hF hE ((hE1 h0 (hT.at 0 rfl).1).2.symm.trans (hT.at 0 rfl).2) (by decide) hrd_7 hup_8
  have hE := hE.tr hE1
  refine lv_aload_n hx hb dX7_soak_10 rfl (lv_at hl 1 rfl) ?_
  refine lv_dup hx hb dX7_soak_11 rfl ?_
  refine T_get (ci := 0) (C := RX0) (T := TX0) (N := 8) (t := tI) hx hb hts inw_X7_soak_0 hown hK hP hT 1 rfl rfl 2 (by decide) (hts (.fieldLink RX7 39 "VatHouse$Cloth" "loose" "I") (by decide +kernel)) (fun _ h9 => h9) rfl dX7_soak_12 (fun v_11 hv_9 hr_10 => ?_)
  obtain ⟨z_12, rfl⟩ := hv_9
  refine lv_iload_n hx hb dX7_soak_15 rfl (lv_at hl 3 rfl) ?_
  refine lv_iadd hx hb dX7_soak_16 ?_
  refine lv_topi (fun z_13 ez_13 => ?_)
  refine T_put (ci := 0) (v := .int z_13) (ty := .int) (t := tI) (C := RX0) (T := TX0) (N := 8) hx hb hts inw_X7_soak_0 tyX0 tyX0_ok nmX0 hown hK hP hD hS hT 1 rfl rfl 2 (by decide) (hts (.fieldLink RX7 39 "VatHouse$Cloth" "loose" "I") (by decide +kernel)) (fun _ h9 => h9) rfl (by decide +kernel) rfl rfl rfl ⟨_, rfl⟩ dX7_soak_17 (fun f_14 H locs hP hD hS hT hE1 hrd_15 hup_16 => ?_)
  have hF := Fr.put (a := o) (ci := 0) hF hE ((hE1 o (hT.at 1 rfl).1).2.symm.trans (hT.at 1 rfl).2) (by decide) hrd_15 hup_16
  have hE := hE.tr hE1
  refine lv_aload_n hx hb dX7_soak_20 rfl (lv_at hl 0 rfl) ?_
  refine lv_dup hx hb dX7_soak_21 rfl ?_
  refine T_get (ci := 7) (C := RX7) (T := TX7) (N := 8) (t := tI) hx hb hts inw_X7_soak_7 hown hK hP hT 0 rfl rfl 3 (by decide) (hts (.fieldLink RX7 42 "VatHouse$Vat" "minutes" "I") (by decide +kernel)) (fun _ h9 => h9) rfl dX7_soak_22 (fun v_19 hv_17 hr_18 => ?_)
  obtain ⟨z_20, rfl⟩ := hv_17
  refine lv_iload_n hx hb dX7_soak_25 rfl (lv_at hl 2 rfl) ?_
  refine lv_iadd hx hb dX7_soak_26 ?_
  refine lv_topi (fun z_21 ez_21 => ?_)
  refine T_put (ci := 7) (v := .int z_21) (ty := .int) (t := tI) (C := RX7) (T := TX7) (N := 8) hx hb hts inw_X7_soak_7 tyX7 tyX7_ok nmX7 hown hK hP hD hS hT 0 rfl rfl 3 (by decide) (hts (.fieldLink RX7 42 "VatHouse$Vat" "minutes" "I") (by decide +kernel)) (fun _ h9 => h9) rfl (by decide +kernel) rfl rfl rfl ⟨_, rfl⟩ dX7_soak_27 (fun f_22 H locs hP hD hS hT hE1 hrd_23 hup_24 => ?_)
  have hF := Fr.put (a := h0) (ci := 7) hF hE ((hE1 h0 (hT.at 0 rfl).1).2.symm.trans (hT.at 0 rfl).2) (by decide) hrd_23 hup_24
  have hE := hE.tr hE1
  refine lv_aload_n hx hb dX7_soak_30 rfl (lv_at hl 0 rfl) ?_
  refine T_get (ci := 7) (C := RX7) (T := TX7) (N := 8) (t := tI) hx hb hts inw_X7_soak_7 hown hK hP hT 0 rfl rfl 3 (by decide) (hts (.fieldLink RX7 42 "VatHouse$Vat" "minutes" "I") (by decide +kernel)) (fun _ h9 => h9) rfl dX7_soak_31 (fun v_27 hv_25 hr_26 => ?_)
  obtain ⟨z_28, rfl⟩ := hv_25
  refine lv_bipush (v := 60) hx hb dX7_soak_34 (by decide) ?_
  refine lv_icmp_le (tgt := 44) hx hb dX7_soak_36 (by decide) (fun c_29 => ?_) (fun c_29 => ?_)
  · refine lv_aload_n hx hb dX7_soak_44 rfl (lv_at hl 0 rfl) ?_
    refine lv_dup hx hb dX7_soak_45 rfl ?_
    refine T_get (ci := 7) (C := RX7) (T := TX7) (N := 8) (t := tI) hx hb hts inw_X7_soak_7 hown hK hP hT 0 rfl rfl 2 (by decide) (hts (.fieldLink RX7 45 "VatHouse$Vat" "food" "I") (by decide +kernel)) (fun _ h9 => h9) rfl dX7_soak_46 (fun v_32 hv_30 hr_31 => ?_)
    obtain ⟨z_33, rfl⟩ := hv_30
    refine lv_iload_n hx hb dX7_soak_49 rfl (lv_at hl 2 rfl) ?_
    refine lv_isub hx hb dX7_soak_50 ?_
    refine lv_topi (fun z_34 ez_34 => ?_)
    refine T_put (ci := 7) (v := .int z_34) (ty := .int) (t := tI) (C := RX7) (T := TX7) (N := 8) hx hb hts inw_X7_soak_7 tyX7 tyX7_ok nmX7 hown hK hP hD hS hT 0 rfl rfl 2 (by decide) (hts (.fieldLink RX7 45 "VatHouse$Vat" "food" "I") (by decide +kernel)) (fun _ h9 => h9) rfl (by decide +kernel) rfl rfl rfl ⟨_, rfl⟩ dX7_soak_51 (fun f_35 H locs hP hD hS hT hE1 hrd_36 hup_37 => ?_)
    have hF := Fr.put (a := h0) (ci := 7) hF hE ((hE1 h0 (hT.at 0 rfl).1).2.symm.trans (hT.at 0 rfl).2) (by decide) hrd_36 hup_37
    have hE := hE.tr hE1
    refine lv_aload_n hx hb dX7_soak_54 rfl (lv_at hl 0 rfl) ?_
    refine T_get (ci := 7) (C := RX7) (T := TX7) (N := 8) (t := tI) hx hb hts inw_X7_soak_7 hown hK hP hT 0 rfl rfl 2 (by decide) (hts (.fieldLink RX7 45 "VatHouse$Vat" "food" "I") (by decide +kernel)) (fun _ h9 => h9) rfl dX7_soak_55 (fun v_40 hv_38 hr_39 => ?_)
    obtain ⟨z_41, rfl⟩ := hv_38
    refine lv_iconst (v := 1) hx hb dX7_soak_58 (by decide) ?_
    refine lv_icmp_ge (tgt := 72) hx hb dX7_soak_59 (by decide) (fun c_42 => ?_) (fun c_42 => ?_)
    · exact K_v hx hb hr hlocks hP hD hK hS hT hE ⟨rfl, hF⟩ (Nat.le_of_ble_eq_true rfl) (Nat.le_of_ble_eq_true rfl) dX7_soak_72
    · refine lv_aload_n hx hb dX7_soak_62 rfl (lv_at hl 0 rfl) ?_
      refine lv_iconst (v := 0) hx hb dX7_soak_63 (by decide) ?_
      refine T_put (ci := 7) (v := .int 0) (ty := .int) (t := tI) (C := RX7) (T := TX7) (N := 8) hx hb hts inw_X7_soak_7 tyX7 tyX7_ok nmX7 hown hK hP hD hS hT 0 rfl rfl 2 (by decide) (hts (.fieldLink RX7 45 "VatHouse$Vat" "food" "I") (by decide +kernel)) (fun _ h9 => h9) rfl (by decide +kernel) rfl rfl rfl ⟨_, rfl⟩ dX7_soak_64 (fun f_43 H locs hP hD hS hT hE1 hrd_44 hup_45 => ?_)
      have hF := Fr.put (a := h0) (ci := 7) hF hE ((hE1 h0 (hT.at 0 rfl).1).2.symm.trans (hT.at 0 rfl).2) (by decide) hrd_44 hup_45
      have hE := hE.tr hE1
      refine lv_aload_n hx hb dX7_soak_67 rfl (lv_at hl 0 rfl) ?_
      refine lv_iconst (v := 2) hx hb dX7_soak_68 (by decide) ?_
      refine T_put (ci := 7) (v := .int 2) (ty := .int) (t := tI) (C := RX7) (T := TX7) (N := 8) hx hb hts inw_X7_soak_7 tyX7 tyX7_ok nmX7 hown hK hP hD hS hT 0 rfl rfl 4 (by decide) (hts (.fieldLink RX7 9 "VatHouse$Vat" "state" "I") (by decide +kernel)) (fun _ h9 => h9) rfl (by decide +kernel) rfl rfl rfl ⟨_, rfl⟩ dX7_soak_69 (fun f_46 H locs hP hD hS hT hE1 hrd_47 hup_48 => ?_)
      have hF := Fr.put (a := h0) (ci := 7) hF hE ((hE1 h0 (hT.at 0 rfl).1).2.symm.trans (hT.at 0 rfl).2) (by decide) hrd_47 hup_48
      have hE := hE.tr hE1
      exact K_v hx hb hr hlocks hP hD hK hS hT hE ⟨rfl, hF⟩ (Nat.le_of_ble_eq_true rfl) (Nat.le_of_ble_eq_true rfl) dX7_soak_72
  · refine lv_aload_n hx hb dX7_soak_39 rfl (lv_at hl 0 rfl) ?_
    refine lv_iconst (v := 1) hx hb dX7_soak_40 (by decide) ?_
    refine T_put (ci := 7) (v := .int 1) (ty := .int) (t := tI) (C := RX7) (T := TX7) (N := 8) hx hb hts inw_X7_soak_7 tyX7 tyX7_ok nmX7 hown hK hP hD hS hT 0 rfl rfl 4 (by decide) (hts (.fieldLink RX7 9 "VatHouse$Vat" "state" "I") (by decide +kernel)) (fun _ h9 => h9) rfl (by decide +kernel) rfl rfl rfl ⟨_, rfl⟩ dX7_soak_41 (fun f_49 H locs hP hD hS hT hE1 hrd_50 hup_51 => ?_)
    have hF := Fr.put (a := h0) (ci := 7) hF hE ((hE1 h0 (hT.at 0 rfl).1).2.symm.trans (hT.at 0 rfl).2) (by decide) hrd_50 hup_51
    have hE := hE.tr hE1
    refine lv_aload_n hx hb dX7_soak_44 rfl (lv_at hl 0 rfl) ?_
    refine lv_dup hx hb dX7_soak_45 rfl ?_
    refine T_get (ci := 7) (C := RX7) (T := TX7) (N := 8) (t := tI) hx hb hts inw_X7_soak_7 hown hK hP hT 0 rfl rfl 2 (by decide) (hts (.fieldLink RX7 45 "VatHouse$Vat" "food" "I") (by decide +kernel)) (fun _ h9 => h9) rfl dX7_soak_46 (fun v_54 hv_52 hr_53 => ?_)
    obtain ⟨z_55, rfl⟩ := hv_52
    refine lv_iload_n hx hb dX7_soak_49 rfl (lv_at hl 2 rfl) ?_
    refine lv_isub hx hb dX7_soak_50 ?_
    refine lv_topi (fun z_56 ez_56 => ?_)
    refine T_put (ci := 7) (v := .int z_56) (ty := .int) (t := tI) (C := RX7) (T := TX7) (N := 8) hx hb hts inw_X7_soak_7 tyX7 tyX7_ok nmX7 hown hK hP hD hS hT 0 rfl rfl 2 (by decide) (hts (.fieldLink RX7 45 "VatHouse$Vat" "food" "I") (by decide +kernel)) (fun _ h9 => h9) rfl (by decide +kernel) rfl rfl rfl ⟨_, rfl⟩ dX7_soak_51 (fun f_57 H locs hP hD hS hT hE1 hrd_58 hup_59 => ?_)
    have hF := Fr.put (a := h0) (ci := 7) hF hE ((hE1 h0 (hT.at 0 rfl).1).2.symm.trans (hT.at 0 rfl).2) (by decide) hrd_58 hup_59
    have hE := hE.tr hE1
    refine lv_aload_n hx hb dX7_soak_54 rfl (lv_at hl 0 rfl) ?_
    refine T_get (ci := 7) (C := RX7) (T := TX7) (N := 8) (t := tI) hx hb hts inw_X7_soak_7 hown hK hP hT 0 rfl rfl 2 (by decide) (hts (.fieldLink RX7 45 "VatHouse$Vat" "food" "I") (by decide +kernel)) (fun _ h9 => h9) rfl dX7_soak_55 (fun v_62 hv_60 hr_61 => ?_)
    obtain ⟨z_63, rfl⟩ := hv_60
    refine lv_iconst (v := 1) hx hb dX7_soak_58 (by decide) ?_
    refine lv_icmp_ge (tgt := 72) hx hb dX7_soak_59 (by decide) (fun c_64 => ?_) (fun c_64 => ?_)
    · exact K_v hx hb hr hlocks hP hD hK hS hT hE ⟨rfl, hF⟩ (Nat.le_of_ble_eq_true rfl) (Nat.le_of_ble_eq_true rfl) dX7_soak_72
    · refine lv_aload_n hx hb dX7_soak_62 rfl (lv_at hl 0 rfl) ?_
      refine lv_iconst (v := 0) hx hb dX7_soak_63 (by decide) ?_
      refine T_put (ci := 7) (v := .int 0) (ty := .int) (t := tI) (C := RX7) (T := TX7) (N := 8) hx hb hts inw_X7_soak_7 tyX7 tyX7_ok nmX7 hown hK hP hD hS hT 0 rfl rfl 2 (by decide) (hts (.fieldLink RX7 45 "VatHouse$Vat" "food" "I") (by decide +kernel)) (fun _ h9 => h9) rfl (by decide +kernel) rfl rfl rfl ⟨_, rfl⟩ dX7_soak_64 (fun f_65 H locs hP hD hS hT hE1 hrd_66 hup_67 => ?_)
      have hF := Fr.put (a := h0) (ci := 7) hF hE ((hE1 h0 (hT.at 0 rfl).1).2.symm.trans (hT.at 0 rfl).2) (by decide) hrd_66 hup_67
      have hE := hE.tr hE1
      refine lv_aload_n hx hb dX7_soak_67 rfl (lv_at hl 0 rfl) ?_
      refine lv_iconst (v := 2) hx hb dX7_soak_68 (by decide) ?_
      refine T_put (ci := 7) (v := .int 2) (ty := .int) (t := tI) (C := RX7) (T := TX7) (N := 8) hx hb hts inw_X7_soak_7 tyX7 tyX7_ok nmX7 hown hK hP hD hS hT 0 rfl rfl 4 (by decide) (hts (.fieldLink RX7 9 "VatHouse$Vat" "state" "I") (by decide +kernel)) (fun _ h9 => h9) rfl (by decide +kernel) rfl rfl rfl ⟨_, rfl⟩ dX7_soak_69 (fun f_68 H locs hP hD hS hT hE1 hrd_69 hup_70 => ?_)
      have hF := Fr.put (a := h0) (ci := 7) hF hE ((hE1 h0 (hT.at 0 rfl).1).2.symm.trans (hT.at 0 rfl).2) (by decide) hrd_69 hup_70
      have hE := hE.tr hE1
      exact K_v hx hb hr hlocks hP hD hK hS hT hE ⟨rfl, hF⟩ (Nat.le_of_ble_eq_true rfl) (Nat.le_of_ble_eq_true rfl) dX7_soak_72

abbrev rm_X7_takeFood : Room := { frames := 0, cells := 0, slots := 0, locals := 0 }
theorem inw_X7_takeFood_7 : ∀ w ∈ wsX70, w ∈ wsX7_takeFood := by decide +kernel
set_option maxHeartbeats 800000 in
set_option maxRecDepth 100000 in
theorem t_X7_takeFood (l : Launch) (dC : Nat → ClassId) (dI : Nat → Nat → Nat) (sa : Nat → Nat) (hlt : l.stackTraces = false) (g : Nat → Nat) (L : List Nat) (f : Nat → va_E) (h0 : Nat) (n : Int32) (sz : Nat) (hT : TP g L f [(h0, (0, 7, 0))]) : KC l dC dI sa g yX7_takeFood wsX7_takeFood rm_X7_takeFood [.ref h0, .int n] L f sz (fun r L' f' => (∃ z : Int32, r = some (.int z) ∧ (z = 0 ∨ z = 1)) ∧ Fr [(7, 0), (7, 1), (7, 2), (7, 3), (7, 4), (7, 5), (7, 6), (7, 7)] L f f') 0 0 := by
  refine CT.start (cc := cX7_takeFood) (maxL := 2) (ret := (some .boolean)) (by decide) rfl (Nat.le_of_ble_eq_true rfl) ?_
  intro p e s m below meth c ls hst hP hK hD hev hS hl
  obtain ⟨hx, hb, hr, hml, hts, hown, hlocks, hin⟩ := hst
  have hown : s.vm.findClass RX7 = some m.cls := hown
  have hin : meth.name = yX7_takeFood.name := hin
  have hA : ∀ q : Nat, s.heap.size ≤ q → va_A (va_pl L f) s.heap.size q := fun _ h => Or.inr h
  have hE : Ext L f L f := Ext.rf
  have hF : Fr [(7, 0), (7, 1), (7, 2), (7, 3), (7, 4), (7, 5), (7, 6), (7, 7)] L f f := Fr.rf
  have hl : lv_has ls 2 [(0, .ref h0), (1, .int n)] := hl
  refine lv_aload_n hx hb dX7_takeFood_0 rfl (lv_at hl 0 rfl) ?_
  refine lv_dup hx hb dX7_takeFood_1 rfl ?_
  refine T_get (ci := 7) (C := RX7) (T := TX7) (N := 8) (t := tI) hx hb hts inw_X7_takeFood_7 hown hK hP hT 0 rfl rfl 2 (by decide) (hts (.fieldLink RX7 45 "VatHouse$Vat" "food" "I") (by decide +kernel)) (fun _ h9 => h9) rfl dX7_takeFood_2 (fun v_3 hv_1 hr_2 => ?_)
  obtain ⟨z_4, rfl⟩ := hv_1
  refine lv_iload_n hx hb dX7_takeFood_5 rfl (lv_at hl 1 rfl) ?_
  refine lv_iadd hx hb dX7_takeFood_6 ?_
  refine lv_topi (fun z_5 ez_5 => ?_)
  refine T_put (ci := 7) (v := .int z_5) (ty := .int) (t := tI) (C := RX7) (T := TX7) (N := 8) hx hb hts inw_X7_takeFood_7 tyX7 tyX7_ok nmX7 hown hK hP hD hS hT 0 rfl rfl 2 (by decide) (hts (.fieldLink RX7 45 "VatHouse$Vat" "food" "I") (by decide +kernel)) (fun _ h9 => h9) rfl (by decide +kernel) rfl rfl rfl ⟨_, rfl⟩ dX7_takeFood_7 (fun f_6 H locs hP hD hS hT hE1 hrd_7 hup_8 => ?_)
  have hF := Fr.put (a := h0) (ci := 7) hF hE ((hE1 h0 (hT.at 0 rfl).1).2.symm.trans (hT.at 0 rfl).2) (by decide) hrd_7 hup_8
  have hE := hE.tr hE1
  refine lv_aload_n hx hb dX7_takeFood_10 rfl (lv_at hl 0 rfl) ?_
  refine T_get (ci := 7) (C := RX7) (T := TX7) (N := 8) (t := tI) hx hb hts inw_X7_takeFood_7 hown hK hP hT 0 rfl rfl 2 (by decide) (hts (.fieldLink RX7 45 "VatHouse$Vat" "food" "I") (by decide +kernel)) (fun _ h9 => h9) rfl dX7_takeFood_11 (fun v_11 hv_9 hr_10 => ?_)
  obtain ⟨z_12, rfl⟩ := hv_9
  refine lv_sipush (v := 1000) hx hb dX7_takeFood_14 (by decide) ?_
  refine lv_icmp_gt (tgt := 22) hx hb dX7_takeFood_17 (by decide) (fun c_13 => ?_) (fun c_13 => ?_)
  · refine lv_aload_n hx hb dX7_takeFood_22 rfl (lv_at hl 0 rfl) ?_
    refine lv_sipush (v := 1000) hx hb dX7_takeFood_23 (by decide) ?_
    refine T_put (ci := 7) (v := .int 1000) (ty := .int) (t := tI) (C := RX7) (T := TX7) (N := 8) hx hb hts inw_X7_takeFood_7 tyX7 tyX7_ok nmX7 hown hK hP hD hS hT 0 rfl rfl 2 (by decide) (hts (.fieldLink RX7 45 "VatHouse$Vat" "food" "I") (by decide +kernel)) (fun _ h9 => h9) rfl (by decide +kernel) rfl rfl rfl ⟨_, rfl⟩ dX7_takeFood_26 (fun f_14 H locs hP hD hS hT hE1 hrd_15 hup_16 => ?_)
    have hF := Fr.put (a := h0) (ci := 7) hF hE ((hE1 h0 (hT.at 0 rfl).1).2.symm.trans (hT.at 0 rfl).2) (by decide) hrd_15 hup_16
    have hE := hE.tr hE1
    refine lv_aload_n hx hb dX7_takeFood_29 rfl (lv_at hl 0 rfl) ?_
    refine lv_iconst (v := 2) hx hb dX7_takeFood_30 (by decide) ?_
    refine T_put (ci := 7) (v := .int 2) (ty := .int) (t := tI) (C := RX7) (T := TX7) (N := 8) hx hb hts inw_X7_takeFood_7 tyX7 tyX7_ok nmX7 hown hK hP hD hS hT 0 rfl rfl 4 (by decide) (hts (.fieldLink RX7 9 "VatHouse$Vat" "state" "I") (by decide +kernel)) (fun _ h9 => h9) rfl (by decide +kernel) rfl rfl rfl ⟨_, rfl⟩ dX7_takeFood_31 (fun f_17 H locs hP hD hS hT hE1 hrd_18 hup_19 => ?_)
    have hF := Fr.put (a := h0) (ci := 7) hF hE ((hE1 h0 (hT.at 0 rfl).1).2.symm.trans (hT.at 0 rfl).2) (by decide) hrd_18 hup_19
    have hE := hE.tr hE1
    refine lv_iconst (v := 0) hx hb dX7_takeFood_34 (by decide) ?_
    exact K_z hx hb hr rfl hlocks hP hD hK hS hT hE ⟨⟨_, rfl, Or.inl rfl⟩, hF⟩ (Nat.le_of_ble_eq_true rfl) (Nat.le_of_ble_eq_true rfl) dX7_takeFood_35
  · refine lv_iconst (v := 1) hx hb dX7_takeFood_20 (by decide) ?_
    exact K_z hx hb hr rfl hlocks hP hD hK hS hT hE ⟨⟨_, rfl, Or.inr rfl⟩, hF⟩ (Nat.le_of_ble_eq_true rfl) (Nat.le_of_ble_eq_true rfl) dX7_takeFood_21

abbrev rm_X7_takeLime : Room := { frames := 0, cells := 0, slots := 0, locals := 0 }
theorem inw_X7_takeLime_7 : ∀ w ∈ wsX70, w ∈ wsX7_takeLime := by decide +kernel
set_option maxHeartbeats 800000 in
set_option maxRecDepth 100000 in
theorem t_X7_takeLime (l : Launch) (dC : Nat → ClassId) (dI : Nat → Nat → Nat) (sa : Nat → Nat) (hlt : l.stackTraces = false) (g : Nat → Nat) (L : List Nat) (f : Nat → va_E) (h0 : Nat) (sz : Nat) (hT : TP g L f [(h0, (0, 7, 0))]) : KC l dC dI sa g yX7_takeLime wsX7_takeLime rm_X7_takeLime [.ref h0] L f sz (fun r L' f' => (r = none) ∧ Fr [(7, 0), (7, 1), (7, 2), (7, 3), (7, 4), (7, 5), (7, 6), (7, 7)] L f f') 0 0 := by
  refine CT.start (cc := cX7_takeLime) (maxL := 1) (ret := none) (by decide) rfl (Nat.le_of_ble_eq_true rfl) ?_
  intro p e s m below meth c ls hst hP hK hD hev hS hl
  obtain ⟨hx, hb, hr, hml, hts, hown, hlocks, hin⟩ := hst
  have hown : s.vm.findClass RX7 = some m.cls := hown
  have hin : meth.name = yX7_takeLime.name := hin
  have hA : ∀ q : Nat, s.heap.size ≤ q → va_A (va_pl L f) s.heap.size q := fun _ h => Or.inr h
  have hE : Ext L f L f := Ext.rf
  have hF : Fr [(7, 0), (7, 1), (7, 2), (7, 3), (7, 4), (7, 5), (7, 6), (7, 7)] L f f := Fr.rf
  have hl : lv_has ls 1 [(0, .ref h0)] := hl
  refine lv_aload_n hx hb dX7_takeLime_0 rfl (lv_at hl 0 rfl) ?_
  refine T_get (ci := 7) (C := RX7) (T := TX7) (N := 8) (t := tI) hx hb hts inw_X7_takeLime_7 hown hK hP hT 0 rfl rfl 4 (by decide) (hts (.fieldLink RX7 9 "VatHouse$Vat" "state" "I") (by decide +kernel)) (fun _ h9 => h9) rfl dX7_takeLime_1 (fun v_3 hv_1 hr_2 => ?_)
  obtain ⟨z_4, rfl⟩ := hv_1
  refine lv_iconst (v := 2) hx hb dX7_takeLime_4 (by decide) ?_
  refine lv_icmp_ne (tgt := 25) hx hb dX7_takeLime_5 (by decide) (fun c_5 => ?_) (fun c_5 => ?_)
  · refine lv_aload_n hx hb dX7_takeLime_25 rfl (lv_at hl 0 rfl) ?_
    refine lv_aload_n hx hb dX7_takeLime_26 rfl (lv_at hl 0 rfl) ?_
    refine T_get (ci := 7) (C := RX7) (T := TX7) (N := 8) (t := tI) hx hb hts inw_X7_takeLime_7 hown hK hP hT 0 rfl rfl 2 (by decide) (hts (.fieldLink RX7 45 "VatHouse$Vat" "food" "I") (by decide +kernel)) (fun _ h9 => h9) rfl dX7_takeLime_27 (fun v_8 hv_6 hr_7 => ?_)
    obtain ⟨z_9, rfl⟩ := hv_6
    refine lv_iconst (v := 2) hx hb dX7_takeLime_30 (by decide) ?_
    refine lv_idiv hx hb dX7_takeLime_31 (by decide) ?_
    refine lv_topi (fun z_10 ez_10 => ?_)
    refine T_put (ci := 7) (v := .int z_10) (ty := .int) (t := tI) (C := RX7) (T := TX7) (N := 8) hx hb hts inw_X7_takeLime_7 tyX7 tyX7_ok nmX7 hown hK hP hD hS hT 0 rfl rfl 2 (by decide) (hts (.fieldLink RX7 45 "VatHouse$Vat" "food" "I") (by decide +kernel)) (fun _ h9 => h9) rfl (by decide +kernel) rfl rfl rfl ⟨_, rfl⟩ dX7_takeLime_32 (fun f_11 H locs hP hD hS hT hE1 hrd_12 hup_13 => ?_)
    have hF := Fr.put (a := h0) (ci := 7) hF hE ((hE1 h0 (hT.at 0 rfl).1).2.symm.trans (hT.at 0 rfl).2) (by decide) hrd_12 hup_13
    have hE := hE.tr hE1
    exact K_v hx hb hr hlocks hP hD hK hS hT hE ⟨rfl, hF⟩ (Nat.le_of_ble_eq_true rfl) (Nat.le_of_ble_eq_true rfl) dX7_takeLime_35
  · refine lv_aload_n hx hb dX7_takeLime_8 rfl (lv_at hl 0 rfl) ?_
    refine lv_iconst (v := 0) hx hb dX7_takeLime_9 (by decide) ?_
    refine T_put (ci := 7) (v := .int 0) (ty := .int) (t := tI) (C := RX7) (T := TX7) (N := 8) hx hb hts inw_X7_takeLime_7 tyX7 tyX7_ok nmX7 hown hK hP hD hS hT 0 rfl rfl 3 (by decide) (hts (.fieldLink RX7 42 "VatHouse$Vat" "minutes" "I") (by decide +kernel)) (fun _ h9 => h9) rfl (by decide +kernel) rfl rfl rfl ⟨_, rfl⟩ dX7_takeLime_10 (fun f_14 H locs hP hD hS hT hE1 hrd_15 hup_16 => ?_)
    have hF := Fr.put (a := h0) (ci := 7) hF hE ((hE1 h0 (hT.at 0 rfl).1).2.symm.trans (hT.at 0 rfl).2) (by decide) hrd_15 hup_16
    have hE := hE.tr hE1
    refine lv_aload_n hx hb dX7_takeLime_13 rfl (lv_at hl 0 rfl) ?_
    refine T_get (ci := 7) (C := RX7) (T := TX7) (N := 8) (t := tI) hx hb hts inw_X7_takeLime_7 hown hK hP hT 0 rfl rfl 2 (by decide) (hts (.fieldLink RX7 45 "VatHouse$Vat" "food" "I") (by decide +kernel)) (fun _ h9 => h9) rfl dX7_takeLime_14 (fun v_19 hv_17 hr_18 => ?_)
    obtain ⟨z_20, rfl⟩ := hv_17
    refine lv_if_le (tgt := 25) hx hb dX7_takeLime_17 (by decide) (fun c_21 => ?_) (fun c_21 => ?_)
    · refine lv_aload_n hx hb dX7_takeLime_25 rfl (lv_at hl 0 rfl) ?_
      refine lv_aload_n hx hb dX7_takeLime_26 rfl (lv_at hl 0 rfl) ?_
      refine T_get (ci := 7) (C := RX7) (T := TX7) (N := 8) (t := tI) hx hb hts inw_X7_takeLime_7 hown hK hP hT 0 rfl rfl 2 (by decide) (hts (.fieldLink RX7 45 "VatHouse$Vat" "food" "I") (by decide +kernel)) (fun _ h9 => h9) rfl dX7_takeLime_27 (fun v_24 hv_22 hr_23 => ?_)
      obtain rfl : v_24 = .int z_20 := hr_23.symm.trans hr_18
      refine lv_iconst (v := 2) hx hb dX7_takeLime_30 (by decide) ?_
      refine lv_idiv hx hb dX7_takeLime_31 (by decide) ?_
      refine lv_topi (fun z_25 ez_25 => ?_)
      refine T_put (ci := 7) (v := .int z_25) (ty := .int) (t := tI) (C := RX7) (T := TX7) (N := 8) hx hb hts inw_X7_takeLime_7 tyX7 tyX7_ok nmX7 hown hK hP hD hS hT 0 rfl rfl 2 (by decide) (hts (.fieldLink RX7 45 "VatHouse$Vat" "food" "I") (by decide +kernel)) (fun _ h9 => h9) rfl (by decide +kernel) rfl rfl rfl ⟨_, rfl⟩ dX7_takeLime_32 (fun f_26 H locs hP hD hS hT hE1 hrd_27 hup_28 => ?_)
      have hF := Fr.put (a := h0) (ci := 7) hF hE ((hE1 h0 (hT.at 0 rfl).1).2.symm.trans (hT.at 0 rfl).2) (by decide) hrd_27 hup_28
      have hE := hE.tr hE1
      exact K_v hx hb hr hlocks hP hD hK hS hT hE ⟨rfl, hF⟩ (Nat.le_of_ble_eq_true rfl) (Nat.le_of_ble_eq_true rfl) dX7_takeLime_35
    · refine lv_aload_n hx hb dX7_takeLime_20 rfl (lv_at hl 0 rfl) ?_
      refine lv_iconst (v := 1) hx hb dX7_takeLime_21 (by decide) ?_
      refine T_put (ci := 7) (v := .int 1) (ty := .int) (t := tI) (C := RX7) (T := TX7) (N := 8) hx hb hts inw_X7_takeLime_7 tyX7 tyX7_ok nmX7 hown hK hP hD hS hT 0 rfl rfl 4 (by decide) (hts (.fieldLink RX7 9 "VatHouse$Vat" "state" "I") (by decide +kernel)) (fun _ h9 => h9) rfl (by decide +kernel) rfl rfl rfl ⟨_, rfl⟩ dX7_takeLime_22 (fun f_29 H locs hP hD hS hT hE1 hrd_30 hup_31 => ?_)
      have hF := Fr.put (a := h0) (ci := 7) hF hE ((hE1 h0 (hT.at 0 rfl).1).2.symm.trans (hT.at 0 rfl).2) (by decide) hrd_30 hup_31
      have hE := hE.tr hE1
      refine lv_aload_n hx hb dX7_takeLime_25 rfl (lv_at hl 0 rfl) ?_
      refine lv_aload_n hx hb dX7_takeLime_26 rfl (lv_at hl 0 rfl) ?_
      refine T_get (ci := 7) (C := RX7) (T := TX7) (N := 8) (t := tI) hx hb hts inw_X7_takeLime_7 hown hK hP hT 0 rfl rfl 2 (by decide) (hts (.fieldLink RX7 45 "VatHouse$Vat" "food" "I") (by decide +kernel)) (fun _ h9 => h9) rfl dX7_takeLime_27 (fun v_34 hv_32 hr_33 => ?_)
      obtain ⟨z_35, rfl⟩ := hv_32
      refine lv_iconst (v := 2) hx hb dX7_takeLime_30 (by decide) ?_
      refine lv_idiv hx hb dX7_takeLime_31 (by decide) ?_
      refine lv_topi (fun z_36 ez_36 => ?_)
      refine T_put (ci := 7) (v := .int z_36) (ty := .int) (t := tI) (C := RX7) (T := TX7) (N := 8) hx hb hts inw_X7_takeLime_7 tyX7 tyX7_ok nmX7 hown hK hP hD hS hT 0 rfl rfl 2 (by decide) (hts (.fieldLink RX7 45 "VatHouse$Vat" "food" "I") (by decide +kernel)) (fun _ h9 => h9) rfl (by decide +kernel) rfl rfl rfl ⟨_, rfl⟩ dX7_takeLime_32 (fun f_37 H locs hP hD hS hT hE1 hrd_38 hup_39 => ?_)
      have hF := Fr.put (a := h0) (ci := 7) hF hE ((hE1 h0 (hT.at 0 rfl).1).2.symm.trans (hT.at 0 rfl).2) (by decide) hrd_38 hup_39
      have hE := hE.tr hE1
      exact K_v hx hb hr hlocks hP hD hK hS hT hE ⟨rfl, hF⟩ (Nat.le_of_ble_eq_true rfl) (Nat.le_of_ble_eq_true rfl) dX7_takeLime_35

abbrev rm_X7_liveThrough : Room := { frames := 1, cells := 0, slots := 0, locals := 14 }
theorem inw_X7_liveThrough_7 : ∀ w ∈ wsX70, w ∈ wsX7_liveThrough := by decide +kernel
set_option maxHeartbeats 800000 in
set_option maxRecDepth 100000 in
theorem t_X7_liveThrough (l : Launch) (dC : Nat → ClassId) (dI : Nat → Nat → Nat) (sa : Nat → Nat) (hlt : l.stackTraces = false) (g : Nat → Nat) (L : List Nat) (f : Nat → va_E) (h0 : Nat) (n : Int32) (sz : Nat) (hT : TP g L f [(h0, (0, 7, 0))]) : KC l dC dI sa g yX7_liveThrough wsX7_liveThrough rm_X7_liveThrough [.ref h0, .int n] L f sz (fun r L' f' => (r = none) ∧ Fr [(7, 0), (7, 1), (7, 2), (7, 3), (7, 4), (7, 5), (7, 6), (7, 7)] L f f') 0 0 := by
  refine CT.start (cc := cX7_liveThrough) (maxL := 2) (ret := none) (by decide) rfl (Nat.le_of_ble_eq_true rfl) ?_
  intro p e s m below meth c ls hst hP hK hD hev hS hl
  obtain ⟨hx, hb, hr, hml, hts, hown, hlocks, hin⟩ := hst
  have hown : s.vm.findClass RX7 = some m.cls := hown
  have hin : meth.name = yX7_liveThrough.name := hin
  have hA : ∀ q : Nat, s.heap.size ≤ q → va_A (va_pl L f) s.heap.size q := fun _ h => Or.inr h
  have hE : Ext L f L f := Ext.rf
  have hF : Fr [(7, 0), (7, 1), (7, 2), (7, 3), (7, 4), (7, 5), (7, 6), (7, 7)] L f f := Fr.rf
  have hl : lv_has ls 2 [(0, .ref h0), (1, .int n)] := hl
  refine lv_aload_n hx hb dX7_liveThrough_0 rfl (lv_at hl 0 rfl) ?_
  refine lv_iconst (v := 0) hx hb dX7_liveThrough_1 (by decide) ?_
  refine lv_aload_n hx hb dX7_liveThrough_2 rfl (lv_at hl 0 rfl) ?_
  refine T_get (ci := 7) (C := RX7) (T := TX7) (N := 8) (t := tI) hx hb hts inw_X7_liveThrough_7 hown hK hP hT 0 rfl rfl 2 (by decide) (hts (.fieldLink RX7 45 "VatHouse$Vat" "food" "I") (by decide +kernel)) (fun _ h9 => h9) rfl dX7_liveThrough_3 (fun v_3 hv_1 hr_2 => ?_)
  obtain ⟨z_4, rfl⟩ := hv_1
  refine lv_iconst (v := 5) hx hb dX7_liveThrough_6 (by decide) ?_
  refine lv_isub hx hb dX7_liveThrough_7 ?_
  refine lv_topi (fun z_5 ez_5 => ?_)
  refine va_mmax hx hb (hml.trans hl.1.symm) hown (hts (.methodLink RX7 48 Lib.Math.max.name) (by decide +kernel)) (hts (.static Lib.Math.max.name) (by decide +kernel)) (hts (.initialized "java/lang/Math") (by decide +kernel)) (hts (.code Lib.Math.max.name Lib.Math.max.code 2 (some .int)) (by decide +kernel)) (Nat.le_of_ble_eq_true rfl) (Nat.le_of_ble_eq_true rfl) (Nat.le_of_ble_eq_true rfl) (Nat.le_of_ble_eq_true rfl) dX7_liveThrough_8 ?_
  refine lv_topi (fun z_6 ez_6 => ?_)
  refine T_put (ci := 7) (v := .int z_6) (ty := .int) (t := tI) (C := RX7) (T := TX7) (N := 8) hx hb hts inw_X7_liveThrough_7 tyX7 tyX7_ok nmX7 hown hK hP hD hS hT 0 rfl rfl 2 (by decide) (hts (.fieldLink RX7 45 "VatHouse$Vat" "food" "I") (by decide +kernel)) (fun _ h9 => h9) rfl (by decide +kernel) rfl rfl rfl ⟨_, rfl⟩ dX7_liveThrough_11 (fun f_7 H locs hP hD hS hT hE1 hrd_8 hup_9 => ?_)
  have hF := Fr.put (a := h0) (ci := 7) hF hE ((hE1 h0 (hT.at 0 rfl).1).2.symm.trans (hT.at 0 rfl).2) (by decide) hrd_8 hup_9
  have hE := hE.tr hE1
  refine lv_aload_n hx hb dX7_liveThrough_14 rfl (lv_at hl 0 rfl) ?_
  refine T_get (ci := 7) (C := RX7) (T := TX7) (N := 8) (t := tI) hx hb hts inw_X7_liveThrough_7 hown hK hP hT 0 rfl rfl 2 (by decide) (hts (.fieldLink RX7 45 "VatHouse$Vat" "food" "I") (by decide +kernel)) (fun _ h9 => h9) rfl dX7_liveThrough_15 (fun v_12 hv_10 hr_11 => ?_)
  obtain ⟨z_13, rfl⟩ := hv_10
  refine lv_if_ne (tgt := 29) hx hb dX7_liveThrough_18 (by decide) (fun c_14 => ?_) (fun c_14 => ?_)
  · refine lv_aload_n hx hb dX7_liveThrough_29 rfl (lv_at hl 0 rfl) ?_
    refine T_get (ci := 7) (C := RX7) (T := TX7) (N := 8) (t := tI) hx hb hts inw_X7_liveThrough_7 hown hK hP hT 0 rfl rfl 4 (by decide) (hts (.fieldLink RX7 9 "VatHouse$Vat" "state" "I") (by decide +kernel)) (fun _ h9 => h9) rfl dX7_liveThrough_30 (fun v_17 hv_15 hr_16 => ?_)
    obtain ⟨z_18, rfl⟩ := hv_15
    refine lv_iconst (v := 2) hx hb dX7_liveThrough_33 (by decide) ?_
    refine lv_icmp_eq (tgt := 57) hx hb dX7_liveThrough_34 (by decide) (fun c_19 => ?_) (fun c_19 => ?_)
    · exact K_v hx hb hr hlocks hP hD hK hS hT hE ⟨rfl, hF⟩ (Nat.le_of_ble_eq_true rfl) (Nat.le_of_ble_eq_true rfl) dX7_liveThrough_57
    · refine lv_aload_n hx hb dX7_liveThrough_37 rfl (lv_at hl 0 rfl) ?_
      refine T_get (ci := 7) (C := RX7) (T := TX7) (N := 8) (t := tI) hx hb hts inw_X7_liveThrough_7 hown hK hP hT 0 rfl rfl 7 (by decide) (hts (.fieldLink RX7 15 "VatHouse$Vat" "lastDipped" "I") (by decide +kernel)) (fun _ h9 => h9) rfl dX7_liveThrough_38 (fun v_22 hv_20 hr_21 => ?_)
      obtain ⟨z_23, rfl⟩ := hv_20
      refine lv_iload_n hx hb dX7_liveThrough_41 rfl (lv_at hl 1 rfl) ?_
      refine lv_iconst (v := 1) hx hb dX7_liveThrough_42 (by decide) ?_
      refine lv_isub hx hb dX7_liveThrough_43 ?_
      refine lv_topi (fun z_24 ez_24 => ?_)
      refine lv_icmp_ge (tgt := 57) hx hb dX7_liveThrough_44 (by decide) (fun c_25 => ?_) (fun c_25 => ?_)
      · exact K_v hx hb hr hlocks hP hD hK hS hT hE ⟨rfl, hF⟩ (Nat.le_of_ble_eq_true rfl) (Nat.le_of_ble_eq_true rfl) dX7_liveThrough_57
      · refine lv_aload_n hx hb dX7_liveThrough_47 rfl (lv_at hl 0 rfl) ?_
        refine lv_iconst (v := 0) hx hb dX7_liveThrough_48 (by decide) ?_
        refine T_put (ci := 7) (v := .int 0) (ty := .int) (t := tI) (C := RX7) (T := TX7) (N := 8) hx hb hts inw_X7_liveThrough_7 tyX7 tyX7_ok nmX7 hown hK hP hD hS hT 0 rfl rfl 4 (by decide) (hts (.fieldLink RX7 9 "VatHouse$Vat" "state" "I") (by decide +kernel)) (fun _ h9 => h9) rfl (by decide +kernel) rfl rfl rfl ⟨_, rfl⟩ dX7_liveThrough_49 (fun f_26 H locs hP hD hS hT hE1 hrd_27 hup_28 => ?_)
        have hF := Fr.put (a := h0) (ci := 7) hF hE ((hE1 h0 (hT.at 0 rfl).1).2.symm.trans (hT.at 0 rfl).2) (by decide) hrd_27 hup_28
        have hE := hE.tr hE1
        refine lv_aload_n hx hb dX7_liveThrough_52 rfl (lv_at hl 0 rfl) ?_
        refine lv_iconst (v := 0) hx hb dX7_liveThrough_53 (by decide) ?_
        refine T_put (ci := 7) (v := .int 0) (ty := .int) (t := tI) (C := RX7) (T := TX7) (N := 8) hx hb hts inw_X7_liveThrough_7 tyX7 tyX7_ok nmX7 hown hK hP hD hS hT 0 rfl rfl 3 (by decide) (hts (.fieldLink RX7 42 "VatHouse$Vat" "minutes" "I") (by decide +kernel)) (fun _ h9 => h9) rfl (by decide +kernel) rfl rfl rfl ⟨_, rfl⟩ dX7_liveThrough_54 (fun f_29 H locs hP hD hS hT hE1 hrd_30 hup_31 => ?_)
        have hF := Fr.put (a := h0) (ci := 7) hF hE ((hE1 h0 (hT.at 0 rfl).1).2.symm.trans (hT.at 0 rfl).2) (by decide) hrd_30 hup_31
        have hE := hE.tr hE1
        exact K_v hx hb hr hlocks hP hD hK hS hT hE ⟨rfl, hF⟩ (Nat.le_of_ble_eq_true rfl) (Nat.le_of_ble_eq_true rfl) dX7_liveThrough_57
  · refine lv_aload_n hx hb dX7_liveThrough_21 rfl (lv_at hl 0 rfl) ?_
    refine lv_iconst (v := 2) hx hb dX7_liveThrough_22 (by decide) ?_
    refine T_put (ci := 7) (v := .int 2) (ty := .int) (t := tI) (C := RX7) (T := TX7) (N := 8) hx hb hts inw_X7_liveThrough_7 tyX7 tyX7_ok nmX7 hown hK hP hD hS hT 0 rfl rfl 4 (by decide) (hts (.fieldLink RX7 9 "VatHouse$Vat" "state" "I") (by decide +kernel)) (fun _ h9 => h9) rfl (by decide +kernel) rfl rfl rfl ⟨_, rfl⟩ dX7_liveThrough_23 (fun f_32 H locs hP hD hS hT hE1 hrd_33 hup_34 => ?_)
    have hF := Fr.put (a := h0) (ci := 7) hF hE ((hE1 h0 (hT.at 0 rfl).1).2.symm.trans (hT.at 0 rfl).2) (by decide) hrd_33 hup_34
    have hE := hE.tr hE1
    refine lv_goto (tgt := 57) hx hb dX7_liveThrough_26 (by decide) ?_
    exact K_v hx hb hr hlocks hP hD hK hS hT hE ⟨rfl, hF⟩ (Nat.le_of_ble_eq_true rfl) (Nat.le_of_ble_eq_true rfl) dX7_liveThrough_57

abbrev rm_X7_copyFrom : Room := { frames := 0, cells := 0, slots := 0, locals := 0 }
theorem inw_X7_copyFrom_7 : ∀ w ∈ wsX70, w ∈ wsX7_copyFrom := by decide +kernel
set_option maxHeartbeats 800000 in
set_option maxRecDepth 100000 in
theorem t_X7_copyFrom (l : Launch) (dC : Nat → ClassId) (dI : Nat → Nat → Nat) (sa : Nat → Nat) (hlt : l.stackTraces = false) (g : Nat → Nat) (L : List Nat) (f : Nat → va_E) (h0 : Nat) (o : Nat) (sz : Nat) (hT : TP g L f [(h0, (0, 7, 0)), (o, (0, 7, 0))]) : KC l dC dI sa g yX7_copyFrom wsX7_copyFrom rm_X7_copyFrom [.ref h0, .ref o] L f sz (fun r L' f' => (r = none) ∧ Fr [(7, 0), (7, 1), (7, 2), (7, 3), (7, 4), (7, 5), (7, 6), (7, 7)] L f f') 0 0 := by
  refine CT.start (cc := cX7_copyFrom) (maxL := 2) (ret := none) (by decide) rfl (Nat.le_of_ble_eq_true rfl) ?_
  intro p e s m below meth c ls hst hP hK hD hev hS hl
  obtain ⟨hx, hb, hr, hml, hts, hown, hlocks, hin⟩ := hst
  have hown : s.vm.findClass RX7 = some m.cls := hown
  have hin : meth.name = yX7_copyFrom.name := hin
  have hA : ∀ q : Nat, s.heap.size ≤ q → va_A (va_pl L f) s.heap.size q := fun _ h => Or.inr h
  have hE : Ext L f L f := Ext.rf
  have hF : Fr [(7, 0), (7, 1), (7, 2), (7, 3), (7, 4), (7, 5), (7, 6), (7, 7)] L f f := Fr.rf
  have hl : lv_has ls 2 [(0, .ref h0), (1, .ref o)] := hl
  refine lv_aload_n hx hb dX7_copyFrom_0 rfl (lv_at hl 0 rfl) ?_
  refine lv_aload_n hx hb dX7_copyFrom_1 rfl (lv_at hl 1 rfl) ?_
  refine T_get (ci := 7) (C := RX7) (T := TX7) (N := 8) (t := tI) hx hb hts inw_X7_copyFrom_7 hown hK hP hT 1 rfl rfl 1 (by decide) (hts (.fieldLink RX7 26 "VatHouse$Vat" "grains" "I") (by decide +kernel)) (fun _ h9 => h9) rfl dX7_copyFrom_2 (fun v_3 hv_1 hr_2 => ?_)
  obtain ⟨z_4, rfl⟩ := hv_1
  refine T_put (ci := 7) (v := .int z_4) (ty := .int) (t := tI) (C := RX7) (T := TX7) (N := 8) hx hb hts inw_X7_copyFrom_7 tyX7 tyX7_ok nmX7 hown hK hP hD hS hT 0 rfl rfl 1 (by decide) (hts (.fieldLink RX7 26 "VatHouse$Vat" "grains" "I") (by decide +kernel)) (fun _ h9 => h9) rfl (by decide +kernel) rfl rfl rfl ⟨_, rfl⟩ dX7_copyFrom_5 (fun f_5 H locs hP hD hS hT hE1 hrd_6 hup_7 => ?_)
  have hF := Fr.put (a := h0) (ci := 7) hF hE ((hE1 h0 (hT.at 0 rfl).1).2.symm.trans (hT.at 0 rfl).2) (by decide) hrd_6 hup_7
  have hE := hE.tr hE1
  refine lv_aload_n hx hb dX7_copyFrom_8 rfl (lv_at hl 0 rfl) ?_
  refine lv_aload_n hx hb dX7_copyFrom_9 rfl (lv_at hl 1 rfl) ?_
  refine T_get (ci := 7) (C := RX7) (T := TX7) (N := 8) (t := tI) hx hb hts inw_X7_copyFrom_7 hown hK hP hT 1 rfl rfl 2 (by decide) (hts (.fieldLink RX7 45 "VatHouse$Vat" "food" "I") (by decide +kernel)) (fun _ h9 => h9) rfl dX7_copyFrom_10 (fun v_10 hv_8 hr_9 => ?_)
  obtain ⟨z_11, rfl⟩ := hv_8
  refine T_put (ci := 7) (v := .int z_11) (ty := .int) (t := tI) (C := RX7) (T := TX7) (N := 8) hx hb hts inw_X7_copyFrom_7 tyX7 tyX7_ok nmX7 hown hK hP hD hS hT 0 rfl rfl 2 (by decide) (hts (.fieldLink RX7 45 "VatHouse$Vat" "food" "I") (by decide +kernel)) (fun _ h9 => h9) rfl (by decide +kernel) rfl rfl rfl ⟨_, rfl⟩ dX7_copyFrom_13 (fun f_12 H locs hP hD hS hT hE1 hrd_13 hup_14 => ?_)
  have hF := Fr.put (a := h0) (ci := 7) hF hE ((hE1 h0 (hT.at 0 rfl).1).2.symm.trans (hT.at 0 rfl).2) (by decide) hrd_13 hup_14
  have hE := hE.tr hE1
  refine lv_aload_n hx hb dX7_copyFrom_16 rfl (lv_at hl 0 rfl) ?_
  refine lv_aload_n hx hb dX7_copyFrom_17 rfl (lv_at hl 1 rfl) ?_
  refine T_get (ci := 7) (C := RX7) (T := TX7) (N := 8) (t := tI) hx hb hts inw_X7_copyFrom_7 hown hK hP hT 1 rfl rfl 3 (by decide) (hts (.fieldLink RX7 42 "VatHouse$Vat" "minutes" "I") (by decide +kernel)) (fun _ h9 => h9) rfl dX7_copyFrom_18 (fun v_17 hv_15 hr_16 => ?_)
  obtain ⟨z_18, rfl⟩ := hv_15
  refine T_put (ci := 7) (v := .int z_18) (ty := .int) (t := tI) (C := RX7) (T := TX7) (N := 8) hx hb hts inw_X7_copyFrom_7 tyX7 tyX7_ok nmX7 hown hK hP hD hS hT 0 rfl rfl 3 (by decide) (hts (.fieldLink RX7 42 "VatHouse$Vat" "minutes" "I") (by decide +kernel)) (fun _ h9 => h9) rfl (by decide +kernel) rfl rfl rfl ⟨_, rfl⟩ dX7_copyFrom_21 (fun f_19 H locs hP hD hS hT hE1 hrd_20 hup_21 => ?_)
  have hF := Fr.put (a := h0) (ci := 7) hF hE ((hE1 h0 (hT.at 0 rfl).1).2.symm.trans (hT.at 0 rfl).2) (by decide) hrd_20 hup_21
  have hE := hE.tr hE1
  refine lv_aload_n hx hb dX7_copyFrom_24 rfl (lv_at hl 0 rfl) ?_
  refine lv_aload_n hx hb dX7_copyFrom_25 rfl (lv_at hl 1 rfl) ?_
  refine T_get (ci := 7) (C := RX7) (T := TX7) (N := 8) (t := tI) hx hb hts inw_X7_copyFrom_7 hown hK hP hT 1 rfl rfl 4 (by decide) (hts (.fieldLink RX7 9 "VatHouse$Vat" "state" "I") (by decide +kernel)) (fun _ h9 => h9) rfl dX7_copyFrom_26 (fun v_24 hv_22 hr_23 => ?_)
  obtain ⟨z_25, rfl⟩ := hv_22
  refine T_put (ci := 7) (v := .int z_25) (ty := .int) (t := tI) (C := RX7) (T := TX7) (N := 8) hx hb hts inw_X7_copyFrom_7 tyX7 tyX7_ok nmX7 hown hK hP hD hS hT 0 rfl rfl 4 (by decide) (hts (.fieldLink RX7 9 "VatHouse$Vat" "state" "I") (by decide +kernel)) (fun _ h9 => h9) rfl (by decide +kernel) rfl rfl rfl ⟨_, rfl⟩ dX7_copyFrom_29 (fun f_26 H locs hP hD hS hT hE1 hrd_27 hup_28 => ?_)
  have hF := Fr.put (a := h0) (ci := 7) hF hE ((hE1 h0 (hT.at 0 rfl).1).2.symm.trans (hT.at 0 rfl).2) (by decide) hrd_27 hup_28
  have hE := hE.tr hE1
  exact K_v hx hb hr hlocks hP hD hK hS hT hE ⟨rfl, hF⟩ (Nat.le_of_ble_eq_true rfl) (Nat.le_of_ble_eq_true rfl) dX7_copyFrom_32

abbrev rm_X8_airOut : Room := { frames := 1, cells := 0, slots := 0, locals := 21 }
theorem inw_X8_airOut_8 : ∀ w ∈ wsX80, w ∈ wsX8_airOut := by decide +kernel
set_option maxHeartbeats 800000 in
set_option maxRecDepth 100000 in
theorem t_X8_airOut (l : Launch) (dC : Nat → ClassId) (dI : Nat → Nat → Nat) (sa : Nat → Nat) (hlt : l.stackTraces = false) (g : Nat → Nat) (L : List Nat) (f : Nat → va_E) (h0 : Nat) (o : Nat) (sz : Nat) (hT : TP g L f [(h0, (0, 8, 0)), (o, (0, 0, 0))]) : KC l dC dI sa g yX8_airOut wsX8_airOut rm_X8_airOut [.ref h0, .ref o] L f sz (fun r L' f' => (∃ z : Int32, r = some (.int z)) ∧ Fr [(0, 0), (0, 1), (0, 2), (0, 3), (0, 4), (0, 5), (0, 6), (0, 7), (8, 0), (8, 1), (8, 2)] L f f') 0 0 := by
  refine CT.start (cc := cX8_airOut) (maxL := 3) (ret := (some .int)) (by decide) rfl (Nat.le_of_ble_eq_true rfl) ?_
  intro p e s m below meth c ls hst hP hK hD hev hS hl
  obtain ⟨hx, hb, hr, hml, hts, hown, hlocks, hin⟩ := hst
  have hown : s.vm.findClass RX8 = some m.cls := hown
  have hin : meth.name = yX8_airOut.name := hin
  have hA : ∀ q : Nat, s.heap.size ≤ q → va_A (va_pl L f) s.heap.size q := fun _ h => Or.inr h
  have hE : Ext L f L f := Ext.rf
  have hF : Fr [(0, 0), (0, 1), (0, 2), (0, 3), (0, 4), (0, 5), (0, 6), (0, 7), (8, 0), (8, 1), (8, 2)] L f f := Fr.rf
  have hl : lv_has ls 3 [(0, .ref h0), (1, .ref o)] := hl
  refine lv_aload_n hx hb dX8_airOut_0 rfl (lv_at hl 1 rfl) ?_
  refine K_V ⟨hx, hb, hml, hown, hts⟩ (t_X0_loseByAir l dC dI sa hlt g _ _ o _ (hT.sub [1] rfl)  ) (cwV 0 hts gX8_airOut_X0_loseByAir rfl rfl rfl (by decide +kernel) ⟨Nat.le_of_ble_eq_true rfl, Nat.le_of_ble_eq_true rfl⟩) hP hD hK hS hA hev hT 1 0 rfl rfl rfl rfl hl.1 rfl (Nat.le_of_ble_eq_true rfl) dX8_airOut_1 ⟨Nat.le_of_ble_eq_true rfl, Nat.le_of_ble_eq_true rfl⟩ (fun r L_1 f_2 H locs hw_3 hP hD hS hT hE1 => ?_)
  have hF := Fr.call hF hE hw_3.2 (by decide)
  have hE := hE.tr hE1
  obtain ⟨⟨z_4, rfl⟩, hw_3⟩ := hw_3
  refine W.eq (g2 := F0 m 4 ls [.int z_4]) rfl ?_
  refine lv_istore_n (lv' := [(2, .int z_4), (0, .ref h0), (1, .ref o)]) hx hb dX8_airOut_4 rfl hl (by decide) rfl (fun ls hl => ?_)
  refine lv_aload_n hx hb dX8_airOut_5 rfl (lv_at hl 1 rfl) ?_
  refine lv_dup hx hb dX8_airOut_6 rfl ?_
  refine T_get (ci := 8) (C := RX8) (T := TX8) (N := 3) (t := tI) hx hb hts inw_X8_airOut_8 hown hK hP hT 0 rfl rfl 2 (by decide) (hts (.fieldLink RX8 58 "VatHouse$Works" "drain" "I") (by decide +kernel)) (fun _ h9 => h9) rfl dX8_airOut_7 (fun v_7 hv_5 hr_6 => ?_)
  obtain ⟨z_8, rfl⟩ := hv_5
  refine lv_iload_n hx hb dX8_airOut_10 rfl (lv_at hl 0 rfl) ?_
  refine lv_iadd hx hb dX8_airOut_11 ?_
  refine lv_topi (fun z_9 ez_9 => ?_)
  refine T_put (ci := 8) (v := .int z_9) (ty := .int) (t := tI) (C := RX8) (T := TX8) (N := 3) hx hb hts inw_X8_airOut_8 tyX8 tyX8_ok nmX8 hown hK hP hD hS hT 0 rfl rfl 2 (by decide) (hts (.fieldLink RX8 58 "VatHouse$Works" "drain" "I") (by decide +kernel)) (fun _ h9 => h9) rfl (by decide +kernel) rfl rfl rfl ⟨_, rfl⟩ dX8_airOut_12 (fun f_10 H locs hP hD hS hT hE1 hrd_11 hup_12 => ?_)
  have hF := Fr.put (a := h0) (ci := 8) hF hE ((hE1 h0 (hT.at 0 rfl).1).2.symm.trans (hT.at 0 rfl).2) (by decide) hrd_11 hup_12
  have hE := hE.tr hE1
  refine lv_iload_n hx hb dX8_airOut_15 rfl (lv_at hl 0 rfl) ?_
  exact K_i hx hb hr hlocks hP hD hK hS hT hE ⟨⟨_, rfl⟩, hF⟩ (Nat.le_of_ble_eq_true rfl) (Nat.le_of_ble_eq_true rfl) dX8_airOut_16

abbrev rm_X8_washOut : Room := { frames := 1, cells := 0, slots := 0, locals := 22 }
theorem inw_X8_washOut_8 : ∀ w ∈ wsX80, w ∈ wsX8_washOut := by decide +kernel
set_option maxHeartbeats 800000 in
set_option maxRecDepth 100000 in
theorem t_X8_washOut (l : Launch) (dC : Nat → ClassId) (dI : Nat → Nat → Nat) (sa : Nat → Nat) (hlt : l.stackTraces = false) (g : Nat → Nat) (L : List Nat) (f : Nat → va_E) (h0 : Nat) (o : Nat) (sz : Nat) (hT : TP g L f [(h0, (0, 8, 0)), (o, (0, 0, 0))]) : KC l dC dI sa g yX8_washOut wsX8_washOut rm_X8_washOut [.ref h0, .ref o] L f sz (fun r L' f' => (∃ z : Int32, r = some (.int z)) ∧ Fr [(0, 0), (0, 1), (0, 2), (0, 3), (0, 4), (0, 5), (0, 6), (0, 7), (8, 0), (8, 1), (8, 2)] L f f') 0 0 := by
  refine CT.start (cc := cX8_washOut) (maxL := 3) (ret := (some .int)) (by decide) rfl (Nat.le_of_ble_eq_true rfl) ?_
  intro p e s m below meth c ls hst hP hK hD hev hS hl
  obtain ⟨hx, hb, hr, hml, hts, hown, hlocks, hin⟩ := hst
  have hown : s.vm.findClass RX8 = some m.cls := hown
  have hin : meth.name = yX8_washOut.name := hin
  have hA : ∀ q : Nat, s.heap.size ≤ q → va_A (va_pl L f) s.heap.size q := fun _ h => Or.inr h
  have hE : Ext L f L f := Ext.rf
  have hF : Fr [(0, 0), (0, 1), (0, 2), (0, 3), (0, 4), (0, 5), (0, 6), (0, 7), (8, 0), (8, 1), (8, 2)] L f f := Fr.rf
  have hl : lv_has ls 3 [(0, .ref h0), (1, .ref o)] := hl
  refine lv_aload_n hx hb dX8_washOut_0 rfl (lv_at hl 1 rfl) ?_
  refine K_V ⟨hx, hb, hml, hown, hts⟩ (t_X0_loseByWash l dC dI sa hlt g _ _ o _ (hT.sub [1] rfl)  ) (cwV 0 hts gX8_washOut_X0_loseByWash rfl rfl rfl (by decide +kernel) ⟨Nat.le_of_ble_eq_true rfl, Nat.le_of_ble_eq_true rfl⟩) hP hD hK hS hA hev hT 1 0 rfl rfl rfl rfl hl.1 rfl (Nat.le_of_ble_eq_true rfl) dX8_washOut_1 ⟨Nat.le_of_ble_eq_true rfl, Nat.le_of_ble_eq_true rfl⟩ (fun r L_1 f_2 H locs hw_3 hP hD hS hT hE1 => ?_)
  have hF := Fr.call hF hE hw_3.2 (by decide)
  have hE := hE.tr hE1
  obtain ⟨⟨z_4, rfl⟩, hw_3⟩ := hw_3
  refine W.eq (g2 := F0 m 4 ls [.int z_4]) rfl ?_
  refine lv_istore_n (lv' := [(2, .int z_4), (0, .ref h0), (1, .ref o)]) hx hb dX8_washOut_4 rfl hl (by decide) rfl (fun ls hl => ?_)
  refine lv_aload_n hx hb dX8_washOut_5 rfl (lv_at hl 1 rfl) ?_
  refine lv_dup hx hb dX8_washOut_6 rfl ?_
  refine T_get (ci := 8) (C := RX8) (T := TX8) (N := 3) (t := tI) hx hb hts inw_X8_washOut_8 hown hK hP hT 0 rfl rfl 2 (by decide) (hts (.fieldLink RX8 58 "VatHouse$Works" "drain" "I") (by decide +kernel)) (fun _ h9 => h9) rfl dX8_washOut_7 (fun v_7 hv_5 hr_6 => ?_)
  obtain ⟨z_8, rfl⟩ := hv_5
  refine lv_iload_n hx hb dX8_washOut_10 rfl (lv_at hl 0 rfl) ?_
  refine lv_iadd hx hb dX8_washOut_11 ?_
  refine lv_topi (fun z_9 ez_9 => ?_)
  refine T_put (ci := 8) (v := .int z_9) (ty := .int) (t := tI) (C := RX8) (T := TX8) (N := 3) hx hb hts inw_X8_washOut_8 tyX8 tyX8_ok nmX8 hown hK hP hD hS hT 0 rfl rfl 2 (by decide) (hts (.fieldLink RX8 58 "VatHouse$Works" "drain" "I") (by decide +kernel)) (fun _ h9 => h9) rfl (by decide +kernel) rfl rfl rfl ⟨_, rfl⟩ dX8_washOut_12 (fun f_10 H locs hP hD hS hT hE1 hrd_11 hup_12 => ?_)
  have hF := Fr.put (a := h0) (ci := 8) hF hE ((hE1 h0 (hT.at 0 rfl).1).2.symm.trans (hT.at 0 rfl).2) (by decide) hrd_11 hup_12
  have hE := hE.tr hE1
  refine lv_iload_n hx hb dX8_washOut_15 rfl (lv_at hl 0 rfl) ?_
  exact K_i hx hb hr hlocks hP hD hK hS hT hE ⟨⟨_, rfl⟩, hF⟩ (Nat.le_of_ble_eq_true rfl) (Nat.le_of_ble_eq_true rfl) dX8_washOut_16

abbrev rm_X8_dryOut : Room := { frames := 2, cells := 0, slots := 0, locals := 43 }
theorem inw_X8_dryOut_0 : ∀ w ∈ wsX00, w ∈ wsX8_dryOut := by decide +kernel
theorem inw_X8_dryOut_8 : ∀ w ∈ wsX80, w ∈ wsX8_dryOut := by decide +kernel
set_option maxHeartbeats 800000 in
set_option maxRecDepth 100000 in
theorem t_X8_dryOut (l : Launch) (dC : Nat → ClassId) (dI : Nat → Nat → Nat) (sa : Nat → Nat) (hlt : l.stackTraces = false) (g : Nat → Nat) (L : List Nat) (f : Nat → va_E) (h0 : Nat) (o : Nat) (sz : Nat) (hT : TP g L f [(h0, (0, 8, 0)), (o, (0, 0, 0))]) : KC l dC dI sa g yX8_dryOut wsX8_dryOut rm_X8_dryOut [.ref h0, .ref o] L f sz (fun r L' f' => (∃ z : Int32, r = some (.int z)) ∧ Fr [(0, 0), (0, 1), (0, 2), (0, 3), (0, 4), (0, 5), (0, 6), (0, 7), (8, 0), (8, 1), (8, 2)] L f f') 0 0 := by
  refine CT.start (cc := cX8_dryOut) (maxL := 3) (ret := (some .int)) (by decide) rfl (Nat.le_of_ble_eq_true rfl) ?_
  intro p e s m below meth c ls hst hP hK hD hev hS hl
  obtain ⟨hx, hb, hr, hml, hts, hown, hlocks, hin⟩ := hst
  have hown : s.vm.findClass RX8 = some m.cls := hown
  have hin : meth.name = yX8_dryOut.name := hin
  have hA : ∀ q : Nat, s.heap.size ≤ q → va_A (va_pl L f) s.heap.size q := fun _ h => Or.inr h
  have hE : Ext L f L f := Ext.rf
  have hF : Fr [(0, 0), (0, 1), (0, 2), (0, 3), (0, 4), (0, 5), (0, 6), (0, 7), (8, 0), (8, 1), (8, 2)] L f f := Fr.rf
  have hl : lv_has ls 3 [(0, .ref h0), (1, .ref o)] := hl
  refine lv_aload_n hx hb dX8_dryOut_0 rfl (lv_at hl 0 rfl) ?_
  refine lv_aload_n hx hb dX8_dryOut_1 rfl (lv_at hl 1 rfl) ?_
  refine K_V ⟨hx, hb, hml, hown, hts⟩ (t_X8_airOut l dC dI sa hlt g _ _ h0 o _ (hT.sub [0, 1] rfl)  ) (cwV 1 hts gX8_dryOut_X8_airOut rfl rfl rfl (by decide +kernel) ⟨Nat.le_of_ble_eq_true rfl, Nat.le_of_ble_eq_true rfl⟩) hP hD hK hS hA hev hT 0 8 rfl rfl rfl rfl hl.1 rfl (Nat.le_of_ble_eq_true rfl) dX8_dryOut_2 ⟨Nat.le_of_ble_eq_true rfl, Nat.le_of_ble_eq_true rfl⟩ (fun r L_1 f_2 H locs hw_3 hP hD hS hT hE1 => ?_)
  have hF := Fr.call hF hE hw_3.2 (by decide)
  have hE := hE.tr hE1
  obtain ⟨⟨z_4, rfl⟩, hw_3⟩ := hw_3
  refine W.eq (g2 := F0 m 5 ls [.int z_4]) rfl ?_
  refine lv_istore_n (lv' := [(2, .int z_4), (0, .ref h0), (1, .ref o)]) hx hb dX8_dryOut_5 rfl hl (by decide) rfl (fun ls hl => ?_)
  refine lv_aload_n hx hb dX8_dryOut_6 rfl (lv_at hl 2 rfl) ?_
  refine lv_iconst (v := 1) hx hb dX8_dryOut_7 (by decide) ?_
  refine T_put (ci := 0) (v := .int 1) (ty := .boolean) (t := tI) (C := RX0) (T := TX0) (N := 8) hx hb hts inw_X8_dryOut_0 tyX0 tyX0_ok nmX0 hown hK hP hD hS hT 1 rfl rfl 4 (by decide) (hts (.fieldLink RX8 68 "VatHouse$Cloth" "dry" "Z") (by decide +kernel)) (fun _ h9 => h9) rfl (by decide +kernel) rfl rfl rfl ⟨_, rfl⟩ dX8_dryOut_8 (fun f_5 H locs hP hD hS hT hE1 hrd_6 hup_7 => ?_)
  have hF := Fr.put (a := o) (ci := 0) hF hE ((hE1 o (hT.at 1 rfl).1).2.symm.trans (hT.at 1 rfl).2) (by decide) hrd_6 hup_7
  have hE := hE.tr hE1
  refine lv_aload_n hx hb dX8_dryOut_11 rfl (lv_at hl 2 rfl) ?_
  refine lv_aload_n hx hb dX8_dryOut_12 rfl (lv_at hl 1 rfl) ?_
  refine T_get (ci := 8) (C := RX8) (T := TX8) (N := 3) (t := tI) hx hb hts inw_X8_dryOut_8 hown hK hP hT 0 rfl rfl 1 (by decide) (hts (.fieldLink RX8 31 "VatHouse$Works" "hours" "I") (by decide +kernel)) (fun _ h9 => h9) rfl dX8_dryOut_13 (fun v_10 hv_8 hr_9 => ?_)
  obtain ⟨z_11, rfl⟩ := hv_8
  refine lv_bipush (v := 24) hx hb dX8_dryOut_16 (by decide) ?_
  refine lv_idiv hx hb dX8_dryOut_18 (by decide) ?_
  refine lv_topi (fun z_12 ez_12 => ?_)
  refine T_put (ci := 0) (v := .int z_12) (ty := .int) (t := tI) (C := RX0) (T := TX0) (N := 8) hx hb hts inw_X8_dryOut_0 tyX0 tyX0_ok nmX0 hown hK hP hD hS hT 1 rfl rfl 5 (by decide) (hts (.fieldLink RX8 72 "VatHouse$Cloth" "day" "I") (by decide +kernel)) (fun _ h9 => h9) rfl (by decide +kernel) rfl rfl rfl ⟨_, rfl⟩ dX8_dryOut_19 (fun f_13 H locs hP hD hS hT hE1 hrd_14 hup_15 => ?_)
  have hF := Fr.put (a := o) (ci := 0) hF hE ((hE1 o (hT.at 1 rfl).1).2.symm.trans (hT.at 1 rfl).2) (by decide) hrd_14 hup_15
  have hE := hE.tr hE1
  refine lv_iload_n hx hb dX8_dryOut_22 rfl (lv_at hl 0 rfl) ?_
  exact K_i hx hb hr hlocks hP hD hK hS hT hE ⟨⟨_, rfl⟩, hF⟩ (Nat.le_of_ble_eq_true rfl) (Nat.le_of_ble_eq_true rfl) dX8_dryOut_23

abbrev rm_X8_dipInto : Room := { frames := 1, cells := 0, slots := 0, locals := 23 }
theorem inw_X8_dipInto_0 : ∀ w ∈ wsX00, w ∈ wsX8_dipInto := by decide +kernel
theorem inw_X8_dipInto_7 : ∀ w ∈ wsX70, w ∈ wsX8_dipInto := by decide +kernel
theorem inw_X8_dipInto_8 : ∀ w ∈ wsX80, w ∈ wsX8_dipInto := by decide +kernel
set_option maxHeartbeats 800000 in
set_option maxRecDepth 100000 in
theorem t_X8_dipInto (l : Launch) (dC : Nat → ClassId) (dI : Nat → Nat → Nat) (sa : Nat → Nat) (hlt : l.stackTraces = false) (g : Nat → Nat) (L : List Nat) (f : Nat → va_E) (h0 : Nat) (va : Nat) (o : Nat) (mm : Int32) (mv : Int32) (sz : Nat) (hT : TP g L f [(h0, (0, 8, 0)), (va, (0, 7, 0)), (o, (0, 0, 0))]) : KC l dC dI sa g yX8_dipInto wsX8_dipInto rm_X8_dipInto [.ref h0, .ref va, .ref o, .int mm, .int mv] L f sz (fun r L' f' => (r = none) ∧ Fr [(0, 0), (0, 1), (0, 2), (0, 3), (0, 4), (0, 5), (0, 6), (0, 7), (7, 0), (7, 1), (7, 2), (7, 3), (7, 4), (7, 5), (7, 6), (7, 7)] L f f') 0 0 := by
  refine CT.start (cc := cX8_dipInto) (maxL := 5) (ret := none) (by decide) rfl (Nat.le_of_ble_eq_true rfl) ?_
  intro p e s m below meth c ls hst hP hK hD hev hS hl
  obtain ⟨hx, hb, hr, hml, hts, hown, hlocks, hin⟩ := hst
  have hown : s.vm.findClass RX8 = some m.cls := hown
  have hin : meth.name = yX8_dipInto.name := hin
  have hA : ∀ q : Nat, s.heap.size ≤ q → va_A (va_pl L f) s.heap.size q := fun _ h => Or.inr h
  have hE : Ext L f L f := Ext.rf
  have hF : Fr [(0, 0), (0, 1), (0, 2), (0, 3), (0, 4), (0, 5), (0, 6), (0, 7), (7, 0), (7, 1), (7, 2), (7, 3), (7, 4), (7, 5), (7, 6), (7, 7)] L f f := Fr.rf
  have hl : lv_has ls 5 [(0, .ref h0), (1, .ref va), (2, .ref o), (3, .int mm), (4, .int mv)] := hl
  refine lv_aload_n hx hb dX8_dipInto_0 rfl (lv_at hl 1 rfl) ?_
  refine lv_aload_n hx hb dX8_dipInto_1 rfl (lv_at hl 2 rfl) ?_
  refine lv_iload_n hx hb dX8_dipInto_2 rfl (lv_at hl 3 rfl) ?_
  refine lv_iload hx hb dX8_dipInto_3 (lv_at hl 4 rfl) ?_
  refine K_V ⟨hx, hb, hml, hown, hts⟩ (t_X7_soak l dC dI sa hlt g _ _ va o mm mv _ (hT.sub [1, 2] rfl)  ) (cwV 3 hts gX8_dipInto_X7_soak rfl rfl rfl (by decide +kernel) ⟨Nat.le_of_ble_eq_true rfl, Nat.le_of_ble_eq_true rfl⟩) hP hD hK hS hA hev hT 1 7 rfl rfl rfl rfl hl.1 rfl (Nat.le_of_ble_eq_true rfl) dX8_dipInto_5 ⟨Nat.le_of_ble_eq_true rfl, Nat.le_of_ble_eq_true rfl⟩ (fun r L_1 f_2 H locs hw_3 hP hD hS hT hE1 => ?_)
  have hF := Fr.call hF hE hw_3.2 (by decide)
  have hE := hE.tr hE1
  obtain ⟨rfl, hw_3⟩ := hw_3
  refine W.eq (g2 := F0 m 8 ls []) rfl ?_
  refine lv_aload_n hx hb dX8_dipInto_8 rfl (lv_at hl 1 rfl) ?_
  refine lv_aload_n hx hb dX8_dipInto_9 rfl (lv_at hl 0 rfl) ?_
  refine T_get (ci := 8) (C := RX8) (T := TX8) (N := 3) (t := tI) hx hb hts inw_X8_dipInto_8 hown hK hP hT 0 rfl rfl 1 (by decide) (hts (.fieldLink RX8 31 "VatHouse$Works" "hours" "I") (by decide +kernel)) (fun _ h9 => h9) rfl dX8_dipInto_10 (fun v_6 hv_4 hr_5 => ?_)
  obtain ⟨z_7, rfl⟩ := hv_4
  refine T_put (ci := 7) (v := .int z_7) (ty := .int) (t := tI) (C := RX7) (T := TX7) (N := 8) hx hb hts inw_X8_dipInto_7 tyX7 tyX7_ok nmX7 hown hK hP hD hS hT 1 rfl rfl 7 (by decide) (hts (.fieldLink RX8 35 "VatHouse$Vat" "lastDipped" "I") (by decide +kernel)) (fun _ h9 => h9) rfl (by decide +kernel) rfl rfl rfl ⟨_, rfl⟩ dX8_dipInto_13 (fun f_8 H locs hP hD hS hT hE1 hrd_9 hup_10 => ?_)
  have hF := Fr.put (a := va) (ci := 7) hF hE ((hE1 va (hT.at 1 rfl).1).2.symm.trans (hT.at 1 rfl).2) (by decide) hrd_9 hup_10
  have hE := hE.tr hE1
  refine lv_aload_n hx hb dX8_dipInto_16 rfl (lv_at hl 1 rfl) ?_
  refine lv_dup hx hb dX8_dipInto_17 rfl ?_
  refine T_get (ci := 7) (C := RX7) (T := TX7) (N := 8) (t := tI) hx hb hts inw_X8_dipInto_7 hown hK hP hT 1 rfl rfl 5 (by decide) (hts (.fieldLink RX8 38 "VatHouse$Vat" "dips" "I") (by decide +kernel)) (fun _ h9 => h9) rfl dX8_dipInto_18 (fun v_13 hv_11 hr_12 => ?_)
  obtain ⟨z_14, rfl⟩ := hv_11
  refine lv_iconst (v := 1) hx hb dX8_dipInto_21 (by decide) ?_
  refine lv_iadd hx hb dX8_dipInto_22 ?_
  refine lv_topi (fun z_15 ez_15 => ?_)
  refine T_put (ci := 7) (v := .int z_15) (ty := .int) (t := tI) (C := RX7) (T := TX7) (N := 8) hx hb hts inw_X8_dipInto_7 tyX7 tyX7_ok nmX7 hown hK hP hD hS hT 1 rfl rfl 5 (by decide) (hts (.fieldLink RX8 38 "VatHouse$Vat" "dips" "I") (by decide +kernel)) (fun _ h9 => h9) rfl (by decide +kernel) rfl rfl rfl ⟨_, rfl⟩ dX8_dipInto_23 (fun f_16 H locs hP hD hS hT hE1 hrd_17 hup_18 => ?_)
  have hF := Fr.put (a := va) (ci := 7) hF hE ((hE1 va (hT.at 1 rfl).1).2.symm.trans (hT.at 1 rfl).2) (by decide) hrd_17 hup_18
  have hE := hE.tr hE1
  refine lv_aload_n hx hb dX8_dipInto_26 rfl (lv_at hl 1 rfl) ?_
  refine lv_dup hx hb dX8_dipInto_27 rfl ?_
  refine T_get (ci := 7) (C := RX7) (T := TX7) (N := 8) (t := tI) hx hb hts inw_X8_dipInto_7 hown hK hP hT 1 rfl rfl 6 (by decide) (hts (.fieldLink RX8 41 "VatHouse$Vat" "clothBits" "I") (by decide +kernel)) (fun _ h9 => h9) rfl dX8_dipInto_28 (fun v_21 hv_19 hr_20 => ?_)
  obtain ⟨z_22, rfl⟩ := hv_19
  refine lv_iconst (v := 1) hx hb dX8_dipInto_31 (by decide) ?_
  refine lv_aload_n hx hb dX8_dipInto_32 rfl (lv_at hl 2 rfl) ?_
  refine T_get (ci := 0) (C := RX0) (T := TX0) (N := 8) (t := tI) hx hb hts inw_X8_dipInto_0 hown hK hP hT 2 rfl rfl 0 (by decide) (hts (.fieldLink RX8 44 "VatHouse$Cloth" "number" "I") (by decide +kernel)) (fun _ h9 => h9) rfl dX8_dipInto_33 (fun v_25 hv_23 hr_24 => ?_)
  obtain ⟨z_26, rfl⟩ := hv_23
  refine lv_ishl hx hb dX8_dipInto_36 ?_
  refine lv_topi (fun z_27 ez_27 => ?_)
  refine lv_ior hx hb dX8_dipInto_37 ?_
  refine lv_topi (fun z_28 ez_28 => ?_)
  refine T_put (ci := 7) (v := .int z_28) (ty := .int) (t := tI) (C := RX7) (T := TX7) (N := 8) hx hb hts inw_X8_dipInto_7 tyX7 tyX7_ok nmX7 hown hK hP hD hS hT 1 rfl rfl 6 (by decide) (hts (.fieldLink RX8 41 "VatHouse$Vat" "clothBits" "I") (by decide +kernel)) (fun _ h9 => h9) rfl (by decide +kernel) rfl rfl rfl ⟨_, rfl⟩ dX8_dipInto_38 (fun f_29 H locs hP hD hS hT hE1 hrd_30 hup_31 => ?_)
  have hF := Fr.put (a := va) (ci := 7) hF hE ((hE1 va (hT.at 1 rfl).1).2.symm.trans (hT.at 1 rfl).2) (by decide) hrd_30 hup_31
  have hE := hE.tr hE1
  refine lv_aload_n hx hb dX8_dipInto_41 rfl (lv_at hl 2 rfl) ?_
  refine lv_dup hx hb dX8_dipInto_42 rfl ?_
  refine T_get (ci := 0) (C := RX0) (T := TX0) (N := 8) (t := tI) hx hb hts inw_X8_dipInto_0 hown hK hP hT 2 rfl rfl 7 (by decide) (hts (.fieldLink RX8 49 "VatHouse$Cloth" "dips" "I") (by decide +kernel)) (fun _ h9 => h9) rfl dX8_dipInto_43 (fun v_34 hv_32 hr_33 => ?_)
  obtain ⟨z_35, rfl⟩ := hv_32
  refine lv_iconst (v := 1) hx hb dX8_dipInto_46 (by decide) ?_
  refine lv_iadd hx hb dX8_dipInto_47 ?_
  refine lv_topi (fun z_36 ez_36 => ?_)
  refine T_put (ci := 0) (v := .int z_36) (ty := .int) (t := tI) (C := RX0) (T := TX0) (N := 8) hx hb hts inw_X8_dipInto_0 tyX0 tyX0_ok nmX0 hown hK hP hD hS hT 2 rfl rfl 7 (by decide) (hts (.fieldLink RX8 49 "VatHouse$Cloth" "dips" "I") (by decide +kernel)) (fun _ h9 => h9) rfl (by decide +kernel) rfl rfl rfl ⟨_, rfl⟩ dX8_dipInto_48 (fun f_37 H locs hP hD hS hT hE1 hrd_38 hup_39 => ?_)
  have hF := Fr.put (a := o) (ci := 0) hF hE ((hE1 o (hT.at 2 rfl).1).2.symm.trans (hT.at 2 rfl).2) (by decide) hrd_38 hup_39
  have hE := hE.tr hE1
  refine lv_aload_n hx hb dX8_dipInto_51 rfl (lv_at hl 2 rfl) ?_
  refine lv_dup hx hb dX8_dipInto_52 rfl ?_
  refine T_get (ci := 0) (C := RX0) (T := TX0) (N := 8) (t := tI) hx hb hts inw_X8_dipInto_0 hown hK hP hT 2 rfl rfl 6 (by decide) (hts (.fieldLink RX8 50 "VatHouse$Cloth" "vatBits" "I") (by decide +kernel)) (fun _ h9 => h9) rfl dX8_dipInto_53 (fun v_42 hv_40 hr_41 => ?_)
  obtain ⟨z_43, rfl⟩ := hv_40
  refine lv_iconst (v := 1) hx hb dX8_dipInto_56 (by decide) ?_
  refine lv_aload_n hx hb dX8_dipInto_57 rfl (lv_at hl 1 rfl) ?_
  refine T_get (ci := 7) (C := RX7) (T := TX7) (N := 8) (t := tI) hx hb hts inw_X8_dipInto_7 hown hK hP hT 1 rfl rfl 0 (by decide) (hts (.fieldLink RX8 53 "VatHouse$Vat" "number" "I") (by decide +kernel)) (fun _ h9 => h9) rfl dX8_dipInto_58 (fun v_46 hv_44 hr_45 => ?_)
  obtain ⟨z_47, rfl⟩ := hv_44
  refine lv_ishl hx hb dX8_dipInto_61 ?_
  refine lv_topi (fun z_48 ez_48 => ?_)
  refine lv_ior hx hb dX8_dipInto_62 ?_
  refine lv_topi (fun z_49 ez_49 => ?_)
  refine T_put (ci := 0) (v := .int z_49) (ty := .int) (t := tI) (C := RX0) (T := TX0) (N := 8) hx hb hts inw_X8_dipInto_0 tyX0 tyX0_ok nmX0 hown hK hP hD hS hT 2 rfl rfl 6 (by decide) (hts (.fieldLink RX8 50 "VatHouse$Cloth" "vatBits" "I") (by decide +kernel)) (fun _ h9 => h9) rfl (by decide +kernel) rfl rfl rfl ⟨_, rfl⟩ dX8_dipInto_63 (fun f_50 H locs hP hD hS hT hE1 hrd_51 hup_52 => ?_)
  have hF := Fr.put (a := o) (ci := 0) hF hE ((hE1 o (hT.at 2 rfl).1).2.symm.trans (hT.at 2 rfl).2) (by decide) hrd_51 hup_52
  have hE := hE.tr hE1
  exact K_v hx hb hr hlocks hP hD hK hS hT hE ⟨rfl, hF⟩ (Nat.le_of_ble_eq_true rfl) (Nat.le_of_ble_eq_true rfl) dX8_dipInto_66
