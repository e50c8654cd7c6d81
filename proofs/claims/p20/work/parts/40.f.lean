theorem tv_in {tv : Nat → Nat} {a : Nat} (h : a < 6) : tv a ∈ [(tv 0), (tv 1), (tv 2), (tv 3), (tv 4), (tv 5)] := by
  have : a = 0 ∨ a = 1 ∨ a = 2 ∨ a = 3 ∨ a = 4 ∨ a = 5 := by omega
  rcases this with rfl | rfl | rfl | rfl | rfl | rfl <;> simp

noncomputable abbrev rm_X0_loseByAirF : Room := { frames := 0, cells := 0, slots := 0, locals := 0 }
set_option maxHeartbeats 800000 in
set_option maxRecDepth 100000 in
theorem t_X0_loseByAirF (l : Launch) (dC : Nat → ClassId) (dI : Nat → Nat → Nat) (sa : Nat → Nat) (hlt : l.stackTraces = false) (g : Nat → Nat) (L : List Nat) (f : Nat → va_E) (h0 : Nat) (sz : Nat) (hT : TP g L f [(h0, (0, 0, 0))]) : KC l dC dI sa g yX0_loseByAir wsX0_loseByAir rm_X0_loseByAirF [.ref h0] L f sz (fun r L' f' => (∃ z : Int32, r = some (.int z)) ∧ Fr [(0, 0), (0, 1), (0, 2), (0, 3), (0, 4), (0, 5), (0, 6), (0, 7)] L f f' ∧ (OF 0 [h0] L f f')) 0 0 := by
  refine CT.start (cc := cX0_loseByAir) (maxL := 2) (ret := (some .int)) (by decide) rfl (Nat.le_of_ble_eq_true rfl) ?_
  intro p e s m below meth c ls hst hP hK hD hev hS hl
  obtain ⟨hx, hb, hr, hml, hts, hown, hlocks, hin⟩ := hst
  have hown : s.vm.findClass RX0 = some m.cls := hown
  have hin : meth.name = yX0_loseByAir.name := hin
  have hA : ∀ q : Nat, s.heap.size ≤ q → va_A (va_pl L f) s.heap.size q := fun _ h => Or.inr h
  have hE : Ext L f L f := Ext.rf
  have hF : Fr [(0, 0), (0, 1), (0, 2), (0, 3), (0, 4), (0, 5), (0, 6), (0, 7)] L f f := Fr.rf
  have hO0 : OF 0 [h0] L f f := OF.rf
  have hl : lv_has ls 2 [(0, .ref h0)] := hl
  refine lv_aload_n hx hb dX0_loseByAir_0 rfl (lv_at hl 0 rfl) ?_
  refine T_get (ci := 0) (C := RX0) (T := TX0) (N := 8) (t := tI) hx hb hts inw_X0_loseByAir_0 hown hK hP hT 0 rfl rfl 2 (by decide) (hts (.fieldLink RX0 24 "VatHouse$Cloth" "loose" "I") (List.mem_of_getElem? (i := 1) (by exact rfl))) (fun _ h9 => h9) rfl dX0_loseByAir_1 (fun v_3 hv_1 hr_2 => ?_)
  obtain ⟨z_4, rfl⟩ := hv_1
  refine lv_bipush (v := 8) hx hb dX0_loseByAir_4 (by decide) ?_
  refine lv_idiv hx hb dX0_loseByAir_6 (by decide) ?_
  refine lv_topi (fun z_5 ez_5 => ?_)
  refine lv_istore_n (lv' := [(1, .int z_5), (0, .ref h0)]) hx hb dX0_loseByAir_7 rfl hl (by decide) rfl (fun ls hl => ?_)
  refine lv_aload_n hx hb dX0_loseByAir_8 rfl (lv_at hl 1 rfl) ?_
  refine lv_dup hx hb dX0_loseByAir_9 rfl ?_
  refine T_get (ci := 0) (C := RX0) (T := TX0) (N := 8) (t := tI) hx hb hts inw_X0_loseByAir_0 hown hK hP hT 0 rfl rfl 3 (by decide) (hts (.fieldLink RX0 21 "VatHouse$Cloth" "fast" "I") (List.mem_of_getElem? (i := 2) (by exact rfl))) (fun _ h9 => h9) rfl dX0_loseByAir_10 (fun v_8 hv_6 hr_7 => ?_)
  obtain ⟨z_9, rfl⟩ := hv_6
  refine lv_aload_n hx hb dX0_loseByAir_13 rfl (lv_at hl 1 rfl) ?_
  refine T_get (ci := 0) (C := RX0) (T := TX0) (N := 8) (t := tI) hx hb hts inw_X0_loseByAir_0 hown hK hP hT 0 rfl rfl 2 (by decide) (hts (.fieldLink RX0 24 "VatHouse$Cloth" "loose" "I") (List.mem_of_getElem? (i := 1) (by exact rfl))) (fun _ h9 => h9) rfl dX0_loseByAir_14 (fun v_12 hv_10 hr_11 => ?_)
  obtain rfl : v_12 = .int z_4 := hr_11.symm.trans hr_2
  refine lv_iload_n hx hb dX0_loseByAir_17 rfl (lv_at hl 0 rfl) ?_
  refine lv_isub hx hb dX0_loseByAir_18 ?_
  refine lv_topi (fun z_13 ez_13 => ?_)
  refine lv_iadd hx hb dX0_loseByAir_19 ?_
  refine lv_topi (fun z_14 ez_14 => ?_)
  refine T_put (ci := 0) (v := .int z_14) (ty := .int) (t := tI) (C := RX0) (T := TX0) (N := 8) hx hb hts inw_X0_loseByAir_0 tyX0 tyX0_ok nmX0 hown hK hP hD hS hT 0 rfl rfl 3 (by decide) (hts (.fieldLink RX0 21 "VatHouse$Cloth" "fast" "I") (List.mem_of_getElem? (i := 2) (by exact rfl))) (fun _ h9 => h9) rfl (tyX0_ok 3 (by decide)) rfl rfl rfl ⟨_, rfl⟩ dX0_loseByAir_20 (fun f_15 H locs hP hD hS hT hE1 hrd_16 hup_17 => ?_)
  have hO0 := hO0.put hrd_16 (by simp)
  have hF := Fr.put (a := h0) (ci := 0) hF hE ((hE1 h0 (hT.at 0 rfl).1).2.symm.trans (hT.at 0 rfl).2) (by decide) hrd_16 hup_17
  have hE := hE.tr hE1
  refine lv_aload_n hx hb dX0_loseByAir_23 rfl (lv_at hl 1 rfl) ?_
  refine lv_iconst (v := 0) hx hb dX0_loseByAir_24 (by decide) ?_
  refine T_put (ci := 0) (v := .int 0) (ty := .int) (t := tI) (C := RX0) (T := TX0) (N := 8) hx hb hts inw_X0_loseByAir_0 tyX0 tyX0_ok nmX0 hown hK hP hD hS hT 0 rfl rfl 2 (by decide) (hts (.fieldLink RX0 24 "VatHouse$Cloth" "loose" "I") (List.mem_of_getElem? (i := 1) (by exact rfl))) (fun _ h9 => h9) rfl (tyX0_ok 2 (by decide)) rfl rfl rfl ⟨_, rfl⟩ dX0_loseByAir_25 (fun f_18 H locs hP hD hS hT hE1 hrd_19 hup_20 => ?_)
  have hO0 := hO0.put hrd_19 (by simp)
  have hF := Fr.put (a := h0) (ci := 0) hF hE ((hE1 h0 (hT.at 0 rfl).1).2.symm.trans (hT.at 0 rfl).2) (by decide) hrd_19 hup_20
  have hE := hE.tr hE1
  refine lv_iload_n hx hb dX0_loseByAir_28 rfl (lv_at hl 0 rfl) ?_
  exact K_i hx hb hr hlocks hP hD hK hS hT hE ⟨⟨_, rfl⟩, hF, hO0⟩ (Nat.le_of_ble_eq_true rfl) (Nat.le_of_ble_eq_true rfl) dX0_loseByAir_29

noncomputable abbrev rm_X0_copyFromF : Room := { frames := 0, cells := 0, slots := 0, locals := 0 }
set_option maxHeartbeats 800000 in
set_option maxRecDepth 100000 in
theorem t_X0_copyFromF (l : Launch) (dC : Nat → ClassId) (dI : Nat → Nat → Nat) (sa : Nat → Nat) (hlt : l.stackTraces = false) (g : Nat → Nat) (L : List Nat) (f : Nat → va_E) (h0 : Nat) (o : Nat) (sz : Nat) (hT : TP g L f [(h0, (0, 0, 0)), (o, (0, 0, 0))]) : KC l dC dI sa g yX0_copyFrom wsX0_copyFrom rm_X0_copyFromF [.ref h0, .ref o] L f sz (fun r L' f' => (r = none) ∧ Fr [(0, 0), (0, 1), (0, 2), (0, 3), (0, 4), (0, 5), (0, 6), (0, 7)] L f f' ∧ (OF 0 [h0] L f f')) 0 0 := by
  refine CT.start (cc := cX0_copyFrom) (maxL := 2) (ret := none) (by decide) rfl (Nat.le_of_ble_eq_true rfl) ?_
  intro p e s m below meth c ls hst hP hK hD hev hS hl
  obtain ⟨hx, hb, hr, hml, hts, hown, hlocks, hin⟩ := hst
  have hown : s.vm.findClass RX0 = some m.cls := hown
  have hin : meth.name = yX0_copyFrom.name := hin
  have hA : ∀ q : Nat, s.heap.size ≤ q → va_A (va_pl L f) s.heap.size q := fun _ h => Or.inr h
  have hE : Ext L f L f := Ext.rf
  have hF : Fr [(0, 0), (0, 1), (0, 2), (0, 3), (0, 4), (0, 5), (0, 6), (0, 7)] L f f := Fr.rf
  have hO0 : OF 0 [h0] L f f := OF.rf
  have hl : lv_has ls 2 [(0, .ref h0), (1, .ref o)] := hl
  refine lv_aload_n hx hb dX0_copyFrom_0 rfl (lv_at hl 0 rfl) ?_
  refine lv_aload_n hx hb dX0_copyFrom_1 rfl (lv_at hl 1 rfl) ?_
  refine T_get (ci := 0) (C := RX0) (T := TX0) (N := 8) (t := tI) hx hb hts inw_X0_copyFrom_0 hown hK hP hT 1 rfl rfl 1 (by decide) (hts (.fieldLink RX0 18 "VatHouse$Cloth" "weight" "I") (List.mem_of_getElem? (i := 1) (by exact rfl))) (fun _ h9 => h9) rfl dX0_copyFrom_2 (fun v_3 hv_1 hr_2 => ?_)
  obtain ⟨z_4, rfl⟩ := hv_1
  refine T_put (ci := 0) (v := .int z_4) (ty := .int) (t := tI) (C := RX0) (T := TX0) (N := 8) hx hb hts inw_X0_copyFrom_0 tyX0 tyX0_ok nmX0 hown hK hP hD hS hT 0 rfl rfl 1 (by decide) (hts (.fieldLink RX0 18 "VatHouse$Cloth" "weight" "I") (List.mem_of_getElem? (i := 1) (by exact rfl))) (fun _ h9 => h9) rfl (tyX0_ok 1 (by decide)) rfl rfl rfl ⟨_, rfl⟩ dX0_copyFrom_5 (fun f_5 H locs hP hD hS hT hE1 hrd_6 hup_7 => ?_)
  have hO0 := hO0.put hrd_6 (by simp)
  have hF := Fr.put (a := h0) (ci := 0) hF hE ((hE1 h0 (hT.at 0 rfl).1).2.symm.trans (hT.at 0 rfl).2) (by decide) hrd_6 hup_7
  have hE := hE.tr hE1
  refine lv_aload_n hx hb dX0_copyFrom_8 rfl (lv_at hl 0 rfl) ?_
  refine lv_aload_n hx hb dX0_copyFrom_9 rfl (lv_at hl 1 rfl) ?_
  refine T_get (ci := 0) (C := RX0) (T := TX0) (N := 8) (t := tI) hx hb hts inw_X0_copyFrom_0 hown hK hP hT 1 rfl rfl 2 (by decide) (hts (.fieldLink RX0 24 "VatHouse$Cloth" "loose" "I") (List.mem_of_getElem? (i := 2) (by exact rfl))) (fun _ h9 => h9) rfl dX0_copyFrom_10 (fun v_10 hv_8 hr_9 => ?_)
  obtain ⟨z_11, rfl⟩ := hv_8
  refine T_put (ci := 0) (v := .int z_11) (ty := .int) (t := tI) (C := RX0) (T := TX0) (N := 8) hx hb hts inw_X0_copyFrom_0 tyX0 tyX0_ok nmX0 hown hK hP hD hS hT 0 rfl rfl 2 (by decide) (hts (.fieldLink RX0 24 "VatHouse$Cloth" "loose" "I") (List.mem_of_getElem? (i := 2) (by exact rfl))) (fun _ h9 => h9) rfl (tyX0_ok 2 (by decide)) rfl rfl rfl ⟨_, rfl⟩ dX0_copyFrom_13 (fun f_12 H locs hP hD hS hT hE1 hrd_13 hup_14 => ?_)
  have hO0 := hO0.put hrd_13 (by simp)
  have hF := Fr.put (a := h0) (ci := 0) hF hE ((hE1 h0 (hT.at 0 rfl).1).2.symm.trans (hT.at 0 rfl).2) (by decide) hrd_13 hup_14
  have hE := hE.tr hE1
  refine lv_aload_n hx hb dX0_copyFrom_16 rfl (lv_at hl 0 rfl) ?_
  refine lv_aload_n hx hb dX0_copyFrom_17 rfl (lv_at hl 1 rfl) ?_
  refine T_get (ci := 0) (C := RX0) (T := TX0) (N := 8) (t := tI) hx hb hts inw_X0_copyFrom_0 hown hK hP hT 1 rfl rfl 3 (by decide) (hts (.fieldLink RX0 21 "VatHouse$Cloth" "fast" "I") (List.mem_of_getElem? (i := 3) (by exact rfl))) (fun _ h9 => h9) rfl dX0_copyFrom_18 (fun v_17 hv_15 hr_16 => ?_)
  obtain ⟨z_18, rfl⟩ := hv_15
  refine T_put (ci := 0) (v := .int z_18) (ty := .int) (t := tI) (C := RX0) (T := TX0) (N := 8) hx hb hts inw_X0_copyFrom_0 tyX0 tyX0_ok nmX0 hown hK hP hD hS hT 0 rfl rfl 3 (by decide) (hts (.fieldLink RX0 21 "VatHouse$Cloth" "fast" "I") (List.mem_of_getElem? (i := 3) (by exact rfl))) (fun _ h9 => h9) rfl (tyX0_ok 3 (by decide)) rfl rfl rfl ⟨_, rfl⟩ dX0_copyFrom_21 (fun f_19 H locs hP hD hS hT hE1 hrd_20 hup_21 => ?_)
  have hO0 := hO0.put hrd_20 (by simp)
  have hF := Fr.put (a := h0) (ci := 0) hF hE ((hE1 h0 (hT.at 0 rfl).1).2.symm.trans (hT.at 0 rfl).2) (by decide) hrd_20 hup_21
  have hE := hE.tr hE1
  exact K_v hx hb hr hlocks hP hD hK hS hT hE ⟨rfl, hF, hO0⟩ (Nat.le_of_ble_eq_true rfl) (Nat.le_of_ble_eq_true rfl) dX0_copyFrom_24

noncomputable abbrev rm_X7_soakF : Room := { frames := 0, cells := 0, slots := 0, locals := 0 }
set_option maxHeartbeats 800000 in
set_option maxRecDepth 100000 in
theorem t_X7_soakF (l : Launch) (dC : Nat → ClassId) (dI : Nat → Nat → Nat) (sa : Nat → Nat) (hlt : l.stackTraces = false) (g : Nat → Nat) (L : List Nat) (f : Nat → va_E) (h0 : Nat) (o : Nat) (mm : Int32) (mv : Int32) (sz : Nat) (hT : TP g L f [(h0, (0, 7, 0)), (o, (0, 0, 0))]) : KC l dC dI sa g yX7_soak wsX7_soak rm_X7_soakF [.ref h0, .ref o, .int mm, .int mv] L f sz (fun r L' f' => (r = none) ∧ Fr [(0, 0), (0, 1), (0, 2), (0, 3), (0, 4), (0, 5), (0, 6), (0, 7), (7, 0), (7, 1), (7, 2), (7, 3), (7, 4), (7, 5), (7, 6), (7, 7)] L f f' ∧ (OF 0 [o] L f f' ∧ OF 7 [h0] L f f')) 0 0 := by
  refine CT.start (cc := cX7_soak) (maxL := 4) (ret := none) (by decide) rfl (Nat.le_of_ble_eq_true rfl) ?_
  intro p e s m below meth c ls hst hP hK hD hev hS hl
  obtain ⟨hx, hb, hr, hml, hts, hown, hlocks, hin⟩ := hst
  have hown : s.vm.findClass RX7 = some m.cls := hown
  have hin : meth.name = yX7_soak.name := hin
  have hA : ∀ q : Nat, s.heap.size ≤ q → va_A (va_pl L f) s.heap.size q := fun _ h => Or.inr h
  have hE : Ext L f L f := Ext.rf
  have hF : Fr [(0, 0), (0, 1), (0, 2), (0, 3), (0, 4), (0, 5), (0, 6), (0, 7), (7, 0), (7, 1), (7, 2), (7, 3), (7, 4), (7, 5), (7, 6), (7, 7)] L f f := Fr.rf
  have hO0 : OF 0 [o] L f f := OF.rf
  have hO7 : OF 7 [h0] L f f := OF.rf
  have hl : lv_has ls 4 [(0, .ref h0), (1, .ref o), (2, .int mm), (3, .int mv)] := hl
  refine lv_aload_n hx hb dX7_soak_0 rfl (lv_at hl 0 rfl) ?_
  refine lv_dup hx hb dX7_soak_1 rfl ?_
  refine T_get (ci := 7) (C := RX7) (T := TX7) (N := 8) (t := tI) hx hb hts inw_X7_soak_7 hown hK hP hT 0 rfl rfl 1 (by decide) (hts (.fieldLink RX7 26 "VatHouse$Vat" "grains" "I") (List.mem_of_getElem? (i := 1) (by exact rfl))) (fun _ h9 => h9) rfl dX7_soak_2 (fun v_3 hv_1 hr_2 => ?_)
  obtain ⟨z_4, rfl⟩ := hv_1
  refine lv_iload_n hx hb dX7_soak_5 rfl (lv_at hl 3 rfl) ?_
  refine lv_isub hx hb dX7_soak_6 ?_
  refine lv_topi (fun z_5 ez_5 => ?_)
  refine T_put (ci := 7) (v := .int z_5) (ty := .int) (t := tI) (C := RX7) (T := TX7) (N := 8) hx hb hts inw_X7_soak_7 tyX7 tyX7_ok nmX7 hown hK hP hD hS hT 0 rfl rfl 1 (by decide) (hts (.fieldLink RX7 26 "VatHouse$Vat" "grains" "I") (List.mem_of_getElem? (i := 1) (by exact rfl))) (fun _ h9 => h9) rfl (tyX7_ok 1 (by decide)) rfl rfl rfl ⟨_, rfl⟩ dX7_soak_7 (fun f_6 H locs hP hD hS hT hE1 hrd_7 hup_8 => ?_)
  have hO0 := OF.putN (a := h0) (cj := 7) hO0 hE ((hE1 h0 (hT.at 0 rfl).1).2.symm.trans (hT.at 0 rfl).2) (by decide) hrd_7
  have hO7 := hO7.put hrd_7 (by simp)
  have hF := Fr.put (a := h0) (ci := 7) hF hE ((hE1 h0 (hT.at 0 rfl).1).2.symm.trans (hT.at 0 rfl).2) (by decide) hrd_7 hup_8
  have hE := hE.tr hE1
  refine lv_aload_n hx hb dX7_soak_10 rfl (lv_at hl 1 rfl) ?_
  refine lv_dup hx hb dX7_soak_11 rfl ?_
  refine T_get (ci := 0) (C := RX0) (T := TX0) (N := 8) (t := tI) hx hb hts inw_X7_soak_0 hown hK hP hT 1 rfl rfl 2 (by decide) (hts (.fieldLink RX7 39 "VatHouse$Cloth" "loose" "I") (List.mem_of_getElem? (i := 2) (by exact rfl))) (fun _ h9 => h9) rfl dX7_soak_12 (fun v_11 hv_9 hr_10 => ?_)
  obtain ⟨z_12, rfl⟩ := hv_9
  refine lv_iload_n hx hb dX7_soak_15 rfl (lv_at hl 3 rfl) ?_
  refine lv_iadd hx hb dX7_soak_16 ?_
  refine lv_topi (fun z_13 ez_13 => ?_)
  refine T_put (ci := 0) (v := .int z_13) (ty := .int) (t := tI) (C := RX0) (T := TX0) (N := 8) hx hb hts inw_X7_soak_0 tyX0 tyX0_ok nmX0 hown hK hP hD hS hT 1 rfl rfl 2 (by decide) (hts (.fieldLink RX7 39 "VatHouse$Cloth" "loose" "I") (List.mem_of_getElem? (i := 2) (by exact rfl))) (fun _ h9 => h9) rfl (tyX0_ok 2 (by decide)) rfl rfl rfl ⟨_, rfl⟩ dX7_soak_17 (fun f_14 H locs hP hD hS hT hE1 hrd_15 hup_16 => ?_)
  have hO0 := hO0.put hrd_15 (by simp)
  have hO7 := OF.putN (a := o) (cj := 0) hO7 hE ((hE1 o (hT.at 1 rfl).1).2.symm.trans (hT.at 1 rfl).2) (by decide) hrd_15
  have hF := Fr.put (a := o) (ci := 0) hF hE ((hE1 o (hT.at 1 rfl).1).2.symm.trans (hT.at 1 rfl).2) (by decide) hrd_15 hup_16
  have hE := hE.tr hE1
  refine lv_aload_n hx hb dX7_soak_20 rfl (lv_at hl 0 rfl) ?_
  refine lv_dup hx hb dX7_soak_21 rfl ?_
  refine T_get (ci := 7) (C := RX7) (T := TX7) (N := 8) (t := tI) hx hb hts inw_X7_soak_7 hown hK hP hT 0 rfl rfl 3 (by decide) (hts (.fieldLink RX7 42 "VatHouse$Vat" "minutes" "I") (List.mem_of_getElem? (i := 3) (by exact rfl))) (fun _ h9 => h9) rfl dX7_soak_22 (fun v_19 hv_17 hr_18 => ?_)
  obtain ⟨z_20, rfl⟩ := hv_17
  refine lv_iload_n hx hb dX7_soak_25 rfl (lv_at hl 2 rfl) ?_
  refine lv_iadd hx hb dX7_soak_26 ?_
  refine lv_topi (fun z_21 ez_21 => ?_)
  refine T_put (ci := 7) (v := .int z_21) (ty := .int) (t := tI) (C := RX7) (T := TX7) (N := 8) hx hb hts inw_X7_soak_7 tyX7 tyX7_ok nmX7 hown hK hP hD hS hT 0 rfl rfl 3 (by decide) (hts (.fieldLink RX7 42 "VatHouse$Vat" "minutes" "I") (List.mem_of_getElem? (i := 3) (by exact rfl))) (fun _ h9 => h9) rfl (tyX7_ok 3 (by decide)) rfl rfl rfl ⟨_, rfl⟩ dX7_soak_27 (fun f_22 H locs hP hD hS hT hE1 hrd_23 hup_24 => ?_)
  have hO0 := OF.putN (a := h0) (cj := 7) hO0 hE ((hE1 h0 (hT.at 0 rfl).1).2.symm.trans (hT.at 0 rfl).2) (by decide) hrd_23
  have hO7 := hO7.put hrd_23 (by simp)
  have hF := Fr.put (a := h0) (ci := 7) hF hE ((hE1 h0 (hT.at 0 rfl).1).2.symm.trans (hT.at 0 rfl).2) (by decide) hrd_23 hup_24
  have hE := hE.tr hE1
  refine lv_aload_n hx hb dX7_soak_30 rfl (lv_at hl 0 rfl) ?_
  refine T_get (ci := 7) (C := RX7) (T := TX7) (N := 8) (t := tI) hx hb hts inw_X7_soak_7 hown hK hP hT 0 rfl rfl 3 (by decide) (hts (.fieldLink RX7 42 "VatHouse$Vat" "minutes" "I") (List.mem_of_getElem? (i := 3) (by exact rfl))) (fun _ h9 => h9) rfl dX7_soak_31 (fun v_27 hv_25 hr_26 => ?_)
  obtain ⟨z_28, rfl⟩ := hv_25
  refine lv_bipush (v := 60) hx hb dX7_soak_34 (by decide) ?_
  refine lv_icmp_le (tgt := 44) hx hb dX7_soak_36 (by decide) (fun c_29 => ?_) (fun c_29 => ?_)
  · refine lv_aload_n hx hb dX7_soak_44 rfl (lv_at hl 0 rfl) ?_
    refine lv_dup hx hb dX7_soak_45 rfl ?_
    refine T_get (ci := 7) (C := RX7) (T := TX7) (N := 8) (t := tI) hx hb hts inw_X7_soak_7 hown hK hP hT 0 rfl rfl 2 (by decide) (hts (.fieldLink RX7 45 "VatHouse$Vat" "food" "I") (List.mem_of_getElem? (i := 5) (by exact rfl))) (fun _ h9 => h9) rfl dX7_soak_46 (fun v_32 hv_30 hr_31 => ?_)
    obtain ⟨z_33, rfl⟩ := hv_30
    refine lv_iload_n hx hb dX7_soak_49 rfl (lv_at hl 2 rfl) ?_
    refine lv_isub hx hb dX7_soak_50 ?_
    refine lv_topi (fun z_34 ez_34 => ?_)
    refine T_put (ci := 7) (v := .int z_34) (ty := .int) (t := tI) (C := RX7) (T := TX7) (N := 8) hx hb hts inw_X7_soak_7 tyX7 tyX7_ok nmX7 hown hK hP hD hS hT 0 rfl rfl 2 (by decide) (hts (.fieldLink RX7 45 "VatHouse$Vat" "food" "I") (List.mem_of_getElem? (i := 5) (by exact rfl))) (fun _ h9 => h9) rfl (tyX7_ok 2 (by decide)) rfl rfl rfl ⟨_, rfl⟩ dX7_soak_51 (fun f_35 H locs hP hD hS hT hE1 hrd_36 hup_37 => ?_)
    have hO0 := OF.putN (a := h0) (cj := 7) hO0 hE ((hE1 h0 (hT.at 0 rfl).1).2.symm.trans (hT.at 0 rfl).2) (by decide) hrd_36
    have hO7 := hO7.put hrd_36 (by simp)
    have hF := Fr.put (a := h0) (ci := 7) hF hE ((hE1 h0 (hT.at 0 rfl).1).2.symm.trans (hT.at 0 rfl).2) (by decide) hrd_36 hup_37
    have hE := hE.tr hE1
    refine lv_aload_n hx hb dX7_soak_54 rfl (lv_at hl 0 rfl) ?_
    refine T_get (ci := 7) (C := RX7) (T := TX7) (N := 8) (t := tI) hx hb hts inw_X7_soak_7 hown hK hP hT 0 rfl rfl 2 (by decide) (hts (.fieldLink RX7 45 "VatHouse$Vat" "food" "I") (List.mem_of_getElem? (i := 5) (by exact rfl))) (fun _ h9 => h9) rfl dX7_soak_55 (fun v_40 hv_38 hr_39 => ?_)
    obtain ⟨z_41, rfl⟩ := hv_38
    refine lv_iconst (v := 1) hx hb dX7_soak_58 (by decide) ?_
    refine lv_icmp_ge (tgt := 72) hx hb dX7_soak_59 (by decide) (fun c_42 => ?_) (fun c_42 => ?_)
    · exact K_v hx hb hr hlocks hP hD hK hS hT hE ⟨rfl, hF, hO0, hO7⟩ (Nat.le_of_ble_eq_true rfl) (Nat.le_of_ble_eq_true rfl) dX7_soak_72
    · refine lv_aload_n hx hb dX7_soak_62 rfl (lv_at hl 0 rfl) ?_
      refine lv_iconst (v := 0) hx hb dX7_soak_63 (by decide) ?_
      refine T_put (ci := 7) (v := .int 0) (ty := .int) (t := tI) (C := RX7) (T := TX7) (N := 8) hx hb hts inw_X7_soak_7 tyX7 tyX7_ok nmX7 hown hK hP hD hS hT 0 rfl rfl 2 (by decide) (hts (.fieldLink RX7 45 "VatHouse$Vat" "food" "I") (List.mem_of_getElem? (i := 5) (by exact rfl))) (fun _ h9 => h9) rfl (tyX7_ok 2 (by decide)) rfl rfl rfl ⟨_, rfl⟩ dX7_soak_64 (fun f_43 H locs hP hD hS hT hE1 hrd_44 hup_45 => ?_)
      have hO0 := OF.putN (a := h0) (cj := 7) hO0 hE ((hE1 h0 (hT.at 0 rfl).1).2.symm.trans (hT.at 0 rfl).2) (by decide) hrd_44
      have hO7 := hO7.put hrd_44 (by simp)
      have hF := Fr.put (a := h0) (ci := 7) hF hE ((hE1 h0 (hT.at 0 rfl).1).2.symm.trans (hT.at 0 rfl).2) (by decide) hrd_44 hup_45
      have hE := hE.tr hE1
      refine lv_aload_n hx hb dX7_soak_67 rfl (lv_at hl 0 rfl) ?_
      refine lv_iconst (v := 2) hx hb dX7_soak_68 (by decide) ?_
      refine T_put (ci := 7) (v := .int 2) (ty := .int) (t := tI) (C := RX7) (T := TX7) (N := 8) hx hb hts inw_X7_soak_7 tyX7 tyX7_ok nmX7 hown hK hP hD hS hT 0 rfl rfl 4 (by decide) (hts (.fieldLink RX7 9 "VatHouse$Vat" "state" "I") (List.mem_of_getElem? (i := 4) (by exact rfl))) (fun _ h9 => h9) rfl (tyX7_ok 4 (by decide)) rfl rfl rfl ⟨_, rfl⟩ dX7_soak_69 (fun f_46 H locs hP hD hS hT hE1 hrd_47 hup_48 => ?_)
      have hO0 := OF.putN (a := h0) (cj := 7) hO0 hE ((hE1 h0 (hT.at 0 rfl).1).2.symm.trans (hT.at 0 rfl).2) (by decide) hrd_47
      have hO7 := hO7.put hrd_47 (by simp)
      have hF := Fr.put (a := h0) (ci := 7) hF hE ((hE1 h0 (hT.at 0 rfl).1).2.symm.trans (hT.at 0 rfl).2) (by decide) hrd_47 hup_48
      have hE := hE.tr hE1
      exact K_v hx hb hr hlocks hP hD hK hS hT hE ⟨rfl, hF, hO0, hO7⟩ (Nat.le_of_ble_eq_true rfl) (Nat.le_of_ble_eq_true rfl) dX7_soak_72
  · refine lv_aload_n hx hb dX7_soak_39 rfl (lv_at hl 0 rfl) ?_
    refine lv_iconst (v := 1) hx hb dX7_soak_40 (by decide) ?_
    refine T_put (ci := 7) (v := .int 1) (ty := .int) (t := tI) (C := RX7) (T := TX7) (N := 8) hx hb hts inw_X7_soak_7 tyX7 tyX7_ok nmX7 hown hK hP hD hS hT 0 rfl rfl 4 (by decide) (hts (.fieldLink RX7 9 "VatHouse$Vat" "state" "I") (List.mem_of_getElem? (i := 4) (by exact rfl))) (fun _ h9 => h9) rfl (tyX7_ok 4 (by decide)) rfl rfl rfl ⟨_, rfl⟩ dX7_soak_41 (fun f_49 H locs hP hD hS hT hE1 hrd_50 hup_51 => ?_)
    have hO0 := OF.putN (a := h0) (cj := 7) hO0 hE ((hE1 h0 (hT.at 0 rfl).1).2.symm.trans (hT.at 0 rfl).2) (by decide) hrd_50
    have hO7 := hO7.put hrd_50 (by simp)
    have hF := Fr.put (a := h0) (ci := 7) hF hE ((hE1 h0 (hT.at 0 rfl).1).2.symm.trans (hT.at 0 rfl).2) (by decide) hrd_50 hup_51
    have hE := hE.tr hE1
    refine lv_aload_n hx hb dX7_soak_44 rfl (lv_at hl 0 rfl) ?_
    refine lv_dup hx hb dX7_soak_45 rfl ?_
    refine T_get (ci := 7) (C := RX7) (T := TX7) (N := 8) (t := tI) hx hb hts inw_X7_soak_7 hown hK hP hT 0 rfl rfl 2 (by decide) (hts (.fieldLink RX7 45 "VatHouse$Vat" "food" "I") (List.mem_of_getElem? (i := 5) (by exact rfl))) (fun _ h9 => h9) rfl dX7_soak_46 (fun v_54 hv_52 hr_53 => ?_)
    obtain ⟨z_55, rfl⟩ := hv_52
    refine lv_iload_n hx hb dX7_soak_49 rfl (lv_at hl 2 rfl) ?_
    refine lv_isub hx hb dX7_soak_50 ?_
    refine lv_topi (fun z_56 ez_56 => ?_)
    refine T_put (ci := 7) (v := .int z_56) (ty := .int) (t := tI) (C := RX7) (T := TX7) (N := 8) hx hb hts inw_X7_soak_7 tyX7 tyX7_ok nmX7 hown hK hP hD hS hT 0 rfl rfl 2 (by decide) (hts (.fieldLink RX7 45 "VatHouse$Vat" "food" "I") (List.mem_of_getElem? (i := 5) (by exact rfl))) (fun _ h9 => h9) rfl (tyX7_ok 2 (by decide)) rfl rfl rfl ⟨_, rfl⟩ dX7_soak_51 (fun f_57 H locs hP hD hS hT hE1 hrd_58 hup_59 => ?_)
    have hO0 := OF.putN (a := h0) (cj := 7) hO0 hE ((hE1 h0 (hT.at 0 rfl).1).2.symm.trans (hT.at 0 rfl).2) (by decide) hrd_58
    have hO7 := hO7.put hrd_58 (by simp)
    have hF := Fr.put (a := h0) (ci := 7) hF hE ((hE1 h0 (hT.at 0 rfl).1).2.symm.trans (hT.at 0 rfl).2) (by decide) hrd_58 hup_59
    have hE := hE.tr hE1
    refine lv_aload_n hx hb dX7_soak_54 rfl (lv_at hl 0 rfl) ?_
    refine T_get (ci := 7) (C := RX7) (T := TX7) (N := 8) (t := tI) hx hb hts inw_X7_soak_7 hown hK hP hT 0 rfl rfl 2 (by decide) (hts (.fieldLink RX7 45 "VatHouse$Vat" "food" "I") (List.mem_of_getElem? (i := 5) (by exact rfl))) (fun _ h9 => h9) rfl dX7_soak_55 (fun v_62 hv_60 hr_61 => ?_)
    obtain ⟨z_63, rfl⟩ := hv_60
    refine lv_iconst (v := 1) hx hb dX7_soak_58 (by decide) ?_
    refine lv_icmp_ge (tgt := 72) hx hb dX7_soak_59 (by decide) (fun c_64 => ?_) (fun c_64 => ?_)
    · exact K_v hx hb hr hlocks hP hD hK hS hT hE ⟨rfl, hF, hO0, hO7⟩ (Nat.le_of_ble_eq_true rfl) (Nat.le_of_ble_eq_true rfl) dX7_soak_72
    · refine lv_aload_n hx hb dX7_soak_62 rfl (lv_at hl 0 rfl) ?_
      refine lv_iconst (v := 0) hx hb dX7_soak_63 (by decide) ?_
      refine T_put (ci := 7) (v := .int 0) (ty := .int) (t := tI) (C := RX7) (T := TX7) (N := 8) hx hb hts inw_X7_soak_7 tyX7 tyX7_ok nmX7 hown hK hP hD hS hT 0 rfl rfl 2 (by decide) (hts (.fieldLink RX7 45 "VatHouse$Vat" "food" "I") (List.mem_of_getElem? (i := 5) (by exact rfl))) (fun _ h9 => h9) rfl (tyX7_ok 2 (by decide)) rfl rfl rfl ⟨_, rfl⟩ dX7_soak_64 (fun f_65 H locs hP hD hS hT hE1 hrd_66 hup_67 => ?_)
      have hO0 := OF.putN (a := h0) (cj := 7) hO0 hE ((hE1 h0 (hT.at 0 rfl).1).2.symm.trans (hT.at 0 rfl).2) (by decide) hrd_66
      have hO7 := hO7.put hrd_66 (by simp)
      have hF := Fr.put (a := h0) (ci := 7) hF hE ((hE1 h0 (hT.at 0 rfl).1).2.symm.trans (hT.at 0 rfl).2) (by decide) hrd_66 hup_67
      have hE := hE.tr hE1
      refine lv_aload_n hx hb dX7_soak_67 rfl (lv_at hl 0 rfl) ?_
      refine lv_iconst (v := 2) hx hb dX7_soak_68 (by decide) ?_
      refine T_put (ci := 7) (v := .int 2) (ty := .int) (t := tI) (C := RX7) (T := TX7) (N := 8) hx hb hts inw_X7_soak_7 tyX7 tyX7_ok nmX7 hown hK hP hD hS hT 0 rfl rfl 4 (by decide) (hts (.fieldLink RX7 9 "VatHouse$Vat" "state" "I") (List.mem_of_getElem? (i := 4) (by exact rfl))) (fun _ h9 => h9) rfl (tyX7_ok 4 (by decide)) rfl rfl rfl ⟨_, rfl⟩ dX7_soak_69 (fun f_68 H locs hP hD hS hT hE1 hrd_69 hup_70 => ?_)
      have hO0 := OF.putN (a := h0) (cj := 7) hO0 hE ((hE1 h0 (hT.at 0 rfl).1).2.symm.trans (hT.at 0 rfl).2) (by decide) hrd_69
      have hO7 := hO7.put hrd_69 (by simp)
      have hF := Fr.put (a := h0) (ci := 7) hF hE ((hE1 h0 (hT.at 0 rfl).1).2.symm.trans (hT.at 0 rfl).2) (by decide) hrd_69 hup_70
      have hE := hE.tr hE1
      exact K_v hx hb hr hlocks hP hD hK hS hT hE ⟨rfl, hF, hO0, hO7⟩ (Nat.le_of_ble_eq_true rfl) (Nat.le_of_ble_eq_true rfl) dX7_soak_72

noncomputable abbrev rm_X7_copyFromF : Room := { frames := 0, cells := 0, slots := 0, locals := 0 }
set_option maxHeartbeats 800000 in
set_option maxRecDepth 100000 in
theorem t_X7_copyFromF (l : Launch) (dC : Nat → ClassId) (dI : Nat → Nat → Nat) (sa : Nat → Nat) (hlt : l.stackTraces = false) (g : Nat → Nat) (L : List Nat) (f : Nat → va_E) (h0 : Nat) (o : Nat) (sz : Nat) (hT : TP g L f [(h0, (0, 7, 0)), (o, (0, 7, 0))]) : KC l dC dI sa g yX7_copyFrom wsX7_copyFrom rm_X7_copyFromF [.ref h0, .ref o] L f sz (fun r L' f' => (r = none) ∧ Fr [(7, 0), (7, 1), (7, 2), (7, 3), (7, 4), (7, 5), (7, 6), (7, 7)] L f f' ∧ (OF 7 [h0] L f f')) 0 0 := by
  refine CT.start (cc := cX7_copyFrom) (maxL := 2) (ret := none) (by decide) rfl (Nat.le_of_ble_eq_true rfl) ?_
  intro p e s m below meth c ls hst hP hK hD hev hS hl
  obtain ⟨hx, hb, hr, hml, hts, hown, hlocks, hin⟩ := hst
  have hown : s.vm.findClass RX7 = some m.cls := hown
  have hin : meth.name = yX7_copyFrom.name := hin
  have hA : ∀ q : Nat, s.heap.size ≤ q → va_A (va_pl L f) s.heap.size q := fun _ h => Or.inr h
  have hE : Ext L f L f := Ext.rf
  have hF : Fr [(7, 0), (7, 1), (7, 2), (7, 3), (7, 4), (7, 5), (7, 6), (7, 7)] L f f := Fr.rf
  have hO7 : OF 7 [h0] L f f := OF.rf
  have hl : lv_has ls 2 [(0, .ref h0), (1, .ref o)] := hl
  refine lv_aload_n hx hb dX7_copyFrom_0 rfl (lv_at hl 0 rfl) ?_
  refine lv_aload_n hx hb dX7_copyFrom_1 rfl (lv_at hl 1 rfl) ?_
  refine T_get (ci := 7) (C := RX7) (T := TX7) (N := 8) (t := tI) hx hb hts inw_X7_copyFrom_7 hown hK hP hT 1 rfl rfl 1 (by decide) (hts (.fieldLink RX7 26 "VatHouse$Vat" "grains" "I") (List.mem_of_getElem? (i := 1) (by exact rfl))) (fun _ h9 => h9) rfl dX7_copyFrom_2 (fun v_3 hv_1 hr_2 => ?_)
  obtain ⟨z_4, rfl⟩ := hv_1
  refine T_put (ci := 7) (v := .int z_4) (ty := .int) (t := tI) (C := RX7) (T := TX7) (N := 8) hx hb hts inw_X7_copyFrom_7 tyX7 tyX7_ok nmX7 hown hK hP hD hS hT 0 rfl rfl 1 (by decide) (hts (.fieldLink RX7 26 "VatHouse$Vat" "grains" "I") (List.mem_of_getElem? (i := 1) (by exact rfl))) (fun _ h9 => h9) rfl (tyX7_ok 1 (by decide)) rfl rfl rfl ⟨_, rfl⟩ dX7_copyFrom_5 (fun f_5 H locs hP hD hS hT hE1 hrd_6 hup_7 => ?_)
  have hO7 := hO7.put hrd_6 (by simp)
  have hF := Fr.put (a := h0) (ci := 7) hF hE ((hE1 h0 (hT.at 0 rfl).1).2.symm.trans (hT.at 0 rfl).2) (by decide) hrd_6 hup_7
  have hE := hE.tr hE1
  refine lv_aload_n hx hb dX7_copyFrom_8 rfl (lv_at hl 0 rfl) ?_
  refine lv_aload_n hx hb dX7_copyFrom_9 rfl (lv_at hl 1 rfl) ?_
  refine T_get (ci := 7) (C := RX7) (T := TX7) (N := 8) (t := tI) hx hb hts inw_X7_copyFrom_7 hown hK hP hT 1 rfl rfl 2 (by decide) (hts (.fieldLink RX7 45 "VatHouse$Vat" "food" "I") (List.mem_of_getElem? (i := 2) (by exact rfl))) (fun _ h9 => h9) rfl dX7_copyFrom_10 (fun v_10 hv_8 hr_9 => ?_)
  obtain ⟨z_11, rfl⟩ := hv_8
  refine T_put (ci := 7) (v := .int z_11) (ty := .int) (t := tI) (C := RX7) (T := TX7) (N := 8) hx hb hts inw_X7_copyFrom_7 tyX7 tyX7_ok nmX7 hown hK hP hD hS hT 0 rfl rfl 2 (by decide) (hts (.fieldLink RX7 45 "VatHouse$Vat" "food" "I") (List.mem_of_getElem? (i := 2) (by exact rfl))) (fun _ h9 => h9) rfl (tyX7_ok 2 (by decide)) rfl rfl rfl ⟨_, rfl⟩ dX7_copyFrom_13 (fun f_12 H locs hP hD hS hT hE1 hrd_13 hup_14 => ?_)
  have hO7 := hO7.put hrd_13 (by simp)
  have hF := Fr.put (a := h0) (ci := 7) hF hE ((hE1 h0 (hT.at 0 rfl).1).2.symm.trans (hT.at 0 rfl).2) (by decide) hrd_13 hup_14
  have hE := hE.tr hE1
  refine lv_aload_n hx hb dX7_copyFrom_16 rfl (lv_at hl 0 rfl) ?_
  refine lv_aload_n hx hb dX7_copyFrom_17 rfl (lv_at hl 1 rfl) ?_
  refine T_get (ci := 7) (C := RX7) (T := TX7) (N := 8) (t := tI) hx hb hts inw_X7_copyFrom_7 hown hK hP hT 1 rfl rfl 3 (by decide) (hts (.fieldLink RX7 42 "VatHouse$Vat" "minutes" "I") (List.mem_of_getElem? (i := 3) (by exact rfl))) (fun _ h9 => h9) rfl dX7_copyFrom_18 (fun v_17 hv_15 hr_16 => ?_)
  obtain ⟨z_18, rfl⟩ := hv_15
  refine T_put (ci := 7) (v := .int z_18) (ty := .int) (t := tI) (C := RX7) (T := TX7) (N := 8) hx hb hts inw_X7_copyFrom_7 tyX7 tyX7_ok nmX7 hown hK hP hD hS hT 0 rfl rfl 3 (by decide) (hts (.fieldLink RX7 42 "VatHouse$Vat" "minutes" "I") (List.mem_of_getElem? (i := 3) (by exact rfl))) (fun _ h9 => h9) rfl (tyX7_ok 3 (by decide)) rfl rfl rfl ⟨_, rfl⟩ dX7_copyFrom_21 (fun f_19 H locs hP hD hS hT hE1 hrd_20 hup_21 => ?_)
  have hO7 := hO7.put hrd_20 (by simp)
  have hF := Fr.put (a := h0) (ci := 7) hF hE ((hE1 h0 (hT.at 0 rfl).1).2.symm.trans (hT.at 0 rfl).2) (by decide) hrd_20 hup_21
  have hE := hE.tr hE1
  refine lv_aload_n hx hb dX7_copyFrom_24 rfl (lv_at hl 0 rfl) ?_
  refine lv_aload_n hx hb dX7_copyFrom_25 rfl (lv_at hl 1 rfl) ?_
  refine T_get (ci := 7) (C := RX7) (T := TX7) (N := 8) (t := tI) hx hb hts inw_X7_copyFrom_7 hown hK hP hT 1 rfl rfl 4 (by decide) (hts (.fieldLink RX7 9 "VatHouse$Vat" "state" "I") (List.mem_of_getElem? (i := 4) (by exact rfl))) (fun _ h9 => h9) rfl dX7_copyFrom_26 (fun v_24 hv_22 hr_23 => ?_)
  obtain ⟨z_25, rfl⟩ := hv_22
  refine T_put (ci := 7) (v := .int z_25) (ty := .int) (t := tI) (C := RX7) (T := TX7) (N := 8) hx hb hts inw_X7_copyFrom_7 tyX7 tyX7_ok nmX7 hown hK hP hD hS hT 0 rfl rfl 4 (by decide) (hts (.fieldLink RX7 9 "VatHouse$Vat" "state" "I") (List.mem_of_getElem? (i := 4) (by exact rfl))) (fun _ h9 => h9) rfl (tyX7_ok 4 (by decide)) rfl rfl rfl ⟨_, rfl⟩ dX7_copyFrom_29 (fun f_26 H locs hP hD hS hT hE1 hrd_27 hup_28 => ?_)
  have hO7 := hO7.put hrd_27 (by simp)
  have hF := Fr.put (a := h0) (ci := 7) hF hE ((hE1 h0 (hT.at 0 rfl).1).2.symm.trans (hT.at 0 rfl).2) (by decide) hrd_27 hup_28
  have hE := hE.tr hE1
  exact K_v hx hb hr hlocks hP hD hK hS hT hE ⟨rfl, hF, hO7⟩ (Nat.le_of_ble_eq_true rfl) (Nat.le_of_ble_eq_true rfl) dX7_copyFrom_32

noncomputable abbrev rm_X1_reachesF (j : Nat) (d : Nat) (tv : Nat → Nat) : Room := { frames := 2 * j + 20, cells := 0, slots := 0, locals := 100 * j + 300 }
noncomputable abbrev rm_X1_reachesByF (j : Nat) (d : Nat) (tv : Nat → Nat) : Room := { frames := 2 * j + 19, cells := 0, slots := 0, locals := 100 * j + 260 }
set_option maxHeartbeats 800000 in
set_option maxRecDepth 100000 in
theorem t_X1_reachesByF (l : Launch) (dC : Nat → ClassId) (dI : Nat → Nat → Nat) (sa : Nat → Nat) (hlt : l.stackTraces = false) (g : Nat → Nat) (L : List Nat) (f : Nat → va_E) (j : Nat) (d : Nat) (tv : Nat → Nat) (h0 : Nat) (v : Nat) (mm : Int32) (pl : Int32) (wa : Int32) (tvr : Nat) (tc : Nat) (sz : Nat) (hT : TP g L f [(h0, (0, 1, 0)), (v, (0, 7, 0)), (tvr, (2, g 10, 6)), (tc, (0, 0, 0))]) (h_tvr : rd f h0 1 = .ref tvr) (h_tc : rd f h0 2 = .ref tc) (hd : pl = nI d) (hdj : d + j = 3) (hTV : ∀ k : Nat, k < 6 → ra f tvr k = some (tv k)) (hvm : v ∈ [(tv 0), (tv 1), (tv 2), (tv 3), (tv 4), (tv 5)]) (IHR : ∀ j' d' : Nat, d' + j' = 3 → j = j' + 1 → ∀ (L : List Nat) (f : Nat → va_E) (tv : Nat → Nat) (h0 : Nat) (pl : Int32) (wa : Int32) (tvr : Nat) (tc : Nat) (sz : Nat) (hT : TP g L f [(h0, (0, 1, 0)), (tvr, (2, g 10, 6)), (tc, (0, 0, 0))]) (h_tvr : rd f h0 1 = .ref tvr) (h_tc : rd f h0 2 = .ref tc) (hd : pl = nI d') (hTV : ∀ k : Nat, k < 6 → ra f tvr k = some (tv k)), KC l dC dI sa g yX1_reaches wsX1_reaches (rm_X1_reachesF j' d' tv) [.ref h0, .int pl, .int wa] L f sz (fun r L' f' => (∃ z : Int32, r = some (.int z) ∧ (z = 0 ∨ z = 1)) ∧ Fr [(0, 0), (0, 1), (0, 2), (0, 3), (0, 4), (0, 5), (0, 6), (0, 7), (7, 0), (7, 1), (7, 2), (7, 3), (7, 4), (7, 5), (7, 6), (7, 7), (100, 3)] L f f' ∧ (OF 0 [tc] L f f' ∧ OF 7 [(tv 0), (tv 1), (tv 2), (tv 3), (tv 4), (tv 5)] L f f')) 0 0) : KC l dC dI sa g yX1_reachesBy wsX1_reachesBy (rm_X1_reachesByF j d tv) [.ref h0, .ref v, .int mm, .int pl, .int wa] L f sz (fun r L' f' => (∃ z : Int32, r = some (.int z) ∧ (z = 0 ∨ z = 1)) ∧ Fr [(0, 0), (0, 1), (0, 2), (0, 3), (0, 4), (0, 5), (0, 6), (0, 7), (7, 0), (7, 1), (7, 2), (7, 3), (7, 4), (7, 5), (7, 6), (7, 7), (100, 3)] L f f' ∧ (OF 0 [tc] L f f' ∧ OF 7 [(tv 0), (tv 1), (tv 2), (tv 3), (tv 4), (tv 5)] L f f')) 0 0 := by
  refine CT.start (cc := cX1_reachesBy) (maxL := 13) (ret := (some .boolean)) (by decide) rfl (Nat.le_of_ble_eq_true rfl) ?_
  intro p e s m below meth c ls hst hP hK hD hev hS hl
  obtain ⟨hx, hb, hr, hml, hts, hown, hlocks, hin⟩ := hst
  have hown : s.vm.findClass RX1 = some m.cls := hown
  have hin : meth.name = yX1_reachesBy.name := hin
  have hA : ∀ q : Nat, s.heap.size ≤ q → va_A (va_pl L f) s.heap.size q := fun _ h => Or.inr h
  have hE : Ext L f L f := Ext.rf
  have hF : Fr [(0, 0), (0, 1), (0, 2), (0, 3), (0, 4), (0, 5), (0, 6), (0, 7), (7, 0), (7, 1), (7, 2), (7, 3), (7, 4), (7, 5), (7, 6), (7, 7), (100, 3)] L f f := Fr.rf
  have hO0 : OF 0 [tc] L f f := OF.rf
  have hO7 : OF 7 [(tv 0), (tv 1), (tv 2), (tv 3), (tv 4), (tv 5)] L f f := OF.rf
  have hl : lv_has ls 13 [(0, .ref h0), (1, .ref v), (2, .int mm), (3, .int pl), (4, .int wa)] := hl
  have hT0 := hT
  refine lv_aload_n hx hb dX1_reachesBy_0 rfl (lv_at hl 1 rfl) ?_
  refine lv_aload_n hx hb dX1_reachesBy_1 rfl (lv_at hl 0 rfl) ?_
  refine T_get (ci := 1) (C := RX1) (T := TX1) (N := 9) (t := (1, 0, 0, 0)) hx hb hts inw_X1_reachesBy_1 hown hK hP hT 0 rfl rfl 2 (by decide) (hts (.fieldLink RX1 22 "VatHouse$Planner" "trialCloth" "LVatHouse$Cloth;") (List.mem_of_getElem? (i := 1) (by exact rfl))) (fun _ h9 => h9) rfl dX1_reachesBy_2 (fun v_3 hv_1 hr_2 => ?_)
  obtain rfl : v_3 = .ref tc := hr_2.symm.trans ((hF.1 h0 (hT0.at 0 rfl).1 1 (hT0.at 0 rfl).2 2 (by decide)).trans h_tc)
  refine lv_iload_n hx hb dX1_reachesBy_5 rfl (lv_at hl 2 rfl) ?_
  refine K_V ⟨hx, hb, hml, hown, hts⟩ (t_X7_givesTo l dC dI sa hlt g _ _ v tc mm _ (hT.sub [1, 3] rfl)  ) (cwV 2 hts gX1_reachesBy_X7_givesTo rfl rfl rfl (by decide +kernel) ⟨(by first | exact Nat.le_of_ble_eq_true rfl | (simp only [rm_X7_givesTo, rm_X1_reachesByF]; omega)), (by first | exact Nat.le_of_ble_eq_true rfl | (simp only [rm_X7_givesTo, rm_X1_reachesByF]; omega))⟩) hP hD hK hS hA hev hT 1 7 rfl rfl rfl rfl hl.1 rfl (Nat.le_of_ble_eq_true rfl) dX1_reachesBy_6 ⟨(by first | exact Nat.le_of_ble_eq_true rfl | (simp only [rm_X1_reachesByF]; omega) | omega), (by first | exact Nat.le_of_ble_eq_true rfl | (simp only [rm_X1_reachesByF]; omega) | omega)⟩ (fun r L_4 f_5 H locs hw_6 hP hD hS hT hE1 => ?_)
  have hEo := hE
  have hO0 := hO0.call hE (OF.fr hw_6.2 (by decide)) (by simp)
  have hO7 := hO7.call hE (OF.fr hw_6.2 (by decide)) (by simp)
  have hF := Fr.call hF hE hw_6.2 (by decide)
  have hE := hE.tr hE1
  obtain ⟨⟨z_7, rfl⟩, hw_6⟩ := hw_6
  refine W.eq (g2 := F0 m 9 ls [.int z_7]) rfl ?_
  refine lv_istore (lv' := [(5, .int z_7), (0, .ref h0), (1, .ref v), (2, .int mm), (3, .int pl), (4, .int wa)]) hx hb dX1_reachesBy_9 hl (by decide) rfl (fun ls hl => ?_)
  refine lv_iload hx hb dX1_reachesBy_11 (lv_at hl 0 rfl) ?_
  refine lv_iconst (v := 1) hx hb dX1_reachesBy_13 (by decide) ?_
  refine lv_icmp_lt (tgt := 26) hx hb dX1_reachesBy_14 (by decide) (fun c_8 => ?_) (fun c_8 => ?_)
  · refine lv_iconst (v := 0) hx hb dX1_reachesBy_26 (by decide) ?_
    exact K_z hx hb hr rfl hlocks hP hD hK hS hT hE ⟨⟨_, rfl, Or.inl rfl⟩, hF, hO0, hO7⟩ (by first | exact Nat.le_of_ble_eq_true rfl | (simp only [rm_X1_reachesByF]; omega) | omega) (by first | exact Nat.le_of_ble_eq_true rfl | (simp only [rm_X1_reachesByF]; omega) | omega) dX1_reachesBy_27
  · refine lv_iload_n hx hb dX1_reachesBy_17 rfl (lv_at hl 4 rfl) ?_
    refine lv_if_lt (tgt := 26) hx hb dX1_reachesBy_18 (by decide) (fun c_9 => ?_) (fun c_9 => ?_)
    · refine lv_iconst (v := 0) hx hb dX1_reachesBy_26 (by decide) ?_
      exact K_z hx hb hr rfl hlocks hP hD hK hS hT hE ⟨⟨_, rfl, Or.inl rfl⟩, hF, hO0, hO7⟩ (by first | exact Nat.le_of_ble_eq_true rfl | (simp only [rm_X1_reachesByF]; omega) | omega) (by first | exact Nat.le_of_ble_eq_true rfl | (simp only [rm_X1_reachesByF]; omega) | omega) dX1_reachesBy_27
    · refine lv_iload_n hx hb dX1_reachesBy_21 rfl (lv_at hl 4 rfl) ?_
      refine lv_iconst (v := 3) hx hb dX1_reachesBy_22 (by decide) ?_
      refine lv_icmp_lt (tgt := 28) hx hb dX1_reachesBy_23 (by decide) (fun c_10 => ?_) (fun c_10 => ?_)
      · refine lv_aload_n hx hb dX1_reachesBy_28 rfl (lv_at hl 2 rfl) ?_
        refine T_get (ci := 7) (C := RX7) (T := TX7) (N := 8) (t := tI) hx hb hts inw_X1_reachesBy_7 hown hK hP hT 1 rfl rfl 1 (by decide) (hts (.fieldLink RX1 85 "VatHouse$Vat" "grains" "I") (List.mem_of_getElem? (i := 2) (by exact rfl))) (fun _ h9 => h9) rfl dX1_reachesBy_29 (fun v_13 hv_11 hr_12 => ?_)
        obtain ⟨z_14, rfl⟩ := hv_11
        refine lv_istore (lv' := [(6, .int z_14), (5, .int z_7), (0, .ref h0), (1, .ref v), (2, .int mm), (3, .int pl), (4, .int wa)]) hx hb dX1_reachesBy_32 hl (by decide) rfl (fun ls hl => ?_)
        refine lv_aload_n hx hb dX1_reachesBy_34 rfl (lv_at hl 3 rfl) ?_
        refine T_get (ci := 7) (C := RX7) (T := TX7) (N := 8) (t := tI) hx hb hts inw_X1_reachesBy_7 hown hK hP hT 1 rfl rfl 2 (by decide) (hts (.fieldLink RX1 88 "VatHouse$Vat" "food" "I") (List.mem_of_getElem? (i := 3) (by exact rfl))) (fun _ h9 => h9) rfl dX1_reachesBy_35 (fun v_17 hv_15 hr_16 => ?_)
        obtain ⟨z_18, rfl⟩ := hv_15
        refine lv_istore (lv' := [(7, .int z_18), (6, .int z_14), (5, .int z_7), (0, .ref h0), (1, .ref v), (2, .int mm), (3, .int pl), (4, .int wa)]) hx hb dX1_reachesBy_38 hl (by decide) rfl (fun ls hl => ?_)
        refine lv_aload_n hx hb dX1_reachesBy_40 rfl (lv_at hl 4 rfl) ?_
        refine T_get (ci := 7) (C := RX7) (T := TX7) (N := 8) (t := tI) hx hb hts inw_X1_reachesBy_7 hown hK hP hT 1 rfl rfl 3 (by decide) (hts (.fieldLink RX1 91 "VatHouse$Vat" "minutes" "I") (List.mem_of_getElem? (i := 4) (by exact rfl))) (fun _ h9 => h9) rfl dX1_reachesBy_41 (fun v_21 hv_19 hr_20 => ?_)
        obtain ⟨z_22, rfl⟩ := hv_19
        refine lv_istore (lv' := [(8, .int z_22), (7, .int z_18), (6, .int z_14), (5, .int z_7), (0, .ref h0), (1, .ref v), (2, .int mm), (3, .int pl), (4, .int wa)]) hx hb dX1_reachesBy_44 hl (by decide) rfl (fun ls hl => ?_)
        refine lv_aload_n hx hb dX1_reachesBy_46 rfl (lv_at hl 5 rfl) ?_
        refine T_get (ci := 7) (C := RX7) (T := TX7) (N := 8) (t := tI) hx hb hts inw_X1_reachesBy_7 hown hK hP hT 1 rfl rfl 4 (by decide) (hts (.fieldLink RX1 94 "VatHouse$Vat" "state" "I") (List.mem_of_getElem? (i := 5) (by exact rfl))) (fun _ h9 => h9) rfl dX1_reachesBy_47 (fun v_25 hv_23 hr_24 => ?_)
        obtain ⟨z_26, rfl⟩ := hv_23
        refine lv_istore (lv' := [(9, .int z_26), (8, .int z_22), (7, .int z_18), (6, .int z_14), (5, .int z_7), (0, .ref h0), (1, .ref v), (2, .int mm), (3, .int pl), (4, .int wa)]) hx hb dX1_reachesBy_50 hl (by decide) rfl (fun ls hl => ?_)
        refine lv_aload_n hx hb dX1_reachesBy_52 rfl (lv_at hl 5 rfl) ?_
        refine T_get (ci := 1) (C := RX1) (T := TX1) (N := 9) (t := (1, 0, 0, 0)) hx hb hts inw_X1_reachesBy_1 hown hK hP hT 0 rfl rfl 2 (by decide) (hts (.fieldLink RX1 22 "VatHouse$Planner" "trialCloth" "LVatHouse$Cloth;") (List.mem_of_getElem? (i := 1) (by exact rfl))) (fun _ h9 => h9) rfl dX1_reachesBy_53 (fun v_29 hv_27 hr_28 => ?_)
        obtain rfl : v_29 = .ref tc := hr_28.symm.trans ((hF.1 h0 (hT0.at 0 rfl).1 1 (hT0.at 0 rfl).2 2 (by decide)).trans h_tc)
        refine T_get (ci := 0) (C := RX0) (T := TX0) (N := 8) (t := tI) hx hb hts inw_X1_reachesBy_0 hown hK hP hT 3 rfl rfl 2 (by decide) (hts (.fieldLink RX1 70 "VatHouse$Cloth" "loose" "I") (List.mem_of_getElem? (i := 6) (by exact rfl))) (fun _ h9 => h9) rfl dX1_reachesBy_56 (fun v_32 hv_30 hr_31 => ?_)
        obtain ⟨z_33, rfl⟩ := hv_30
        refine lv_istore (lv' := [(10, .int z_33), (9, .int z_26), (8, .int z_22), (7, .int z_18), (6, .int z_14), (5, .int z_7), (0, .ref h0), (1, .ref v), (2, .int mm), (3, .int pl), (4, .int wa)]) hx hb dX1_reachesBy_59 hl (by decide) rfl (fun ls hl => ?_)
        refine lv_aload_n hx hb dX1_reachesBy_61 rfl (lv_at hl 6 rfl) ?_
        refine T_get (ci := 1) (C := RX1) (T := TX1) (N := 9) (t := (1, 0, 0, 0)) hx hb hts inw_X1_reachesBy_1 hown hK hP hT 0 rfl rfl 2 (by decide) (hts (.fieldLink RX1 22 "VatHouse$Planner" "trialCloth" "LVatHouse$Cloth;") (List.mem_of_getElem? (i := 1) (by exact rfl))) (fun _ h9 => h9) rfl dX1_reachesBy_62 (fun v_36 hv_34 hr_35 => ?_)
        obtain rfl : v_36 = .ref tc := hr_35.symm.trans ((hF.1 h0 (hT0.at 0 rfl).1 1 (hT0.at 0 rfl).2 2 (by decide)).trans h_tc)
        refine T_get (ci := 0) (C := RX0) (T := TX0) (N := 8) (t := tI) hx hb hts inw_X1_reachesBy_0 hown hK hP hT 3 rfl rfl 3 (by decide) (hts (.fieldLink RX1 97 "VatHouse$Cloth" "fast" "I") (List.mem_of_getElem? (i := 7) (by exact rfl))) (fun _ h9 => h9) rfl dX1_reachesBy_65 (fun v_39 hv_37 hr_38 => ?_)
        obtain ⟨z_40, rfl⟩ := hv_37
        refine lv_istore (lv' := [(11, .int z_40), (10, .int z_33), (9, .int z_26), (8, .int z_22), (7, .int z_18), (6, .int z_14), (5, .int z_7), (0, .ref h0), (1, .ref v), (2, .int mm), (3, .int pl), (4, .int wa)]) hx hb dX1_reachesBy_68 hl (by decide) rfl (fun ls hl => ?_)
        refine lv_aload_n hx hb dX1_reachesBy_70 rfl (lv_at hl 8 rfl) ?_
        refine lv_aload_n hx hb dX1_reachesBy_71 rfl (lv_at hl 7 rfl) ?_
        refine T_get (ci := 1) (C := RX1) (T := TX1) (N := 9) (t := (1, 0, 0, 0)) hx hb hts inw_X1_reachesBy_1 hown hK hP hT 0 rfl rfl 2 (by decide) (hts (.fieldLink RX1 22 "VatHouse$Planner" "trialCloth" "LVatHouse$Cloth;") (List.mem_of_getElem? (i := 1) (by exact rfl))) (fun _ h9 => h9) rfl dX1_reachesBy_72 (fun v_43 hv_41 hr_42 => ?_)
        obtain rfl : v_43 = .ref tc := hr_42.symm.trans ((hF.1 h0 (hT0.at 0 rfl).1 1 (hT0.at 0 rfl).2 2 (by decide)).trans h_tc)
        refine lv_iload_n hx hb dX1_reachesBy_75 rfl (lv_at hl 9 rfl) ?_
        refine lv_iload hx hb dX1_reachesBy_76 (lv_at hl 6 rfl) ?_
        refine K_V ⟨hx, hb, hml, hown, hts⟩ (t_X7_soakF l dC dI sa hlt g _ _ v tc mm z_7 _ (hT.sub [1, 3] rfl)  ) (cwV 3 hts gX1_reachesBy_X7_soak rfl rfl rfl (by decide +kernel) ⟨(by first | exact Nat.le_of_ble_eq_true rfl | (simp only [rm_X7_soakF, rm_X1_reachesByF]; omega)), (by first | exact Nat.le_of_ble_eq_true rfl | (simp only [rm_X7_soakF, rm_X1_reachesByF]; omega))⟩) hP hD hK hS hA hev hT 1 7 rfl rfl rfl rfl hl.1 rfl (Nat.le_of_ble_eq_true rfl) dX1_reachesBy_78 ⟨(by first | exact Nat.le_of_ble_eq_true rfl | (simp only [rm_X1_reachesByF]; omega) | omega), (by first | exact Nat.le_of_ble_eq_true rfl | (simp only [rm_X1_reachesByF]; omega) | omega)⟩ (fun r L_44 f_45 H locs hw_46 hP hD hS hT hE1 => ?_)
        have hEo := hE
        have hF := Fr.call hF hE hw_46.2.1 (by decide)
        have hE := hE.tr hE1
        obtain ⟨rfl, hw_46⟩ := hw_46
        obtain ⟨hfr_47, hex_48⟩ := hw_46
        obtain ⟨hof_49, hof_50⟩ := hex_48
        have hO0 := hO0.call hEo hof_49 (by simp)
        have hO7 := hO7.call hEo hof_50 (fun a9 h9 => by rw [List.mem_singleton.mp h9]; exact hvm)
        refine W.eq (g2 := F0 m 81 ls []) rfl ?_
        refine lv_aload_n hx hb dX1_reachesBy_81 rfl (lv_at hl 7 rfl) ?_
        refine T_get (ci := 1) (C := RX1) (T := TX1) (N := 9) (t := (1, 0, 0, 0)) hx hb hts inw_X1_reachesBy_1 hown hK hP hT 0 rfl rfl 2 (by decide) (hts (.fieldLink RX1 22 "VatHouse$Planner" "trialCloth" "LVatHouse$Cloth;") (List.mem_of_getElem? (i := 1) (by exact rfl))) (fun _ h9 => h9) rfl dX1_reachesBy_82 (fun v_54 hv_52 hr_53 => ?_)
        obtain rfl : v_54 = .ref tc := hr_53.symm.trans ((hF.1 h0 (hT0.at 0 rfl).1 1 (hT0.at 0 rfl).2 2 (by decide)).trans h_tc)
        refine K_V ⟨hx, hb, hml, hown, hts⟩ (t_X0_loseByAirF l dC dI sa hlt g _ _ tc _ (hT.sub [3] rfl)  ) (cwV 0 hts gX1_reachesBy_X0_loseByAir rfl rfl rfl (by decide +kernel) ⟨(by first | exact Nat.le_of_ble_eq_true rfl | (simp only [rm_X0_loseByAirF, rm_X1_reachesByF]; omega)), (by first | exact Nat.le_of_ble_eq_true rfl | (simp only [rm_X0_loseByAirF, rm_X1_reachesByF]; omega))⟩) hP hD hK hS hA hev hT 3 0 rfl rfl rfl rfl hl.1 rfl (Nat.le_of_ble_eq_true rfl) dX1_reachesBy_85 ⟨(by first | exact Nat.le_of_ble_eq_true rfl | (simp only [rm_X1_reachesByF]; omega) | omega), (by first | exact Nat.le_of_ble_eq_true rfl | (simp only [rm_X1_reachesByF]; omega) | omega)⟩ (fun r L_55 f_56 H locs hw_57 hP hD hS hT hE1 => ?_)
        have hEo := hE
        have hO7 := hO7.call hE (OF.fr hw_57.2.1 (by decide)) (by simp)
        have hF := Fr.call hF hE hw_57.2.1 (by decide)
        have hE := hE.tr hE1
        obtain ⟨⟨z_58, rfl⟩, hw_57⟩ := hw_57
        obtain ⟨hfr_59, hex_60⟩ := hw_57
        have hO0 := hO0.call hEo hex_60 (by simp)
        refine W.eq (g2 := F0 m 88 ls [.int z_58]) rfl ?_
        refine lv_pop hx hb dX1_reachesBy_88 rfl ?_
        refine lv_aload_n hx hb dX1_reachesBy_89 rfl (lv_at hl 7 rfl) ?_
        refine T_get (ci := 1) (C := RX1) (T := TX1) (N := 9) (t := (1, 1, g 7, 3)) hx hb hts inw_X1_reachesBy_1 hown hK hP hT 0 rfl rfl 6 (by decide) (hts (.fieldLink RX1 26 "VatHouse$Planner" "keptVats" "[I") (List.mem_of_getElem? (i := 8) (by exact rfl))) (fun _ h9 => h9) rfl dX1_reachesBy_90 (fun v_65 hv_63 hr_64 => ?_)
        obtain ⟨b_66, rfl, hb9⟩ := hv_63
        have hT := hT.add hb9
        refine lv_iload_n hx hb dX1_reachesBy_93 rfl (lv_at hl 10 rfl) ?_
        refine lv_aload_n hx hb dX1_reachesBy_94 rfl (lv_at hl 8 rfl) ?_
        refine T_get (ci := 7) (C := RX7) (T := TX7) (N := 8) (t := tI) hx hb hts inw_X1_reachesBy_7 hown hK hP hT 2 rfl rfl 0 (by decide) (hts (.fieldLink RX1 107 "VatHouse$Vat" "number" "I") (List.mem_of_getElem? (i := 9) (by exact rfl))) (fun _ h9 => h9) rfl dX1_reachesBy_95 (fun v_69 hv_67 hr_68 => ?_)
        obtain ⟨z_70, rfl⟩ := hv_67
        refine T_iast hx hb hK hP hD hS hT 0 7 rfl rfl (vin 3 (by decide) rfl (by assumption) (lt_nle (by assumption))) dX1_reachesBy_98 (fun f_71 H locs hP hD hS hT hE1 hrd_72 hup_73 hia_74 => ?_)
        have hO0 := hO0.arr hrd_72
        have hO7 := hO7.arr hrd_72
        have hF := Fr.arr (a := b_66) hF hE ((hE1 b_66 (hT.at 0 rfl).1).2.symm.trans (hT.at 0 rfl).2) (by decide) hrd_72 hup_73
        have hE := hE.tr hE1
        refine lv_aload_n hx hb dX1_reachesBy_99 rfl (lv_at hl 7 rfl) ?_
        refine T_get (ci := 1) (C := RX1) (T := TX1) (N := 9) (t := (1, 1, g 8, 3)) hx hb hts inw_X1_reachesBy_1 hown hK hP hT 1 rfl rfl 7 (by decide) (hts (.fieldLink RX1 30 "VatHouse$Planner" "keptMinutes" "[I") (List.mem_of_getElem? (i := 10) (by exact rfl))) (fun _ h9 => h9) rfl dX1_reachesBy_100 (fun v_77 hv_75 hr_76 => ?_)
        obtain ⟨b_78, rfl, hb9⟩ := hv_75
        have hT := hT.add hb9
        refine lv_iload_n hx hb dX1_reachesBy_103 rfl (lv_at hl 10 rfl) ?_
        refine lv_iload_n hx hb dX1_reachesBy_104 rfl (lv_at hl 9 rfl) ?_
        refine T_iast hx hb hK hP hD hS hT 0 8 rfl rfl (vin 3 (by decide) rfl (by assumption) (lt_nle (by assumption))) dX1_reachesBy_105 (fun f_79 H locs hP hD hS hT hE1 hrd_80 hup_81 hia_82 => ?_)
        have hO0 := hO0.arr hrd_80
        have hO7 := hO7.arr hrd_80
        have hF := Fr.arr (a := b_78) hF hE ((hE1 b_78 (hT.at 0 rfl).1).2.symm.trans (hT.at 0 rfl).2) (by decide) hrd_80 hup_81
        have hE := hE.tr hE1
        refine lv_aload_n hx hb dX1_reachesBy_106 rfl (lv_at hl 7 rfl) ?_
        refine T_get (ci := 1) (C := RX1) (T := TX1) (N := 9) (t := (1, 1, g 9, 3)) hx hb hts inw_X1_reachesBy_1 hown hK hP hT 2 rfl rfl 8 (by decide) (hts (.fieldLink RX1 33 "VatHouse$Planner" "keptShades" "[I") (List.mem_of_getElem? (i := 11) (by exact rfl))) (fun _ h9 => h9) rfl dX1_reachesBy_107 (fun v_85 hv_83 hr_84 => ?_)
        obtain ⟨b_86, rfl, hb9⟩ := hv_83
        have hT := hT.add hb9
        refine lv_iload_n hx hb dX1_reachesBy_110 rfl (lv_at hl 10 rfl) ?_
        refine lv_aload_n hx hb dX1_reachesBy_111 rfl (lv_at hl 7 rfl) ?_
        refine T_get (ci := 1) (C := RX1) (T := TX1) (N := 9) (t := (1, 0, 0, 0)) hx hb hts inw_X1_reachesBy_1 hown hK hP hT 3 rfl rfl 2 (by decide) (hts (.fieldLink RX1 22 "VatHouse$Planner" "trialCloth" "LVatHouse$Cloth;") (List.mem_of_getElem? (i := 1) (by exact rfl))) (fun _ h9 => h9) rfl dX1_reachesBy_112 (fun v_89 hv_87 hr_88 => ?_)
        obtain rfl : v_89 = .ref tc := hr_88.symm.trans ((hF.1 h0 (hT0.at 0 rfl).1 1 (hT0.at 0 rfl).2 2 (by decide)).trans h_tc)
        refine K_V ⟨hx, hb, hml, hown, hts⟩ (t_X0_shade l dC dI sa hlt g _ _ tc _ (hT.sub [6] rfl)  ) (cwV 0 hts gX1_reachesBy_X0_shade rfl rfl rfl (by decide +kernel) ⟨(by first | exact Nat.le_of_ble_eq_true rfl | (simp only [rm_X0_shade, rm_X1_reachesByF]; omega)), (by first | exact Nat.le_of_ble_eq_true rfl | (simp only [rm_X0_shade, rm_X1_reachesByF]; omega))⟩) hP hD hK hS hA hev hT 6 0 rfl rfl rfl rfl hl.1 rfl (Nat.le_of_ble_eq_true rfl) dX1_reachesBy_115 ⟨(by first | exact Nat.le_of_ble_eq_true rfl | (simp only [rm_X1_reachesByF]; omega) | omega), (by first | exact Nat.le_of_ble_eq_true rfl | (simp only [rm_X1_reachesByF]; omega) | omega)⟩ (fun r L_90 f_91 H locs hw_92 hP hD hS hT hE1 => ?_)
        have hEo := hE
        have hO0 := hO0.call hE (OF.fr hw_92.2 (by decide)) (by simp)
        have hO7 := hO7.call hE (OF.fr hw_92.2 (by decide)) (by simp)
        have hF := Fr.call hF hE hw_92.2 (by decide)
        have hE := hE.tr hE1
        obtain ⟨⟨z_93, rfl⟩, hw_92⟩ := hw_92
        refine W.eq (g2 := F0 m 118 ls [.int z_93, .int pl, .ref b_86]) rfl ?_
        refine T_iast hx hb hK hP hD hS hT 0 9 rfl rfl (vin 3 (by decide) rfl (by assumption) (lt_nle (by assumption))) dX1_reachesBy_118 (fun f_94 H locs hP hD hS hT hE1 hrd_95 hup_96 hia_97 => ?_)
        have hO0 := hO0.arr hrd_95
        have hO7 := hO7.arr hrd_95
        have hF := Fr.arr (a := b_86) hF hE ((hE1 b_86 (hT.at 0 rfl).1).2.symm.trans (hT.at 0 rfl).2) (by decide) hrd_95 hup_96
        have hE := hE.tr hE1
        refine lv_aload_n hx hb dX1_reachesBy_119 rfl (lv_at hl 7 rfl) ?_
        refine T_get (ci := 1) (C := RX1) (T := TX1) (N := 9) (t := (1, 1, g 9, 3)) hx hb hts inw_X1_reachesBy_1 hown hK hP hT 3 rfl rfl 8 (by decide) (hts (.fieldLink RX1 33 "VatHouse$Planner" "keptShades" "[I") (List.mem_of_getElem? (i := 11) (by exact rfl))) (fun _ h9 => h9) rfl dX1_reachesBy_120 (fun v_100 hv_98 hr_99 => ?_)
        obtain ⟨b_101, rfl, hb9⟩ := hv_98
        have hT := hT.add hb9
        refine lv_iload_n hx hb dX1_reachesBy_123 rfl (lv_at hl 10 rfl) ?_
        refine T_iald hx hb hK hP hT 0 9 rfl rfl (vin 3 (by decide) rfl (by assumption) (lt_nle (by assumption))) dX1_reachesBy_124 (fun z_102 ez_102 => ?_)
        refine lv_aload_n hx hb dX1_reachesBy_125 rfl (lv_at hl 7 rfl) ?_
        refine T_get (ci := 1) (C := RX1) (T := TX1) (N := 9) (t := tI) hx hb hts inw_X1_reachesBy_1 hown hK hP hT 4 rfl rfl 4 (by decide) (hts (.fieldLink RX1 47 "VatHouse$Planner" "high" "I") (List.mem_of_getElem? (i := 12) (by exact rfl))) (fun _ h9 => h9) rfl dX1_reachesBy_126 (fun v_105 hv_103 hr_104 => ?_)
        obtain ⟨z_106, rfl⟩ := hv_103
        refine lv_icmp_gt (tgt := 148) hx hb dX1_reachesBy_129 (by decide) (fun c_107 => ?_) (fun c_107 => ?_)
        · refine lv_iconst (v := 0) hx hb dX1_reachesBy_148 (by decide) ?_
          refine lv_istore (lv' := [(12, .int 0), (11, .int z_40), (10, .int z_33), (9, .int z_26), (8, .int z_22), (7, .int z_18), (6, .int z_14), (5, .int z_7), (0, .ref h0), (1, .ref v), (2, .int mm), (3, .int pl), (4, .int wa)]) hx hb dX1_reachesBy_149 hl (by decide) rfl (fun ls hl => ?_)
          refine lv_aload_n hx hb dX1_reachesBy_151 rfl (lv_at hl 9 rfl) ?_
          refine lv_iload hx hb dX1_reachesBy_152 (lv_at hl 6 rfl) ?_
          refine T_put (ci := 7) (v := .int z_14) (ty := .int) (t := tI) (C := RX7) (T := TX7) (N := 8) hx hb hts inw_X1_reachesBy_7 tyX7 tyX7_ok nmX7 hown hK hP hD hS hT 5 rfl rfl 1 (by decide) (hts (.fieldLink RX1 85 "VatHouse$Vat" "grains" "I") (List.mem_of_getElem? (i := 2) (by exact rfl))) (fun _ h9 => h9) rfl (tyX7_ok 1 (by decide)) rfl rfl rfl ⟨_, rfl⟩ dX1_reachesBy_154 (fun f_108 H locs hP hD hS hT hE1 hrd_109 hup_110 => ?_)
          have hO0 := OF.putN (a := v) (cj := 7) hO0 hE ((hE1 v (hT.at 5 rfl).1).2.symm.trans (hT.at 5 rfl).2) (by decide) hrd_109
          have hO7 := hO7.put hrd_109 hvm
          have hF := Fr.put (a := v) (ci := 7) hF hE ((hE1 v (hT.at 5 rfl).1).2.symm.trans (hT.at 5 rfl).2) (by decide) hrd_109 hup_110
          have hE := hE.tr hE1
          refine lv_aload_n hx hb dX1_reachesBy_157 rfl (lv_at hl 9 rfl) ?_
          refine lv_iload hx hb dX1_reachesBy_158 (lv_at hl 5 rfl) ?_
          refine T_put (ci := 7) (v := .int z_18) (ty := .int) (t := tI) (C := RX7) (T := TX7) (N := 8) hx hb hts inw_X1_reachesBy_7 tyX7 tyX7_ok nmX7 hown hK hP hD hS hT 5 rfl rfl 2 (by decide) (hts (.fieldLink RX1 88 "VatHouse$Vat" "food" "I") (List.mem_of_getElem? (i := 3) (by exact rfl))) (fun _ h9 => h9) rfl (tyX7_ok 2 (by decide)) rfl rfl rfl ⟨_, rfl⟩ dX1_reachesBy_160 (fun f_111 H locs hP hD hS hT hE1 hrd_112 hup_113 => ?_)
          have hO0 := OF.putN (a := v) (cj := 7) hO0 hE ((hE1 v (hT.at 5 rfl).1).2.symm.trans (hT.at 5 rfl).2) (by decide) hrd_112
          have hO7 := hO7.put hrd_112 hvm
          have hF := Fr.put (a := v) (ci := 7) hF hE ((hE1 v (hT.at 5 rfl).1).2.symm.trans (hT.at 5 rfl).2) (by decide) hrd_112 hup_113
          have hE := hE.tr hE1
          refine lv_aload_n hx hb dX1_reachesBy_163 rfl (lv_at hl 9 rfl) ?_
          refine lv_iload hx hb dX1_reachesBy_164 (lv_at hl 4 rfl) ?_
          refine T_put (ci := 7) (v := .int z_22) (ty := .int) (t := tI) (C := RX7) (T := TX7) (N := 8) hx hb hts inw_X1_reachesBy_7 tyX7 tyX7_ok nmX7 hown hK hP hD hS hT 5 rfl rfl 3 (by decide) (hts (.fieldLink RX1 91 "VatHouse$Vat" "minutes" "I") (List.mem_of_getElem? (i := 4) (by exact rfl))) (fun _ h9 => h9) rfl (tyX7_ok 3 (by decide)) rfl rfl rfl ⟨_, rfl⟩ dX1_reachesBy_166 (fun f_114 H locs hP hD hS hT hE1 hrd_115 hup_116 => ?_)
          have hO0 := OF.putN (a := v) (cj := 7) hO0 hE ((hE1 v (hT.at 5 rfl).1).2.symm.trans (hT.at 5 rfl).2) (by decide) hrd_115
          have hO7 := hO7.put hrd_115 hvm
          have hF := Fr.put (a := v) (ci := 7) hF hE ((hE1 v (hT.at 5 rfl).1).2.symm.trans (hT.at 5 rfl).2) (by decide) hrd_115 hup_116
          have hE := hE.tr hE1
          refine lv_aload_n hx hb dX1_reachesBy_169 rfl (lv_at hl 9 rfl) ?_
          refine lv_iload hx hb dX1_reachesBy_170 (lv_at hl 3 rfl) ?_
          refine T_put (ci := 7) (v := .int z_26) (ty := .int) (t := tI) (C := RX7) (T := TX7) (N := 8) hx hb hts inw_X1_reachesBy_7 tyX7 tyX7_ok nmX7 hown hK hP hD hS hT 5 rfl rfl 4 (by decide) (hts (.fieldLink RX1 94 "VatHouse$Vat" "state" "I") (List.mem_of_getElem? (i := 5) (by exact rfl))) (fun _ h9 => h9) rfl (tyX7_ok 4 (by decide)) rfl rfl rfl ⟨_, rfl⟩ dX1_reachesBy_172 (fun f_117 H locs hP hD hS hT hE1 hrd_118 hup_119 => ?_)
          have hO0 := OF.putN (a := v) (cj := 7) hO0 hE ((hE1 v (hT.at 5 rfl).1).2.symm.trans (hT.at 5 rfl).2) (by decide) hrd_118
          have hO7 := hO7.put hrd_118 hvm
          have hF := Fr.put (a := v) (ci := 7) hF hE ((hE1 v (hT.at 5 rfl).1).2.symm.trans (hT.at 5 rfl).2) (by decide) hrd_118 hup_119
          have hE := hE.tr hE1
          refine lv_aload_n hx hb dX1_reachesBy_175 rfl (lv_at hl 8 rfl) ?_
          refine T_get (ci := 1) (C := RX1) (T := TX1) (N := 9) (t := (1, 0, 0, 0)) hx hb hts inw_X1_reachesBy_1 hown hK hP hT 4 rfl rfl 2 (by decide) (hts (.fieldLink RX1 22 "VatHouse$Planner" "trialCloth" "LVatHouse$Cloth;") (List.mem_of_getElem? (i := 1) (by exact rfl))) (fun _ h9 => h9) rfl dX1_reachesBy_176 (fun v_122 hv_120 hr_121 => ?_)
          obtain rfl : v_122 = .ref tc := hr_121.symm.trans ((hF.1 h0 (hT0.at 0 rfl).1 1 (hT0.at 0 rfl).2 2 (by decide)).trans h_tc)
          refine lv_iload hx hb dX1_reachesBy_179 (lv_at hl 2 rfl) ?_
          refine T_put (ci := 0) (v := .int z_33) (ty := .int) (t := tI) (C := RX0) (T := TX0) (N := 8) hx hb hts inw_X1_reachesBy_0 tyX0 tyX0_ok nmX0 hown hK hP hD hS hT 7 rfl rfl 2 (by decide) (hts (.fieldLink RX1 70 "VatHouse$Cloth" "loose" "I") (List.mem_of_getElem? (i := 6) (by exact rfl))) (fun _ h9 => h9) rfl (tyX0_ok 2 (by decide)) rfl rfl rfl ⟨_, rfl⟩ dX1_reachesBy_181 (fun f_123 H locs hP hD hS hT hE1 hrd_124 hup_125 => ?_)
          have hO0 := hO0.put hrd_124 (by simp)
          have hO7 := OF.putN (a := tc) (cj := 0) hO7 hE ((hE1 tc (hT.at 7 rfl).1).2.symm.trans (hT.at 7 rfl).2) (by decide) hrd_124
          have hF := Fr.put (a := tc) (ci := 0) hF hE ((hE1 tc (hT.at 7 rfl).1).2.symm.trans (hT.at 7 rfl).2) (by decide) hrd_124 hup_125
          have hE := hE.tr hE1
          refine lv_aload_n hx hb dX1_reachesBy_184 rfl (lv_at hl 8 rfl) ?_
          refine T_get (ci := 1) (C := RX1) (T := TX1) (N := 9) (t := (1, 0, 0, 0)) hx hb hts inw_X1_reachesBy_1 hown hK hP hT 4 rfl rfl 2 (by decide) (hts (.fieldLink RX1 22 "VatHouse$Planner" "trialCloth" "LVatHouse$Cloth;") (List.mem_of_getElem? (i := 1) (by exact rfl))) (fun _ h9 => h9) rfl dX1_reachesBy_185 (fun v_128 hv_126 hr_127 => ?_)
          obtain rfl : v_128 = .ref tc := hr_127.symm.trans ((hF.1 h0 (hT0.at 0 rfl).1 1 (hT0.at 0 rfl).2 2 (by decide)).trans h_tc)
          refine lv_iload hx hb dX1_reachesBy_188 (lv_at hl 1 rfl) ?_
          refine T_put (ci := 0) (v := .int z_40) (ty := .int) (t := tI) (C := RX0) (T := TX0) (N := 8) hx hb hts inw_X1_reachesBy_0 tyX0 tyX0_ok nmX0 hown hK hP hD hS hT 7 rfl rfl 3 (by decide) (hts (.fieldLink RX1 97 "VatHouse$Cloth" "fast" "I") (List.mem_of_getElem? (i := 7) (by exact rfl))) (fun _ h9 => h9) rfl (tyX0_ok 3 (by decide)) rfl rfl rfl ⟨_, rfl⟩ dX1_reachesBy_190 (fun f_129 H locs hP hD hS hT hE1 hrd_130 hup_131 => ?_)
          have hO0 := hO0.put hrd_130 (by simp)
          have hO7 := OF.putN (a := tc) (cj := 0) hO7 hE ((hE1 tc (hT.at 7 rfl).1).2.symm.trans (hT.at 7 rfl).2) (by decide) hrd_130
          have hF := Fr.put (a := tc) (ci := 0) hF hE ((hE1 tc (hT.at 7 rfl).1).2.symm.trans (hT.at 7 rfl).2) (by decide) hrd_130 hup_131
          have hE := hE.tr hE1
          refine lv_iload hx hb dX1_reachesBy_193 (lv_at hl 0 rfl) ?_
          exact K_z hx hb hr rfl hlocks hP hD hK hS hT hE ⟨⟨_, rfl, Or.inl rfl⟩, hF, hO0, hO7⟩ (by first | exact Nat.le_of_ble_eq_true rfl | (simp only [rm_X1_reachesByF]; omega) | omega) (by first | exact Nat.le_of_ble_eq_true rfl | (simp only [rm_X1_reachesByF]; omega) | omega) dX1_reachesBy_195
        · refine lv_aload_n hx hb dX1_reachesBy_132 rfl (lv_at hl 7 rfl) ?_
          refine lv_iload_n hx hb dX1_reachesBy_133 rfl (lv_at hl 10 rfl) ?_
          refine lv_iconst (v := 1) hx hb dX1_reachesBy_134 (by decide) ?_
          refine lv_iadd hx hb dX1_reachesBy_135 ?_
          refine lv_topi (fun z_132 ez_132 => ?_)
          refine lv_iload hx hb dX1_reachesBy_136 (lv_at hl 11 rfl) ?_
          obtain ⟨j1, hj_133⟩ : ∃ j1, j = j1 + 1 := ⟨j - 1, by have := lv3 hd (by assumption) (by omega); omega⟩
          refine K_V ⟨hx, hb, hml, hown, hts⟩ (IHR j1 (d + 1) (by omega) hj_133 _ _ tv h0 z_132 wa tvr tc _ (hT.sub [4, 6, 7] rfl)  ((hF.1 h0 (hT0.at 0 rfl).1 1 (hT0.at 0 rfl).2 1 (by decide)).trans h_tvr) ((hF.1 h0 (hT0.at 0 rfl).1 1 (hT0.at 0 rfl).2 2 (by decide)).trans h_tc) (by rw [ez_132, hd]; exact nI_1 d) (fun k9 h9 => by rw [ra_eq (hF.2 tvr (hT0.at 2 rfl).1 1 _ _ (hT0.at 2 rfl).2 (by decide))]; exact hTV k9 h9)) (cwV 2 hts gX1_reachesBy_X1_reaches rfl rfl rfl (by decide +kernel) ⟨(by first | exact Nat.le_of_ble_eq_true rfl | (simp only [rm_X1_reachesF, rm_X1_reachesByF]; omega)), (by first | exact Nat.le_of_ble_eq_true rfl | (simp only [rm_X1_reachesF, rm_X1_reachesByF]; omega))⟩) hP hD hK hS hA hev hT 4 1 rfl rfl rfl rfl hl.1 rfl (Nat.le_of_ble_eq_true rfl) dX1_reachesBy_138 ⟨(by first | exact Nat.le_of_ble_eq_true rfl | (simp only [rm_X1_reachesByF]; omega) | omega), (by first | exact Nat.le_of_ble_eq_true rfl | (simp only [rm_X1_reachesByF]; omega) | omega)⟩ (fun r L_134 f_135 H locs hw_136 hP hD hS hT hE1 => ?_)
          have hEo := hE
          have hF := Fr.call hF hE hw_136.2.1 (by decide)
          have hE := hE.tr hE1
          obtain ⟨⟨z_137, rfl, hz_z_137⟩, hw_136⟩ := hw_136
          obtain ⟨hfr_138, hex_139⟩ := hw_136
          obtain ⟨hof_140, hof_141⟩ := hex_139
          have hO0 := hO0.call hEo hof_140 (fun _ h9 => h9)
          have hO7 := hO7.call hEo hof_141 (fun _ h9 => h9)
          refine W.eq (g2 := F0 m 141 ls [.int z_137]) rfl ?_
          refine lv_if_eq (tgt := 148) hx hb dX1_reachesBy_141 (by decide) (fun c_143 => ?_) (fun c_143 => ?_)
          · refine lv_iconst (v := 0) hx hb dX1_reachesBy_148 (by decide) ?_
            refine lv_istore (lv' := [(12, .int 0), (11, .int z_40), (10, .int z_33), (9, .int z_26), (8, .int z_22), (7, .int z_18), (6, .int z_14), (5, .int z_7), (0, .ref h0), (1, .ref v), (2, .int mm), (3, .int pl), (4, .int wa)]) hx hb dX1_reachesBy_149 hl (by decide) rfl (fun ls hl => ?_)
            refine lv_aload_n hx hb dX1_reachesBy_151 rfl (lv_at hl 9 rfl) ?_
            refine lv_iload hx hb dX1_reachesBy_152 (lv_at hl 6 rfl) ?_
            refine T_put (ci := 7) (v := .int z_14) (ty := .int) (t := tI) (C := RX7) (T := TX7) (N := 8) hx hb hts inw_X1_reachesBy_7 tyX7 tyX7_ok nmX7 hown hK hP hD hS hT 5 rfl rfl 1 (by decide) (hts (.fieldLink RX1 85 "VatHouse$Vat" "grains" "I") (List.mem_of_getElem? (i := 2) (by exact rfl))) (fun _ h9 => h9) rfl (tyX7_ok 1 (by decide)) rfl rfl rfl ⟨_, rfl⟩ dX1_reachesBy_154 (fun f_144 H locs hP hD hS hT hE1 hrd_145 hup_146 => ?_)
            have hO0 := OF.putN (a := v) (cj := 7) hO0 hE ((hE1 v (hT.at 5 rfl).1).2.symm.trans (hT.at 5 rfl).2) (by decide) hrd_145
            have hO7 := hO7.put hrd_145 hvm
            have hF := Fr.put (a := v) (ci := 7) hF hE ((hE1 v (hT.at 5 rfl).1).2.symm.trans (hT.at 5 rfl).2) (by decide) hrd_145 hup_146
            have hE := hE.tr hE1
            refine lv_aload_n hx hb dX1_reachesBy_157 rfl (lv_at hl 9 rfl) ?_
            refine lv_iload hx hb dX1_reachesBy_158 (lv_at hl 5 rfl) ?_
            refine T_put (ci := 7) (v := .int z_18) (ty := .int) (t := tI) (C := RX7) (T := TX7) (N := 8) hx hb hts inw_X1_reachesBy_7 tyX7 tyX7_ok nmX7 hown hK hP hD hS hT 5 rfl rfl 2 (by decide) (hts (.fieldLink RX1 88 "VatHouse$Vat" "food" "I") (List.mem_of_getElem? (i := 3) (by exact rfl))) (fun _ h9 => h9) rfl (tyX7_ok 2 (by decide)) rfl rfl rfl ⟨_, rfl⟩ dX1_reachesBy_160 (fun f_147 H locs hP hD hS hT hE1 hrd_148 hup_149 => ?_)
            have hO0 := OF.putN (a := v) (cj := 7) hO0 hE ((hE1 v (hT.at 5 rfl).1).2.symm.trans (hT.at 5 rfl).2) (by decide) hrd_148
            have hO7 := hO7.put hrd_148 hvm
            have hF := Fr.put (a := v) (ci := 7) hF hE ((hE1 v (hT.at 5 rfl).1).2.symm.trans (hT.at 5 rfl).2) (by decide) hrd_148 hup_149
            have hE := hE.tr hE1
            refine lv_aload_n hx hb dX1_reachesBy_163 rfl (lv_at hl 9 rfl) ?_
            refine lv_iload hx hb dX1_reachesBy_164 (lv_at hl 4 rfl) ?_
            refine T_put (ci := 7) (v := .int z_22) (ty := .int) (t := tI) (C := RX7) (T := TX7) (N := 8) hx hb hts inw_X1_reachesBy_7 tyX7 tyX7_ok nmX7 hown hK hP hD hS hT 5 rfl rfl 3 (by decide) (hts (.fieldLink RX1 91 "VatHouse$Vat" "minutes" "I") (List.mem_of_getElem? (i := 4) (by exact rfl))) (fun _ h9 => h9) rfl (tyX7_ok 3 (by decide)) rfl rfl rfl ⟨_, rfl⟩ dX1_reachesBy_166 (fun f_150 H locs hP hD hS hT hE1 hrd_151 hup_152 => ?_)
            have hO0 := OF.putN (a := v) (cj := 7) hO0 hE ((hE1 v (hT.at 5 rfl).1).2.symm.trans (hT.at 5 rfl).2) (by decide) hrd_151
            have hO7 := hO7.put hrd_151 hvm
            have hF := Fr.put (a := v) (ci := 7) hF hE ((hE1 v (hT.at 5 rfl).1).2.symm.trans (hT.at 5 rfl).2) (by decide) hrd_151 hup_152
            have hE := hE.tr hE1
            refine lv_aload_n hx hb dX1_reachesBy_169 rfl (lv_at hl 9 rfl) ?_
            refine lv_iload hx hb dX1_reachesBy_170 (lv_at hl 3 rfl) ?_
            refine T_put (ci := 7) (v := .int z_26) (ty := .int) (t := tI) (C := RX7) (T := TX7) (N := 8) hx hb hts inw_X1_reachesBy_7 tyX7 tyX7_ok nmX7 hown hK hP hD hS hT 5 rfl rfl 4 (by decide) (hts (.fieldLink RX1 94 "VatHouse$Vat" "state" "I") (List.mem_of_getElem? (i := 5) (by exact rfl))) (fun _ h9 => h9) rfl (tyX7_ok 4 (by decide)) rfl rfl rfl ⟨_, rfl⟩ dX1_reachesBy_172 (fun f_153 H locs hP hD hS hT hE1 hrd_154 hup_155 => ?_)
            have hO0 := OF.putN (a := v) (cj := 7) hO0 hE ((hE1 v (hT.at 5 rfl).1).2.symm.trans (hT.at 5 rfl).2) (by decide) hrd_154
            have hO7 := hO7.put hrd_154 hvm
            have hF := Fr.put (a := v) (ci := 7) hF hE ((hE1 v (hT.at 5 rfl).1).2.symm.trans (hT.at 5 rfl).2) (by decide) hrd_154 hup_155
            have hE := hE.tr hE1
            refine lv_aload_n hx hb dX1_reachesBy_175 rfl (lv_at hl 8 rfl) ?_
            refine T_get (ci := 1) (C := RX1) (T := TX1) (N := 9) (t := (1, 0, 0, 0)) hx hb hts inw_X1_reachesBy_1 hown hK hP hT 4 rfl rfl 2 (by decide) (hts (.fieldLink RX1 22 "VatHouse$Planner" "trialCloth" "LVatHouse$Cloth;") (List.mem_of_getElem? (i := 1) (by exact rfl))) (fun _ h9 => h9) rfl dX1_reachesBy_176 (fun v_158 hv_156 hr_157 => ?_)
            obtain rfl : v_158 = .ref tc := hr_157.symm.trans ((hF.1 h0 (hT0.at 0 rfl).1 1 (hT0.at 0 rfl).2 2 (by decide)).trans h_tc)
            refine lv_iload hx hb dX1_reachesBy_179 (lv_at hl 2 rfl) ?_
            refine T_put (ci := 0) (v := .int z_33) (ty := .int) (t := tI) (C := RX0) (T := TX0) (N := 8) hx hb hts inw_X1_reachesBy_0 tyX0 tyX0_ok nmX0 hown hK hP hD hS hT 7 rfl rfl 2 (by decide) (hts (.fieldLink RX1 70 "VatHouse$Cloth" "loose" "I") (List.mem_of_getElem? (i := 6) (by exact rfl))) (fun _ h9 => h9) rfl (tyX0_ok 2 (by decide)) rfl rfl rfl ⟨_, rfl⟩ dX1_reachesBy_181 (fun f_159 H locs hP hD hS hT hE1 hrd_160 hup_161 => ?_)
            have hO0 := hO0.put hrd_160 (by simp)
            have hO7 := OF.putN (a := tc) (cj := 0) hO7 hE ((hE1 tc (hT.at 7 rfl).1).2.symm.trans (hT.at 7 rfl).2) (by decide) hrd_160
            have hF := Fr.put (a := tc) (ci := 0) hF hE ((hE1 tc (hT.at 7 rfl).1).2.symm.trans (hT.at 7 rfl).2) (by decide) hrd_160 hup_161
            have hE := hE.tr hE1
            refine lv_aload_n hx hb dX1_reachesBy_184 rfl (lv_at hl 8 rfl) ?_
            refine T_get (ci := 1) (C := RX1) (T := TX1) (N := 9) (t := (1, 0, 0, 0)) hx hb hts inw_X1_reachesBy_1 hown hK hP hT 4 rfl rfl 2 (by decide) (hts (.fieldLink RX1 22 "VatHouse$Planner" "trialCloth" "LVatHouse$Cloth;") (List.mem_of_getElem? (i := 1) (by exact rfl))) (fun _ h9 => h9) rfl dX1_reachesBy_185 (fun v_164 hv_162 hr_163 => ?_)
            obtain rfl : v_164 = .ref tc := hr_163.symm.trans ((hF.1 h0 (hT0.at 0 rfl).1 1 (hT0.at 0 rfl).2 2 (by decide)).trans h_tc)
            refine lv_iload hx hb dX1_reachesBy_188 (lv_at hl 1 rfl) ?_
            refine T_put (ci := 0) (v := .int z_40) (ty := .int) (t := tI) (C := RX0) (T := TX0) (N := 8) hx hb hts inw_X1_reachesBy_0 tyX0 tyX0_ok nmX0 hown hK hP hD hS hT 7 rfl rfl 3 (by decide) (hts (.fieldLink RX1 97 "VatHouse$Cloth" "fast" "I") (List.mem_of_getElem? (i := 7) (by exact rfl))) (fun _ h9 => h9) rfl (tyX0_ok 3 (by decide)) rfl rfl rfl ⟨_, rfl⟩ dX1_reachesBy_190 (fun f_165 H locs hP hD hS hT hE1 hrd_166 hup_167 => ?_)
            have hO0 := hO0.put hrd_166 (by simp)
            have hO7 := OF.putN (a := tc) (cj := 0) hO7 hE ((hE1 tc (hT.at 7 rfl).1).2.symm.trans (hT.at 7 rfl).2) (by decide) hrd_166
            have hF := Fr.put (a := tc) (ci := 0) hF hE ((hE1 tc (hT.at 7 rfl).1).2.symm.trans (hT.at 7 rfl).2) (by decide) hrd_166 hup_167
            have hE := hE.tr hE1
            refine lv_iload hx hb dX1_reachesBy_193 (lv_at hl 0 rfl) ?_
            exact K_z hx hb hr rfl hlocks hP hD hK hS hT hE ⟨⟨_, rfl, Or.inl rfl⟩, hF, hO0, hO7⟩ (by first | exact Nat.le_of_ble_eq_true rfl | (simp only [rm_X1_reachesByF]; omega) | omega) (by first | exact Nat.le_of_ble_eq_true rfl | (simp only [rm_X1_reachesByF]; omega) | omega) dX1_reachesBy_195
          · refine lv_iconst (v := 1) hx hb dX1_reachesBy_144 (by decide) ?_
            refine lv_goto (tgt := 149) hx hb dX1_reachesBy_145 (by decide) ?_
            refine lv_istore (lv' := [(12, .int 1), (11, .int z_40), (10, .int z_33), (9, .int z_26), (8, .int z_22), (7, .int z_18), (6, .int z_14), (5, .int z_7), (0, .ref h0), (1, .ref v), (2, .int mm), (3, .int pl), (4, .int wa)]) hx hb dX1_reachesBy_149 hl (by decide) rfl (fun ls hl => ?_)
            refine lv_aload_n hx hb dX1_reachesBy_151 rfl (lv_at hl 9 rfl) ?_
            refine lv_iload hx hb dX1_reachesBy_152 (lv_at hl 6 rfl) ?_
            refine T_put (ci := 7) (v := .int z_14) (ty := .int) (t := tI) (C := RX7) (T := TX7) (N := 8) hx hb hts inw_X1_reachesBy_7 tyX7 tyX7_ok nmX7 hown hK hP hD hS hT 5 rfl rfl 1 (by decide) (hts (.fieldLink RX1 85 "VatHouse$Vat" "grains" "I") (List.mem_of_getElem? (i := 2) (by exact rfl))) (fun _ h9 => h9) rfl (tyX7_ok 1 (by decide)) rfl rfl rfl ⟨_, rfl⟩ dX1_reachesBy_154 (fun f_168 H locs hP hD hS hT hE1 hrd_169 hup_170 => ?_)
            have hO0 := OF.putN (a := v) (cj := 7) hO0 hE ((hE1 v (hT.at 5 rfl).1).2.symm.trans (hT.at 5 rfl).2) (by decide) hrd_169
            have hO7 := hO7.put hrd_169 hvm
            have hF := Fr.put (a := v) (ci := 7) hF hE ((hE1 v (hT.at 5 rfl).1).2.symm.trans (hT.at 5 rfl).2) (by decide) hrd_169 hup_170
            have hE := hE.tr hE1
            refine lv_aload_n hx hb dX1_reachesBy_157 rfl (lv_at hl 9 rfl) ?_
            refine lv_iload hx hb dX1_reachesBy_158 (lv_at hl 5 rfl) ?_
            refine T_put (ci := 7) (v := .int z_18) (ty := .int) (t := tI) (C := RX7) (T := TX7) (N := 8) hx hb hts inw_X1_reachesBy_7 tyX7 tyX7_ok nmX7 hown hK hP hD hS hT 5 rfl rfl 2 (by decide) (hts (.fieldLink RX1 88 "VatHouse$Vat" "food" "I") (List.mem_of_getElem? (i := 3) (by exact rfl))) (fun _ h9 => h9) rfl (tyX7_ok 2 (by decide)) rfl rfl rfl ⟨_, rfl⟩ dX1_reachesBy_160 (fun f_171 H locs hP hD hS hT hE1 hrd_172 hup_173 => ?_)
            have hO0 := OF.putN (a := v) (cj := 7) hO0 hE ((hE1 v (hT.at 5 rfl).1).2.symm.trans (hT.at 5 rfl).2) (by decide) hrd_172
            have hO7 := hO7.put hrd_172 hvm
            have hF := Fr.put (a := v) (ci := 7) hF hE ((hE1 v (hT.at 5 rfl).1).2.symm.trans (hT.at 5 rfl).2) (by decide) hrd_172 hup_173
            have hE := hE.tr hE1
            refine lv_aload_n hx hb dX1_reachesBy_163 rfl (lv_at hl 9 rfl) ?_
            refine lv_iload hx hb dX1_reachesBy_164 (lv_at hl 4 rfl) ?_
            refine T_put (ci := 7) (v := .int z_22) (ty := .int) (t := tI) (C := RX7) (T := TX7) (N := 8) hx hb hts inw_X1_reachesBy_7 tyX7 tyX7_ok nmX7 hown hK hP hD hS hT 5 rfl rfl 3 (by decide) (hts (.fieldLink RX1 91 "VatHouse$Vat" "minutes" "I") (List.mem_of_getElem? (i := 4) (by exact rfl))) (fun _ h9 => h9) rfl (tyX7_ok 3 (by decide)) rfl rfl rfl ⟨_, rfl⟩ dX1_reachesBy_166 (fun f_174 H locs hP hD hS hT hE1 hrd_175 hup_176 => ?_)
            have hO0 := OF.putN (a := v) (cj := 7) hO0 hE ((hE1 v (hT.at 5 rfl).1).2.symm.trans (hT.at 5 rfl).2) (by decide) hrd_175
            have hO7 := hO7.put hrd_175 hvm
            have hF := Fr.put (a := v) (ci := 7) hF hE ((hE1 v (hT.at 5 rfl).1).2.symm.trans (hT.at 5 rfl).2) (by decide) hrd_175 hup_176
            have hE := hE.tr hE1
            refine lv_aload_n hx hb dX1_reachesBy_169 rfl (lv_at hl 9 rfl) ?_
            refine lv_iload hx hb dX1_reachesBy_170 (lv_at hl 3 rfl) ?_
            refine T_put (ci := 7) (v := .int z_26) (ty := .int) (t := tI) (C := RX7) (T := TX7) (N := 8) hx hb hts inw_X1_reachesBy_7 tyX7 tyX7_ok nmX7 hown hK hP hD hS hT 5 rfl rfl 4 (by decide) (hts (.fieldLink RX1 94 "VatHouse$Vat" "state" "I") (List.mem_of_getElem? (i := 5) (by exact rfl))) (fun _ h9 => h9) rfl (tyX7_ok 4 (by decide)) rfl rfl rfl ⟨_, rfl⟩ dX1_reachesBy_172 (fun f_177 H locs hP hD hS hT hE1 hrd_178 hup_179 => ?_)
            have hO0 := OF.putN (a := v) (cj := 7) hO0 hE ((hE1 v (hT.at 5 rfl).1).2.symm.trans (hT.at 5 rfl).2) (by decide) hrd_178
            have hO7 := hO7.put hrd_178 hvm
            have hF := Fr.put (a := v) (ci := 7) hF hE ((hE1 v (hT.at 5 rfl).1).2.symm.trans (hT.at 5 rfl).2) (by decide) hrd_178 hup_179
            have hE := hE.tr hE1
            refine lv_aload_n hx hb dX1_reachesBy_175 rfl (lv_at hl 8 rfl) ?_
            refine T_get (ci := 1) (C := RX1) (T := TX1) (N := 9) (t := (1, 0, 0, 0)) hx hb hts inw_X1_reachesBy_1 hown hK hP hT 4 rfl rfl 2 (by decide) (hts (.fieldLink RX1 22 "VatHouse$Planner" "trialCloth" "LVatHouse$Cloth;") (List.mem_of_getElem? (i := 1) (by exact rfl))) (fun _ h9 => h9) rfl dX1_reachesBy_176 (fun v_182 hv_180 hr_181 => ?_)
            obtain rfl : v_182 = .ref tc := hr_181.symm.trans ((hF.1 h0 (hT0.at 0 rfl).1 1 (hT0.at 0 rfl).2 2 (by decide)).trans h_tc)
            refine lv_iload hx hb dX1_reachesBy_179 (lv_at hl 2 rfl) ?_
            refine T_put (ci := 0) (v := .int z_33) (ty := .int) (t := tI) (C := RX0) (T := TX0) (N := 8) hx hb hts inw_X1_reachesBy_0 tyX0 tyX0_ok nmX0 hown hK hP hD hS hT 7 rfl rfl 2 (by decide) (hts (.fieldLink RX1 70 "VatHouse$Cloth" "loose" "I") (List.mem_of_getElem? (i := 6) (by exact rfl))) (fun _ h9 => h9) rfl (tyX0_ok 2 (by decide)) rfl rfl rfl ⟨_, rfl⟩ dX1_reachesBy_181 (fun f_183 H locs hP hD hS hT hE1 hrd_184 hup_185 => ?_)
            have hO0 := hO0.put hrd_184 (by simp)
            have hO7 := OF.putN (a := tc) (cj := 0) hO7 hE ((hE1 tc (hT.at 7 rfl).1).2.symm.trans (hT.at 7 rfl).2) (by decide) hrd_184
            have hF := Fr.put (a := tc) (ci := 0) hF hE ((hE1 tc (hT.at 7 rfl).1).2.symm.trans (hT.at 7 rfl).2) (by decide) hrd_184 hup_185
            have hE := hE.tr hE1
            refine lv_aload_n hx hb dX1_reachesBy_184 rfl (lv_at hl 8 rfl) ?_
            refine T_get (ci := 1) (C := RX1) (T := TX1) (N := 9) (t := (1, 0, 0, 0)) hx hb hts inw_X1_reachesBy_1 hown hK hP hT 4 rfl rfl 2 (by decide) (hts (.fieldLink RX1 22 "VatHouse$Planner" "trialCloth" "LVatHouse$Cloth;") (List.mem_of_getElem? (i := 1) (by exact rfl))) (fun _ h9 => h9) rfl dX1_reachesBy_185 (fun v_188 hv_186 hr_187 => ?_)
            obtain rfl : v_188 = .ref tc := hr_187.symm.trans ((hF.1 h0 (hT0.at 0 rfl).1 1 (hT0.at 0 rfl).2 2 (by decide)).trans h_tc)
            refine lv_iload hx hb dX1_reachesBy_188 (lv_at hl 1 rfl) ?_
            refine T_put (ci := 0) (v := .int z_40) (ty := .int) (t := tI) (C := RX0) (T := TX0) (N := 8) hx hb hts inw_X1_reachesBy_0 tyX0 tyX0_ok nmX0 hown hK hP hD hS hT 7 rfl rfl 3 (by decide) (hts (.fieldLink RX1 97 "VatHouse$Cloth" "fast" "I") (List.mem_of_getElem? (i := 7) (by exact rfl))) (fun _ h9 => h9) rfl (tyX0_ok 3 (by decide)) rfl rfl rfl ⟨_, rfl⟩ dX1_reachesBy_190 (fun f_189 H locs hP hD hS hT hE1 hrd_190 hup_191 => ?_)
            have hO0 := hO0.put hrd_190 (by simp)
            have hO7 := OF.putN (a := tc) (cj := 0) hO7 hE ((hE1 tc (hT.at 7 rfl).1).2.symm.trans (hT.at 7 rfl).2) (by decide) hrd_190
            have hF := Fr.put (a := tc) (ci := 0) hF hE ((hE1 tc (hT.at 7 rfl).1).2.symm.trans (hT.at 7 rfl).2) (by decide) hrd_190 hup_191
            have hE := hE.tr hE1
            refine lv_iload hx hb dX1_reachesBy_193 (lv_at hl 0 rfl) ?_
            exact K_z hx hb hr rfl hlocks hP hD hK hS hT hE ⟨⟨_, rfl, Or.inr rfl⟩, hF, hO0, hO7⟩ (by first | exact Nat.le_of_ble_eq_true rfl | (simp only [rm_X1_reachesByF]; omega) | omega) (by first | exact Nat.le_of_ble_eq_true rfl | (simp only [rm_X1_reachesByF]; omega) | omega) dX1_reachesBy_195
      · refine lv_iconst (v := 0) hx hb dX1_reachesBy_26 (by decide) ?_
        exact K_z hx hb hr rfl hlocks hP hD hK hS hT hE ⟨⟨_, rfl, Or.inl rfl⟩, hF, hO0, hO7⟩ (by first | exact Nat.le_of_ble_eq_true rfl | (simp only [rm_X1_reachesByF]; omega) | omega) (by first | exact Nat.le_of_ble_eq_true rfl | (simp only [rm_X1_reachesByF]; omega) | omega) dX1_reachesBy_27

set_option maxHeartbeats 800000 in
set_option maxRecDepth 100000 in
theorem t_X1_reachesF (l : Launch) (dC : Nat → ClassId) (dI : Nat → Nat → Nat) (sa : Nat → Nat) (hlt : l.stackTraces = false) (g : Nat → Nat) (L : List Nat) (f : Nat → va_E) (j : Nat) (d : Nat) (tv : Nat → Nat) (h0 : Nat) (pl : Int32) (wa : Int32) (tvr : Nat) (tc : Nat) (sz : Nat) (hT : TP g L f [(h0, (0, 1, 0)), (tvr, (2, g 10, 6)), (tc, (0, 0, 0))]) (h_tvr : rd f h0 1 = .ref tvr) (h_tc : rd f h0 2 = .ref tc) (hd : pl = nI d) (hdj : d + j = 3) (hTV : ∀ k : Nat, k < 6 → ra f tvr k = some (tv k)) (IHY : ∀ (L : List Nat) (f : Nat → va_E) (tv : Nat → Nat) (h0 : Nat) (v : Nat) (mm : Int32) (pl : Int32) (wa : Int32) (tvr : Nat) (tc : Nat) (sz : Nat) (hT : TP g L f [(h0, (0, 1, 0)), (v, (0, 7, 0)), (tvr, (2, g 10, 6)), (tc, (0, 0, 0))]) (h_tvr : rd f h0 1 = .ref tvr) (h_tc : rd f h0 2 = .ref tc) (hd : pl = nI d) (hTV : ∀ k : Nat, k < 6 → ra f tvr k = some (tv k)) (hvm : v ∈ [(tv 0), (tv 1), (tv 2), (tv 3), (tv 4), (tv 5)]), KC l dC dI sa g yX1_reachesBy wsX1_reachesBy (rm_X1_reachesByF j d tv) [.ref h0, .ref v, .int mm, .int pl, .int wa] L f sz (fun r L' f' => (∃ z : Int32, r = some (.int z) ∧ (z = 0 ∨ z = 1)) ∧ Fr [(0, 0), (0, 1), (0, 2), (0, 3), (0, 4), (0, 5), (0, 6), (0, 7), (7, 0), (7, 1), (7, 2), (7, 3), (7, 4), (7, 5), (7, 6), (7, 7), (100, 3)] L f f' ∧ (OF 0 [tc] L f f' ∧ OF 7 [(tv 0), (tv 1), (tv 2), (tv 3), (tv 4), (tv 5)] L f f')) 0 0) : KC l dC dI sa g yX1_reaches wsX1_reaches (rm_X1_reachesF j d tv) [.ref h0, .int pl, .int wa] L f sz (fun r L' f' => (∃ z : Int32, r = some (.int z) ∧ (z = 0 ∨ z = 1)) ∧ Fr [(0, 0), (0, 1), (0, 2), (0, 3), (0, 4), (0, 5), (0, 6), (0, 7), (7, 0), (7, 1), (7, 2), (7, 3), (7, 4), (7, 5), (7, 6), (7, 7), (100, 3)] L f f' ∧ (OF 0 [tc] L f f' ∧ OF 7 [(tv 0), (tv 1), (tv 2), (tv 3), (tv 4), (tv 5)] L f f')) 0 0 := by
  refine CT.start (cc := cX1_reaches) (maxL := 5) (ret := (some .boolean)) (by decide) rfl (Nat.le_of_ble_eq_true rfl) ?_
  intro p e s m below meth c ls hst hP hK hD hev hS hl
  obtain ⟨hx, hb, hr, hml, hts, hown, hlocks, hin⟩ := hst
  have hown : s.vm.findClass RX1 = some m.cls := hown
  have hin : meth.name = yX1_reaches.name := hin
  have hA : ∀ q : Nat, s.heap.size ≤ q → va_A (va_pl L f) s.heap.size q := fun _ h => Or.inr h
  have hE : Ext L f L f := Ext.rf
  have hF : Fr [(0, 0), (0, 1), (0, 2), (0, 3), (0, 4), (0, 5), (0, 6), (0, 7), (7, 0), (7, 1), (7, 2), (7, 3), (7, 4), (7, 5), (7, 6), (7, 7), (100, 3)] L f f := Fr.rf
  have hO0 : OF 0 [tc] L f f := OF.rf
  have hO7 : OF 7 [(tv 0), (tv 1), (tv 2), (tv 3), (tv 4), (tv 5)] L f f := OF.rf
  have hl : lv_has ls 5 [(0, .ref h0), (1, .int pl), (2, .int wa)] := hl
  have hT0 := hT
  refine lv_iload_n hx hb dX1_reaches_0 rfl (lv_at hl 1 rfl) ?_
  refine lv_iload_n hx hb dX1_reaches_1 rfl (lv_at hl 2 rfl) ?_
  refine lv_icmp_ge (tgt := 10) hx hb dX1_reaches_2 (by decide) (fun c_1 => ?_) (fun c_1 => ?_)
  · refine lv_aload_n hx hb dX1_reaches_10 rfl (lv_at hl 0 rfl) ?_
    refine T_get (ci := 1) (C := RX1) (T := TX1) (N := 9) (t := (1, 0, 0, 0)) hx hb hts inw_X1_reaches_1 hown hK hP hT 0 rfl rfl 2 (by decide) (hts (.fieldLink RX1 22 "VatHouse$Planner" "trialCloth" "LVatHouse$Cloth;") (List.mem_of_getElem? (i := 1) (by exact rfl))) (fun _ h9 => h9) rfl dX1_reaches_11 (fun v_4 hv_2 hr_3 => ?_)
    obtain rfl : v_4 = .ref tc := hr_3.symm.trans ((hF.1 h0 (hT0.at 0 rfl).1 1 (hT0.at 0 rfl).2 2 (by decide)).trans h_tc)
    refine T_get (ci := 0) (C := RX0) (T := TX0) (N := 8) (t := tI) hx hb hts inw_X1_reaches_0 hown hK hP hT 2 rfl rfl 2 (by decide) (hts (.fieldLink RX1 70 "VatHouse$Cloth" "loose" "I") (List.mem_of_getElem? (i := 2) (by exact rfl))) (fun _ h9 => h9) rfl dX1_reaches_14 (fun v_7 hv_5 hr_6 => ?_)
    obtain ⟨z_8, rfl⟩ := hv_5
    refine lv_if_ne (tgt := 52) hx hb dX1_reaches_17 (by decide) (fun c_9 => ?_) (fun c_9 => ?_)
    · refine lv_iconst (v := 0) hx hb dX1_reaches_52 (by decide) ?_
      exact K_z hx hb hr rfl hlocks hP hD hK hS hT hE ⟨⟨_, rfl, Or.inl rfl⟩, hF, hO0, hO7⟩ (by first | exact Nat.le_of_ble_eq_true rfl | (simp only [rm_X1_reachesF]; omega) | omega) (by first | exact Nat.le_of_ble_eq_true rfl | (simp only [rm_X1_reachesF]; omega) | omega) dX1_reaches_53
    · refine lv_aload_n hx hb dX1_reaches_20 rfl (lv_at hl 0 rfl) ?_
      refine T_get (ci := 1) (C := RX1) (T := TX1) (N := 9) (t := (1, 0, 0, 0)) hx hb hts inw_X1_reaches_1 hown hK hP hT 0 rfl rfl 2 (by decide) (hts (.fieldLink RX1 22 "VatHouse$Planner" "trialCloth" "LVatHouse$Cloth;") (List.mem_of_getElem? (i := 1) (by exact rfl))) (fun _ h9 => h9) rfl dX1_reaches_21 (fun v_12 hv_10 hr_11 => ?_)
      obtain rfl : v_12 = .ref tc := hr_11.symm.trans ((hF.1 h0 (hT0.at 0 rfl).1 1 (hT0.at 0 rfl).2 2 (by decide)).trans h_tc)
      refine K_V ⟨hx, hb, hml, hown, hts⟩ (t_X0_shade l dC dI sa hlt g _ _ tc _ (hT.sub [2] rfl)  ) (cwV 0 hts gX1_reaches_X0_shade rfl rfl rfl (by decide +kernel) ⟨(by first | exact Nat.le_of_ble_eq_true rfl | (simp only [rm_X0_shade, rm_X1_reachesF]; omega)), (by first | exact Nat.le_of_ble_eq_true rfl | (simp only [rm_X0_shade, rm_X1_reachesF]; omega))⟩) hP hD hK hS hA hev hT 2 0 rfl rfl rfl rfl hl.1 rfl (Nat.le_of_ble_eq_true rfl) dX1_reaches_24 ⟨(by first | exact Nat.le_of_ble_eq_true rfl | (simp only [rm_X1_reachesF]; omega) | omega), (by first | exact Nat.le_of_ble_eq_true rfl | (simp only [rm_X1_reachesF]; omega) | omega)⟩ (fun r L_13 f_14 H locs hw_15 hP hD hS hT hE1 => ?_)
      have hEo := hE
      have hO0 := hO0.call hE (OF.fr hw_15.2 (by decide)) (by simp)
      have hO7 := hO7.call hE (OF.fr hw_15.2 (by decide)) (by simp)
      have hF := Fr.call hF hE hw_15.2 (by decide)
      have hE := hE.tr hE1
      obtain ⟨⟨z_16, rfl⟩, hw_15⟩ := hw_15
      refine W.eq (g2 := F0 m 27 ls [.int z_16]) rfl ?_
      refine lv_aload_n hx hb dX1_reaches_27 rfl (lv_at hl 0 rfl) ?_
      refine T_get (ci := 1) (C := RX1) (T := TX1) (N := 9) (t := tI) hx hb hts inw_X1_reaches_1 hown hK hP hT 0 rfl rfl 3 (by decide) (hts (.fieldLink RX1 43 "VatHouse$Planner" "low" "I") (List.mem_of_getElem? (i := 3) (by exact rfl))) (fun _ h9 => h9) rfl dX1_reaches_28 (fun v_19 hv_17 hr_18 => ?_)
      obtain ⟨z_20, rfl⟩ := hv_17
      refine lv_icmp_lt (tgt := 52) hx hb dX1_reaches_31 (by decide) (fun c_21 => ?_) (fun c_21 => ?_)
      · refine lv_iconst (v := 0) hx hb dX1_reaches_52 (by decide) ?_
        exact K_z hx hb hr rfl hlocks hP hD hK hS hT hE ⟨⟨_, rfl, Or.inl rfl⟩, hF, hO0, hO7⟩ (by first | exact Nat.le_of_ble_eq_true rfl | (simp only [rm_X1_reachesF]; omega) | omega) (by first | exact Nat.le_of_ble_eq_true rfl | (simp only [rm_X1_reachesF]; omega) | omega) dX1_reaches_53
      · refine lv_aload_n hx hb dX1_reaches_34 rfl (lv_at hl 0 rfl) ?_
        refine T_get (ci := 1) (C := RX1) (T := TX1) (N := 9) (t := (1, 0, 0, 0)) hx hb hts inw_X1_reaches_1 hown hK hP hT 0 rfl rfl 2 (by decide) (hts (.fieldLink RX1 22 "VatHouse$Planner" "trialCloth" "LVatHouse$Cloth;") (List.mem_of_getElem? (i := 1) (by exact rfl))) (fun _ h9 => h9) rfl dX1_reaches_35 (fun v_24 hv_22 hr_23 => ?_)
        obtain rfl : v_24 = .ref tc := hr_23.symm.trans ((hF.1 h0 (hT0.at 0 rfl).1 1 (hT0.at 0 rfl).2 2 (by decide)).trans h_tc)
        refine K_V ⟨hx, hb, hml, hown, hts⟩ (t_X0_shade l dC dI sa hlt g _ _ tc _ (hT.sub [2] rfl)  ) (cwV 0 hts gX1_reaches_X0_shade rfl rfl rfl (by decide +kernel) ⟨(by first | exact Nat.le_of_ble_eq_true rfl | (simp only [rm_X0_shade, rm_X1_reachesF]; omega)), (by first | exact Nat.le_of_ble_eq_true rfl | (simp only [rm_X0_shade, rm_X1_reachesF]; omega))⟩) hP hD hK hS hA hev hT 2 0 rfl rfl rfl rfl hl.1 rfl (Nat.le_of_ble_eq_true rfl) dX1_reaches_38 ⟨(by first | exact Nat.le_of_ble_eq_true rfl | (simp only [rm_X1_reachesF]; omega) | omega), (by first | exact Nat.le_of_ble_eq_true rfl | (simp only [rm_X1_reachesF]; omega) | omega)⟩ (fun r L_25 f_26 H locs hw_27 hP hD hS hT hE1 => ?_)
        have hEo := hE
        have hO0 := hO0.call hE (OF.fr hw_27.2 (by decide)) (by simp)
        have hO7 := hO7.call hE (OF.fr hw_27.2 (by decide)) (by simp)
        have hF := Fr.call hF hE hw_27.2 (by decide)
        have hE := hE.tr hE1
        obtain ⟨⟨z_28, rfl⟩, hw_27⟩ := hw_27
        refine W.eq (g2 := F0 m 41 ls [.int z_28]) rfl ?_
        refine lv_aload_n hx hb dX1_reaches_41 rfl (lv_at hl 0 rfl) ?_
        refine T_get (ci := 1) (C := RX1) (T := TX1) (N := 9) (t := tI) hx hb hts inw_X1_reaches_1 hown hK hP hT 0 rfl rfl 4 (by decide) (hts (.fieldLink RX1 47 "VatHouse$Planner" "high" "I") (List.mem_of_getElem? (i := 4) (by exact rfl))) (fun _ h9 => h9) rfl dX1_reaches_42 (fun v_31 hv_29 hr_30 => ?_)
        obtain ⟨z_32, rfl⟩ := hv_29
        refine lv_icmp_gt (tgt := 52) hx hb dX1_reaches_45 (by decide) (fun c_33 => ?_) (fun c_33 => ?_)
        · refine lv_iconst (v := 0) hx hb dX1_reaches_52 (by decide) ?_
          exact K_z hx hb hr rfl hlocks hP hD hK hS hT hE ⟨⟨_, rfl, Or.inl rfl⟩, hF, hO0, hO7⟩ (by first | exact Nat.le_of_ble_eq_true rfl | (simp only [rm_X1_reachesF]; omega) | omega) (by first | exact Nat.le_of_ble_eq_true rfl | (simp only [rm_X1_reachesF]; omega) | omega) dX1_reaches_53
        · refine lv_iconst (v := 1) hx hb dX1_reaches_48 (by decide) ?_
          refine lv_goto (tgt := 53) hx hb dX1_reaches_49 (by decide) ?_
          exact K_z hx hb hr rfl hlocks hP hD hK hS hT hE ⟨⟨_, rfl, Or.inr rfl⟩, hF, hO0, hO7⟩ (by first | exact Nat.le_of_ble_eq_true rfl | (simp only [rm_X1_reachesF]; omega) | omega) (by first | exact Nat.le_of_ble_eq_true rfl | (simp only [rm_X1_reachesF]; omega) | omega) dX1_reaches_53
  · refine lv_iload_n hx hb dX1_reaches_5 rfl (lv_at hl 1 rfl) ?_
    refine lv_iconst (v := 3) hx hb dX1_reaches_6 (by decide) ?_
    refine lv_icmp_lt (tgt := 54) hx hb dX1_reaches_7 (by decide) (fun c_34 => ?_) (fun c_34 => ?_)
    · refine lv_iconst (v := 0) hx hb dX1_reaches_54 (by decide) ?_
      refine lv_istore_n (lv' := [(3, .int 0), (0, .ref h0), (1, .int pl), (2, .int wa)]) hx hb dX1_reaches_55 rfl hl (by decide) rfl (fun ls hl => ?_)
      have lpO : ∀ (nO : Nat) (ii : Int32) (L1 : List Nat) (f1 : Nat → va_E) (H : Heap) (locs : List Loc) (ls : Array Slot), (∃ a : Nat, ii = nI a ∧ a ≤ 6 ∧ 6 < a + nO) → (OF 0 [tc] L f f1) → (OF 7 [(tv 0), (tv 1), (tv 2), (tv 3), (tv 4), (tv 5)] L f f1) → va_P (dC, dI) vwCl (va_pl L1 f1) H → va_D (va_A (va_pl L f) s.heap.size) (va_pl L1 f1) → va_S (va_A (va_pl L f) s.heap.size) s.heap H locs → TP g L1 f1 [(h0, (0, 1, 0)), (tvr, (2, g 10, 6)), (tc, (0, 0, 0))] → Ext L f L1 f1 → Fr [(0, 0), (0, 1), (0, 2), (0, 3), (0, 4), (0, 5), (0, 6), (0, 7), (7, 0), (7, 1), (7, 2), (7, 3), (7, 4), (7, 5), (7, 6), (7, 7), (100, 3)] L f f1 → lv_has ls 5 [(3, .int ii), (0, .ref h0), (1, .int pl), (2, .int wa)] → W p l e (rm_X1_reachesF j d tv) s m [.ref h0, .int pl, .int wa].toArray below meth c H locs 0 0 (MQ below (Qg (kpost g L f (fun r L' f' => (∃ z : Int32, r = some (.int z) ∧ (z = 0 ∨ z = 1)) ∧ Fr [(0, 0), (0, 1), (0, 2), (0, 3), (0, 4), (0, 5), (0, 6), (0, 7), (7, 0), (7, 1), (7, 2), (7, 3), (7, 4), (7, 5), (7, 6), (7, 7), (100, 3)] L f f' ∧ (OF 0 [tc] L f f' ∧ OF 7 [(tv 0), (tv 1), (tv 2), (tv 3), (tv 4), (tv 5)] L f f'))) (fun (u : PL) t => QW dC dI (va_A (va_pl L f) s.heap.size) (va_pl u.1 u.2) [] t) (va_A (va_pl L f) s.heap.size)) [.ref h0, .int pl, .int wa].toArray s (0) (0) (va_A (va_pl L f) s.heap.size)) (F0 m 56 ls []) := by
        intro nO
        induction nO with
        | zero => intro ii L1 f1 H locs ls hmO hO0 hO7 hP hD hS hT hE hF hl; exact absurd hmO (by rintro ⟨a, -, h1, h2⟩; omega)
        | succ nO ihO =>
          intro ii L1 f1 H locs ls hmO hO0 hO7 hP hD hS hT hE hF hl
          refine lv_iload_n hx hb dX1_reaches_56 rfl (lv_at hl 0 rfl) ?_
          refine lv_aload_n hx hb dX1_reaches_57 rfl (lv_at hl 1 rfl) ?_
          refine T_get (ci := 1) (C := RX1) (T := TX1) (N := 9) (t := (1, 2, g 10, 6)) hx hb hts inw_X1_reaches_1 hown hK hP hT 0 rfl rfl 1 (by decide) (hts (.fieldLink RX1 11 "VatHouse$Planner" "trialVats" "[LVatHouse$Vat;") (List.mem_of_getElem? (i := 5) (by exact rfl))) (fun _ h9 => h9) rfl dX1_reaches_58 (fun v_37 hv_35 hr_36 => ?_)
          obtain rfl : v_37 = .ref tvr := hr_36.symm.trans ((hF.1 h0 (hT0.at 0 rfl).1 1 (hT0.at 0 rfl).2 1 (by decide)).trans h_tvr)
          refine T_alen hx hb hK hP hT 1 10 rfl rfl (v := 6) rfl dX1_reaches_61 ?_
          refine lv_icmp_ge (tgt := 109) hx hb dX1_reaches_62 (by decide) (fun c_38 => ?_) (fun c_38 => ?_)
          · refine lv_iconst (v := 0) hx hb dX1_reaches_109 (by decide) ?_
            exact K_z hx hb hr rfl hlocks hP hD hK hS hT hE ⟨⟨_, rfl, Or.inl rfl⟩, hF, hO0, hO7⟩ (by first | exact Nat.le_of_ble_eq_true rfl | (simp only [rm_X1_reachesF]; omega) | omega) (by first | exact Nat.le_of_ble_eq_true rfl | (simp only [rm_X1_reachesF]; omega) | omega) dX1_reaches_110
          · refine lv_iconst (v := 1) hx hb dX1_reaches_65 (by decide) ?_
            refine lv_istore (lv' := [(4, .int 1), (3, .int ii), (0, .ref h0), (1, .int pl), (2, .int wa)]) hx hb dX1_reaches_66 hl (by decide) rfl (fun ls hl => ?_)
            have lp : ∀ (n : Nat) (mx : Int32) (L1 : List Nat) (f1 : Nat → va_E) (H : Heap) (locs : List Loc) (ls : Array Slot), (Dbl mx n) → (OF 0 [tc] L f f1) → (OF 7 [(tv 0), (tv 1), (tv 2), (tv 3), (tv 4), (tv 5)] L f f1) → va_P (dC, dI) vwCl (va_pl L1 f1) H → va_D (va_A (va_pl L f) s.heap.size) (va_pl L1 f1) → va_S (va_A (va_pl L f) s.heap.size) s.heap H locs → TP g L1 f1 [(h0, (0, 1, 0)), (tvr, (2, g 10, 6)), (tc, (0, 0, 0))] → Ext L f L1 f1 → Fr [(0, 0), (0, 1), (0, 2), (0, 3), (0, 4), (0, 5), (0, 6), (0, 7), (7, 0), (7, 1), (7, 2), (7, 3), (7, 4), (7, 5), (7, 6), (7, 7), (100, 3)] L f f1 → lv_has ls 5 [(4, .int mx), (3, .int ii), (0, .ref h0), (1, .int pl), (2, .int wa)] → W p l e (rm_X1_reachesF j d tv) s m [.ref h0, .int pl, .int wa].toArray below meth c H locs 0 0 (MQ below (Qg (kpost g L f (fun r L' f' => (∃ z : Int32, r = some (.int z) ∧ (z = 0 ∨ z = 1)) ∧ Fr [(0, 0), (0, 1), (0, 2), (0, 3), (0, 4), (0, 5), (0, 6), (0, 7), (7, 0), (7, 1), (7, 2), (7, 3), (7, 4), (7, 5), (7, 6), (7, 7), (100, 3)] L f f' ∧ (OF 0 [tc] L f f' ∧ OF 7 [(tv 0), (tv 1), (tv 2), (tv 3), (tv 4), (tv 5)] L f f'))) (fun (u : PL) t => QW dC dI (va_A (va_pl L f) s.heap.size) (va_pl u.1 u.2) [] t) (va_A (va_pl L f) s.heap.size)) [.ref h0, .int pl, .int wa].toArray s (0) (0) (va_A (va_pl L f) s.heap.size)) (F0 m 68 ls []) := by
              intro n
              induction n with
              | zero => intro mx L1 f1 H locs ls hm hO0 hO7 hP hD hS hT hE hF hl; exact hm.z.elim
              | succ n ih =>
                intro mx L1 f1 H locs ls hm hO0 hO7 hP hD hS hT hE hF hl
                refine lv_iload hx hb dX1_reaches_68 (lv_at hl 0 rfl) ?_
                refine lv_bipush (v := 8) hx hb dX1_reaches_70 (by decide) ?_
                refine lv_icmp_gt (tgt := 103) hx hb dX1_reaches_72 (by decide) (fun c_39 => ?_) (fun c_39 => ?_)
                · refine lv_iinc (v := (ii + 1)) (lv' := [(3, .int (ii + 1)), (4, .int mx), (0, .ref h0), (1, .int pl), (2, .int wa)]) hx hb dX1_reaches_103 hl (k := 1) rfl rfl (by decide) rfl (fun ls hl => ?_)
                  refine lv_goto (tgt := 56) hx hb dX1_reaches_106 (by decide) ?_
                  exact ihO (ii + 1) _ _ _ _ _ (up_nx (by decide) hmO (by decide) c_38) (hO0) (hO7) hP hD hS (hT.sub [0, 1, 2] rfl) hE hF (lv_sub hl [0, 2, 3, 4] rfl)
                · refine lv_aload_n hx hb dX1_reaches_75 rfl (lv_at hl 2 rfl) ?_
                  refine lv_aload_n hx hb dX1_reaches_76 rfl (lv_at hl 2 rfl) ?_
                  refine T_get (ci := 1) (C := RX1) (T := TX1) (N := 9) (t := (1, 2, g 10, 6)) hx hb hts inw_X1_reaches_1 hown hK hP hT 0 rfl rfl 1 (by decide) (hts (.fieldLink RX1 11 "VatHouse$Planner" "trialVats" "[LVatHouse$Vat;") (List.mem_of_getElem? (i := 5) (by exact rfl))) (fun _ h9 => h9) rfl dX1_reaches_77 (fun v_42 hv_40 hr_41 => ?_)
                  obtain rfl : v_42 = .ref tvr := hr_41.symm.trans ((hF.1 h0 (hT0.at 0 rfl).1 1 (hT0.at 0 rfl).2 1 (by decide)).trans h_tvr)
                  refine lv_iload_n hx hb dX1_reaches_80 rfl (lv_at hl 1 rfl) ?_
                  refine T_vald hx hb hK hP hT 1 10 (Or.inr rfl) rfl rfl (up_in (by decide) hmO (by decide) c_38 (by decide) (by decide)) dX1_reaches_81 (fun b_43 hb9 hra => ?_)
                  have hT := hT.add hb9
                  have hbm : b_43 ∈ [(tv 0), (tv 1), (tv 2), (tv 3), (tv 4), (tv 5)] := by
                    obtain ⟨a9, ha9, h69, -⟩ := hmO
                    have h59 : a9 < 6 := up_lt (by decide) ha9 h69 (by decide) c_38
                    rw [ha9, nI_clamp (by omega), ra_eq (hF.2 tvr (hT0.at 1 rfl).1 1 _ _ (hT0.at 1 rfl).2 (by decide)), hTV a9 h59] at hra
                    rw [← Option.some.inj hra]
                    exact tv_in h59
                  refine lv_iload hx hb dX1_reaches_82 (lv_at hl 0 rfl) ?_
                  refine lv_iload_n hx hb dX1_reaches_84 rfl (lv_at hl 3 rfl) ?_
                  refine lv_iload_n hx hb dX1_reaches_85 rfl (lv_at hl 4 rfl) ?_
                  refine K_V ⟨hx, hb, hml, hown, hts⟩ (IHY _ _ tv h0 b_43 mx pl wa tvr tc _ (hT.sub [1, 0, 2, 3] rfl)  ((hF.1 h0 (hT0.at 0 rfl).1 1 (hT0.at 0 rfl).2 1 (by decide)).trans h_tvr) ((hF.1 h0 (hT0.at 0 rfl).1 1 (hT0.at 0 rfl).2 2 (by decide)).trans h_tc) hd (fun k9 h9 => by rw [ra_eq (hF.2 tvr (hT0.at 1 rfl).1 1 _ _ (hT0.at 1 rfl).2 (by decide))]; exact hTV k9 h9) hbm) (cwV 4 hts gX1_reaches_X1_reachesBy rfl rfl rfl (by decide +kernel) ⟨(by first | exact Nat.le_of_ble_eq_true rfl | (simp only [rm_X1_reachesByF, rm_X1_reachesF]; omega)), (by first | exact Nat.le_of_ble_eq_true rfl | (simp only [rm_X1_reachesByF, rm_X1_reachesF]; omega))⟩) hP hD hK hS hA hev hT 1 1 rfl rfl rfl rfl hl.1 rfl (Nat.le_of_ble_eq_true rfl) dX1_reaches_86 ⟨(by first | exact Nat.le_of_ble_eq_true rfl | (simp only [rm_X1_reachesF]; omega) | omega), (by first | exact Nat.le_of_ble_eq_true rfl | (simp only [rm_X1_reachesF]; omega) | omega)⟩ (fun r L_44 f_45 H locs hw_46 hP hD hS hT hE1 => ?_)
                  have hEo := hE
                  have hF := Fr.call hF hE hw_46.2.1 (by decide)
                  have hE := hE.tr hE1
                  obtain ⟨⟨z_47, rfl, hz_z_47⟩, hw_46⟩ := hw_46
                  obtain ⟨hfr_48, hex_49⟩ := hw_46
                  obtain ⟨hof_50, hof_51⟩ := hex_49
                  have hO0 := hO0.call hEo hof_50 (fun _ h9 => h9)
                  have hO7 := hO7.call hEo hof_51 (fun _ h9 => h9)
                  refine W.eq (g2 := F0 m 89 ls [.int z_47]) rfl ?_
                  refine lv_if_eq (tgt := 94) hx hb dX1_reaches_89 (by decide) (fun c_53 => ?_) (fun c_53 => ?_)
                  · refine lv_iload hx hb dX1_reaches_94 (lv_at hl 0 rfl) ?_
                    refine lv_iconst (v := 2) hx hb dX1_reaches_96 (by decide) ?_
                    refine lv_imul hx hb dX1_reaches_97 ?_
                    refine lv_topi (fun z_54 ez_54 => ?_)
                    refine lv_istore (lv' := [(4, .int z_54), (3, .int ii), (0, .ref h0), (1, .int pl), (2, .int wa)]) hx hb dX1_reaches_98 hl (by decide) rfl (fun ls hl => ?_)
                    refine lv_goto (tgt := 68) hx hb dX1_reaches_100 (by decide) ?_
                    exact ih z_54 _ _ _ _ _ (hm.nx c_39 ez_54) (hO0) (hO7) hP hD hS (hT.sub [1, 2, 3] rfl) hE hF (lv_sub hl [0, 1, 2, 3, 4] rfl)
                  · refine lv_iconst (v := 1) hx hb dX1_reaches_92 (by decide) ?_
                    exact K_z hx hb hr rfl hlocks hP hD hK hS hT hE ⟨⟨_, rfl, Or.inr rfl⟩, hF, hO0, hO7⟩ (by first | exact Nat.le_of_ble_eq_true rfl | (simp only [rm_X1_reachesF]; omega) | omega) (by first | exact Nat.le_of_ble_eq_true rfl | (simp only [rm_X1_reachesF]; omega) | omega) dX1_reaches_93
            exact lp 5 1 _ _ _ _ _ (Or.inl ⟨rfl, by omega⟩) (hO0) (hO7) hP hD hS (hT.sub [0, 1, 2] rfl) hE hF (lv_sub hl [0, 1, 2, 3, 4] rfl)
      exact lpO 7 0 _ _ _ _ _ (⟨0, nI_0.symm, by omega, by omega⟩) (hO0) (hO7) hP hD hS (hT.sub [0, 1, 2] rfl) hE hF (lv_sub hl [0, 1, 2, 3] rfl)
    · refine lv_aload_n hx hb dX1_reaches_10 rfl (lv_at hl 0 rfl) ?_
      refine T_get (ci := 1) (C := RX1) (T := TX1) (N := 9) (t := (1, 0, 0, 0)) hx hb hts inw_X1_reaches_1 hown hK hP hT 0 rfl rfl 2 (by decide) (hts (.fieldLink RX1 22 "VatHouse$Planner" "trialCloth" "LVatHouse$Cloth;") (List.mem_of_getElem? (i := 1) (by exact rfl))) (fun _ h9 => h9) rfl dX1_reaches_11 (fun v_57 hv_55 hr_56 => ?_)
      obtain rfl : v_57 = .ref tc := hr_56.symm.trans ((hF.1 h0 (hT0.at 0 rfl).1 1 (hT0.at 0 rfl).2 2 (by decide)).trans h_tc)
      refine T_get (ci := 0) (C := RX0) (T := TX0) (N := 8) (t := tI) hx hb hts inw_X1_reaches_0 hown hK hP hT 2 rfl rfl 2 (by decide) (hts (.fieldLink RX1 70 "VatHouse$Cloth" "loose" "I") (List.mem_of_getElem? (i := 2) (by exact rfl))) (fun _ h9 => h9) rfl dX1_reaches_14 (fun v_60 hv_58 hr_59 => ?_)
      obtain ⟨z_61, rfl⟩ := hv_58
      refine lv_if_ne (tgt := 52) hx hb dX1_reaches_17 (by decide) (fun c_62 => ?_) (fun c_62 => ?_)
      · refine lv_iconst (v := 0) hx hb dX1_reaches_52 (by decide) ?_
        exact K_z hx hb hr rfl hlocks hP hD hK hS hT hE ⟨⟨_, rfl, Or.inl rfl⟩, hF, hO0, hO7⟩ (by first | exact Nat.le_of_ble_eq_true rfl | (simp only [rm_X1_reachesF]; omega) | omega) (by first | exact Nat.le_of_ble_eq_true rfl | (simp only [rm_X1_reachesF]; omega) | omega) dX1_reaches_53
      · refine lv_aload_n hx hb dX1_reaches_20 rfl (lv_at hl 0 rfl) ?_
        refine T_get (ci := 1) (C := RX1) (T := TX1) (N := 9) (t := (1, 0, 0, 0)) hx hb hts inw_X1_reaches_1 hown hK hP hT 0 rfl rfl 2 (by decide) (hts (.fieldLink RX1 22 "VatHouse$Planner" "trialCloth" "LVatHouse$Cloth;") (List.mem_of_getElem? (i := 1) (by exact rfl))) (fun _ h9 => h9) rfl dX1_reaches_21 (fun v_65 hv_63 hr_64 => ?_)
        obtain rfl : v_65 = .ref tc := hr_64.symm.trans ((hF.1 h0 (hT0.at 0 rfl).1 1 (hT0.at 0 rfl).2 2 (by decide)).trans h_tc)
        refine K_V ⟨hx, hb, hml, hown, hts⟩ (t_X0_shade l dC dI sa hlt g _ _ tc _ (hT.sub [2] rfl)  ) (cwV 0 hts gX1_reaches_X0_shade rfl rfl rfl (by decide +kernel) ⟨(by first | exact Nat.le_of_ble_eq_true rfl | (simp only [rm_X0_shade, rm_X1_reachesF]; omega)), (by first | exact Nat.le_of_ble_eq_true rfl | (simp only [rm_X0_shade, rm_X1_reachesF]; omega))⟩) hP hD hK hS hA hev hT 2 0 rfl rfl rfl rfl hl.1 rfl (Nat.le_of_ble_eq_true rfl) dX1_reaches_24 ⟨(by first | exact Nat.le_of_ble_eq_true rfl | (simp only [rm_X1_reachesF]; omega) | omega), (by first | exact Nat.le_of_ble_eq_true rfl | (simp only [rm_X1_reachesF]; omega) | omega)⟩ (fun r L_66 f_67 H locs hw_68 hP hD hS hT hE1 => ?_)
        have hEo := hE
        have hO0 := hO0.call hE (OF.fr hw_68.2 (by decide)) (by simp)
        have hO7 := hO7.call hE (OF.fr hw_68.2 (by decide)) (by simp)
        have hF := Fr.call hF hE hw_68.2 (by decide)
        have hE := hE.tr hE1
        obtain ⟨⟨z_69, rfl⟩, hw_68⟩ := hw_68
        refine W.eq (g2 := F0 m 27 ls [.int z_69]) rfl ?_
        refine lv_aload_n hx hb dX1_reaches_27 rfl (lv_at hl 0 rfl) ?_
        refine T_get (ci := 1) (C := RX1) (T := TX1) (N := 9) (t := tI) hx hb hts inw_X1_reaches_1 hown hK hP hT 0 rfl rfl 3 (by decide) (hts (.fieldLink RX1 43 "VatHouse$Planner" "low" "I") (List.mem_of_getElem? (i := 3) (by exact rfl))) (fun _ h9 => h9) rfl dX1_reaches_28 (fun v_72 hv_70 hr_71 => ?_)
        obtain ⟨z_73, rfl⟩ := hv_70
        refine lv_icmp_lt (tgt := 52) hx hb dX1_reaches_31 (by decide) (fun c_74 => ?_) (fun c_74 => ?_)
        · refine lv_iconst (v := 0) hx hb dX1_reaches_52 (by decide) ?_
          exact K_z hx hb hr rfl hlocks hP hD hK hS hT hE ⟨⟨_, rfl, Or.inl rfl⟩, hF, hO0, hO7⟩ (by first | exact Nat.le_of_ble_eq_true rfl | (simp only [rm_X1_reachesF]; omega) | omega) (by first | exact Nat.le_of_ble_eq_true rfl | (simp only [rm_X1_reachesF]; omega) | omega) dX1_reaches_53
        · refine lv_aload_n hx hb dX1_reaches_34 rfl (lv_at hl 0 rfl) ?_
          refine T_get (ci := 1) (C := RX1) (T := TX1) (N := 9) (t := (1, 0, 0, 0)) hx hb hts inw_X1_reaches_1 hown hK hP hT 0 rfl rfl 2 (by decide) (hts (.fieldLink RX1 22 "VatHouse$Planner" "trialCloth" "LVatHouse$Cloth;") (List.mem_of_getElem? (i := 1) (by exact rfl))) (fun _ h9 => h9) rfl dX1_reaches_35 (fun v_77 hv_75 hr_76 => ?_)
          obtain rfl : v_77 = .ref tc := hr_76.symm.trans ((hF.1 h0 (hT0.at 0 rfl).1 1 (hT0.at 0 rfl).2 2 (by decide)).trans h_tc)
          refine K_V ⟨hx, hb, hml, hown, hts⟩ (t_X0_shade l dC dI sa hlt g _ _ tc _ (hT.sub [2] rfl)  ) (cwV 0 hts gX1_reaches_X0_shade rfl rfl rfl (by decide +kernel) ⟨(by first | exact Nat.le_of_ble_eq_true rfl | (simp only [rm_X0_shade, rm_X1_reachesF]; omega)), (by first | exact Nat.le_of_ble_eq_true rfl | (simp only [rm_X0_shade, rm_X1_reachesF]; omega))⟩) hP hD hK hS hA hev hT 2 0 rfl rfl rfl rfl hl.1 rfl (Nat.le_of_ble_eq_true rfl) dX1_reaches_38 ⟨(by first | exact Nat.le_of_ble_eq_true rfl | (simp only [rm_X1_reachesF]; omega) | omega), (by first | exact Nat.le_of_ble_eq_true rfl | (simp only [rm_X1_reachesF]; omega) | omega)⟩ (fun r L_78 f_79 H locs hw_80 hP hD hS hT hE1 => ?_)
          have hEo := hE
          have hO0 := hO0.call hE (OF.fr hw_80.2 (by decide)) (by simp)
          have hO7 := hO7.call hE (OF.fr hw_80.2 (by decide)) (by simp)
          have hF := Fr.call hF hE hw_80.2 (by decide)
          have hE := hE.tr hE1
          obtain ⟨⟨z_81, rfl⟩, hw_80⟩ := hw_80
          refine W.eq (g2 := F0 m 41 ls [.int z_81]) rfl ?_
          refine lv_aload_n hx hb dX1_reaches_41 rfl (lv_at hl 0 rfl) ?_
          refine T_get (ci := 1) (C := RX1) (T := TX1) (N := 9) (t := tI) hx hb hts inw_X1_reaches_1 hown hK hP hT 0 rfl rfl 4 (by decide) (hts (.fieldLink RX1 47 "VatHouse$Planner" "high" "I") (List.mem_of_getElem? (i := 4) (by exact rfl))) (fun _ h9 => h9) rfl dX1_reaches_42 (fun v_84 hv_82 hr_83 => ?_)
          obtain ⟨z_85, rfl⟩ := hv_82
          refine lv_icmp_gt (tgt := 52) hx hb dX1_reaches_45 (by decide) (fun c_86 => ?_) (fun c_86 => ?_)
          · refine lv_iconst (v := 0) hx hb dX1_reaches_52 (by decide) ?_
            exact K_z hx hb hr rfl hlocks hP hD hK hS hT hE ⟨⟨_, rfl, Or.inl rfl⟩, hF, hO0, hO7⟩ (by first | exact Nat.le_of_ble_eq_true rfl | (simp only [rm_X1_reachesF]; omega) | omega) (by first | exact Nat.le_of_ble_eq_true rfl | (simp only [rm_X1_reachesF]; omega) | omega) dX1_reaches_53
          · refine lv_iconst (v := 1) hx hb dX1_reaches_48 (by decide) ?_
            refine lv_goto (tgt := 53) hx hb dX1_reaches_49 (by decide) ?_
            exact K_z hx hb hr rfl hlocks hP hD hK hS hT hE ⟨⟨_, rfl, Or.inr rfl⟩, hF, hO0, hO7⟩ (by first | exact Nat.le_of_ble_eq_true rfl | (simp only [rm_X1_reachesF]; omega) | omega) (by first | exact Nat.le_of_ble_eq_true rfl | (simp only [rm_X1_reachesF]; omega) | omega) dX1_reaches_53

theorem X1_reachesF_all (l : Launch) (dC : Nat → ClassId) (dI : Nat → Nat → Nat) (sa : Nat → Nat) (hlt : l.stackTraces = false) (g : Nat → Nat) : ∀ (j d : Nat), d + j = 3 → ∀ (L : List Nat) (f : Nat → va_E) (tv : Nat → Nat) (h0 : Nat) (pl : Int32) (wa : Int32) (tvr : Nat) (tc : Nat) (sz : Nat) (hT : TP g L f [(h0, (0, 1, 0)), (tvr, (2, g 10, 6)), (tc, (0, 0, 0))]) (h_tvr : rd f h0 1 = .ref tvr) (h_tc : rd f h0 2 = .ref tc) (hd : pl = nI d) (hTV : ∀ k : Nat, k < 6 → ra f tvr k = some (tv k)), KC l dC dI sa g yX1_reaches wsX1_reaches (rm_X1_reachesF j d tv) [.ref h0, .int pl, .int wa] L f sz (fun r L' f' => (∃ z : Int32, r = some (.int z) ∧ (z = 0 ∨ z = 1)) ∧ Fr [(0, 0), (0, 1), (0, 2), (0, 3), (0, 4), (0, 5), (0, 6), (0, 7), (7, 0), (7, 1), (7, 2), (7, 3), (7, 4), (7, 5), (7, 6), (7, 7), (100, 3)] L f f' ∧ (OF 0 [tc] L f f' ∧ OF 7 [(tv 0), (tv 1), (tv 2), (tv 3), (tv 4), (tv 5)] L f f')) 0 0 := by
  intro j
  induction j with
  | zero => exact fun d hdj L f tv h0 pl wa tvr tc sz hT h1 h2 hd hTV => t_X1_reachesF l dC dI sa hlt g L f 0 d tv h0 pl wa tvr tc sz hT h1 h2 hd hdj hTV (fun L f tv h0 v mm pl wa tvr tc sz hT h1 h2 hd hTV hvm => t_X1_reachesByF l dC dI sa hlt g L f 0 d tv h0 v mm pl wa tvr tc sz hT h1 h2 hd hdj hTV hvm (fun j' d' _ h => absurd h (by omega)))
  | succ j ih =>
    exact fun d hdj L f tv h0 pl wa tvr tc sz hT h1 h2 hd hTV => t_X1_reachesF l dC dI sa hlt g L f (j + 1) d tv h0 pl wa tvr tc sz hT h1 h2 hd hdj hTV (fun L f tv h0 v mm pl wa tvr tc sz hT h1 h2 hd hTV hvm => t_X1_reachesByF l dC dI sa hlt g L f (j + 1) d tv h0 v mm pl wa tvr tc sz hT h1 h2 hd hdj hTV hvm (fun j' d' hdj' hj => by
      obtain rfl : j = j' := by omega
      exact ih d' hdj'))

noncomputable abbrev rm_X1_fewestF : Room := { frames := 27, cells := 0, slots := 0, locals := 624 }
set_option maxHeartbeats 800000 in
set_option maxRecDepth 100000 in
theorem t_X1_fewestF (l : Launch) (dC : Nat → ClassId) (dI : Nat → Nat → Nat) (sa : Nat → Nat) (hlt : l.stackTraces = false) (g : Nat → Nat) (L : List Nat) (f : Nat → va_E) (tv : Nat → Nat) (va : Nat → Nat) (h0 : Nat) (o : Nat) (lw : Int32) (hg : Int32) (mo : Int32) (tvr : Nat) (tc : Nat) (wk : Nat) (vs : Nat) (sz : Nat) (hT : TP g L f [(h0, (0, 1, 0)), (o, (0, 0, 0)), (tvr, (2, g 10, 6)), (tc, (0, 0, 0)), (wk, (0, 8, 0)), (vs, (2, g 2, 6))]) (h_tvr : rd f h0 1 = .ref tvr) (h_tc : rd f h0 2 = .ref tc) (h_wk : rd f h0 0 = .ref wk) (h_vs : rd f wk 0 = .ref vs) (hTV : ∀ k : Nat, k < 6 → ra f tvr k = some (tv k)) (hVA : ∀ k : Nat, k < 6 → ra f vs k = some (va k)) : KC l dC dI sa g yX1_fewest wsX1_fewest rm_X1_fewestF [.ref h0, .ref o, .int lw, .int hg, .int mo] L f sz (fun r L' f' => (∃ z : Int32, r = some (.int z)) ∧ Fr [(0, 0), (0, 1), (0, 2), (0, 3), (0, 4), (0, 5), (0, 6), (0, 7), (7, 0), (7, 1), (7, 2), (7, 3), (7, 4), (7, 5), (7, 6), (7, 7), (1, 3), (1, 4), (1, 5), (100, 3)] L f f' ∧ (OF 0 [tc] L f f' ∧ OF 7 [(tv 0), (tv 1), (tv 2), (tv 3), (tv 4), (tv 5)] L f f')) 0 0 := by
  refine CT.start (cc := cX1_fewest) (maxL := 6) (ret := (some .int)) (by decide) rfl (Nat.le_of_ble_eq_true rfl) ?_
  intro p e s m below meth c ls hst hP hK hD hev hS hl
  obtain ⟨hx, hb, hr, hml, hts, hown, hlocks, hin⟩ := hst
  have hown : s.vm.findClass RX1 = some m.cls := hown
  have hin : meth.name = yX1_fewest.name := hin
  have hA : ∀ q : Nat, s.heap.size ≤ q → va_A (va_pl L f) s.heap.size q := fun _ h => Or.inr h
  have hE : Ext L f L f := Ext.rf
  have hF : Fr [(0, 0), (0, 1), (0, 2), (0, 3), (0, 4), (0, 5), (0, 6), (0, 7), (7, 0), (7, 1), (7, 2), (7, 3), (7, 4), (7, 5), (7, 6), (7, 7), (1, 3), (1, 4), (1, 5), (100, 3)] L f f := Fr.rf
  have hO0 : OF 0 [tc] L f f := OF.rf
  have hO7 : OF 7 [(tv 0), (tv 1), (tv 2), (tv 3), (tv 4), (tv 5)] L f f := OF.rf
  have hl : lv_has ls 6 [(0, .ref h0), (1, .ref o), (2, .int lw), (3, .int hg), (4, .int mo)] := hl
  have hT0 := hT
  refine lv_aload_n hx hb dX1_fewest_0 rfl (lv_at hl 0 rfl) ?_
  refine lv_iload_n hx hb dX1_fewest_1 rfl (lv_at hl 2 rfl) ?_
  refine T_put (ci := 1) (v := .int lw) (ty := .int) (t := tI) (C := RX1) (T := TX1) (N := 9) hx hb hts inw_X1_fewest_1 tyX1 tyX1_ok nmX1 hown hK hP hD hS hT 0 rfl rfl 3 (by decide) (hts (.fieldLink RX1 43 "VatHouse$Planner" "low" "I") (List.mem_of_getElem? (i := 1) (by exact rfl))) (fun _ h9 => h9) rfl (tyX1_ok 3 (by decide)) rfl rfl rfl ⟨_, rfl⟩ dX1_fewest_2 (fun f_1 H locs hP hD hS hT hE1 hrd_2 hup_3 => ?_)
  have hO0 := OF.putN (a := h0) (cj := 1) hO0 hE ((hE1 h0 (hT.at 0 rfl).1).2.symm.trans (hT.at 0 rfl).2) (by decide) hrd_2
  have hO7 := OF.putN (a := h0) (cj := 1) hO7 hE ((hE1 h0 (hT.at 0 rfl).1).2.symm.trans (hT.at 0 rfl).2) (by decide) hrd_2
  have hF := Fr.put (a := h0) (ci := 1) hF hE ((hE1 h0 (hT.at 0 rfl).1).2.symm.trans (hT.at 0 rfl).2) (by decide) hrd_2 hup_3
  have hE := hE.tr hE1
  refine lv_aload_n hx hb dX1_fewest_5 rfl (lv_at hl 0 rfl) ?_
  refine lv_iload_n hx hb dX1_fewest_6 rfl (lv_at hl 3 rfl) ?_
  refine T_put (ci := 1) (v := .int hg) (ty := .int) (t := tI) (C := RX1) (T := TX1) (N := 9) hx hb hts inw_X1_fewest_1 tyX1 tyX1_ok nmX1 hown hK hP hD hS hT 0 rfl rfl 4 (by decide) (hts (.fieldLink RX1 47 "VatHouse$Planner" "high" "I") (List.mem_of_getElem? (i := 2) (by exact rfl))) (fun _ h9 => h9) rfl (tyX1_ok 4 (by decide)) rfl rfl rfl ⟨_, rfl⟩ dX1_fewest_7 (fun f_4 H locs hP hD hS hT hE1 hrd_5 hup_6 => ?_)
  have hO0 := OF.putN (a := h0) (cj := 1) hO0 hE ((hE1 h0 (hT.at 0 rfl).1).2.symm.trans (hT.at 0 rfl).2) (by decide) hrd_5
  have hO7 := OF.putN (a := h0) (cj := 1) hO7 hE ((hE1 h0 (hT.at 0 rfl).1).2.symm.trans (hT.at 0 rfl).2) (by decide) hrd_5
  have hF := Fr.put (a := h0) (ci := 1) hF hE ((hE1 h0 (hT.at 0 rfl).1).2.symm.trans (hT.at 0 rfl).2) (by decide) hrd_5 hup_6
  have hE := hE.tr hE1
  refine lv_iconst (v := 0) hx hb dX1_fewest_10 (by decide) ?_
  refine lv_istore (lv' := [(5, .int 0), (0, .ref h0), (1, .ref o), (2, .int lw), (3, .int hg), (4, .int mo)]) hx hb dX1_fewest_11 hl (by decide) rfl (fun ls hl => ?_)
  have lp : ∀ (n : Nat) (ii : Int32) (L1 : List Nat) (f1 : Nat → va_E) (H : Heap) (locs : List Loc) (ls : Array Slot), (∃ a : Nat, ii = nI a ∧ a ≤ 6 ∧ 6 < a + n) → (OF 0 [tc] L f f1) → (OF 7 [(tv 0), (tv 1), (tv 2), (tv 3), (tv 4), (tv 5)] L f f1) → va_P (dC, dI) vwCl (va_pl L1 f1) H → va_D (va_A (va_pl L f) s.heap.size) (va_pl L1 f1) → va_S (va_A (va_pl L f) s.heap.size) s.heap H locs → TP g L1 f1 [(h0, (0, 1, 0)), (o, (0, 0, 0)), (tvr, (2, g 10, 6)), (tc, (0, 0, 0)), (wk, (0, 8, 0)), (vs, (2, g 2, 6))] → Ext L f L1 f1 → Fr [(0, 0), (0, 1), (0, 2), (0, 3), (0, 4), (0, 5), (0, 6), (0, 7), (7, 0), (7, 1), (7, 2), (7, 3), (7, 4), (7, 5), (7, 6), (7, 7), (1, 3), (1, 4), (1, 5), (100, 3)] L f f1 → lv_has ls 6 [(5, .int ii), (0, .ref h0), (1, .ref o), (2, .int lw), (3, .int hg), (4, .int mo)] → W p l e rm_X1_fewestF s m [.ref h0, .ref o, .int lw, .int hg, .int mo].toArray below meth c H locs 0 0 (MQ below (Qg (kpost g L f (fun r L' f' => (∃ z : Int32, r = some (.int z)) ∧ Fr [(0, 0), (0, 1), (0, 2), (0, 3), (0, 4), (0, 5), (0, 6), (0, 7), (7, 0), (7, 1), (7, 2), (7, 3), (7, 4), (7, 5), (7, 6), (7, 7), (1, 3), (1, 4), (1, 5), (100, 3)] L f f' ∧ (OF 0 [tc] L f f' ∧ OF 7 [(tv 0), (tv 1), (tv 2), (tv 3), (tv 4), (tv 5)] L f f'))) (fun (u : PL) t => QW dC dI (va_A (va_pl L f) s.heap.size) (va_pl u.1 u.2) [] t) (va_A (va_pl L f) s.heap.size)) [.ref h0, .ref o, .int lw, .int hg, .int mo].toArray s (0) (0) (va_A (va_pl L f) s.heap.size)) (F0 m 13 ls []) := by
    intro n
    induction n with
    | zero => intro ii L1 f1 H locs ls hm hO0 hO7 hP hD hS hT hE hF hl; exact absurd hm (by rintro ⟨a, -, h1, h2⟩; omega)
    | succ n ih =>
      intro ii L1 f1 H locs ls hm hO0 hO7 hP hD hS hT hE hF hl
      refine lv_iload hx hb dX1_fewest_13 (lv_at hl 0 rfl) ?_
      refine lv_aload_n hx hb dX1_fewest_15 rfl (lv_at hl 1 rfl) ?_
      refine T_get (ci := 1) (C := RX1) (T := TX1) (N := 9) (t := (1, 2, g 10, 6)) hx hb hts inw_X1_fewest_1 hown hK hP hT 0 rfl rfl 1 (by decide) (hts (.fieldLink RX1 11 "VatHouse$Planner" "trialVats" "[LVatHouse$Vat;") (List.mem_of_getElem? (i := 3) (by exact rfl))) (fun _ h9 => h9) rfl dX1_fewest_16 (fun v_9 hv_7 hr_8 => ?_)
      obtain rfl : v_9 = .ref tvr := hr_8.symm.trans ((hF.1 h0 (hT0.at 0 rfl).1 1 (hT0.at 0 rfl).2 1 (by decide)).trans h_tvr)
      refine T_alen hx hb hK hP hT 2 10 rfl rfl (v := 6) rfl dX1_fewest_19 ?_
      refine lv_icmp_ge (tgt := 48) hx hb dX1_fewest_20 (by decide) (fun c_10 => ?_) (fun c_10 => ?_)
      · refine lv_aload_n hx hb dX1_fewest_48 rfl (lv_at hl 1 rfl) ?_
        refine T_get (ci := 1) (C := RX1) (T := TX1) (N := 9) (t := (1, 0, 0, 0)) hx hb hts inw_X1_fewest_1 hown hK hP hT 0 rfl rfl 2 (by decide) (hts (.fieldLink RX1 22 "VatHouse$Planner" "trialCloth" "LVatHouse$Cloth;") (List.mem_of_getElem? (i := 5) (by exact rfl))) (fun _ h9 => h9) rfl dX1_fewest_49 (fun v_13 hv_11 hr_12 => ?_)
        obtain rfl : v_13 = .ref tc := hr_12.symm.trans ((hF.1 h0 (hT0.at 0 rfl).1 1 (hT0.at 0 rfl).2 2 (by decide)).trans h_tc)
        refine lv_aload_n hx hb dX1_fewest_52 rfl (lv_at hl 2 rfl) ?_
        refine K_V ⟨hx, hb, hml, hown, hts⟩ (t_X0_copyFromF l dC dI sa hlt g _ _ tc o _ (hT.sub [3, 1] rfl)  ) (cwV 1 hts gX1_fewest_X0_copyFrom rfl rfl rfl (by decide +kernel) ⟨Nat.le_of_ble_eq_true rfl, Nat.le_of_ble_eq_true rfl⟩) hP hD hK hS hA hev hT 3 0 rfl rfl rfl rfl hl.1 rfl (Nat.le_of_ble_eq_true rfl) dX1_fewest_53 ⟨Nat.le_of_ble_eq_true rfl, Nat.le_of_ble_eq_true rfl⟩ (fun r L_14 f_15 H locs hw_16 hP hD hS hT hE1 => ?_)
        have hEo := hE
        have hO7 := hO7.call hE (OF.fr hw_16.2.1 (by decide)) (by simp)
        have hF := Fr.call hF hE hw_16.2.1 (by decide)
        have hE := hE.tr hE1
        obtain ⟨rfl, hw_16⟩ := hw_16
        obtain ⟨hfr_17, hex_18⟩ := hw_16
        have hO0 := hO0.call hEo hex_18 (by simp)
        refine W.eq (g2 := F0 m 56 ls []) rfl ?_
        refine lv_iconst (v := 0) hx hb dX1_fewest_56 (by decide) ?_
        refine lv_istore (lv' := [(5, .int 0), (0, .ref h0), (1, .ref o), (2, .int lw), (3, .int hg), (4, .int mo)]) hx hb dX1_fewest_57 hl (by decide) rfl (fun ls hl => ?_)
        have lp : ∀ (n : Nat) (ii : Int32) (L1 : List Nat) (f1 : Nat → va_E) (H : Heap) (locs : List Loc) (ls : Array Slot), (∃ a : Nat, ii = nI a ∧ a ≤ 3 + 1 ∧ 3 + 1 < a + n) → (OF 0 [tc] L f f1) → (OF 7 [(tv 0), (tv 1), (tv 2), (tv 3), (tv 4), (tv 5)] L f f1) → va_P (dC, dI) vwCl (va_pl L1 f1) H → va_D (va_A (va_pl L f) s.heap.size) (va_pl L1 f1) → va_S (va_A (va_pl L f) s.heap.size) s.heap H locs → TP g L1 f1 [(h0, (0, 1, 0)), (o, (0, 0, 0)), (tvr, (2, g 10, 6)), (tc, (0, 0, 0)), (wk, (0, 8, 0)), (vs, (2, g 2, 6))] → Ext L f L1 f1 → Fr [(0, 0), (0, 1), (0, 2), (0, 3), (0, 4), (0, 5), (0, 6), (0, 7), (7, 0), (7, 1), (7, 2), (7, 3), (7, 4), (7, 5), (7, 6), (7, 7), (1, 3), (1, 4), (1, 5), (100, 3)] L f f1 → lv_has ls 6 [(5, .int ii), (0, .ref h0), (1, .ref o), (2, .int lw), (3, .int hg), (4, .int mo)] → W p l e rm_X1_fewestF s m [.ref h0, .ref o, .int lw, .int hg, .int mo].toArray below meth c H locs 0 0 (MQ below (Qg (kpost g L f (fun r L' f' => (∃ z : Int32, r = some (.int z)) ∧ Fr [(0, 0), (0, 1), (0, 2), (0, 3), (0, 4), (0, 5), (0, 6), (0, 7), (7, 0), (7, 1), (7, 2), (7, 3), (7, 4), (7, 5), (7, 6), (7, 7), (1, 3), (1, 4), (1, 5), (100, 3)] L f f' ∧ (OF 0 [tc] L f f' ∧ OF 7 [(tv 0), (tv 1), (tv 2), (tv 3), (tv 4), (tv 5)] L f f'))) (fun (u : PL) t => QW dC dI (va_A (va_pl L f) s.heap.size) (va_pl u.1 u.2) [] t) (va_A (va_pl L f) s.heap.size)) [.ref h0, .ref o, .int lw, .int hg, .int mo].toArray s (0) (0) (va_A (va_pl L f) s.heap.size)) (F0 m 59 ls []) := by
          intro n
          induction n with
          | zero => intro ii L1 f1 H locs ls hm hO0 hO7 hP hD hS hT hE hF hl; exact absurd hm (by rintro ⟨a, -, h1, h2⟩; omega)
          | succ n ih =>
            intro ii L1 f1 H locs ls hm hO0 hO7 hP hD hS hT hE hF hl
            refine lv_iload hx hb dX1_fewest_59 (lv_at hl 0 rfl) ?_
            refine lv_iload hx hb dX1_fewest_61 (lv_at hl 5 rfl) ?_
            refine lv_icmp_gt (tgt := 97) hx hb dX1_fewest_63 (by decide) (fun c_21 => ?_) (fun c_21 => ?_)
            · refine lv_aload_n hx hb dX1_fewest_97 rfl (lv_at hl 1 rfl) ?_
              refine lv_iconst (v := 0) hx hb dX1_fewest_98 (by decide) ?_
              refine T_put (ci := 1) (v := .int 0) (ty := .int) (t := tI) (C := RX1) (T := TX1) (N := 9) hx hb hts inw_X1_fewest_1 tyX1 tyX1_ok nmX1 hown hK hP hD hS hT 0 rfl rfl 5 (by decide) (hts (.fieldLink RX1 67 "VatHouse$Planner" "kept" "I") (List.mem_of_getElem? (i := 6) (by exact rfl))) (fun _ h9 => h9) rfl (tyX1_ok 5 (by decide)) rfl rfl rfl ⟨_, rfl⟩ dX1_fewest_99 (fun f_22 H locs hP hD hS hT hE1 hrd_23 hup_24 => ?_)
              have hO0 := OF.putN (a := h0) (cj := 1) hO0 hE ((hE1 h0 (hT.at 0 rfl).1).2.symm.trans (hT.at 0 rfl).2) (by decide) hrd_23
              have hO7 := OF.putN (a := h0) (cj := 1) hO7 hE ((hE1 h0 (hT.at 0 rfl).1).2.symm.trans (hT.at 0 rfl).2) (by decide) hrd_23
              have hF := Fr.put (a := h0) (ci := 1) hF hE ((hE1 h0 (hT.at 0 rfl).1).2.symm.trans (hT.at 0 rfl).2) (by decide) hrd_23 hup_24
              have hE := hE.tr hE1
              refine lv_iconst (v := (-1)) hx hb dX1_fewest_102 (by decide) ?_
              exact K_i hx hb hr hlocks hP hD hK hS hT hE ⟨⟨_, rfl⟩, hF, hO0, hO7⟩ (Nat.le_of_ble_eq_true rfl) (Nat.le_of_ble_eq_true rfl) dX1_fewest_103
            · refine lv_iload hx hb dX1_fewest_66 (lv_at hl 0 rfl) ?_
              refine lv_iconst (v := 3) hx hb dX1_fewest_68 (by decide) ?_
              refine lv_icmp_gt (tgt := 97) hx hb dX1_fewest_69 (by decide) (fun c_25 => ?_) (fun c_25 => ?_)
              · refine lv_aload_n hx hb dX1_fewest_97 rfl (lv_at hl 1 rfl) ?_
                refine lv_iconst (v := 0) hx hb dX1_fewest_98 (by decide) ?_
                refine T_put (ci := 1) (v := .int 0) (ty := .int) (t := tI) (C := RX1) (T := TX1) (N := 9) hx hb hts inw_X1_fewest_1 tyX1 tyX1_ok nmX1 hown hK hP hD hS hT 0 rfl rfl 5 (by decide) (hts (.fieldLink RX1 67 "VatHouse$Planner" "kept" "I") (List.mem_of_getElem? (i := 6) (by exact rfl))) (fun _ h9 => h9) rfl (tyX1_ok 5 (by decide)) rfl rfl rfl ⟨_, rfl⟩ dX1_fewest_99 (fun f_26 H locs hP hD hS hT hE1 hrd_27 hup_28 => ?_)
                have hO0 := OF.putN (a := h0) (cj := 1) hO0 hE ((hE1 h0 (hT.at 0 rfl).1).2.symm.trans (hT.at 0 rfl).2) (by decide) hrd_27
                have hO7 := OF.putN (a := h0) (cj := 1) hO7 hE ((hE1 h0 (hT.at 0 rfl).1).2.symm.trans (hT.at 0 rfl).2) (by decide) hrd_27
                have hF := Fr.put (a := h0) (ci := 1) hF hE ((hE1 h0 (hT.at 0 rfl).1).2.symm.trans (hT.at 0 rfl).2) (by decide) hrd_27 hup_28
                have hE := hE.tr hE1
                refine lv_iconst (v := (-1)) hx hb dX1_fewest_102 (by decide) ?_
                exact K_i hx hb hr hlocks hP hD hK hS hT hE ⟨⟨_, rfl⟩, hF, hO0, hO7⟩ (Nat.le_of_ble_eq_true rfl) (Nat.le_of_ble_eq_true rfl) dX1_fewest_103
              · refine lv_aload_n hx hb dX1_fewest_72 rfl (lv_at hl 1 rfl) ?_
                refine lv_iconst (v := 0) hx hb dX1_fewest_73 (by decide) ?_
                refine lv_iload hx hb dX1_fewest_74 (lv_at hl 0 rfl) ?_
                refine K_V ⟨hx, hb, hml, hown, hts⟩ (X1_reachesF_all l dC dI sa hlt g 3 0 rfl _ _ tv h0 0 ii tvr tc _ (hT.sub [0, 2, 3] rfl)  ((hF.1 h0 (hT0.at 0 rfl).1 1 (hT0.at 0 rfl).2 1 (by decide)).trans h_tvr) ((hF.1 h0 (hT0.at 0 rfl).1 1 (hT0.at 0 rfl).2 2 (by decide)).trans h_tc) nI_0.symm (fun k9 h9 => by rw [ra_eq (hF.2 tvr (hT0.at 2 rfl).1 1 _ _ (hT0.at 2 rfl).2 (by decide))]; exact hTV k9 h9)) (cwV 2 hts gX1_fewest_X1_reaches rfl rfl rfl (by decide +kernel) ⟨Nat.le_of_ble_eq_true rfl, Nat.le_of_ble_eq_true rfl⟩) hP hD hK hS hA hev hT 0 1 rfl rfl rfl rfl hl.1 rfl (Nat.le_of_ble_eq_true rfl) dX1_fewest_76 ⟨Nat.le_of_ble_eq_true rfl, Nat.le_of_ble_eq_true rfl⟩ (fun r L_29 f_30 H locs hw_31 hP hD hS hT hE1 => ?_)
                have hEo := hE
                have hF := Fr.call hF hE hw_31.2.1 (by decide)
                have hE := hE.tr hE1
                obtain ⟨⟨z_32, rfl, hz_z_32⟩, hw_31⟩ := hw_31
                obtain ⟨hfr_33, hex_34⟩ := hw_31
                obtain ⟨hof_35, hof_36⟩ := hex_34
                have hO0 := hO0.call hEo hof_35 (fun _ h9 => h9)
                have hO7 := hO7.call hEo hof_36 (fun _ h9 => h9)
                refine W.eq (g2 := F0 m 79 ls [.int z_32]) rfl ?_
                refine lv_if_eq (tgt := 91) hx hb dX1_fewest_79 (by decide) (fun c_38 => ?_) (fun c_38 => ?_)
                · refine lv_iinc (v := (ii + 1)) (lv' := [(5, .int (ii + 1)), (0, .ref h0), (1, .ref o), (2, .int lw), (3, .int hg), (4, .int mo)]) hx hb dX1_fewest_91 hl (k := 0) rfl rfl (by decide) rfl (fun ls hl => ?_)
                  refine lv_goto (tgt := 59) hx hb dX1_fewest_94 (by decide) ?_
                  exact ih (ii + 1) _ _ _ _ _ (up_le (by decide) hm c_25) (hO0) (hO7) hP hD hS (hT.sub [0, 1, 2, 3, 4, 5] rfl) hE hF (lv_sub hl [0, 1, 2, 3, 4, 5] rfl)
                · refine lv_aload_n hx hb dX1_fewest_82 rfl (lv_at hl 1 rfl) ?_
                  refine lv_iload hx hb dX1_fewest_83 (lv_at hl 0 rfl) ?_
                  refine T_put (ci := 1) (v := .int ii) (ty := .int) (t := tI) (C := RX1) (T := TX1) (N := 9) hx hb hts inw_X1_fewest_1 tyX1 tyX1_ok nmX1 hown hK hP hD hS hT 0 rfl rfl 5 (by decide) (hts (.fieldLink RX1 67 "VatHouse$Planner" "kept" "I") (List.mem_of_getElem? (i := 6) (by exact rfl))) (fun _ h9 => h9) rfl (tyX1_ok 5 (by decide)) rfl rfl rfl ⟨_, rfl⟩ dX1_fewest_85 (fun f_39 H locs hP hD hS hT hE1 hrd_40 hup_41 => ?_)
                  have hO0 := OF.putN (a := h0) (cj := 1) hO0 hE ((hE1 h0 (hT.at 0 rfl).1).2.symm.trans (hT.at 0 rfl).2) (by decide) hrd_40
                  have hO7 := OF.putN (a := h0) (cj := 1) hO7 hE ((hE1 h0 (hT.at 0 rfl).1).2.symm.trans (hT.at 0 rfl).2) (by decide) hrd_40
                  have hF := Fr.put (a := h0) (ci := 1) hF hE ((hE1 h0 (hT.at 0 rfl).1).2.symm.trans (hT.at 0 rfl).2) (by decide) hrd_40 hup_41
                  have hE := hE.tr hE1
                  refine lv_iload hx hb dX1_fewest_88 (lv_at hl 0 rfl) ?_
                  exact K_i hx hb hr hlocks hP hD hK hS hT hE ⟨⟨_, rfl⟩, hF, hO0, hO7⟩ (Nat.le_of_ble_eq_true rfl) (Nat.le_of_ble_eq_true rfl) dX1_fewest_90
        exact lp 5 0 _ _ _ _ _ (⟨0, nI_0.symm, by omega, by omega⟩) (hO0) (hO7) hP hD hS (hT.sub [0, 1, 2, 3, 4, 5] rfl) hE hF (lv_sub hl [0, 1, 2, 3, 4, 5] rfl)
      · refine lv_aload_n hx hb dX1_fewest_23 rfl (lv_at hl 1 rfl) ?_
        refine T_get (ci := 1) (C := RX1) (T := TX1) (N := 9) (t := (1, 2, g 10, 6)) hx hb hts inw_X1_fewest_1 hown hK hP hT 0 rfl rfl 1 (by decide) (hts (.fieldLink RX1 11 "VatHouse$Planner" "trialVats" "[LVatHouse$Vat;") (List.mem_of_getElem? (i := 3) (by exact rfl))) (fun _ h9 => h9) rfl dX1_fewest_24 (fun v_44 hv_42 hr_43 => ?_)
        obtain rfl : v_44 = .ref tvr := hr_43.symm.trans ((hF.1 h0 (hT0.at 0 rfl).1 1 (hT0.at 0 rfl).2 1 (by decide)).trans h_tvr)
        refine lv_iload hx hb dX1_fewest_27 (lv_at hl 0 rfl) ?_
        refine T_vald hx hb hK hP hT 2 10 (Or.inr rfl) rfl rfl (up_in (by decide) hm (by decide) c_10 (by decide) (by decide)) dX1_fewest_29 (fun b_45 hb9 hra => ?_)
        have hT := hT.add hb9
        have hbm : b_45 ∈ [(tv 0), (tv 1), (tv 2), (tv 3), (tv 4), (tv 5)] := by
          obtain ⟨a9, ha9, h69, -⟩ := hm
          have h59 : a9 < 6 := up_lt (by decide) ha9 h69 (by decide) c_10
          rw [ha9, nI_clamp (by omega), ra_eq (hF.2 tvr (hT0.at 2 rfl).1 1 _ _ (hT0.at 2 rfl).2 (by decide)), hTV a9 h59] at hra
          rw [← Option.some.inj hra]
          exact tv_in h59
        obtain ⟨k9, hk9, hk69, -⟩ := id hm
        have hk59 : k9 < 6 := up_lt (by decide) hk9 hk69 (by decide) c_10
        refine lv_aload_n hx hb dX1_fewest_30 rfl (lv_at hl 1 rfl) ?_
        refine T_get (ci := 1) (C := RX1) (T := TX1) (N := 9) (t := (1, 0, 8, 0)) hx hb hts inw_X1_fewest_1 hown hK hP hT 1 rfl rfl 0 (by decide) (hts (.fieldLink RX1 36 "VatHouse$Planner" "works" "LVatHouse$Works;") (List.mem_of_getElem? (i := 4) (by exact rfl))) (fun _ h9 => h9) rfl dX1_fewest_31 (fun v_48 hv_46 hr_47 => ?_)
        obtain rfl : v_48 = .ref wk := hr_47.symm.trans ((hF.1 h0 (hT0.at 0 rfl).1 1 (hT0.at 0 rfl).2 0 (by decide)).trans h_wk)
        refine lv_iload hx hb dX1_fewest_34 (lv_at hl 0 rfl) ?_
        refine K_V ⟨hx, hb, hml, hown, hts⟩ (t_X8_vatAtE l dC dI sa hlt g _ _ k9 (va k9) wk ii vs _ (hT.sub [5, 6] rfl)  ((hF.1 wk (hT0.at 4 rfl).1 8 (hT0.at 4 rfl).2 0 (by decide)).trans h_vs) hk9 hk59 (by rw [ra_eq (hF.2 vs (hT0.at 5 rfl).1 1 _ _ (hT0.at 5 rfl).2 (by decide))]; exact hVA k9 hk59)) (cwV 1 hts gX1_fewest_X8_vatAt rfl rfl rfl (by decide +kernel) ⟨Nat.le_of_ble_eq_true rfl, Nat.le_of_ble_eq_true rfl⟩) hP hD hK hS hA hev hT 5 8 rfl rfl rfl rfl hl.1 rfl (Nat.le_of_ble_eq_true rfl) dX1_fewest_36 ⟨Nat.le_of_ble_eq_true rfl, Nat.le_of_ble_eq_true rfl⟩ (fun r L_49 f_50 H locs hw_51 hP hD hS hT hE1 => ?_)
        have hEo := hE
        have hO0 := hO0.call hE (OF.fr hw_51.2.1 (by decide)) (by simp)
        have hO7 := hO7.call hE (OF.fr hw_51.2.1 (by decide)) (by simp)
        have hF := Fr.call hF hE hw_51.2.1 (by decide)
        have hE := hE.tr hE1
        obtain ⟨⟨v_52, rfl, hv9⟩, hw_51⟩ := hw_51
        obtain ⟨b_53, rfl, hb9⟩ := hv9
        have hT := hT.add hb9
        obtain ⟨hfr_54, hex_55⟩ := hw_51
        refine W.eq (g2 := F0 m 39 ls [.ref b_53, .ref b_45]) rfl ?_
        refine K_V ⟨hx, hb, hml, hown, hts⟩ (t_X7_copyFromF l dC dI sa hlt g _ _ b_45 b_53 _ (hT.sub [1, 0] rfl)  ) (cwV 1 hts gX1_fewest_X7_copyFrom rfl rfl rfl (by decide +kernel) ⟨Nat.le_of_ble_eq_true rfl, Nat.le_of_ble_eq_true rfl⟩) hP hD hK hS hA hev hT 1 7 rfl rfl rfl rfl hl.1 rfl (Nat.le_of_ble_eq_true rfl) dX1_fewest_39 ⟨Nat.le_of_ble_eq_true rfl, Nat.le_of_ble_eq_true rfl⟩ (fun r L_56 f_57 H locs hw_58 hP hD hS hT hE1 => ?_)
        have hEo := hE
        have hO0 := hO0.call hE (OF.fr hw_58.2.1 (by decide)) (by simp)
        have hF := Fr.call hF hE hw_58.2.1 (by decide)
        have hE := hE.tr hE1
        obtain ⟨rfl, hw_58⟩ := hw_58
        obtain ⟨hfr_59, hex_60⟩ := hw_58
        have hO7 := hO7.call hEo hex_60 (fun a9 h9 => by rw [List.mem_singleton.mp h9]; exact hbm)
        refine W.eq (g2 := F0 m 42 ls []) rfl ?_
        refine lv_iinc (v := (ii + 1)) (lv' := [(5, .int (ii + 1)), (0, .ref h0), (1, .ref o), (2, .int lw), (3, .int hg), (4, .int mo)]) hx hb dX1_fewest_42 hl (k := 0) rfl rfl (by decide) rfl (fun ls hl => ?_)
        refine lv_goto (tgt := 13) hx hb dX1_fewest_45 (by decide) ?_
        exact ih (ii + 1) _ _ _ _ _ (up_nx (by decide) hm (by decide) c_10) (hO0) (hO7) hP hD hS (hT.sub [2, 3, 4, 5, 6, 7] rfl) hE hF (lv_sub hl [0, 1, 2, 3, 4, 5] rfl)
  exact lp 7 0 _ _ _ _ _ (⟨0, nI_0.symm, by omega, by omega⟩) (hO0) (hO7) hP hD hS (hT.sub [0, 1, 2, 3, 4, 5] rfl) hE hF (lv_sub hl [0, 1, 2, 3, 4, 5] rfl)
