abbrev rm_X7_copyFromE : Room := { frames := 0, cells := 0, slots := 0, locals := 0 }
set_option maxHeartbeats 800000 in
set_option maxRecDepth 100000 in
theorem t_X7_copyFromE (l : Launch) (dC : Nat → ClassId) (dI : Nat → Nat → Nat) (sa : Nat → Nat) (hlt : l.stackTraces = false) (g : Nat → Nat) (L : List Nat) (f : Nat → va_E) (h0 : Nat) (o : Nat) (x1 : Int32) (x2 : Int32) (x3 : Int32) (x4 : Int32) (sz : Nat) (hT : TP g L f [(h0, (0, 7, 0)), (o, (0, 7, 0))]) (hm_x1 : rd f o 1 = .int x1) (hm_x2 : rd f o 2 = .int x2) (hm_x3 : rd f o 3 = .int x3) (hm_x4 : rd f o 4 = .int x4) : KC l dC dI sa g yX7_copyFrom wsX7_copyFrom rm_X7_copyFromE [.ref h0, .ref o] L f sz (fun r L' f' => (r = none) ∧ Fr [(7, 1), (7, 2), (7, 3), (7, 4)] L f f' ∧ (∃ y1' : Int32, ∃ y2' : Int32, ∃ y3' : Int32, ∃ y4' : Int32, rd f' h0 1 = .int y1' ∧ rd f' h0 2 = .int y2' ∧ rd f' h0 3 = .int y3' ∧ rd f' h0 4 = .int y4' ∧ (y1' = x1) ∧ (y2' = x2) ∧ (y3' = x3) ∧ (y4' = x4) ∧ (OF 7 [h0] L f f'))) 0 0 := by
  refine CT.start (cc := cX7_copyFrom) (maxL := 2) (ret := none) (by decide) rfl (Nat.le_of_ble_eq_true rfl) ?_
  intro p e s m below meth c ls hst hP hK hD hev hS hl
  obtain ⟨hx, hb, hr, hml, hts, hown, hlocks, hin⟩ := hst
  have hown : s.vm.findClass RX7 = some m.cls := hown
  have hin : meth.name = yX7_copyFrom.name := hin
  have hA : ∀ q : Nat, s.heap.size ≤ q → va_A (va_pl L f) s.heap.size q := fun _ h => Or.inr h
  have hE : Ext L f L f := Ext.rf
  have hF : Fr [(7, 1), (7, 2), (7, 3), (7, 4)] L f f := Fr.rf
  have hO7 : OF 7 [h0] L f f := OF.rf
  have hl : lv_has ls 2 [(0, .ref h0), (1, .ref o)] := hl
  refine lv_aload_n hx hb dX7_copyFrom_0 rfl (lv_at hl 0 rfl) ?_
  refine lv_aload_n hx hb dX7_copyFrom_1 rfl (lv_at hl 1 rfl) ?_
  refine T_get (ci := 7) (C := RX7) (T := TX7) (N := 8) (t := tI) hx hb hts inw_X7_copyFrom_7 hown hK hP hT 1 rfl rfl 1 (by decide) (hts (.fieldLink RX7 26 "VatHouse$Vat" "grains" "I") (by decide +kernel)) (fun _ h9 => h9) rfl dX7_copyFrom_2 (fun v_3 hv_1 hr_2 => ?_)
  obtain rfl : v_3 = .int x1 := hr_2.symm.trans hm_x1
  have hTo := hT
  refine T_put (ci := 7) (v := .int x1) (ty := .int) (t := tI) (C := RX7) (T := TX7) (N := 8) hx hb hts inw_X7_copyFrom_7 tyX7 tyX7_ok nmX7 hown hK hP hD hS hT 0 rfl rfl 1 (by decide) (hts (.fieldLink RX7 26 "VatHouse$Vat" "grains" "I") (by decide +kernel)) (fun _ h9 => h9) rfl (by decide +kernel) rfl rfl rfl ⟨_, rfl⟩ dX7_copyFrom_5 (fun f_4 H locs hP hD hS hT hE1 hrd_5 hup_6 => ?_)
  have hO7 := hO7.put hrd_5 (by simp)
  have hF := Fr.put (a := h0) (ci := 7) hF hE ((hE1 h0 (hT.at 0 rfl).1).2.symm.trans (hT.at 0 rfl).2) (by decide) hrd_5 hup_6
  have hE := hE.tr hE1
  have hk_8 : rd f_4 o 2 = .int x2 := ((Fr.put (cs := [(7, 1)]) (a := h0) (ci := 7) Fr.rf Ext.rf (hTo.at 0 rfl).2 (by decide) hrd_5 hup_6).1 o (hTo.at 1 rfl).1 7 (hTo.at 1 rfl).2 2 (by decide)).trans hm_x2
  have hk_9 : rd f_4 o 3 = .int x3 := ((Fr.put (cs := [(7, 1)]) (a := h0) (ci := 7) Fr.rf Ext.rf (hTo.at 0 rfl).2 (by decide) hrd_5 hup_6).1 o (hTo.at 1 rfl).1 7 (hTo.at 1 rfl).2 3 (by decide)).trans hm_x3
  have hk_10 : rd f_4 o 4 = .int x4 := ((Fr.put (cs := [(7, 1)]) (a := h0) (ci := 7) Fr.rf Ext.rf (hTo.at 0 rfl).2 (by decide) hrd_5 hup_6).1 o (hTo.at 1 rfl).1 7 (hTo.at 1 rfl).2 4 (by decide)).trans hm_x4
  have hk_11 : rd f_4 h0 1 = .int x1 := (hrd_5 h0 1).trans (if_pos ⟨rfl, rfl⟩)
  refine lv_aload_n hx hb dX7_copyFrom_8 rfl (lv_at hl 0 rfl) ?_
  refine lv_aload_n hx hb dX7_copyFrom_9 rfl (lv_at hl 1 rfl) ?_
  refine T_get (ci := 7) (C := RX7) (T := TX7) (N := 8) (t := tI) hx hb hts inw_X7_copyFrom_7 hown hK hP hT 1 rfl rfl 2 (by decide) (hts (.fieldLink RX7 45 "VatHouse$Vat" "food" "I") (by decide +kernel)) (fun _ h9 => h9) rfl dX7_copyFrom_10 (fun v_14 hv_12 hr_13 => ?_)
  obtain rfl : v_14 = .int x2 := hr_13.symm.trans hk_8
  have hTo := hT
  refine T_put (ci := 7) (v := .int x2) (ty := .int) (t := tI) (C := RX7) (T := TX7) (N := 8) hx hb hts inw_X7_copyFrom_7 tyX7 tyX7_ok nmX7 hown hK hP hD hS hT 0 rfl rfl 2 (by decide) (hts (.fieldLink RX7 45 "VatHouse$Vat" "food" "I") (by decide +kernel)) (fun _ h9 => h9) rfl (by decide +kernel) rfl rfl rfl ⟨_, rfl⟩ dX7_copyFrom_13 (fun f_15 H locs hP hD hS hT hE1 hrd_16 hup_17 => ?_)
  have hO7 := hO7.put hrd_16 (by simp)
  have hF := Fr.put (a := h0) (ci := 7) hF hE ((hE1 h0 (hT.at 0 rfl).1).2.symm.trans (hT.at 0 rfl).2) (by decide) hrd_16 hup_17
  have hE := hE.tr hE1
  have hk_19 : rd f_15 o 3 = .int x3 := ((Fr.put (cs := [(7, 2)]) (a := h0) (ci := 7) Fr.rf Ext.rf (hTo.at 0 rfl).2 (by decide) hrd_16 hup_17).1 o (hTo.at 1 rfl).1 7 (hTo.at 1 rfl).2 3 (by decide)).trans hk_9
  have hk_20 : rd f_15 o 4 = .int x4 := ((Fr.put (cs := [(7, 2)]) (a := h0) (ci := 7) Fr.rf Ext.rf (hTo.at 0 rfl).2 (by decide) hrd_16 hup_17).1 o (hTo.at 1 rfl).1 7 (hTo.at 1 rfl).2 4 (by decide)).trans hk_10
  have hk_21 : rd f_15 h0 1 = .int x1 := ((Fr.put (cs := [(7, 2)]) (a := h0) (ci := 7) Fr.rf Ext.rf (hTo.at 0 rfl).2 (by decide) hrd_16 hup_17).1 h0 (hTo.at 0 rfl).1 7 (hTo.at 0 rfl).2 1 (by decide)).trans hk_11
  have hk_22 : rd f_15 h0 2 = .int x2 := (hrd_16 h0 2).trans (if_pos ⟨rfl, rfl⟩)
  refine lv_aload_n hx hb dX7_copyFrom_16 rfl (lv_at hl 0 rfl) ?_
  refine lv_aload_n hx hb dX7_copyFrom_17 rfl (lv_at hl 1 rfl) ?_
  refine T_get (ci := 7) (C := RX7) (T := TX7) (N := 8) (t := tI) hx hb hts inw_X7_copyFrom_7 hown hK hP hT 1 rfl rfl 3 (by decide) (hts (.fieldLink RX7 42 "VatHouse$Vat" "minutes" "I") (by decide +kernel)) (fun _ h9 => h9) rfl dX7_copyFrom_18 (fun v_25 hv_23 hr_24 => ?_)
  obtain rfl : v_25 = .int x3 := hr_24.symm.trans hk_19
  have hTo := hT
  refine T_put (ci := 7) (v := .int x3) (ty := .int) (t := tI) (C := RX7) (T := TX7) (N := 8) hx hb hts inw_X7_copyFrom_7 tyX7 tyX7_ok nmX7 hown hK hP hD hS hT 0 rfl rfl 3 (by decide) (hts (.fieldLink RX7 42 "VatHouse$Vat" "minutes" "I") (by decide +kernel)) (fun _ h9 => h9) rfl (by decide +kernel) rfl rfl rfl ⟨_, rfl⟩ dX7_copyFrom_21 (fun f_26 H locs hP hD hS hT hE1 hrd_27 hup_28 => ?_)
  have hO7 := hO7.put hrd_27 (by simp)
  have hF := Fr.put (a := h0) (ci := 7) hF hE ((hE1 h0 (hT.at 0 rfl).1).2.symm.trans (hT.at 0 rfl).2) (by decide) hrd_27 hup_28
  have hE := hE.tr hE1
  have hk_30 : rd f_26 o 4 = .int x4 := ((Fr.put (cs := [(7, 3)]) (a := h0) (ci := 7) Fr.rf Ext.rf (hTo.at 0 rfl).2 (by decide) hrd_27 hup_28).1 o (hTo.at 1 rfl).1 7 (hTo.at 1 rfl).2 4 (by decide)).trans hk_20
  have hk_31 : rd f_26 h0 1 = .int x1 := ((Fr.put (cs := [(7, 3)]) (a := h0) (ci := 7) Fr.rf Ext.rf (hTo.at 0 rfl).2 (by decide) hrd_27 hup_28).1 h0 (hTo.at 0 rfl).1 7 (hTo.at 0 rfl).2 1 (by decide)).trans hk_21
  have hk_32 : rd f_26 h0 2 = .int x2 := ((Fr.put (cs := [(7, 3)]) (a := h0) (ci := 7) Fr.rf Ext.rf (hTo.at 0 rfl).2 (by decide) hrd_27 hup_28).1 h0 (hTo.at 0 rfl).1 7 (hTo.at 0 rfl).2 2 (by decide)).trans hk_22
  have hk_33 : rd f_26 h0 3 = .int x3 := (hrd_27 h0 3).trans (if_pos ⟨rfl, rfl⟩)
  refine lv_aload_n hx hb dX7_copyFrom_24 rfl (lv_at hl 0 rfl) ?_
  refine lv_aload_n hx hb dX7_copyFrom_25 rfl (lv_at hl 1 rfl) ?_
  refine T_get (ci := 7) (C := RX7) (T := TX7) (N := 8) (t := tI) hx hb hts inw_X7_copyFrom_7 hown hK hP hT 1 rfl rfl 4 (by decide) (hts (.fieldLink RX7 9 "VatHouse$Vat" "state" "I") (by decide +kernel)) (fun _ h9 => h9) rfl dX7_copyFrom_26 (fun v_36 hv_34 hr_35 => ?_)
  obtain rfl : v_36 = .int x4 := hr_35.symm.trans hk_30
  have hTo := hT
  refine T_put (ci := 7) (v := .int x4) (ty := .int) (t := tI) (C := RX7) (T := TX7) (N := 8) hx hb hts inw_X7_copyFrom_7 tyX7 tyX7_ok nmX7 hown hK hP hD hS hT 0 rfl rfl 4 (by decide) (hts (.fieldLink RX7 9 "VatHouse$Vat" "state" "I") (by decide +kernel)) (fun _ h9 => h9) rfl (by decide +kernel) rfl rfl rfl ⟨_, rfl⟩ dX7_copyFrom_29 (fun f_37 H locs hP hD hS hT hE1 hrd_38 hup_39 => ?_)
  have hO7 := hO7.put hrd_38 (by simp)
  have hF := Fr.put (a := h0) (ci := 7) hF hE ((hE1 h0 (hT.at 0 rfl).1).2.symm.trans (hT.at 0 rfl).2) (by decide) hrd_38 hup_39
  have hE := hE.tr hE1
  have hk_41 : rd f_37 h0 1 = .int x1 := ((Fr.put (cs := [(7, 4)]) (a := h0) (ci := 7) Fr.rf Ext.rf (hTo.at 0 rfl).2 (by decide) hrd_38 hup_39).1 h0 (hTo.at 0 rfl).1 7 (hTo.at 0 rfl).2 1 (by decide)).trans hk_31
  have hk_42 : rd f_37 h0 2 = .int x2 := ((Fr.put (cs := [(7, 4)]) (a := h0) (ci := 7) Fr.rf Ext.rf (hTo.at 0 rfl).2 (by decide) hrd_38 hup_39).1 h0 (hTo.at 0 rfl).1 7 (hTo.at 0 rfl).2 2 (by decide)).trans hk_32
  have hk_43 : rd f_37 h0 3 = .int x3 := ((Fr.put (cs := [(7, 4)]) (a := h0) (ci := 7) Fr.rf Ext.rf (hTo.at 0 rfl).2 (by decide) hrd_38 hup_39).1 h0 (hTo.at 0 rfl).1 7 (hTo.at 0 rfl).2 3 (by decide)).trans hk_33
  have hk_44 : rd f_37 h0 4 = .int x4 := (hrd_38 h0 4).trans (if_pos ⟨rfl, rfl⟩)
  exact K_v hx hb hr hlocks hP hD hK hS hT hE ⟨rfl, hF, _, _, _, _, hk_41, hk_42, hk_43, hk_44, rfl, rfl, rfl, rfl, hO7⟩ (Nat.le_of_ble_eq_true rfl) (Nat.le_of_ble_eq_true rfl) dX7_copyFrom_32

abbrev rm_X0_copyFromE : Room := { frames := 0, cells := 0, slots := 0, locals := 0 }
set_option maxHeartbeats 800000 in
set_option maxRecDepth 100000 in
theorem t_X0_copyFromE (l : Launch) (dC : Nat → ClassId) (dI : Nat → Nat → Nat) (sa : Nat → Nat) (hlt : l.stackTraces = false) (g : Nat → Nat) (L : List Nat) (f : Nat → va_E) (h0 : Nat) (o : Nat) (x1 : Int32) (x2 : Int32) (x3 : Int32) (sz : Nat) (hT : TP g L f [(h0, (0, 0, 0)), (o, (0, 0, 0))]) (hm_x1 : rd f o 1 = .int x1) (hm_x2 : rd f o 2 = .int x2) (hm_x3 : rd f o 3 = .int x3) : KC l dC dI sa g yX0_copyFrom wsX0_copyFrom rm_X0_copyFromE [.ref h0, .ref o] L f sz (fun r L' f' => (r = none) ∧ Fr [(0, 1), (0, 2), (0, 3)] L f f' ∧ (∃ y1' : Int32, ∃ y2' : Int32, ∃ y3' : Int32, rd f' h0 1 = .int y1' ∧ rd f' h0 2 = .int y2' ∧ rd f' h0 3 = .int y3' ∧ (y1' = x1) ∧ (y2' = x2) ∧ (y3' = x3) ∧ (OF 0 [h0] L f f'))) 0 0 := by
  refine CT.start (cc := cX0_copyFrom) (maxL := 2) (ret := none) (by decide) rfl (Nat.le_of_ble_eq_true rfl) ?_
  intro p e s m below meth c ls hst hP hK hD hev hS hl
  obtain ⟨hx, hb, hr, hml, hts, hown, hlocks, hin⟩ := hst
  have hown : s.vm.findClass RX0 = some m.cls := hown
  have hin : meth.name = yX0_copyFrom.name := hin
  have hA : ∀ q : Nat, s.heap.size ≤ q → va_A (va_pl L f) s.heap.size q := fun _ h => Or.inr h
  have hE : Ext L f L f := Ext.rf
  have hF : Fr [(0, 1), (0, 2), (0, 3)] L f f := Fr.rf
  have hO0 : OF 0 [h0] L f f := OF.rf
  have hl : lv_has ls 2 [(0, .ref h0), (1, .ref o)] := hl
  refine lv_aload_n hx hb dX0_copyFrom_0 rfl (lv_at hl 0 rfl) ?_
  refine lv_aload_n hx hb dX0_copyFrom_1 rfl (lv_at hl 1 rfl) ?_
  refine T_get (ci := 0) (C := RX0) (T := TX0) (N := 8) (t := tI) hx hb hts inw_X0_copyFrom_0 hown hK hP hT 1 rfl rfl 1 (by decide) (hts (.fieldLink RX0 18 "VatHouse$Cloth" "weight" "I") (by decide +kernel)) (fun _ h9 => h9) rfl dX0_copyFrom_2 (fun v_3 hv_1 hr_2 => ?_)
  obtain rfl : v_3 = .int x1 := hr_2.symm.trans hm_x1
  have hTo := hT
  refine T_put (ci := 0) (v := .int x1) (ty := .int) (t := tI) (C := RX0) (T := TX0) (N := 8) hx hb hts inw_X0_copyFrom_0 tyX0 tyX0_ok nmX0 hown hK hP hD hS hT 0 rfl rfl 1 (by decide) (hts (.fieldLink RX0 18 "VatHouse$Cloth" "weight" "I") (by decide +kernel)) (fun _ h9 => h9) rfl (by decide +kernel) rfl rfl rfl ⟨_, rfl⟩ dX0_copyFrom_5 (fun f_4 H locs hP hD hS hT hE1 hrd_5 hup_6 => ?_)
  have hO0 := hO0.put hrd_5 (by simp)
  have hF := Fr.put (a := h0) (ci := 0) hF hE ((hE1 h0 (hT.at 0 rfl).1).2.symm.trans (hT.at 0 rfl).2) (by decide) hrd_5 hup_6
  have hE := hE.tr hE1
  have hk_8 : rd f_4 o 2 = .int x2 := ((Fr.put (cs := [(0, 1)]) (a := h0) (ci := 0) Fr.rf Ext.rf (hTo.at 0 rfl).2 (by decide) hrd_5 hup_6).1 o (hTo.at 1 rfl).1 0 (hTo.at 1 rfl).2 2 (by decide)).trans hm_x2
  have hk_9 : rd f_4 o 3 = .int x3 := ((Fr.put (cs := [(0, 1)]) (a := h0) (ci := 0) Fr.rf Ext.rf (hTo.at 0 rfl).2 (by decide) hrd_5 hup_6).1 o (hTo.at 1 rfl).1 0 (hTo.at 1 rfl).2 3 (by decide)).trans hm_x3
  have hk_10 : rd f_4 h0 1 = .int x1 := (hrd_5 h0 1).trans (if_pos ⟨rfl, rfl⟩)
  refine lv_aload_n hx hb dX0_copyFrom_8 rfl (lv_at hl 0 rfl) ?_
  refine lv_aload_n hx hb dX0_copyFrom_9 rfl (lv_at hl 1 rfl) ?_
  refine T_get (ci := 0) (C := RX0) (T := TX0) (N := 8) (t := tI) hx hb hts inw_X0_copyFrom_0 hown hK hP hT 1 rfl rfl 2 (by decide) (hts (.fieldLink RX0 24 "VatHouse$Cloth" "loose" "I") (by decide +kernel)) (fun _ h9 => h9) rfl dX0_copyFrom_10 (fun v_13 hv_11 hr_12 => ?_)
  obtain rfl : v_13 = .int x2 := hr_12.symm.trans hk_8
  have hTo := hT
  refine T_put (ci := 0) (v := .int x2) (ty := .int) (t := tI) (C := RX0) (T := TX0) (N := 8) hx hb hts inw_X0_copyFrom_0 tyX0 tyX0_ok nmX0 hown hK hP hD hS hT 0 rfl rfl 2 (by decide) (hts (.fieldLink RX0 24 "VatHouse$Cloth" "loose" "I") (by decide +kernel)) (fun _ h9 => h9) rfl (by decide +kernel) rfl rfl rfl ⟨_, rfl⟩ dX0_copyFrom_13 (fun f_14 H locs hP hD hS hT hE1 hrd_15 hup_16 => ?_)
  have hO0 := hO0.put hrd_15 (by simp)
  have hF := Fr.put (a := h0) (ci := 0) hF hE ((hE1 h0 (hT.at 0 rfl).1).2.symm.trans (hT.at 0 rfl).2) (by decide) hrd_15 hup_16
  have hE := hE.tr hE1
  have hk_18 : rd f_14 o 3 = .int x3 := ((Fr.put (cs := [(0, 2)]) (a := h0) (ci := 0) Fr.rf Ext.rf (hTo.at 0 rfl).2 (by decide) hrd_15 hup_16).1 o (hTo.at 1 rfl).1 0 (hTo.at 1 rfl).2 3 (by decide)).trans hk_9
  have hk_19 : rd f_14 h0 1 = .int x1 := ((Fr.put (cs := [(0, 2)]) (a := h0) (ci := 0) Fr.rf Ext.rf (hTo.at 0 rfl).2 (by decide) hrd_15 hup_16).1 h0 (hTo.at 0 rfl).1 0 (hTo.at 0 rfl).2 1 (by decide)).trans hk_10
  have hk_20 : rd f_14 h0 2 = .int x2 := (hrd_15 h0 2).trans (if_pos ⟨rfl, rfl⟩)
  refine lv_aload_n hx hb dX0_copyFrom_16 rfl (lv_at hl 0 rfl) ?_
  refine lv_aload_n hx hb dX0_copyFrom_17 rfl (lv_at hl 1 rfl) ?_
  refine T_get (ci := 0) (C := RX0) (T := TX0) (N := 8) (t := tI) hx hb hts inw_X0_copyFrom_0 hown hK hP hT 1 rfl rfl 3 (by decide) (hts (.fieldLink RX0 21 "VatHouse$Cloth" "fast" "I") (by decide +kernel)) (fun _ h9 => h9) rfl dX0_copyFrom_18 (fun v_23 hv_21 hr_22 => ?_)
  obtain rfl : v_23 = .int x3 := hr_22.symm.trans hk_18
  have hTo := hT
  refine T_put (ci := 0) (v := .int x3) (ty := .int) (t := tI) (C := RX0) (T := TX0) (N := 8) hx hb hts inw_X0_copyFrom_0 tyX0 tyX0_ok nmX0 hown hK hP hD hS hT 0 rfl rfl 3 (by decide) (hts (.fieldLink RX0 21 "VatHouse$Cloth" "fast" "I") (by decide +kernel)) (fun _ h9 => h9) rfl (by decide +kernel) rfl rfl rfl ⟨_, rfl⟩ dX0_copyFrom_21 (fun f_24 H locs hP hD hS hT hE1 hrd_25 hup_26 => ?_)
  have hO0 := hO0.put hrd_25 (by simp)
  have hF := Fr.put (a := h0) (ci := 0) hF hE ((hE1 h0 (hT.at 0 rfl).1).2.symm.trans (hT.at 0 rfl).2) (by decide) hrd_25 hup_26
  have hE := hE.tr hE1
  have hk_28 : rd f_24 h0 1 = .int x1 := ((Fr.put (cs := [(0, 3)]) (a := h0) (ci := 0) Fr.rf Ext.rf (hTo.at 0 rfl).2 (by decide) hrd_25 hup_26).1 h0 (hTo.at 0 rfl).1 0 (hTo.at 0 rfl).2 1 (by decide)).trans hk_19
  have hk_29 : rd f_24 h0 2 = .int x2 := ((Fr.put (cs := [(0, 3)]) (a := h0) (ci := 0) Fr.rf Ext.rf (hTo.at 0 rfl).2 (by decide) hrd_25 hup_26).1 h0 (hTo.at 0 rfl).1 0 (hTo.at 0 rfl).2 2 (by decide)).trans hk_20
  have hk_30 : rd f_24 h0 3 = .int x3 := (hrd_25 h0 3).trans (if_pos ⟨rfl, rfl⟩)
  exact K_v hx hb hr hlocks hP hD hK hS hT hE ⟨rfl, hF, _, _, _, hk_28, hk_29, hk_30, rfl, rfl, rfl, hO0⟩ (Nat.le_of_ble_eq_true rfl) (Nat.le_of_ble_eq_true rfl) dX0_copyFrom_24

abbrev rm_X1_fewestP : Room := { frames := 27, cells := 0, slots := 0, locals := 624 }
set_option maxHeartbeats 3000000 in
set_option maxRecDepth 100000 in
theorem t_X1_fewestP (l : Launch) (dC : Nat → ClassId) (dI : Nat → Nat → Nat) (sa : Nat → Nat) (hlt : l.stackTraces = false) (g : Nat → Nat) (L : List Nat) (f : Nat → va_E) (tv : Nat → Nat) (va : Nat → Nat) (c9 : Nat) (g9 : Nat → Int32) (fo : Nat → Int32) (mi : Nat → Int32) (st : Nat → Int32) (w : Nat → Int32) (lo : Nat → Int32) (fa : Nat → Int32) (h0 : Nat) (o : Nat) (lw : Int32) (hg : Int32) (mo : Int32) (tvr : Nat) (tc : Nat) (ks : Nat) (wk : Nat) (vs : Nat) (sz : Nat) (hT : TP g L f [(h0, (0, 1, 0)), (o, (0, 0, 0)), (tvr, (2, g 10, 6)), (tc, (0, 0, 0)), (ks, (1, g 9, 3)), (wk, (0, 8, 0)), (vs, (2, g 2, 6))]) (h_tvr : rd f h0 1 = .ref tvr) (h_tc : rd f h0 2 = .ref tc) (h_ks : rd f h0 8 = .ref ks) (h_wk : rd f h0 0 = .ref wk) (h_vs : rd f wk 0 = .ref vs) (hTV : ∀ k : Nat, k < 6 → ra f tvr k = some (tv k)) (hVA : ∀ k : Nat, k < 6 → ra f vs k = some (va k)) (hTM : ∀ k : Nat, k < 6 → tv k ∈ L ∧ sh (f (tv k)) = (0, 7, 0)) (hinj : ∀ i j : Nat, i < 6 → j < 6 → tv i = tv j → i = j) (hdv : ∀ k : Nat, k < 6 → va k ∉ [(tv 0), (tv 1), (tv 2), (tv 3), (tv 4), (tv 5)]) (hVV : ∀ k : Nat, k < 6 → (va k ∈ L ∧ sh (f (va k)) = (0, 7, 0)) ∧ rd f (va k) 1 = .int (g9 k) ∧ rd f (va k) 2 = .int (fo k) ∧ rd f (va k) 3 = .int (mi k) ∧ rd f (va k) 4 = .int (st k)) (ho1 : rd f o 1 = .int (w c9)) (ho2 : rd f o 2 = .int (lo c9)) (ho3 : rd f o 3 = .int (fa c9)) (hIV : IVp g9 w lo fa c9) : KC l dC dI sa g yX1_fewest wsX1_fewest rm_X1_fewestP [.ref h0, .ref o, .int lw, .int hg, .int mo] L f sz (fun r L' f' => (∃ z : Int32, r = some (.int z)) ∧ Fr [(0, 1), (0, 2), (0, 3), (7, 1), (7, 2), (7, 3), (7, 4), (1, 3), (1, 4), (1, 5), (100, 3)] L f f' ∧ (OF 0 [tc] L f f' ∧ OF 7 [(tv 0), (tv 1), (tv 2), (tv 3), (tv 4), (tv 5)] L f f' ∧ (FWr g9 fo mi st w lo fa c9 lw hg mo r))) 0 0 := by
  refine CT.start (cc := cX1_fewest) (maxL := 6) (ret := (some .int)) (by decide) rfl (Nat.le_of_ble_eq_true rfl) ?_
  intro p e s m below meth c ls hst hP hK hD hev hS hl
  obtain ⟨hx, hb, hr, hml, hts, hown, hlocks, hin⟩ := hst
  have hown : s.vm.findClass RX1 = some m.cls := hown
  have hin : meth.name = yX1_fewest.name := hin
  have hA : ∀ q : Nat, s.heap.size ≤ q → va_A (va_pl L f) s.heap.size q := fun _ h => Or.inr h
  have hE : Ext L f L f := Ext.rf
  have hF : Fr [(0, 1), (0, 2), (0, 3), (7, 1), (7, 2), (7, 3), (7, 4), (1, 3), (1, 4), (1, 5), (100, 3)] L f f := Fr.rf
  have hO0 : OF 0 [tc] L f f := OF.rf
  have hO7 : OF 7 [(tv 0), (tv 1), (tv 2), (tv 3), (tv 4), (tv 5)] L f f := OF.rf
  have hl : lv_has ls 6 [(0, .ref h0), (1, .ref o), (2, .int lw), (3, .int hg), (4, .int mo)] := hl
  have hT0 := hT
  refine lv_aload_n hx hb dX1_fewest_0 rfl (lv_at hl 0 rfl) ?_
  refine lv_iload_n hx hb dX1_fewest_1 rfl (lv_at hl 2 rfl) ?_
  have hTo := hT
  refine T_put (ci := 1) (v := .int lw) (ty := .int) (t := tI) (C := RX1) (T := TX1) (N := 9) hx hb hts inw_X1_fewest_1 tyX1 tyX1_ok nmX1 hown hK hP hD hS hT 0 rfl rfl 3 (by decide) (hts (.fieldLink RX1 43 "VatHouse$Planner" "low" "I") (by decide +kernel)) (fun _ h9 => h9) rfl (by decide +kernel) rfl rfl rfl ⟨_, rfl⟩ dX1_fewest_2 (fun f_1 H locs hP hD hS hT hE1 hrd_2 hup_3 => ?_)
  have hO0 := OF.putN (a := h0) (cj := 1) hO0 hE ((hE1 h0 (hT.at 0 rfl).1).2.symm.trans (hT.at 0 rfl).2) (by decide) hrd_2
  have hO7 := OF.putN (a := h0) (cj := 1) hO7 hE ((hE1 h0 (hT.at 0 rfl).1).2.symm.trans (hT.at 0 rfl).2) (by decide) hrd_2
  have hF := Fr.put (a := h0) (ci := 1) hF hE ((hE1 h0 (hT.at 0 rfl).1).2.symm.trans (hT.at 0 rfl).2) (by decide) hrd_2 hup_3
  have hE := hE.tr hE1
  have hk_4 : rd f_1 o 1 = .int (w c9) := ((Fr.put (cs := [(1, 3)]) (a := h0) (ci := 1) Fr.rf Ext.rf (hTo.at 0 rfl).2 (by decide) hrd_2 hup_3).1 o (hTo.at 1 rfl).1 0 (hTo.at 1 rfl).2 1 (by decide)).trans ho1
  have hk_5 : rd f_1 o 2 = .int (lo c9) := ((Fr.put (cs := [(1, 3)]) (a := h0) (ci := 1) Fr.rf Ext.rf (hTo.at 0 rfl).2 (by decide) hrd_2 hup_3).1 o (hTo.at 1 rfl).1 0 (hTo.at 1 rfl).2 2 (by decide)).trans ho2
  have hk_6 : rd f_1 o 3 = .int (fa c9) := ((Fr.put (cs := [(1, 3)]) (a := h0) (ci := 1) Fr.rf Ext.rf (hTo.at 0 rfl).2 (by decide) hrd_2 hup_3).1 o (hTo.at 1 rfl).1 0 (hTo.at 1 rfl).2 3 (by decide)).trans ho3
  have hk_7 : rd f_1 h0 3 = .int lw := (hrd_2 h0 3).trans (if_pos ⟨rfl, rfl⟩)
  refine lv_aload_n hx hb dX1_fewest_5 rfl (lv_at hl 0 rfl) ?_
  refine lv_iload_n hx hb dX1_fewest_6 rfl (lv_at hl 3 rfl) ?_
  have hTo := hT
  refine T_put (ci := 1) (v := .int hg) (ty := .int) (t := tI) (C := RX1) (T := TX1) (N := 9) hx hb hts inw_X1_fewest_1 tyX1 tyX1_ok nmX1 hown hK hP hD hS hT 0 rfl rfl 4 (by decide) (hts (.fieldLink RX1 47 "VatHouse$Planner" "high" "I") (by decide +kernel)) (fun _ h9 => h9) rfl (by decide +kernel) rfl rfl rfl ⟨_, rfl⟩ dX1_fewest_7 (fun f_8 H locs hP hD hS hT hE1 hrd_9 hup_10 => ?_)
  have hO0 := OF.putN (a := h0) (cj := 1) hO0 hE ((hE1 h0 (hT.at 0 rfl).1).2.symm.trans (hT.at 0 rfl).2) (by decide) hrd_9
  have hO7 := OF.putN (a := h0) (cj := 1) hO7 hE ((hE1 h0 (hT.at 0 rfl).1).2.symm.trans (hT.at 0 rfl).2) (by decide) hrd_9
  have hF := Fr.put (a := h0) (ci := 1) hF hE ((hE1 h0 (hT.at 0 rfl).1).2.symm.trans (hT.at 0 rfl).2) (by decide) hrd_9 hup_10
  have hE := hE.tr hE1
  have hk_11 : rd f_8 o 1 = .int (w c9) := ((Fr.put (cs := [(1, 4)]) (a := h0) (ci := 1) Fr.rf Ext.rf (hTo.at 0 rfl).2 (by decide) hrd_9 hup_10).1 o (hTo.at 1 rfl).1 0 (hTo.at 1 rfl).2 1 (by decide)).trans hk_4
  have hk_12 : rd f_8 o 2 = .int (lo c9) := ((Fr.put (cs := [(1, 4)]) (a := h0) (ci := 1) Fr.rf Ext.rf (hTo.at 0 rfl).2 (by decide) hrd_9 hup_10).1 o (hTo.at 1 rfl).1 0 (hTo.at 1 rfl).2 2 (by decide)).trans hk_5
  have hk_13 : rd f_8 o 3 = .int (fa c9) := ((Fr.put (cs := [(1, 4)]) (a := h0) (ci := 1) Fr.rf Ext.rf (hTo.at 0 rfl).2 (by decide) hrd_9 hup_10).1 o (hTo.at 1 rfl).1 0 (hTo.at 1 rfl).2 3 (by decide)).trans hk_6
  have hk_14 : rd f_8 h0 3 = .int lw := ((Fr.put (cs := [(1, 4)]) (a := h0) (ci := 1) Fr.rf Ext.rf (hTo.at 0 rfl).2 (by decide) hrd_9 hup_10).1 h0 (hTo.at 0 rfl).1 1 (hTo.at 0 rfl).2 3 (by decide)).trans hk_7
  have hk_15 : rd f_8 h0 4 = .int hg := (hrd_9 h0 4).trans (if_pos ⟨rfl, rfl⟩)
  refine lv_iconst (v := 0) hx hb dX1_fewest_10 (by decide) ?_
  refine lv_istore (lv' := [(5, .int 0), (0, .ref h0), (1, .ref o), (2, .int lw), (3, .int hg), (4, .int mo)]) hx hb dX1_fewest_11 hl (by decide) rfl (fun ls hl => ?_)
  have lp : ∀ (n : Nat) (ii : Int32) (L1 : List Nat) (f1 : Nat → va_E) (H : Heap) (locs : List Loc) (ls : Array Slot), (∃ a : Nat, ii = nI a ∧ a ≤ 6 ∧ 6 < a + n) → rd f1 o 1 = .int (w c9) → rd f1 o 2 = .int (lo c9) → rd f1 o 3 = .int (fa c9) → rd f1 h0 3 = .int lw → rd f1 h0 4 = .int hg → (OF 0 [tc] L f f1) → (OF 7 [(tv 0), (tv 1), (tv 2), (tv 3), (tv 4), (tv 5)] L f f1) → (∃ a : Nat, ii = nI a ∧ a ≤ 6 ∧ CPv f1 tv g9 fo mi st a) → va_P (dC, dI) vwCl (va_pl L1 f1) H → va_D (va_A (va_pl L f) s.heap.size) (va_pl L1 f1) → va_S (va_A (va_pl L f) s.heap.size) s.heap H locs → TP g L1 f1 [(h0, (0, 1, 0)), (o, (0, 0, 0)), (tvr, (2, g 10, 6)), (tc, (0, 0, 0)), (ks, (1, g 9, 3)), (wk, (0, 8, 0)), (vs, (2, g 2, 6))] → Ext L f L1 f1 → Fr [(0, 1), (0, 2), (0, 3), (7, 1), (7, 2), (7, 3), (7, 4), (1, 3), (1, 4), (1, 5), (100, 3)] L f f1 → lv_has ls 6 [(5, .int ii), (0, .ref h0), (1, .ref o), (2, .int lw), (3, .int hg), (4, .int mo)] → W p l e rm_X1_fewestP s m [.ref h0, .ref o, .int lw, .int hg, .int mo].toArray below meth c H locs 0 0 (MQ below (Qg (kpost g L f (fun r L' f' => (∃ z : Int32, r = some (.int z)) ∧ Fr [(0, 1), (0, 2), (0, 3), (7, 1), (7, 2), (7, 3), (7, 4), (1, 3), (1, 4), (1, 5), (100, 3)] L f f' ∧ (OF 0 [tc] L f f' ∧ OF 7 [(tv 0), (tv 1), (tv 2), (tv 3), (tv 4), (tv 5)] L f f' ∧ (FWr g9 fo mi st w lo fa c9 lw hg mo r)))) (fun (u : PL) t => QW dC dI (va_A (va_pl L f) s.heap.size) (va_pl u.1 u.2) [] t) (va_A (va_pl L f) s.heap.size)) [.ref h0, .ref o, .int lw, .int hg, .int mo].toArray s (0) (0) (va_A (va_pl L f) s.heap.size)) (F0 m 13 ls []) := by
    intro n
    induction n with
    | zero => intro ii L1 f1 H locs ls hm hk_o_1 hk_o_2 hk_o_3 hk_h0_3 hk_h0_4 hO0 hO7 hgC hP hD hS hT hE hF hl; exact absurd hm (by rintro ⟨a, -, h1, h2⟩; omega)
    | succ n ih =>
      intro ii L1 f1 H locs ls hm hk_o_1 hk_o_2 hk_o_3 hk_h0_3 hk_h0_4 hO0 hO7 hgC hP hD hS hT hE hF hl
      refine lv_iload hx hb dX1_fewest_13 (lv_at hl 0 rfl) ?_
      refine lv_aload_n hx hb dX1_fewest_15 rfl (lv_at hl 1 rfl) ?_
      refine T_get (ci := 1) (C := RX1) (T := TX1) (N := 9) (t := (1, 2, g 10, 6)) hx hb hts inw_X1_fewest_1 hown hK hP hT 0 rfl rfl 1 (by decide) (hts (.fieldLink RX1 11 "VatHouse$Planner" "trialVats" "[LVatHouse$Vat;") (by decide +kernel)) (fun _ h9 => h9) rfl dX1_fewest_16 (fun v_18 hv_16 hr_17 => ?_)
      obtain rfl : v_18 = .ref tvr := hr_17.symm.trans ((hF.1 h0 (hT0.at 0 rfl).1 1 (hT0.at 0 rfl).2 1 (by decide)).trans h_tvr)
      refine T_alen hx hb hK hP hT 2 10 rfl rfl (v := 6) rfl dX1_fewest_19 ?_
      refine lv_icmp_ge (tgt := 48) hx hb dX1_fewest_20 (by decide) (fun c_19 => ?_) (fun c_19 => ?_)
      · obtain ⟨k9, hk9, hk69, hcp⟩ := hgC
        obtain rfl : k9 = 6 := up_ge hk9 hk69 (by decide) c_19
        have hTM1 : ∀ k : Nat, k < 6 → tv k ∈ L1 ∧ sh (f1 (tv k)) = (0, 7, 0) := (fun k9 h9 => ⟨(hE _ (hTM k9 h9).1).1, (hE _ (hTM k9 h9).1).2.trans (hTM k9 h9).2⟩)
        refine lv_aload_n hx hb dX1_fewest_48 rfl (lv_at hl 1 rfl) ?_
        refine T_get (ci := 1) (C := RX1) (T := TX1) (N := 9) (t := (1, 0, 0, 0)) hx hb hts inw_X1_fewest_1 hown hK hP hT 0 rfl rfl 2 (by decide) (hts (.fieldLink RX1 22 "VatHouse$Planner" "trialCloth" "LVatHouse$Cloth;") (by decide +kernel)) (fun _ h9 => h9) rfl dX1_fewest_49 (fun v_22 hv_20 hr_21 => ?_)
        obtain rfl : v_22 = .ref tc := hr_21.symm.trans ((hF.1 h0 (hT0.at 0 rfl).1 1 (hT0.at 0 rfl).2 2 (by decide)).trans h_tc)
        refine lv_aload_n hx hb dX1_fewest_52 rfl (lv_at hl 2 rfl) ?_
        have hTo := hT
        refine K_V ⟨hx, hb, hml, hown, hts⟩ (t_X0_copyFromE l dC dI sa hlt g _ _ tc o (w c9) (lo c9) (fa c9) _ (hT.sub [3, 1] rfl)  hk_o_1 hk_o_2 hk_o_3 ) (cwV 1 hts gX1_fewest_X0_copyFrom rfl rfl rfl (by decide +kernel) ⟨Nat.le_of_ble_eq_true rfl, Nat.le_of_ble_eq_true rfl⟩) hP hD hK hS hA hev hT 3 0 rfl rfl rfl rfl hl.1 rfl (Nat.le_of_ble_eq_true rfl) dX1_fewest_53 ⟨Nat.le_of_ble_eq_true rfl, Nat.le_of_ble_eq_true rfl⟩ (fun r L_23 f_24 H locs hw_25 hP hD hS hT hE1 => ?_)
        have hEo := hE
        have hO7 := hO7.call hE (OF.fr hw_25.2.1 (by decide)) (by simp)
        have hF := Fr.call hF hE hw_25.2.1 (by decide)
        have hE := hE.tr hE1
        obtain ⟨rfl, hw_25⟩ := hw_25
        obtain ⟨hfr_26, y1_27, y2_28, y3_29, hk_30, hk_31, hk_32, hrel_33, hrel_34, hrel_35, hex_36⟩ := hw_25
        have hO0 := hO0.call hEo hex_36 (by simp)
        have hk_39 : rd f_24 h0 3 = .int lw := (hfr_26.1 h0 (hTo.at 0 rfl).1 1 (hTo.at 0 rfl).2 3 (by decide)).trans hk_h0_3
        have hk_40 : rd f_24 h0 4 = .int hg := (hfr_26.1 h0 (hTo.at 0 rfl).1 1 (hTo.at 0 rfl).2 4 (by decide)).trans hk_h0_4
        have hTS1 : TSp f_24 tv tc c9 g9 fo mi st w lo fa := TSp.mk9 hcp hTM1 hfr_26 (by decide) hk_30 hk_31 hk_32 hrel_33 hrel_34 hrel_35
        refine W.eq (g2 := F0 m 56 ls []) rfl ?_
        refine lv_iconst (v := 0) hx hb dX1_fewest_56 (by decide) ?_
        refine lv_istore (lv' := [(5, .int 0), (0, .ref h0), (1, .ref o), (2, .int lw), (3, .int hg), (4, .int mo)]) hx hb dX1_fewest_57 hl (by decide) rfl (fun ls hl => ?_)
        have lp : ∀ (n : Nat) (ii : Int32) (L1 : List Nat) (f1 : Nat → va_E) (H : Heap) (locs : List Loc) (ls : Array Slot), (∃ a : Nat, ii = nI a ∧ a ≤ 3 + 1 ∧ 3 + 1 < a + n) → rd f1 h0 3 = .int lw → rd f1 h0 4 = .int hg → (OF 0 [tc] L f f1) → (OF 7 [(tv 0), (tv 1), (tv 2), (tv 3), (tv 4), (tv 5)] L f f1) → (TSp f1 tv tc c9 g9 fo mi st w lo fa) → (∃ a : Nat, ii = nI a ∧ a ≤ 4 ∧ ∀ k : Nat, k < a → ¬ ldR k g9 fo mi st w lo fa c9 lw hg) → va_P (dC, dI) vwCl (va_pl L1 f1) H → va_D (va_A (va_pl L f) s.heap.size) (va_pl L1 f1) → va_S (va_A (va_pl L f) s.heap.size) s.heap H locs → TP g L1 f1 [(h0, (0, 1, 0)), (o, (0, 0, 0)), (tvr, (2, g 10, 6)), (tc, (0, 0, 0)), (ks, (1, g 9, 3)), (wk, (0, 8, 0)), (vs, (2, g 2, 6))] → Ext L f L1 f1 → Fr [(0, 1), (0, 2), (0, 3), (7, 1), (7, 2), (7, 3), (7, 4), (1, 3), (1, 4), (1, 5), (100, 3)] L f f1 → lv_has ls 6 [(5, .int ii), (0, .ref h0), (1, .ref o), (2, .int lw), (3, .int hg), (4, .int mo)] → W p l e rm_X1_fewestP s m [.ref h0, .ref o, .int lw, .int hg, .int mo].toArray below meth c H locs 0 0 (MQ below (Qg (kpost g L f (fun r L' f' => (∃ z : Int32, r = some (.int z)) ∧ Fr [(0, 1), (0, 2), (0, 3), (7, 1), (7, 2), (7, 3), (7, 4), (1, 3), (1, 4), (1, 5), (100, 3)] L f f' ∧ (OF 0 [tc] L f f' ∧ OF 7 [(tv 0), (tv 1), (tv 2), (tv 3), (tv 4), (tv 5)] L f f' ∧ (FWr g9 fo mi st w lo fa c9 lw hg mo r)))) (fun (u : PL) t => QW dC dI (va_A (va_pl L f) s.heap.size) (va_pl u.1 u.2) [] t) (va_A (va_pl L f) s.heap.size)) [.ref h0, .ref o, .int lw, .int hg, .int mo].toArray s (0) (0) (va_A (va_pl L f) s.heap.size)) (F0 m 59 ls []) := by
          intro n
          induction n with
          | zero => intro ii L1 f1 H locs ls hm hk_h0_3 hk_h0_4 hO0 hO7 hTSl hgP hP hD hS hT hE hF hl; exact absurd hm (by rintro ⟨a, -, h1, h2⟩; omega)
          | succ n ih =>
            intro ii L1 f1 H locs ls hm hk_h0_3 hk_h0_4 hO0 hO7 hTSl hgP hP hD hS hT hE hF hl
            refine lv_iload hx hb dX1_fewest_59 (lv_at hl 0 rfl) ?_
            refine lv_iload hx hb dX1_fewest_61 (lv_at hl 5 rfl) ?_
            refine lv_icmp_gt (tgt := 97) hx hb dX1_fewest_63 (by decide) (fun c_41 => ?_) (fun c_41 => ?_)
            · refine lv_aload_n hx hb dX1_fewest_97 rfl (lv_at hl 1 rfl) ?_
              refine lv_iconst (v := 0) hx hb dX1_fewest_98 (by decide) ?_
              have hTo := hT
              refine T_put (ci := 1) (v := .int 0) (ty := .int) (t := tI) (C := RX1) (T := TX1) (N := 9) hx hb hts inw_X1_fewest_1 tyX1 tyX1_ok nmX1 hown hK hP hD hS hT 0 rfl rfl 5 (by decide) (hts (.fieldLink RX1 67 "VatHouse$Planner" "kept" "I") (by decide +kernel)) (fun _ h9 => h9) rfl (by decide +kernel) rfl rfl rfl ⟨_, rfl⟩ dX1_fewest_99 (fun f_42 H locs hP hD hS hT hE1 hrd_43 hup_44 => ?_)
              have hO0 := OF.putN (a := h0) (cj := 1) hO0 hE ((hE1 h0 (hT.at 0 rfl).1).2.symm.trans (hT.at 0 rfl).2) (by decide) hrd_43
              have hO7 := OF.putN (a := h0) (cj := 1) hO7 hE ((hE1 h0 (hT.at 0 rfl).1).2.symm.trans (hT.at 0 rfl).2) (by decide) hrd_43
              have hF := Fr.put (a := h0) (ci := 1) hF hE ((hE1 h0 (hT.at 0 rfl).1).2.symm.trans (hT.at 0 rfl).2) (by decide) hrd_43 hup_44
              have hE := hE.tr hE1
              have hk_45 : rd f_42 h0 3 = .int lw := ((Fr.put (cs := [(1, 5)]) (a := h0) (ci := 1) Fr.rf Ext.rf (hTo.at 0 rfl).2 (by decide) hrd_43 hup_44).1 h0 (hTo.at 0 rfl).1 1 (hTo.at 0 rfl).2 3 (by decide)).trans hk_h0_3
              have hk_46 : rd f_42 h0 4 = .int hg := ((Fr.put (cs := [(1, 5)]) (a := h0) (ci := 1) Fr.rf Ext.rf (hTo.at 0 rfl).2 (by decide) hrd_43 hup_44).1 h0 (hTo.at 0 rfl).1 1 (hTo.at 0 rfl).2 4 (by decide)).trans hk_h0_4
              refine lv_iconst (v := (-1)) hx hb dX1_fewest_102 (by decide) ?_
              exact K_i hx hb hr hlocks hP hD hK hS hT hE ⟨⟨_, rfl⟩, hF, hO0, hO7, (by obtain ⟨q9, h1, h2, h3⟩ := hgP; exact fw_no h1 h2 (Or.inl c_41) h3)⟩ (Nat.le_of_ble_eq_true rfl) (Nat.le_of_ble_eq_true rfl) dX1_fewest_103
            · refine lv_iload hx hb dX1_fewest_66 (lv_at hl 0 rfl) ?_
              refine lv_iconst (v := 3) hx hb dX1_fewest_68 (by decide) ?_
              refine lv_icmp_gt (tgt := 97) hx hb dX1_fewest_69 (by decide) (fun c_47 => ?_) (fun c_47 => ?_)
              · refine lv_aload_n hx hb dX1_fewest_97 rfl (lv_at hl 1 rfl) ?_
                refine lv_iconst (v := 0) hx hb dX1_fewest_98 (by decide) ?_
                have hTo := hT
                refine T_put (ci := 1) (v := .int 0) (ty := .int) (t := tI) (C := RX1) (T := TX1) (N := 9) hx hb hts inw_X1_fewest_1 tyX1 tyX1_ok nmX1 hown hK hP hD hS hT 0 rfl rfl 5 (by decide) (hts (.fieldLink RX1 67 "VatHouse$Planner" "kept" "I") (by decide +kernel)) (fun _ h9 => h9) rfl (by decide +kernel) rfl rfl rfl ⟨_, rfl⟩ dX1_fewest_99 (fun f_48 H locs hP hD hS hT hE1 hrd_49 hup_50 => ?_)
                have hO0 := OF.putN (a := h0) (cj := 1) hO0 hE ((hE1 h0 (hT.at 0 rfl).1).2.symm.trans (hT.at 0 rfl).2) (by decide) hrd_49
                have hO7 := OF.putN (a := h0) (cj := 1) hO7 hE ((hE1 h0 (hT.at 0 rfl).1).2.symm.trans (hT.at 0 rfl).2) (by decide) hrd_49
                have hF := Fr.put (a := h0) (ci := 1) hF hE ((hE1 h0 (hT.at 0 rfl).1).2.symm.trans (hT.at 0 rfl).2) (by decide) hrd_49 hup_50
                have hE := hE.tr hE1
                have hk_51 : rd f_48 h0 3 = .int lw := ((Fr.put (cs := [(1, 5)]) (a := h0) (ci := 1) Fr.rf Ext.rf (hTo.at 0 rfl).2 (by decide) hrd_49 hup_50).1 h0 (hTo.at 0 rfl).1 1 (hTo.at 0 rfl).2 3 (by decide)).trans hk_h0_3
                have hk_52 : rd f_48 h0 4 = .int hg := ((Fr.put (cs := [(1, 5)]) (a := h0) (ci := 1) Fr.rf Ext.rf (hTo.at 0 rfl).2 (by decide) hrd_49 hup_50).1 h0 (hTo.at 0 rfl).1 1 (hTo.at 0 rfl).2 4 (by decide)).trans hk_h0_4
                refine lv_iconst (v := (-1)) hx hb dX1_fewest_102 (by decide) ?_
                exact K_i hx hb hr hlocks hP hD hK hS hT hE ⟨⟨_, rfl⟩, hF, hO0, hO7, (by obtain ⟨q9, h1, h2, h3⟩ := hgP; exact fw_no h1 h2 (Or.inr c_47) h3)⟩ (Nat.le_of_ble_eq_true rfl) (Nat.le_of_ble_eq_true rfl) dX1_fewest_103
              · refine lv_aload_n hx hb dX1_fewest_72 rfl (lv_at hl 1 rfl) ?_
                refine lv_iconst (v := 0) hx hb dX1_fewest_73 (by decide) ?_
                refine lv_iload hx hb dX1_fewest_74 (lv_at hl 0 rfl) ?_
                obtain ⟨q, hq1, hq4, hgn⟩ := hgP
                have hq3 := fw_q hq1 hq4 c_47
                have hTo := hT
                refine K_V ⟨hx, hb, hml, hown, hts⟩ (X1_reachesP_all l dC dI sa hlt g 3 0 rfl _ _ tv q c9 g9 fo mi st w lo fa h0 0 ii tvr tc ks lw hg _ (hT.sub [0, 2, 3, 4] rfl)  hk_h0_3 hk_h0_4 ((hF.1 h0 (hT0.at 0 rfl).1 1 (hT0.at 0 rfl).2 1 (by decide)).trans h_tvr) ((hF.1 h0 (hT0.at 0 rfl).1 1 (hT0.at 0 rfl).2 2 (by decide)).trans h_tc) ((hF.1 h0 (hT0.at 0 rfl).1 1 (hT0.at 0 rfl).2 8 (by decide)).trans h_ks) nI_0.symm (by rw [hq1]; exact congrArg nI (by omega)) (by omega) (fun k9 h9 => by rw [ra_eq (hF.2 tvr (hT0.at 2 rfl).1 1 _ _ (hT0.at 2 rfl).2 (by decide))]; exact hTV k9 h9) (fun k9 h9 => ⟨(hE _ (hTM k9 h9).1).1, (hE _ (hTM k9 h9).1).2.trans (hTM k9 h9).2⟩) hinj hTSl hIV) (cwV 2 hts gX1_fewest_X1_reaches rfl rfl rfl (by decide +kernel) ⟨Nat.le_of_ble_eq_true rfl, Nat.le_of_ble_eq_true rfl⟩) hP hD hK hS hA hev hT 0 1 rfl rfl rfl rfl hl.1 rfl (Nat.le_of_ble_eq_true rfl) dX1_fewest_76 ⟨Nat.le_of_ble_eq_true rfl, Nat.le_of_ble_eq_true rfl⟩ (fun r L_53 f_54 H locs hw_55 hP hD hS hT hE1 => ?_)
                have hEo := hE
                have hF := Fr.call hF hE hw_55.2.1 (by decide)
                have hE := hE.tr hE1
                obtain ⟨⟨rfl, hz2_56⟩ | ⟨rfl, hz2_56⟩, hw_55⟩ := hw_55
                · obtain ⟨hfr_57, hex_58⟩ := hw_55
                  obtain ⟨hof_59, hof_60, hex_61⟩ := hex_58
                  have hO0 := hO0.call hEo hof_59 (fun _ h9 => h9)
                  have hO7 := hO7.call hEo hof_60 (fun _ h9 => h9)
                  have hk_62 : rd f_54 h0 3 = .int lw := (hfr_57.1 h0 (hTo.at 0 rfl).1 1 (hTo.at 0 rfl).2 3 (by decide)).trans hk_h0_3
                  have hk_63 : rd f_54 h0 4 = .int hg := (hfr_57.1 h0 (hTo.at 0 rfl).1 1 (hTo.at 0 rfl).2 4 (by decide)).trans hk_h0_4
                  refine W.eq (g2 := F0 m 79 ls [.int 0]) rfl ?_
                  refine lv_if_eq (tgt := 91) hx hb dX1_fewest_79 (by decide) (fun c_64 => ?_) (fun c_64 => ?_)
                  rotate_left
                  · exact absurd c_64 (by decide)
                  refine lv_iinc (v := (ii + 1)) (lv' := [(5, .int (ii + 1)), (0, .ref h0), (1, .ref o), (2, .int lw), (3, .int hg), (4, .int mo)]) hx hb dX1_fewest_91 hl (k := 0) rfl rfl (by decide) rfl (fun ls hl => ?_)
                  refine lv_goto (tgt := 59) hx hb dX1_fewest_94 (by decide) ?_
                  exact ih (ii + 1) _ _ _ _ _ (up_le (by decide) hm c_47) hk_62 hk_63 (hO0) (hO7) (hex_61) (fw_nx hq1 hq3 hz2_56 hgn) hP hD hS (hT.sub [0, 1, 2, 3, 4, 5, 6] rfl) hE hF (lv_sub hl [0, 1, 2, 3, 4, 5] rfl)
                · obtain ⟨hfr_65, hex_66⟩ := hw_55
                  obtain ⟨hof_67, hof_68, hex_69⟩ := hex_66
                  have hO0 := hO0.call hEo hof_67 (fun _ h9 => h9)
                  have hO7 := hO7.call hEo hof_68 (fun _ h9 => h9)
                  have hk_70 : rd f_54 h0 3 = .int lw := (hfr_65.1 h0 (hTo.at 0 rfl).1 1 (hTo.at 0 rfl).2 3 (by decide)).trans hk_h0_3
                  have hk_71 : rd f_54 h0 4 = .int hg := (hfr_65.1 h0 (hTo.at 0 rfl).1 1 (hTo.at 0 rfl).2 4 (by decide)).trans hk_h0_4
                  refine W.eq (g2 := F0 m 79 ls [.int 1]) rfl ?_
                  refine lv_if_eq (tgt := 91) hx hb dX1_fewest_79 (by decide) (fun c_72 => ?_) (fun c_72 => ?_)
                  · exact absurd c_72 (by decide)
                  refine lv_aload_n hx hb dX1_fewest_82 rfl (lv_at hl 1 rfl) ?_
                  refine lv_iload hx hb dX1_fewest_83 (lv_at hl 0 rfl) ?_
                  have hTo := hT
                  refine T_put (ci := 1) (v := .int ii) (ty := .int) (t := tI) (C := RX1) (T := TX1) (N := 9) hx hb hts inw_X1_fewest_1 tyX1 tyX1_ok nmX1 hown hK hP hD hS hT 0 rfl rfl 5 (by decide) (hts (.fieldLink RX1 67 "VatHouse$Planner" "kept" "I") (by decide +kernel)) (fun _ h9 => h9) rfl (by decide +kernel) rfl rfl rfl ⟨_, rfl⟩ dX1_fewest_85 (fun f_73 H locs hP hD hS hT hE1 hrd_74 hup_75 => ?_)
                  have hO0 := OF.putN (a := h0) (cj := 1) hO0 hE ((hE1 h0 (hT.at 0 rfl).1).2.symm.trans (hT.at 0 rfl).2) (by decide) hrd_74
                  have hO7 := OF.putN (a := h0) (cj := 1) hO7 hE ((hE1 h0 (hT.at 0 rfl).1).2.symm.trans (hT.at 0 rfl).2) (by decide) hrd_74
                  have hF := Fr.put (a := h0) (ci := 1) hF hE ((hE1 h0 (hT.at 0 rfl).1).2.symm.trans (hT.at 0 rfl).2) (by decide) hrd_74 hup_75
                  have hE := hE.tr hE1
                  have hk_76 : rd f_73 h0 3 = .int lw := ((Fr.put (cs := [(1, 5)]) (a := h0) (ci := 1) Fr.rf Ext.rf (hTo.at 0 rfl).2 (by decide) hrd_74 hup_75).1 h0 (hTo.at 0 rfl).1 1 (hTo.at 0 rfl).2 3 (by decide)).trans hk_70
                  have hk_77 : rd f_73 h0 4 = .int hg := ((Fr.put (cs := [(1, 5)]) (a := h0) (ci := 1) Fr.rf Ext.rf (hTo.at 0 rfl).2 (by decide) hrd_74 hup_75).1 h0 (hTo.at 0 rfl).1 1 (hTo.at 0 rfl).2 4 (by decide)).trans hk_71
                  refine lv_iload hx hb dX1_fewest_88 (lv_at hl 0 rfl) ?_
                  exact K_i hx hb hr hlocks hP hD hK hS hT hE ⟨⟨_, rfl⟩, hF, hO0, hO7, (fw_yes hq1 hq3 c_41 hz2_56 hgn)⟩ (Nat.le_of_ble_eq_true rfl) (Nat.le_of_ble_eq_true rfl) dX1_fewest_90
        exact lp 5 0 _ _ _ _ _ (⟨0, nI_0.symm, by omega, by omega⟩) hk_39 hk_40 (hO0) (hO7) (hTS1) (⟨0, nI_0.symm, by omega, fun k h9 => absurd h9 (Nat.not_lt_zero _)⟩) hP hD hS (hT.sub [0, 1, 2, 3, 4, 5, 6] rfl) hE hF (lv_sub hl [0, 1, 2, 3, 4, 5] rfl)
      · refine lv_aload_n hx hb dX1_fewest_23 rfl (lv_at hl 1 rfl) ?_
        refine T_get (ci := 1) (C := RX1) (T := TX1) (N := 9) (t := (1, 2, g 10, 6)) hx hb hts inw_X1_fewest_1 hown hK hP hT 0 rfl rfl 1 (by decide) (hts (.fieldLink RX1 11 "VatHouse$Planner" "trialVats" "[LVatHouse$Vat;") (by decide +kernel)) (fun _ h9 => h9) rfl dX1_fewest_24 (fun v_80 hv_78 hr_79 => ?_)
        obtain rfl : v_80 = .ref tvr := hr_79.symm.trans ((hF.1 h0 (hT0.at 0 rfl).1 1 (hT0.at 0 rfl).2 1 (by decide)).trans h_tvr)
        refine lv_iload hx hb dX1_fewest_27 (lv_at hl 0 rfl) ?_
        refine T_vald hx hb hK hP hT 2 10 (Or.inr rfl) rfl rfl (up_in (by decide) hm (by decide) c_19 (by decide) (by decide)) dX1_fewest_29 (fun b_81 hb9 hra => ?_)
        have hT := hT.add hb9
        obtain ⟨k9, hk9, hk69, hcp⟩ := hgC
        have hk59 : k9 < 6 := up_lt (by decide) hk9 hk69 (by decide) c_19
        have hbq : b_81 = tv k9 := by
          rw [hk9, nI_clamp (by omega), ra_eq (hF.2 tvr (hT0.at 2 rfl).1 1 _ _ (hT0.at 2 rfl).2 (by decide)), hTV k9 hk59] at hra
          exact (Option.some.inj hra).symm
        have hTM1 : ∀ k : Nat, k < 6 → tv k ∈ L1 ∧ sh (f1 (tv k)) = (0, 7, 0) := (fun k9 h9 => ⟨(hE _ (hTM k9 h9).1).1, (hE _ (hTM k9 h9).1).2.trans (hTM k9 h9).2⟩)
        refine lv_aload_n hx hb dX1_fewest_30 rfl (lv_at hl 1 rfl) ?_
        refine T_get (ci := 1) (C := RX1) (T := TX1) (N := 9) (t := (1, 0, 8, 0)) hx hb hts inw_X1_fewest_1 hown hK hP hT 1 rfl rfl 0 (by decide) (hts (.fieldLink RX1 36 "VatHouse$Planner" "works" "LVatHouse$Works;") (by decide +kernel)) (fun _ h9 => h9) rfl dX1_fewest_31 (fun v_84 hv_82 hr_83 => ?_)
        obtain rfl : v_84 = .ref wk := hr_83.symm.trans ((hF.1 h0 (hT0.at 0 rfl).1 1 (hT0.at 0 rfl).2 0 (by decide)).trans h_wk)
        refine lv_iload hx hb dX1_fewest_34 (lv_at hl 0 rfl) ?_
        have hTo := hT
        refine K_V ⟨hx, hb, hml, hown, hts⟩ (t_X8_vatAtE l dC dI sa hlt g _ _ k9 (va k9) wk ii vs _ (hT.sub [6, 7] rfl)  ((hF.1 wk (hT0.at 5 rfl).1 8 (hT0.at 5 rfl).2 0 (by decide)).trans h_vs) hk9 hk59 (by rw [ra_eq (hF.2 vs (hT0.at 6 rfl).1 1 _ _ (hT0.at 6 rfl).2 (by decide))]; exact hVA k9 hk59)) (cwV 1 hts gX1_fewest_X8_vatAt rfl rfl rfl (by decide +kernel) ⟨Nat.le_of_ble_eq_true rfl, Nat.le_of_ble_eq_true rfl⟩) hP hD hK hS hA hev hT 6 8 rfl rfl rfl rfl hl.1 rfl (Nat.le_of_ble_eq_true rfl) dX1_fewest_36 ⟨Nat.le_of_ble_eq_true rfl, Nat.le_of_ble_eq_true rfl⟩ (fun r L_85 f_86 H locs hw_87 hP hD hS hT hE1 => ?_)
        have hEo := hE
        have hO0 := hO0.call hE (OF.fr hw_87.2.1 (by decide)) (by simp)
        have hO7 := hO7.call hE (OF.fr hw_87.2.1 (by decide)) (by simp)
        have hF := Fr.call hF hE hw_87.2.1 (by decide)
        have hE := hE.tr hE1
        obtain ⟨⟨v_88, rfl, hv9⟩, hw_87⟩ := hw_87
        obtain ⟨b_89, rfl, hb9⟩ := hv9
        have hT := hT.add hb9
        obtain ⟨hfr_90, hex_91⟩ := hw_87
        have hk_92 : rd f_86 o 1 = .int (w c9) := (hfr_90.1 o (hTo.at 2 rfl).1 0 (hTo.at 2 rfl).2 1 (by decide)).trans hk_o_1
        have hk_93 : rd f_86 o 2 = .int (lo c9) := (hfr_90.1 o (hTo.at 2 rfl).1 0 (hTo.at 2 rfl).2 2 (by decide)).trans hk_o_2
        have hk_94 : rd f_86 o 3 = .int (fa c9) := (hfr_90.1 o (hTo.at 2 rfl).1 0 (hTo.at 2 rfl).2 3 (by decide)).trans hk_o_3
        have hk_95 : rd f_86 h0 3 = .int lw := (hfr_90.1 h0 (hTo.at 1 rfl).1 1 (hTo.at 1 rfl).2 3 (by decide)).trans hk_h0_3
        have hk_96 : rd f_86 h0 4 = .int hg := (hfr_90.1 h0 (hTo.at 1 rfl).1 1 (hTo.at 1 rfl).2 4 (by decide)).trans hk_h0_4
        have hEv := hE1
        have hbv : b_89 = va k9 := by have h9 := hex_91; injection h9 with h9; injection h9
        have hv_97 : rd f_86 b_89 1 = .int (g9 k9) := by rw [hbv]; exact (hO7 _ (hVV k9 hk59).1.1 (hVV k9 hk59).1.2 (hdv k9 hk59) 1).trans (hVV k9 hk59).2.1
        have hv_98 : rd f_86 b_89 2 = .int (fo k9) := by rw [hbv]; exact (hO7 _ (hVV k9 hk59).1.1 (hVV k9 hk59).1.2 (hdv k9 hk59) 2).trans (hVV k9 hk59).2.2.1
        have hv_99 : rd f_86 b_89 3 = .int (mi k9) := by rw [hbv]; exact (hO7 _ (hVV k9 hk59).1.1 (hVV k9 hk59).1.2 (hdv k9 hk59) 3).trans (hVV k9 hk59).2.2.2.1
        have hv_100 : rd f_86 b_89 4 = .int (st k9) := by rw [hbv]; exact (hO7 _ (hVV k9 hk59).1.1 (hVV k9 hk59).1.2 (hdv k9 hk59) 4).trans (hVV k9 hk59).2.2.2.2
        refine W.eq (g2 := F0 m 39 ls [.ref b_89, .ref b_81]) rfl ?_
        have hTo := hT
        refine K_V ⟨hx, hb, hml, hown, hts⟩ (t_X7_copyFromE l dC dI sa hlt g _ _ b_81 b_89 (g9 k9) (fo k9) (mi k9) (st k9) _ (hT.sub [1, 0] rfl)  hv_97 hv_98 hv_99 hv_100 ) (cwV 1 hts gX1_fewest_X7_copyFrom rfl rfl rfl (by decide +kernel) ⟨Nat.le_of_ble_eq_true rfl, Nat.le_of_ble_eq_true rfl⟩) hP hD hK hS hA hev hT 1 7 rfl rfl rfl rfl hl.1 rfl (Nat.le_of_ble_eq_true rfl) dX1_fewest_39 ⟨Nat.le_of_ble_eq_true rfl, Nat.le_of_ble_eq_true rfl⟩ (fun r L_101 f_102 H locs hw_103 hP hD hS hT hE1 => ?_)
        have hEo := hE
        have hO0 := hO0.call hE (OF.fr hw_103.2.1 (by decide)) (by simp)
        have hF := Fr.call hF hE hw_103.2.1 (by decide)
        have hE := hE.tr hE1
        obtain ⟨rfl, hw_103⟩ := hw_103
        obtain ⟨hfr_104, y1_105, y2_106, y3_107, y4_108, hk_109, hk_110, hk_111, hk_112, hrel_113, hrel_114, hrel_115, hrel_116, hex_117⟩ := hw_103
        have hO7 := hO7.call hEo hex_117 (fun a9 h9 => by rw [List.mem_singleton.mp h9]; exact (by rw [hbq]; exact tv_in hk59))
        have hk_120 : rd f_102 o 1 = .int (w c9) := (hfr_104.1 o (hTo.at 3 rfl).1 0 (hTo.at 3 rfl).2 1 (by decide)).trans hk_92
        have hk_121 : rd f_102 o 2 = .int (lo c9) := (hfr_104.1 o (hTo.at 3 rfl).1 0 (hTo.at 3 rfl).2 2 (by decide)).trans hk_93
        have hk_122 : rd f_102 o 3 = .int (fa c9) := (hfr_104.1 o (hTo.at 3 rfl).1 0 (hTo.at 3 rfl).2 3 (by decide)).trans hk_94
        have hk_123 : rd f_102 h0 3 = .int lw := (hfr_104.1 h0 (hTo.at 2 rfl).1 1 (hTo.at 2 rfl).2 3 (by decide)).trans hk_95
        have hk_124 : rd f_102 h0 4 = .int hg := (hfr_104.1 h0 (hTo.at 2 rfl).1 1 (hTo.at 2 rfl).2 4 (by decide)).trans hk_96
        have hcp2 : CPv f_102 tv g9 fo mi st (k9 + 1) := hcp.nx hinj hk59 hTM1 hfr_90 (by simp) hEv hex_117 hbq hk_109 hk_110 hk_111 hk_112 hrel_113 hrel_114 hrel_115 hrel_116
        refine W.eq (g2 := F0 m 42 ls []) rfl ?_
        refine lv_iinc (v := (ii + 1)) (lv' := [(5, .int (ii + 1)), (0, .ref h0), (1, .ref o), (2, .int lw), (3, .int hg), (4, .int mo)]) hx hb dX1_fewest_42 hl (k := 0) rfl rfl (by decide) rfl (fun ls hl => ?_)
        refine lv_goto (tgt := 13) hx hb dX1_fewest_45 (by decide) ?_
        exact ih (ii + 1) _ _ _ _ _ (up_nx (by decide) hm (by decide) c_19) hk_120 hk_121 hk_122 hk_123 hk_124 (hO0) (hO7) (⟨k9 + 1, by rw [hk9]; exact nI_1 k9, by omega, hcp2⟩) hP hD hS (hT.sub [2, 3, 4, 5, 6, 7, 8] rfl) hE hF (lv_sub hl [0, 1, 2, 3, 4, 5] rfl)
  exact lp 7 0 _ _ _ _ _ (⟨0, nI_0.symm, by omega, by omega⟩) hk_11 hk_12 hk_13 hk_14 hk_15 (hO0) (hO7) (⟨0, nI_0.symm, by omega, CPv.o⟩) hP hD hS (hT.sub [0, 1, 2, 3, 4, 5, 6] rfl) hE hF (lv_sub hl [0, 1, 2, 3, 4, 5] rfl)
