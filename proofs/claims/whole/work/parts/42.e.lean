noncomputable abbrev rm_X7_copyFromE : Room := { frames := 0, cells := 0, slots := 0, locals := 0 }
set_option maxHeartbeats 800000 in
set_option maxRecDepth 100000 in
theorem t_X7_copyFromE (l : Launch) (dC : Nat → ClassId) (dI : Nat → Nat → Nat) (sa : Nat → Nat) (hlt : l.stackTraces = false) (g : Nat → Nat) (L : List Nat) (f : Nat → va_E) (h0 : Nat) (o : Nat) (x1 : Int32) (x2 : Int32) (x3 : Int32) (x4 : Int32) (sz : Nat) (hT : TP g L f [(h0, (0, 7, 0)), (o, (0, 7, 0))]) (hm_x1 : rd f o 1 = .int x1) (hm_x2 : rd f o 2 = .int x2) (hm_x3 : rd f o 3 = .int x3) (hm_x4 : rd f o 4 = .int x4) : KC l dC dI sa g yX7_copyFrom wsX7_copyFrom rm_X7_copyFromE [.ref h0, .ref o] L f sz (fun r L' f' => (r = none) ∧ Fr [(7, 1), (7, 2), (7, 3), (7, 4)] L f f' ∧ (∃ y1' : Int32, ∃ y2' : Int32, ∃ y3' : Int32, ∃ y4' : Int32, rd f' h0 1 = .int y1' ∧ rd f' h0 2 = .int y2' ∧ rd f' h0 3 = .int y3' ∧ rd f' h0 4 = .int y4' ∧ (y1' = x1) ∧ (y2' = x2) ∧ (y3' = x3) ∧ (y4' = x4) ∧ (OF 7 [h0] L f f'))) 0 0 := by
  refine CT.start (cc := cX7_copyFrom) (maxL := 2) (ret := none) (by decide) rfl (Nat.le_of_ble_eq_true rfl) ?_
  intro p e s m below meth c ls hst hP hK hD hev hS hl
  obtain ⟨hx, hb, hr, hml, hts, hown, hlocks, hin⟩ := hst
  have hown : s.vm.findClass RX7 = some m.cls := hown
  have hin : meth.name = yX7_copyFrom.name := hin
  have hA : ∀ q : Nat, s.heap.size ≤ q → va_A (va_pl L f) s.heap.size q := fun _ h => Or.inr h
  have hE : Ext L f L f := Ext.rf
  have hF : Fr [(7, 1), (7, 2), (7, 3), (7, 4)] L f f := Fr.rf
  have hO7 : OF 7 [h0] L f f := OF.rf
  have hl : lv_has ls 2 [(0, .ref h0), (1, .ref o)] := hl
  refine lv_aload_n hx hb dX7_copyFrom_0 rfl (lv_at hl 0 rfl) ?_
  refine lv_aload_n hx hb dX7_copyFrom_1 rfl (lv_at hl 1 rfl) ?_
  refine T_get (ci := 7) (C := RX7) (T := TX7) (N := 8) (t := tI) hx hb hts inw_X7_copyFrom_7 hown hK hP hT 1 rfl rfl 1 (by decide) (hts (.fieldLink RX7 26 "VatHouse$Vat" "grains" "I") (List.mem_of_getElem? (i := 1) (by exact rfl))) (fun _ h9 => h9) rfl dX7_copyFrom_2 (fun v_3 hv_1 hr_2 => ?_)
  obtain rfl : v_3 = .int x1 := hr_2.symm.trans hm_x1
  have hTo := hT
  refine T_put (ci := 7) (v := .int x1) (ty := .int) (t := tI) (C := RX7) (T := TX7) (N := 8) hx hb hts inw_X7_copyFrom_7 tyX7 tyX7_ok nmX7 hown hK hP hD hS hT 0 rfl rfl 1 (by decide) (hts (.fieldLink RX7 26 "VatHouse$Vat" "grains" "I") (List.mem_of_getElem? (i := 1) (by exact rfl))) (fun _ h9 => h9) rfl (tyX7_ok 1 (by decide)) rfl rfl rfl ⟨_, rfl⟩ dX7_copyFrom_5 (fun f_4 H locs hP hD hS hT hE1 hrd_5 hup_6 => ?_)
  have hO7 := hO7.put hrd_5 (by simp)
  have hF := Fr.put (a := h0) (ci := 7) hF hE ((hE1 h0 (hT.at 0 rfl).1).2.symm.trans (hT.at 0 rfl).2) (by decide) hrd_5 hup_6
  have hE := hE.tr hE1
  have hk_8 : rd f_4 o 2 = .int x2 := ((Fr.put (cs := [(7, 1)]) (a := h0) (ci := 7) Fr.rf Ext.rf (hTo.at 0 rfl).2 (by decide) hrd_5 hup_6).1 o (hTo.at 1 rfl).1 7 (hTo.at 1 rfl).2 2 (by decide)).trans hm_x2
  have hk_9 : rd f_4 o 3 = .int x3 := ((Fr.put (cs := [(7, 1)]) (a := h0) (ci := 7) Fr.rf Ext.rf (hTo.at 0 rfl).2 (by decide) hrd_5 hup_6).1 o (hTo.at 1 rfl).1 7 (hTo.at 1 rfl).2 3 (by decide)).trans hm_x3
  have hk_10 : rd f_4 o 4 = .int x4 := ((Fr.put (cs := [(7, 1)]) (a := h0) (ci := 7) Fr.rf Ext.rf (hTo.at 0 rfl).2 (by decide) hrd_5 hup_6).1 o (hTo.at 1 rfl).1 7 (hTo.at 1 rfl).2 4 (by decide)).trans hm_x4
  have hk_11 : rd f_4 h0 1 = .int x1 := (hrd_5 h0 1).trans (if_pos ⟨rfl, rfl⟩)
  refine lv_aload_n hx hb dX7_copyFrom_8 rfl (lv_at hl 0 rfl) ?_
  refine lv_aload_n hx hb dX7_copyFrom_9 rfl (lv_at hl 1 rfl) ?_
  refine T_get (ci := 7) (C := RX7) (T := TX7) (N := 8) (t := tI) hx hb hts inw_X7_copyFrom_7 hown hK hP hT 1 rfl rfl 2 (by decide) (hts (.fieldLink RX7 45 "VatHouse$Vat" "food" "I") (List.mem_of_getElem? (i := 2) (by exact rfl))) (fun _ h9 => h9) rfl dX7_copyFrom_10 (fun v_14 hv_12 hr_13 => ?_)
  obtain rfl : v_14 = .int x2 := hr_13.symm.trans hk_8
  have hTo := hT
  refine T_put (ci := 7) (v := .int x2) (ty := .int) (t := tI) (C := RX7) (T := TX7) (N := 8) hx hb hts inw_X7_copyFrom_7 tyX7 tyX7_ok nmX7 hown hK hP hD hS hT 0 rfl rfl 2 (by decide) (hts (.fieldLink RX7 45 "VatHouse$Vat" "food" "I") (List.mem_of_getElem? (i := 2) (by exact rfl))) (fun _ h9 => h9) rfl (tyX7_ok 2 (by decide)) rfl rfl rfl ⟨_, rfl⟩ dX7_copyFrom_13 (fun f_15 H locs hP hD hS hT hE1 hrd_16 hup_17 => ?_)
  have hO7 := hO7.put hrd_16 (by simp)
  have hF := Fr.put (a := h0) (ci := 7) hF hE ((hE1 h0 (hT.at 0 rfl).1).2.symm.trans (hT.at 0 rfl).2) (by decide) hrd_16 hup_17
  have hE := hE.tr hE1
  have hk_19 : rd f_15 o 3 = .int x3 := ((Fr.put (cs := [(7, 2)]) (a := h0) (ci := 7) Fr.rf Ext.rf (hTo.at 0 rfl).2 (by decide) hrd_16 hup_17).1 o (hTo.at 1 rfl).1 7 (hTo.at 1 rfl).2 3 (by decide)).trans hk_9
  have hk_20 : rd f_15 o 4 = .int x4 := ((Fr.put (cs := [(7, 2)]) (a := h0) (ci := 7) Fr.rf Ext.rf (hTo.at 0 rfl).2 (by decide) hrd_16 hup_17).1 o (hTo.at 1 rfl).1 7 (hTo.at 1 rfl).2 4 (by decide)).trans hk_10
  have hk_21 : rd f_15 h0 1 = .int x1 := ((Fr.put (cs := [(7, 2)]) (a := h0) (ci := 7) Fr.rf Ext.rf (hTo.at 0 rfl).2 (by decide) hrd_16 hup_17).1 h0 (hTo.at 0 rfl).1 7 (hTo.at 0 rfl).2 1 (by decide)).trans hk_11
  have hk_22 : rd f_15 h0 2 = .int x2 := (hrd_16 h0 2).trans (if_pos ⟨rfl, rfl⟩)
  refine lv_aload_n hx hb dX7_copyFrom_16 rfl (lv_at hl 0 rfl) ?_
  refine lv_aload_n hx hb dX7_copyFrom_17 rfl (lv_at hl 1 rfl) ?_
  refine T_get (ci := 7) (C := RX7) (T := TX7) (N := 8) (t := tI) hx hb hts inw_X7_copyFrom_7 hown hK hP hT 1 rfl rfl 3 (by decide) (hts (.fieldLink RX7 42 "VatHouse$Vat" "minutes" "I") (List.mem_of_getElem? (i := 3) (by exact rfl))) (fun _ h9 => h9) rfl dX7_copyFrom_18 (fun v_25 hv_23 hr_24 => ?_)
  obtain rfl : v_25 = .int x3 := hr_24.symm.trans hk_19
  have hTo := hT
  refine T_put (ci := 7) (v := .int x3) (ty := .int) (t := tI) (C := RX7) (T := TX7) (N := 8) hx hb hts inw_X7_copyFrom_7 tyX7 tyX7_ok nmX7 hown hK hP hD hS hT 0 rfl rfl 3 (by decide) (hts (.fieldLink RX7 42 "VatHouse$Vat" "minutes" "I") (List.mem_of_getElem? (i := 3) (by exact rfl))) (fun _ h9 => h9) rfl (tyX7_ok 3 (by decide)) rfl rfl rfl ⟨_, rfl⟩ dX7_copyFrom_21 (fun f_26 H locs hP hD hS hT hE1 hrd_27 hup_28 => ?_)
  have hO7 := hO7.put hrd_27 (by simp)
  have hF := Fr.put (a := h0) (ci := 7) hF hE ((hE1 h0 (hT.at 0 rfl).1).2.symm.trans (hT.at 0 rfl).2) (by decide) hrd_27 hup_28
  have hE := hE.tr hE1
  have hk_30 : rd f_26 o 4 = .int x4 := ((Fr.put (cs := [(7, 3)]) (a := h0) (ci := 7) Fr.rf Ext.rf (hTo.at 0 rfl).2 (by decide) hrd_27 hup_28).1 o (hTo.at 1 rfl).1 7 (hTo.at 1 rfl).2 4 (by decide)).trans hk_20
  have hk_31 : rd f_26 h0 1 = .int x1 := ((Fr.put (cs := [(7, 3)]) (a := h0) (ci := 7) Fr.rf Ext.rf (hTo.at 0 rfl).2 (by decide) hrd_27 hup_28).1 h0 (hTo.at 0 rfl).1 7 (hTo.at 0 rfl).2 1 (by decide)).trans hk_21
  have hk_32 : rd f_26 h0 2 = .int x2 := ((Fr.put (cs := [(7, 3)]) (a := h0) (ci := 7) Fr.rf Ext.rf (hTo.at 0 rfl).2 (by decide) hrd_27 hup_28).1 h0 (hTo.at 0 rfl).1 7 (hTo.at 0 rfl).2 2 (by decide)).trans hk_22
  have hk_33 : rd f_26 h0 3 = .int x3 := (hrd_27 h0 3).trans (if_pos ⟨rfl, rfl⟩)
  refine lv_aload_n hx hb dX7_copyFrom_24 rfl (lv_at hl 0 rfl) ?_
  refine lv_aload_n hx hb dX7_copyFrom_25 rfl (lv_at hl 1 rfl) ?_
  refine T_get (ci := 7) (C := RX7) (T := TX7) (N := 8) (t := tI) hx hb hts inw_X7_copyFrom_7 hown hK hP hT 1 rfl rfl 4 (by decide) (hts (.fieldLink RX7 9 "VatHouse$Vat" "state" "I") (List.mem_of_getElem? (i := 4) (by exact rfl))) (fun _ h9 => h9) rfl dX7_copyFrom_26 (fun v_36 hv_34 hr_35 => ?_)
  obtain rfl : v_36 = .int x4 := hr_35.symm.trans hk_30
  have hTo := hT
  refine T_put (ci := 7) (v := .int x4) (ty := .int) (t := tI) (C := RX7) (T := TX7) (N := 8) hx hb hts inw_X7_copyFrom_7 tyX7 tyX7_ok nmX7 hown hK hP hD hS hT 0 rfl rfl 4 (by decide) (hts (.fieldLink RX7 9 "VatHouse$Vat" "state" "I") (List.mem_of_getElem? (i := 4) (by exact rfl))) (fun _ h9 => h9) rfl (tyX7_ok 4 (by decide)) rfl rfl rfl ⟨_, rfl⟩ dX7_copyFrom_29 (fun f_37 H locs hP hD hS hT hE1 hrd_38 hup_39 => ?_)
  have hO7 := hO7.put hrd_38 (by simp)
  have hF := Fr.put (a := h0) (ci := 7) hF hE ((hE1 h0 (hT.at 0 rfl).1).2.symm.trans (hT.at 0 rfl).2) (by decide) hrd_38 hup_39
  have hE := hE.tr hE1
  have hk_41 : rd f_37 h0 1 = .int x1 := ((Fr.put (cs := [(7, 4)]) (a := h0) (ci := 7) Fr.rf Ext.rf (hTo.at 0 rfl).2 (by decide) hrd_38 hup_39).1 h0 (hTo.at 0 rfl).1 7 (hTo.at 0 rfl).2 1 (by decide)).trans hk_31
  have hk_42 : rd f_37 h0 2 = .int x2 := ((Fr.put (cs := [(7, 4)]) (a := h0) (ci := 7) Fr.rf Ext.rf (hTo.at 0 rfl).2 (by decide) hrd_38 hup_39).1 h0 (hTo.at 0 rfl).1 7 (hTo.at 0 rfl).2 2 (by decide)).trans hk_32
  have hk_43 : rd f_37 h0 3 = .int x3 := ((Fr.put (cs := [(7, 4)]) (a := h0) (ci := 7) Fr.rf Ext.rf (hTo.at 0 rfl).2 (by decide) hrd_38 hup_39).1 h0 (hTo.at 0 rfl).1 7 (hTo.at 0 rfl).2 3 (by decide)).trans hk_33
  have hk_44 : rd f_37 h0 4 = .int x4 := (hrd_38 h0 4).trans (if_pos ⟨rfl, rfl⟩)
  exact K_v hx hb hr hlocks hP hD hK hS hT hE ⟨rfl, hF, _, _, _, _, hk_41, hk_42, hk_43, hk_44, rfl, rfl, rfl, rfl, hO7⟩ (Nat.le_of_ble_eq_true rfl) (Nat.le_of_ble_eq_true rfl) dX7_copyFrom_32

noncomputable abbrev rm_X0_copyFromE : Room := { frames := 0, cells := 0, slots := 0, locals := 0 }
set_option maxHeartbeats 800000 in
set_option maxRecDepth 100000 in
theorem t_X0_copyFromE (l : Launch) (dC : Nat → ClassId) (dI : Nat → Nat → Nat) (sa : Nat → Nat) (hlt : l.stackTraces = false) (g : Nat → Nat) (L : List Nat) (f : Nat → va_E) (h0 : Nat) (o : Nat) (x1 : Int32) (x2 : Int32) (x3 : Int32) (sz : Nat) (hT : TP g L f [(h0, (0, 0, 0)), (o, (0, 0, 0))]) (hm_x1 : rd f o 1 = .int x1) (hm_x2 : rd f o 2 = .int x2) (hm_x3 : rd f o 3 = .int x3) : KC l dC dI sa g yX0_copyFrom wsX0_copyFrom rm_X0_copyFromE [.ref h0, .ref o] L f sz (fun r L' f' => (r = none) ∧ Fr [(0, 1), (0, 2), (0, 3)] L f f' ∧ (∃ y1' : Int32, ∃ y2' : Int32, ∃ y3' : Int32, rd f' h0 1 = .int y1' ∧ rd f' h0 2 = .int y2' ∧ rd f' h0 3 = .int y3' ∧ (y1' = x1) ∧ (y2' = x2) ∧ (y3' = x3) ∧ (OF 0 [h0] L f f'))) 0 0 := by
  refine CT.start (cc := cX0_copyFrom) (maxL := 2) (ret := none) (by decide) rfl (Nat.le_of_ble_eq_true rfl) ?_
  intro p e s m below meth c ls hst hP hK hD hev hS hl
  obtain ⟨hx, hb, hr, hml, hts, hown, hlocks, hin⟩ := hst
  have hown : s.vm.findClass RX0 = some m.cls := hown
  have hin : meth.name = yX0_copyFrom.name := hin
  have hA : ∀ q : Nat, s.heap.size ≤ q → va_A (va_pl L f) s.heap.size q := fun _ h => Or.inr h
  have hE : Ext L f L f := Ext.rf
  have hF : Fr [(0, 1), (0, 2), (0, 3)] L f f := Fr.rf
  have hO0 : OF 0 [h0] L f f := OF.rf
  have hl : lv_has ls 2 [(0, .ref h0), (1, .ref o)] := hl
  refine lv_aload_n hx hb dX0_copyFrom_0 rfl (lv_at hl 0 rfl) ?_
  refine lv_aload_n hx hb dX0_copyFrom_1 rfl (lv_at hl 1 rfl) ?_
  refine T_get (ci := 0) (C := RX0) (T := TX0) (N := 8) (t := tI) hx hb hts inw_X0_copyFrom_0 hown hK hP hT 1 rfl rfl 1 (by decide) (hts (.fieldLink RX0 18 "VatHouse$Cloth" "weight" "I") (List.mem_of_getElem? (i := 1) (by exact rfl))) (fun _ h9 => h9) rfl dX0_copyFrom_2 (fun v_3 hv_1 hr_2 => ?_)
  obtain rfl : v_3 = .int x1 := hr_2.symm.trans hm_x1
  have hTo := hT
  refine T_put (ci := 0) (v := .int x1) (ty := .int) (t := tI) (C := RX0) (T := TX0) (N := 8) hx hb hts inw_X0_copyFrom_0 tyX0 tyX0_ok nmX0 hown hK hP hD hS hT 0 rfl rfl 1 (by decide) (hts (.fieldLink RX0 18 "VatHouse$Cloth" "weight" "I") (List.mem_of_getElem? (i := 1) (by exact rfl))) (fun _ h9 => h9) rfl (tyX0_ok 1 (by decide)) rfl rfl rfl ⟨_, rfl⟩ dX0_copyFrom_5 (fun f_4 H locs hP hD hS hT hE1 hrd_5 hup_6 => ?_)
  have hO0 := hO0.put hrd_5 (by simp)
  have hF := Fr.put (a := h0) (ci := 0) hF hE ((hE1 h0 (hT.at 0 rfl).1).2.symm.trans (hT.at 0 rfl).2) (by decide) hrd_5 hup_6
  have hE := hE.tr hE1
  have hk_8 : rd f_4 o 2 = .int x2 := ((Fr.put (cs := [(0, 1)]) (a := h0) (ci := 0) Fr.rf Ext.rf (hTo.at 0 rfl).2 (by decide) hrd_5 hup_6).1 o (hTo.at 1 rfl).1 0 (hTo.at 1 rfl).2 2 (by decide)).trans hm_x2
  have hk_9 : rd f_4 o 3 = .int x3 := ((Fr.put (cs := [(0, 1)]) (a := h0) (ci := 0) Fr.rf Ext.rf (hTo.at 0 rfl).2 (by decide) hrd_5 hup_6).1 o (hTo.at 1 rfl).1 0 (hTo.at 1 rfl).2 3 (by decide)).trans hm_x3
  have hk_10 : rd f_4 h0 1 = .int x1 := (hrd_5 h0 1).trans (if_pos ⟨rfl, rfl⟩)
  refine lv_aload_n hx hb dX0_copyFrom_8 rfl (lv_at hl 0 rfl) ?_
  refine lv_aload_n hx hb dX0_copyFrom_9 rfl (lv_at hl 1 rfl) ?_
  refine T_get (ci := 0) (C := RX0) (T := TX0) (N := 8) (t := tI) hx hb hts inw_X0_copyFrom_0 hown hK hP hT 1 rfl rfl 2 (by decide) (hts (.fieldLink RX0 24 "VatHouse$Cloth" "loose" "I") (List.mem_of_getElem? (i := 2) (by exact rfl))) (fun _ h9 => h9) rfl dX0_copyFrom_10 (fun v_13 hv_11 hr_12 => ?_)
  obtain rfl : v_13 = .int x2 := hr_12.symm.trans hk_8
  have hTo := hT
  refine T_put (ci := 0) (v := .int x2) (ty := .int) (t := tI) (C := RX0) (T := TX0) (N := 8) hx hb hts inw_X0_copyFrom_0 tyX0 tyX0_ok nmX0 hown hK hP hD hS hT 0 rfl rfl 2 (by decide) (hts (.fieldLink RX0 24 "VatHouse$Cloth" "loose" "I") (List.mem_of_getElem? (i := 2) (by exact rfl))) (fun _ h9 => h9) rfl (tyX0_ok 2 (by decide)) rfl rfl rfl ⟨_, rfl⟩ dX0_copyFrom_13 (fun f_14 H locs hP hD hS hT hE1 hrd_15 hup_16 => ?_)
  have hO0 := hO0.put hrd_15 (by simp)
  have hF := Fr.put (a := h0) (ci := 0) hF hE ((hE1 h0 (hT.at 0 rfl).1).2.symm.trans (hT.at 0 rfl).2) (by decide) hrd_15 hup_16
  have hE := hE.tr hE1
  have hk_18 : rd f_14 o 3 = .int x3 := ((Fr.put (cs := [(0, 2)]) (a := h0) (ci := 0) Fr.rf Ext.rf (hTo.at 0 rfl).2 (by decide) hrd_15 hup_16).1 o (hTo.at 1 rfl).1 0 (hTo.at 1 rfl).2 3 (by decide)).trans hk_9
  have hk_19 : rd f_14 h0 1 = .int x1 := ((Fr.put (cs := [(0, 2)]) (a := h0) (ci := 0) Fr.rf Ext.rf (hTo.at 0 rfl).2 (by decide) hrd_15 hup_16).1 h0 (hTo.at 0 rfl).1 0 (hTo.at 0 rfl).2 1 (by decide)).trans hk_10
  have hk_20 : rd f_14 h0 2 = .int x2 := (hrd_15 h0 2).trans (if_pos ⟨rfl, rfl⟩)
  refine lv_aload_n hx hb dX0_copyFrom_16 rfl (lv_at hl 0 rfl) ?_
  refine lv_aload_n hx hb dX0_copyFrom_17 rfl (lv_at hl 1 rfl) ?_
  refine T_get (ci := 0) (C := RX0) (T := TX0) (N := 8) (t := tI) hx hb hts inw_X0_copyFrom_0 hown hK hP hT 1 rfl rfl 3 (by decide) (hts (.fieldLink RX0 21 "VatHouse$Cloth" "fast" "I") (List.mem_of_getElem? (i := 3) (by exact rfl))) (fun _ h9 => h9) rfl dX0_copyFrom_18 (fun v_23 hv_21 hr_22 => ?_)
  obtain rfl : v_23 = .int x3 := hr_22.symm.trans hk_18
  have hTo := hT
  refine T_put (ci := 0) (v := .int x3) (ty := .int) (t := tI) (C := RX0) (T := TX0) (N := 8) hx hb hts inw_X0_copyFrom_0 tyX0 tyX0_ok nmX0 hown hK hP hD hS hT 0 rfl rfl 3 (by decide) (hts (.fieldLink RX0 21 "VatHouse$Cloth" "fast" "I") (List.mem_of_getElem? (i := 3) (by exact rfl))) (fun _ h9 => h9) rfl (tyX0_ok 3 (by decide)) rfl rfl rfl ⟨_, rfl⟩ dX0_copyFrom_21 (fun f_24 H locs hP hD hS hT hE1 hrd_25 hup_26 => ?_)
  have hO0 := hO0.put hrd_25 (by simp)
  have hF := Fr.put (a := h0) (ci := 0) hF hE ((hE1 h0 (hT.at 0 rfl).1).2.symm.trans (hT.at 0 rfl).2) (by decide) hrd_25 hup_26
  have hE := hE.tr hE1
  have hk_28 : rd f_24 h0 1 = .int x1 := ((Fr.put (cs := [(0, 3)]) (a := h0) (ci := 0) Fr.rf Ext.rf (hTo.at 0 rfl).2 (by decide) hrd_25 hup_26).1 h0 (hTo.at 0 rfl).1 0 (hTo.at 0 rfl).2 1 (by decide)).trans hk_19
  have hk_29 : rd f_24 h0 2 = .int x2 := ((Fr.put (cs := [(0, 3)]) (a := h0) (ci := 0) Fr.rf Ext.rf (hTo.at 0 rfl).2 (by decide) hrd_25 hup_26).1 h0 (hTo.at 0 rfl).1 0 (hTo.at 0 rfl).2 2 (by decide)).trans hk_20
  have hk_30 : rd f_24 h0 3 = .int x3 := (hrd_25 h0 3).trans (if_pos ⟨rfl, rfl⟩)
  exact K_v hx hb hr hlocks hP hD hK hS hT hE ⟨rfl, hF, _, _, _, hk_28, hk_29, hk_30, rfl, rfl, rfl, hO0⟩ (Nat.le_of_ble_eq_true rfl) (Nat.le_of_ble_eq_true rfl) dX0_copyFrom_24

