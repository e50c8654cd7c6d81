theorem inw_X8_passHours_8 : ∀ w ∈ wsX80, w ∈ wsX8_passHours := fun _ h => List.mem_cons_of_mem _ (List.mem_append_left _ (List.mem_append_right _ h))

theorem inw_X9_hours_8 : ∀ w ∈ wsX80, w ∈ wsX9_hours := fun _ h => List.mem_cons_of_mem _ (List.mem_append_left _ (List.mem_append_left _ (List.mem_append_right _ h)))
theorem inw_X9_hours_9 : ∀ w ∈ wsX90, w ∈ wsX9_hours := fun _ h => List.mem_cons_of_mem _ (List.mem_append_left _ (List.mem_append_left _ (List.mem_append_left _ (List.mem_append_right _ h))))

noncomputable abbrev rm_X9_planned : Room := { frames := 6, cells := 1, slots := 6, locals := 82 }
theorem inw_X9_planned_1 : ∀ w ∈ wsX10, w ∈ wsX9_planned := fun _ h => List.mem_cons_of_mem _ (List.mem_append_left _ (List.mem_append_right _ h))
theorem inw_X9_planned_9 : ∀ w ∈ wsX90, w ∈ wsX9_planned := fun _ h => List.mem_cons_of_mem _ (List.mem_append_left _ (List.mem_append_left _ (List.mem_append_right _ h)))
theorem inx_X9_planned_9 : ∀ w ∈ (xN RX9 153).filter goodWord, w ∈ wsX9_planned := fun _ h => List.mem_cons_of_mem _ (List.mem_append_right _ h)
set_option maxHeartbeats 800000 in
set_option maxRecDepth 100000 in
theorem t_X9_planned (l : Launch) (dC : Nat → ClassId) (dI : Nat → Nat → Nat) (sa : Nat → Nat) (hlt : l.stackTraces = false) (g : Nat → Nat) (L : List Nat) (f : Nat → va_E) (h0 : Nat) (a : Int32) (b : Int32) (sz : Nat) (hT : TP g L f [(h0, (0, 9, 0))]) : KX l dC dI sa g yX9_planned wsX9_planned rm_X9_planned [.ref h0, .int a, .int b] L f sz (fun r L' f' => (∃ z : Int32, r = some (.int z)) ∧ Fr [] L f f') (fun E L' f' => (E = NSE) ∧ Fr [] L f f') 1 6 := by
  refine KX.start (cc := cX9_planned) (maxL := 3) (ret := (some .int)) (by decide) rfl (Nat.le_of_ble_eq_true rfl) ?_
  intro p e s m below meth c ls hst hno hP hK hD hev hS hl
  obtain ⟨hx, hb, hr, hml, hts, hown, hlocks, hin⟩ := hst
  have hown : s.vm.findClass RX9 = some m.cls := hown
  have hin : meth.name = yX9_planned.name := hin
  have hA : ∀ q : Nat, s.heap.size ≤ q → va_A (va_pl L f) s.heap.size q := fun _ h => Or.inr h
  have hE : Ext L f L f := Ext.rf
  have hF : Fr [] L f f := Fr.rf
  have hl : lv_has ls 3 [(0, .ref h0), (1, .int a), (2, .int b)] := hl
  refine lv_iload_n hx hb dX9_planned_0 rfl (lv_at hl 1 rfl) ?_
  refine lv_if_lt (tgt := 20) hx hb dX9_planned_1 (by decide) (fun c_1 => ?_) (fun c_1 => ?_)
  · exact K_x (cls := NSE) hno hx hb hlt hlocks hown hts xg_0 xg_1 xg_2 xg_5 (by decide +kernel) (hts (.classLink RX9 149 NSE) (List.mem_of_getElem? (i := 1) (by exact rfl))) (hts (.initialized NSE) (List.mem_of_getElem? (i := 2) (by exact rfl))) hev.2.1.2.2.2.2 (inx_X9_planned_9) xb_9 hev.2.2.1.1 xo_9 hev (hl.1.trans hml.symm) dX9_planned_20 dX9_planned_23 dX9_planned_24 dX9_planned_26 dX9_planned_29 (Nat.le_of_ble_eq_true rfl) (Nat.le_of_ble_eq_true rfl) (Nat.le_of_ble_eq_true rfl) (Nat.le_of_ble_eq_true rfl) ⟨rfl, hF⟩ hP hD hK hS hT hE (Nat.le_of_ble_eq_true rfl) (Nat.le_of_ble_eq_true rfl)
  · refine lv_iload_n hx hb dX9_planned_4 rfl (lv_at hl 1 rfl) ?_
    refine lv_aload_n hx hb dX9_planned_5 rfl (lv_at hl 0 rfl) ?_
    refine T_get (ci := 9) (C := RX9) (T := TX9) (N := 11) (t := (1, 0, 1, 0)) hx hb hts inw_X9_planned_9 hown hK hP hT 0 rfl rfl 10 (by decide) (hts (.fieldLink RX9 53 "VatHouse" "planner" "LVatHouse$Planner;") (List.mem_of_getElem? (i := 3) (by exact rfl))) (fun _ h9 => h9) rfl dX9_planned_6 (fun v_4 hv_2 hr_3 => ?_)
    obtain ⟨b_5, rfl, hb9⟩ := hv_2
    have hT := hT.add hb9
    refine T_get (ci := 1) (C := RX1) (T := TX1) (N := 9) (t := tI) hx hb hts inw_X9_planned_1 hown hK hP hT 0 rfl rfl 5 (by decide) (hts (.fieldLink RX9 186 "VatHouse$Planner" "kept" "I") (List.mem_of_getElem? (i := 4) (by exact rfl))) (fun _ h9 => h9) rfl dX9_planned_9 (fun v_8 hv_6 hr_7 => ?_)
    obtain ⟨z_9, rfl⟩ := hv_6
    refine lv_icmp_ge (tgt := 20) hx hb dX9_planned_12 (by decide) (fun c_10 => ?_) (fun c_10 => ?_)
    · exact K_x (cls := NSE) hno hx hb hlt hlocks hown hts xg_0 xg_1 xg_2 xg_5 (by decide +kernel) (hts (.classLink RX9 149 NSE) (List.mem_of_getElem? (i := 1) (by exact rfl))) (hts (.initialized NSE) (List.mem_of_getElem? (i := 2) (by exact rfl))) hev.2.1.2.2.2.2 (inx_X9_planned_9) xb_9 hev.2.2.1.1 xo_9 hev (hl.1.trans hml.symm) dX9_planned_20 dX9_planned_23 dX9_planned_24 dX9_planned_26 dX9_planned_29 (Nat.le_of_ble_eq_true rfl) (Nat.le_of_ble_eq_true rfl) (Nat.le_of_ble_eq_true rfl) (Nat.le_of_ble_eq_true rfl) ⟨rfl, hF⟩ hP hD hK hS hT hE (Nat.le_of_ble_eq_true rfl) (Nat.le_of_ble_eq_true rfl)
    · refine lv_iload_n hx hb dX9_planned_15 rfl (lv_at hl 1 rfl) ?_
      refine lv_iconst (v := 3) hx hb dX9_planned_16 (by decide) ?_
      refine lv_icmp_lt (tgt := 30) hx hb dX9_planned_17 (by decide) (fun c_11 => ?_) (fun c_11 => ?_)
      · refine lv_iload_n hx hb dX9_planned_30 rfl (lv_at hl 2 rfl) ?_
        by_cases c_12 : b = 0
        · refine lv_tableIn (tgt := 56) hx hb dX9_planned_31 (by rw [c_12]; decide) (by rw [c_12]; decide) (by rw [c_12]; rfl) (by decide) ?_
          refine lv_aload_n hx hb dX9_planned_56 rfl (lv_at hl 0 rfl) ?_
          refine T_get (ci := 9) (C := RX9) (T := TX9) (N := 11) (t := (1, 0, 1, 0)) hx hb hts inw_X9_planned_9 hown hK hP hT 1 rfl rfl 10 (by decide) (hts (.fieldLink RX9 53 "VatHouse" "planner" "LVatHouse$Planner;") (List.mem_of_getElem? (i := 3) (by exact rfl))) (fun _ h9 => h9) rfl dX9_planned_57 (fun v_15 hv_13 hr_14 => ?_)
          obtain rfl : v_15 = .ref b_5 := hr_14.symm.trans hr_3
          refine T_get (ci := 1) (C := RX1) (T := TX1) (N := 9) (t := (1, 1, g 7, 3)) hx hb hts inw_X9_planned_1 hown hK hP hT 0 rfl rfl 6 (by decide) (hts (.fieldLink RX9 191 "VatHouse$Planner" "keptVats" "[I") (List.mem_of_getElem? (i := 5) (by exact rfl))) (fun _ h9 => h9) rfl dX9_planned_60 (fun v_18 hv_16 hr_17 => ?_)
          obtain ⟨b_19, rfl, hb9⟩ := hv_16
          have hT := hT.add hb9
          refine lv_iload_n hx hb dX9_planned_63 rfl (lv_at hl 1 rfl) ?_
          refine T_iald hx hb hK hP hT 0 7 rfl rfl (vin 3 (by decide) rfl (by assumption) (lt_nle (by assumption))) dX9_planned_64 (fun z_20 ez_20 => ?_)
          refine vx_ret ?_
          exact K_i hx hb hr hlocks hP hD hK hS hT hE ⟨⟨_, rfl⟩, hF⟩ (Nat.le_of_ble_eq_true rfl) (Nat.le_of_ble_eq_true rfl) dX9_planned_65
        by_cases c_21 : b = 1
        · refine lv_tableIn (tgt := 66) hx hb dX9_planned_31 (by rw [c_21]; decide) (by rw [c_21]; decide) (by rw [c_21]; rfl) (by decide) ?_
          refine lv_aload_n hx hb dX9_planned_66 rfl (lv_at hl 0 rfl) ?_
          refine T_get (ci := 9) (C := RX9) (T := TX9) (N := 11) (t := (1, 0, 1, 0)) hx hb hts inw_X9_planned_9 hown hK hP hT 1 rfl rfl 10 (by decide) (hts (.fieldLink RX9 53 "VatHouse" "planner" "LVatHouse$Planner;") (List.mem_of_getElem? (i := 3) (by exact rfl))) (fun _ h9 => h9) rfl dX9_planned_67 (fun v_24 hv_22 hr_23 => ?_)
          obtain rfl : v_24 = .ref b_5 := hr_23.symm.trans hr_3
          refine T_get (ci := 1) (C := RX1) (T := TX1) (N := 9) (t := (1, 1, g 8, 3)) hx hb hts inw_X9_planned_1 hown hK hP hT 0 rfl rfl 7 (by decide) (hts (.fieldLink RX9 195 "VatHouse$Planner" "keptMinutes" "[I") (List.mem_of_getElem? (i := 6) (by exact rfl))) (fun _ h9 => h9) rfl dX9_planned_70 (fun v_27 hv_25 hr_26 => ?_)
          obtain ⟨b_28, rfl, hb9⟩ := hv_25
          have hT := hT.add hb9
          refine lv_iload_n hx hb dX9_planned_73 rfl (lv_at hl 1 rfl) ?_
          refine T_iald hx hb hK hP hT 0 8 rfl rfl (vin 3 (by decide) rfl (by assumption) (lt_nle (by assumption))) dX9_planned_74 (fun z_29 ez_29 => ?_)
          refine vx_ret ?_
          exact K_i hx hb hr hlocks hP hD hK hS hT hE ⟨⟨_, rfl⟩, hF⟩ (Nat.le_of_ble_eq_true rfl) (Nat.le_of_ble_eq_true rfl) dX9_planned_75
        by_cases c_30 : b = 2
        · refine lv_tableIn (tgt := 76) hx hb dX9_planned_31 (by rw [c_30]; decide) (by rw [c_30]; decide) (by rw [c_30]; rfl) (by decide) ?_
          refine lv_aload_n hx hb dX9_planned_76 rfl (lv_at hl 0 rfl) ?_
          refine T_get (ci := 9) (C := RX9) (T := TX9) (N := 11) (t := (1, 0, 1, 0)) hx hb hts inw_X9_planned_9 hown hK hP hT 1 rfl rfl 10 (by decide) (hts (.fieldLink RX9 53 "VatHouse" "planner" "LVatHouse$Planner;") (List.mem_of_getElem? (i := 3) (by exact rfl))) (fun _ h9 => h9) rfl dX9_planned_77 (fun v_33 hv_31 hr_32 => ?_)
          obtain rfl : v_33 = .ref b_5 := hr_32.symm.trans hr_3
          refine T_get (ci := 1) (C := RX1) (T := TX1) (N := 9) (t := (1, 1, g 9, 3)) hx hb hts inw_X9_planned_1 hown hK hP hT 0 rfl rfl 8 (by decide) (hts (.fieldLink RX9 198 "VatHouse$Planner" "keptShades" "[I") (List.mem_of_getElem? (i := 7) (by exact rfl))) (fun _ h9 => h9) rfl dX9_planned_80 (fun v_36 hv_34 hr_35 => ?_)
          obtain ⟨b_37, rfl, hb9⟩ := hv_34
          have hT := hT.add hb9
          refine lv_iload_n hx hb dX9_planned_83 rfl (lv_at hl 1 rfl) ?_
          refine T_iald hx hb hK hP hT 0 9 rfl rfl (vin 3 (by decide) rfl (by assumption) (lt_nle (by assumption))) dX9_planned_84 (fun z_38 ez_38 => ?_)
          refine vx_ret ?_
          exact K_i hx hb hr hlocks hP hD hK hS hT hE ⟨⟨_, rfl⟩, hF⟩ (Nat.le_of_ble_eq_true rfl) (Nat.le_of_ble_eq_true rfl) dX9_planned_85
        refine lv_tableOut (tgt := 86) hx hb dX9_planned_31 (tab_out3 c_12 c_21 c_30) (by decide) ?_
        exact K_x (cls := NSE) hno hx hb hlt hlocks hown hts xg_0 xg_1 xg_2 xg_5 (by decide +kernel) (hts (.classLink RX9 149 NSE) (List.mem_of_getElem? (i := 1) (by exact rfl))) (hts (.initialized NSE) (List.mem_of_getElem? (i := 2) (by exact rfl))) hev.2.1.2.2.2.1 (inx_X9_planned_9) xb_9 hev.2.2.1.1 xo_9 hev (hl.1.trans hml.symm) dX9_planned_86 dX9_planned_89 dX9_planned_90 dX9_planned_92 dX9_planned_95 (Nat.le_of_ble_eq_true rfl) (Nat.le_of_ble_eq_true rfl) (Nat.le_of_ble_eq_true rfl) (Nat.le_of_ble_eq_true rfl) ⟨rfl, hF⟩ hP hD hK hS hT hE (Nat.le_of_ble_eq_true rfl) (Nat.le_of_ble_eq_true rfl)
      · exact K_x (cls := NSE) hno hx hb hlt hlocks hown hts xg_0 xg_1 xg_2 xg_5 (by decide +kernel) (hts (.classLink RX9 149 NSE) (List.mem_of_getElem? (i := 1) (by exact rfl))) (hts (.initialized NSE) (List.mem_of_getElem? (i := 2) (by exact rfl))) hev.2.1.2.2.2.2 (inx_X9_planned_9) xb_9 hev.2.2.1.1 xo_9 hev (hl.1.trans hml.symm) dX9_planned_20 dX9_planned_23 dX9_planned_24 dX9_planned_26 dX9_planned_29 (Nat.le_of_ble_eq_true rfl) (Nat.le_of_ble_eq_true rfl) (Nat.le_of_ble_eq_true rfl) (Nat.le_of_ble_eq_true rfl) ⟨rfl, hF⟩ hP hD hK hS hT hE (Nat.le_of_ble_eq_true rfl) (Nat.le_of_ble_eq_true rfl)
