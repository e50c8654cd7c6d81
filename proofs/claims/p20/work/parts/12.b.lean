theorem nlt_le {a b : Int32} (h : ¬ a < b) : b ≤ a := by
  rw [Int32.le_iff_toInt_le]; rw [Int32.lt_iff_toInt_lt] at h; omega
theorem lt_nle {a b : Int32} (h : a < b) : ¬ b ≤ a := by
  rw [Int32.le_iff_toInt_le]; rw [Int32.lt_iff_toInt_lt] at h; omega
theorem vin {v N : Int32} (n : Nat) (hn : n < 2 ^ 31) (hN : N = nI n) (h0 : ¬ v < 0) (h1 : ¬ N ≤ v) : vp_in v n := by
  subst hN
  obtain ⟨j, hj, hv, -⟩ := pk_mu h0 h1 hn
  rw [hv]; exact vp_in_nI hj hn
theorem nz {w : Int32} (h : ¬ w < 1) : w ≠ 0 := fun e => h (by rw [e]; decide)
theorem nz1 {w : Int32} (h : 1 ≤ w) : w ≠ 0 := fun e => absurd (e ▸ h : (1 : Int32) ≤ 0) (by decide)

noncomputable abbrev rm_X0_shade : Room := { frames := 0, cells := 0, slots := 0, locals := 0 }
theorem inw_X0_shade_0 : ∀ w ∈ wsX00, w ∈ wsX0_shade := fun _ h => List.mem_cons_of_mem _ (List.mem_append_right _ h)
set_option maxHeartbeats 800000 in
set_option maxRecDepth 100000 in
theorem t_X0_shade (l : Launch) (dC : Nat → ClassId) (dI : Nat → Nat → Nat) (sa : Nat → Nat) (hlt : l.stackTraces = false) (g : Nat → Nat) (L : List Nat) (f : Nat → va_E) (h0 : Nat) (sz : Nat) (hT : TP g L f [(h0, (0, 0, 0))]) : KC l dC dI sa g yX0_shade wsX0_shade rm_X0_shade [.ref h0] L f sz (fun r L' f' => (∃ z : Int32, r = some (.int z)) ∧ Fr [] L f f') 0 0 := by
  refine CT.start (cc := cX0_shade) (maxL := 1) (ret := (some .int)) (by decide) rfl (Nat.le_of_ble_eq_true rfl) ?_
  intro p e s m below meth c ls hst hP hK hD hev hS hl
  obtain ⟨hx, hb, hr, hml, hts, hown, hlocks, hin⟩ := hst
  have hown : s.vm.findClass RX0 = some m.cls := hown
  have hin : meth.name = yX0_shade.name := hin
  have hA : ∀ q : Nat, s.heap.size ≤ q → va_A (va_pl L f) s.heap.size q := fun _ h => Or.inr h
  have hE : Ext L f L f := Ext.rf
  have hF : Fr [] L f f := Fr.rf
  have hl : lv_has ls 1 [(0, .ref h0)] := hl
  refine lv_aload_n hx hb dX0_shade_0 rfl (lv_at hl 0 rfl) ?_
  refine T_get (ci := 0) (C := RX0) (T := TX0) (N := 8) (t := tI) hx hb hts inw_X0_shade_0 hown hK hP hT 0 rfl rfl 1 (by decide) (hts (.fieldLink RX0 18 "VatHouse$Cloth" "weight" "I") (List.mem_of_getElem? (i := 1) (by exact rfl))) (fun _ h9 => h9) rfl dX0_shade_1 (fun v_3 hv_1 hr_2 => ?_)
  obtain ⟨z_4, rfl⟩ := hv_1
  refine lv_iconst (v := 1) hx hb dX0_shade_4 (by decide) ?_
  refine lv_icmp_ge (tgt := 12) hx hb dX0_shade_5 (by decide) (fun c_5 => ?_) (fun c_5 => ?_)
  · refine lv_aload_n hx hb dX0_shade_12 rfl (lv_at hl 0 rfl) ?_
    refine T_get (ci := 0) (C := RX0) (T := TX0) (N := 8) (t := tI) hx hb hts inw_X0_shade_0 hown hK hP hT 0 rfl rfl 3 (by decide) (hts (.fieldLink RX0 21 "VatHouse$Cloth" "fast" "I") (List.mem_of_getElem? (i := 2) (by exact rfl))) (fun _ h9 => h9) rfl dX0_shade_13 (fun v_8 hv_6 hr_7 => ?_)
    obtain ⟨z_9, rfl⟩ := hv_6
    refine lv_aload_n hx hb dX0_shade_16 rfl (lv_at hl 0 rfl) ?_
    refine T_get (ci := 0) (C := RX0) (T := TX0) (N := 8) (t := tI) hx hb hts inw_X0_shade_0 hown hK hP hT 0 rfl rfl 1 (by decide) (hts (.fieldLink RX0 18 "VatHouse$Cloth" "weight" "I") (List.mem_of_getElem? (i := 1) (by exact rfl))) (fun _ h9 => h9) rfl dX0_shade_17 (fun v_12 hv_10 hr_11 => ?_)
    obtain rfl : v_12 = .int z_4 := hr_11.symm.trans hr_2
    refine lv_idiv hx hb dX0_shade_20 (by first | exact nz (by assumption) | exact nz1 (by assumption)) ?_
    refine lv_topi (fun z_13 ez_13 => ?_)
    exact K_i hx hb hr hlocks hP hD hK hS hT hE ⟨⟨_, rfl⟩, hF⟩ (Nat.le_of_ble_eq_true rfl) (Nat.le_of_ble_eq_true rfl) dX0_shade_21
  · refine lv_iconst (v := 0) hx hb dX0_shade_8 (by decide) ?_
    refine lv_goto (tgt := 21) hx hb dX0_shade_9 (by decide) ?_
    exact K_i hx hb hr hlocks hP hD hK hS hT hE ⟨⟨_, rfl⟩, hF⟩ (Nat.le_of_ble_eq_true rfl) (Nat.le_of_ble_eq_true rfl) dX0_shade_21

theorem inw_X0_leastShade_0 : ∀ w ∈ wsX00, w ∈ wsX0_leastShade := fun _ h => List.mem_cons_of_mem _ (List.mem_append_right _ h)

theorem inw_X0_greatestShade_0 : ∀ w ∈ wsX00, w ∈ wsX0_greatestShade := fun _ h => List.mem_cons_of_mem _ (List.mem_append_right _ h)


noncomputable abbrev rm_X7_givesTo : Room := { frames := 1, cells := 0, slots := 0, locals := 20 }
theorem inw_X7_givesTo_0 : ∀ w ∈ wsX00, w ∈ wsX7_givesTo := fun _ h => List.mem_cons_of_mem _ (List.mem_append_left _ (List.mem_append_right _ h))
theorem inw_X7_givesTo_7 : ∀ w ∈ wsX70, w ∈ wsX7_givesTo := fun _ h => List.mem_cons_of_mem _ (List.mem_append_right _ h)
set_option maxHeartbeats 800000 in
set_option maxRecDepth 100000 in
theorem t_X7_givesTo (l : Launch) (dC : Nat → ClassId) (dI : Nat → Nat → Nat) (sa : Nat → Nat) (hlt : l.stackTraces = false) (g : Nat → Nat) (L : List Nat) (f : Nat → va_E) (h0 : Nat) (o : Nat) (mm : Int32) (sz : Nat) (hT : TP g L f [(h0, (0, 7, 0)), (o, (0, 0, 0))]) : KC l dC dI sa g yX7_givesTo wsX7_givesTo rm_X7_givesTo [.ref h0, .ref o, .int mm] L f sz (fun r L' f' => (∃ z : Int32, r = some (.int z)) ∧ Fr [] L f f') 0 0 := by
  refine CT.start (cc := cX7_givesTo) (maxL := 5) (ret := (some .int)) (by decide) rfl (Nat.le_of_ble_eq_true rfl) ?_
  intro p e s m below meth c ls hst hP hK hD hev hS hl
  obtain ⟨hx, hb, hr, hml, hts, hown, hlocks, hin⟩ := hst
  have hown : s.vm.findClass RX7 = some m.cls := hown
  have hin : meth.name = yX7_givesTo.name := hin
  have hA : ∀ q : Nat, s.heap.size ≤ q → va_A (va_pl L f) s.heap.size q := fun _ h => Or.inr h
  have hE : Ext L f L f := Ext.rf
  have hF : Fr [] L f f := Fr.rf
  have hl : lv_has ls 5 [(0, .ref h0), (1, .ref o), (2, .int mm)] := hl
  refine lv_bipush (v := 100) hx hb dX7_givesTo_0 (by decide) ?_
  refine lv_aload_n hx hb dX7_givesTo_2 rfl (lv_at hl 1 rfl) ?_
  refine T_get (ci := 0) (C := RX0) (T := TX0) (N := 8) (t := tI) hx hb hts inw_X7_givesTo_0 hown hK hP hT 1 rfl rfl 1 (by decide) (hts (.fieldLink RX7 21 "VatHouse$Cloth" "weight" "I") (List.mem_of_getElem? (i := 1) (by exact rfl))) (fun _ h9 => h9) rfl dX7_givesTo_3 (fun v_3 hv_1 hr_2 => ?_)
  obtain ⟨z_4, rfl⟩ := hv_1
  refine lv_iadd hx hb dX7_givesTo_6 ?_
  refine lv_topi (fun z_5 ez_5 => ?_)
  refine lv_istore_n (lv' := [(3, .int z_5), (0, .ref h0), (1, .ref o), (2, .int mm)]) hx hb dX7_givesTo_7 rfl hl (by decide) rfl (fun ls hl => ?_)
  refine lv_aload_n hx hb dX7_givesTo_8 rfl (lv_at hl 1 rfl) ?_
  refine T_get (ci := 7) (C := RX7) (T := TX7) (N := 8) (t := tI) hx hb hts inw_X7_givesTo_7 hown hK hP hT 0 rfl rfl 4 (by decide) (hts (.fieldLink RX7 9 "VatHouse$Vat" "state" "I") (List.mem_of_getElem? (i := 2) (by exact rfl))) (fun _ h9 => h9) rfl dX7_givesTo_9 (fun v_8 hv_6 hr_7 => ?_)
  obtain ⟨z_9, rfl⟩ := hv_6
  refine lv_iconst (v := 2) hx hb dX7_givesTo_12 (by decide) ?_
  refine lv_icmp_eq (tgt := 21) hx hb dX7_givesTo_13 (by decide) (fun c_10 => ?_) (fun c_10 => ?_)
  · refine lv_iconst (v := 0) hx hb dX7_givesTo_21 (by decide) ?_
    exact K_i hx hb hr hlocks hP hD hK hS hT hE ⟨⟨_, rfl⟩, hF⟩ (Nat.le_of_ble_eq_true rfl) (Nat.le_of_ble_eq_true rfl) dX7_givesTo_22
  · refine lv_iload_n hx hb dX7_givesTo_16 rfl (lv_at hl 0 rfl) ?_
    refine lv_iconst (v := 1) hx hb dX7_givesTo_17 (by decide) ?_
    refine lv_icmp_ge (tgt := 23) hx hb dX7_givesTo_18 (by decide) (fun c_11 => ?_) (fun c_11 => ?_)
    · refine lv_aload_n hx hb dX7_givesTo_23 rfl (lv_at hl 1 rfl) ?_
      refine T_get (ci := 7) (C := RX7) (T := TX7) (N := 8) (t := tI) hx hb hts inw_X7_givesTo_7 hown hK hP hT 0 rfl rfl 1 (by decide) (hts (.fieldLink RX7 26 "VatHouse$Vat" "grains" "I") (List.mem_of_getElem? (i := 3) (by exact rfl))) (fun _ h9 => h9) rfl dX7_givesTo_24 (fun v_14 hv_12 hr_13 => ?_)
      obtain ⟨z_15, rfl⟩ := hv_12
      refine lv_iload_n hx hb dX7_givesTo_27 rfl (lv_at hl 3 rfl) ?_
      refine lv_imul hx hb dX7_givesTo_28 ?_
      refine lv_topi (fun z_16 ez_16 => ?_)
      refine lv_iload_n hx hb dX7_givesTo_29 rfl (lv_at hl 0 rfl) ?_
      refine lv_idiv hx hb dX7_givesTo_30 (by first | exact nz (by assumption) | exact nz1 (by assumption)) ?_
      refine lv_topi (fun z_17 ez_17 => ?_)
      refine lv_istore (lv' := [(4, .int z_17), (3, .int z_5), (0, .ref h0), (1, .ref o), (2, .int mm)]) hx hb dX7_givesTo_31 hl (by decide) rfl (fun ls hl => ?_)
      refine lv_aload_n hx hb dX7_givesTo_33 rfl (lv_at hl 2 rfl) ?_
      refine T_get (ci := 7) (C := RX7) (T := TX7) (N := 8) (t := tI) hx hb hts inw_X7_givesTo_7 hown hK hP hT 0 rfl rfl 4 (by decide) (hts (.fieldLink RX7 9 "VatHouse$Vat" "state" "I") (List.mem_of_getElem? (i := 2) (by exact rfl))) (fun _ h9 => h9) rfl dX7_givesTo_34 (fun v_20 hv_18 hr_19 => ?_)
      obtain rfl : v_20 = .int z_9 := hr_19.symm.trans hr_7
      refine lv_iconst (v := 1) hx hb dX7_givesTo_37 (by decide) ?_
      refine lv_icmp_ne (tgt := 47) hx hb dX7_givesTo_38 (by decide) (fun c_21 => ?_) (fun c_21 => ?_)
      · refine lv_iload hx hb dX7_givesTo_47 (lv_at hl 0 rfl) ?_
        refine lv_aload_n hx hb dX7_givesTo_49 rfl (lv_at hl 3 rfl) ?_
        refine K_V ⟨hx, hb, hml, hown, hts⟩ (t_X0_room l dC dI sa hlt g _ _ o _ (hT.sub [1] rfl)  ) (cwV 0 hts gX7_givesTo_X0_room rfl rfl rfl (by decide +kernel) ⟨Nat.le_of_ble_eq_true rfl, Nat.le_of_ble_eq_true rfl⟩) hP hD hK hS hA hev hT 1 0 rfl rfl rfl rfl hl.1 rfl (Nat.le_of_ble_eq_true rfl) dX7_givesTo_50 ⟨Nat.le_of_ble_eq_true rfl, Nat.le_of_ble_eq_true rfl⟩ (fun r L_22 f_23 H locs hw_24 hP hD hS hT hE1 => ?_)
        have hF := Fr.call hF hE hw_24.2 (by decide)
        have hE := hE.tr hE1
        obtain ⟨⟨z_25, rfl⟩, hw_24⟩ := hw_24
        refine W.eq (g2 := F0 m 53 ls [.int z_25, .int z_17]) rfl ?_
        refine va_mmin hx hb (hml.trans hl.1.symm) hown (hts (.methodLink RX7 33 Lib.Math.min.name) (List.mem_of_getElem? (i := 4) (by exact rfl))) (hts (.static Lib.Math.min.name) (List.mem_of_getElem? (i := 5) (by exact rfl))) (hts (.initialized "java/lang/Math") (List.mem_of_getElem? (i := 6) (by exact rfl))) (hts (.code Lib.Math.min.name Lib.Math.min.code 2 (some .int)) (List.mem_of_getElem? (i := 7) (by exact rfl))) (Nat.le_of_ble_eq_true rfl) (Nat.le_of_ble_eq_true rfl) (Nat.le_of_ble_eq_true rfl) (Nat.le_of_ble_eq_true rfl) dX7_givesTo_53 ?_
        refine lv_topi (fun z_26 ez_26 => ?_)
        exact K_i hx hb hr hlocks hP hD hK hS hT hE ⟨⟨_, rfl⟩, hF⟩ (Nat.le_of_ble_eq_true rfl) (Nat.le_of_ble_eq_true rfl) dX7_givesTo_56
      · refine lv_iload hx hb dX7_givesTo_41 (lv_at hl 0 rfl) ?_
        refine lv_iconst (v := 2) hx hb dX7_givesTo_43 (by decide) ?_
        refine lv_idiv hx hb dX7_givesTo_44 (by decide) ?_
        refine lv_topi (fun z_27 ez_27 => ?_)
        refine lv_istore (lv' := [(4, .int z_27), (3, .int z_5), (0, .ref h0), (1, .ref o), (2, .int mm)]) hx hb dX7_givesTo_45 hl (by decide) rfl (fun ls hl => ?_)
        refine lv_iload hx hb dX7_givesTo_47 (lv_at hl 0 rfl) ?_
        refine lv_aload_n hx hb dX7_givesTo_49 rfl (lv_at hl 3 rfl) ?_
        refine K_V ⟨hx, hb, hml, hown, hts⟩ (t_X0_room l dC dI sa hlt g _ _ o _ (hT.sub [1] rfl)  ) (cwV 0 hts gX7_givesTo_X0_room rfl rfl rfl (by decide +kernel) ⟨Nat.le_of_ble_eq_true rfl, Nat.le_of_ble_eq_true rfl⟩) hP hD hK hS hA hev hT 1 0 rfl rfl rfl rfl hl.1 rfl (Nat.le_of_ble_eq_true rfl) dX7_givesTo_50 ⟨Nat.le_of_ble_eq_true rfl, Nat.le_of_ble_eq_true rfl⟩ (fun r L_28 f_29 H locs hw_30 hP hD hS hT hE1 => ?_)
        have hF := Fr.call hF hE hw_30.2 (by decide)
        have hE := hE.tr hE1
        obtain ⟨⟨z_31, rfl⟩, hw_30⟩ := hw_30
        refine W.eq (g2 := F0 m 53 ls [.int z_31, .int z_27]) rfl ?_
        refine va_mmin hx hb (hml.trans hl.1.symm) hown (hts (.methodLink RX7 33 Lib.Math.min.name) (List.mem_of_getElem? (i := 4) (by exact rfl))) (hts (.static Lib.Math.min.name) (List.mem_of_getElem? (i := 5) (by exact rfl))) (hts (.initialized "java/lang/Math") (List.mem_of_getElem? (i := 6) (by exact rfl))) (hts (.code Lib.Math.min.name Lib.Math.min.code 2 (some .int)) (List.mem_of_getElem? (i := 7) (by exact rfl))) (Nat.le_of_ble_eq_true rfl) (Nat.le_of_ble_eq_true rfl) (Nat.le_of_ble_eq_true rfl) (Nat.le_of_ble_eq_true rfl) dX7_givesTo_53 ?_
        refine lv_topi (fun z_32 ez_32 => ?_)
        exact K_i hx hb hr hlocks hP hD hK hS hT hE ⟨⟨_, rfl⟩, hF⟩ (Nat.le_of_ble_eq_true rfl) (Nat.le_of_ble_eq_true rfl) dX7_givesTo_56
    · refine lv_iconst (v := 0) hx hb dX7_givesTo_21 (by decide) ?_
      exact K_i hx hb hr hlocks hP hD hK hS hT hE ⟨⟨_, rfl⟩, hF⟩ (Nat.le_of_ble_eq_true rfl) (Nat.le_of_ble_eq_true rfl) dX7_givesTo_22

theorem inw_X8_vatAt_8 : ∀ w ∈ wsX80, w ∈ wsX8_vatAt := fun _ h => List.mem_cons_of_mem _ (List.mem_append_left _ (List.mem_append_right _ h))
theorem inx_X8_vatAt_8 : ∀ w ∈ (xN RX8 24).filter goodWord, w ∈ wsX8_vatAt := fun _ h => List.mem_cons_of_mem _ (List.mem_append_right _ h)

theorem inx_X9_demand_i : ∀ w ∈ (xI RX9 256).filter goodWord, w ∈ wsX9_demand := fun _ h => List.mem_cons_of_mem _ (List.mem_append_right _ h)

theorem inw_X9_clothAt_9 : ∀ w ∈ wsX90, w ∈ wsX9_clothAt := fun _ h => List.mem_cons_of_mem _ (List.mem_append_left _ (List.mem_append_right _ h))
theorem inx_X9_clothAt_9 : ∀ w ∈ (xN RX9 153).filter goodWord, w ∈ wsX9_clothAt := fun _ h => List.mem_cons_of_mem _ (List.mem_append_right _ h)
