theorem nlt_le {a b : Int32} (h : ¬ a < b) : b ≤ a := by
  rw [Int32.le_iff_toInt_le]; rw [Int32.lt_iff_toInt_lt] at h; omega
theorem lt_nle {a b : Int32} (h : a < b) : ¬ b ≤ a := by
  rw [Int32.le_iff_toInt_le]; rw [Int32.lt_iff_toInt_lt] at h; omega
theorem vin {v N : Int32} (n : Nat) (hn : n < 2 ^ 31) (hN : N = nI n) (h0 : ¬ v < 0) (h1 : ¬ N ≤ v) : vp_in v n := by
  subst hN
  obtain ⟨j, hj, hv, -⟩ := pk_mu h0 h1 hn
  rw [hv]; exact vp_in_nI hj hn
theorem nz {w : Int32} (h : ¬ w < 1) : w ≠ 0 := fun e => h (by rw [e]; decide)
theorem nz1 {w : Int32} (h : 1 ≤ w) : w ≠ 0 := fun e => absurd (e ▸ h : (1 : Int32) ≤ 0) (by decide)

abbrev rm_X0_shade : Room := { frames := 0, cells := 0, slots := 0, locals := 0 }
theorem inw_X0_shade_0 : ∀ w ∈ wsX00, w ∈ wsX0_shade := by decide +kernel
set_option maxHeartbeats 800000 in
set_option maxRecDepth 100000 in
theorem t_X0_shade (l : Launch) (dC : Nat → ClassId) (dI : Nat → Nat → Nat) (sa : Nat → Nat) (hlt : l.stackTraces = false) (g : Nat → Nat) (L : List Nat) (f : Nat → va_E) (h0 : Nat) (sz : Nat) (hT : TP g L f [(h0, (0, 0, 0))]) : KC l dC dI sa g yX0_shade wsX0_shade rm_X0_shade [.ref h0] L f sz (fun r L' f' => (∃ z : Int32, r = some (.int z)) ∧ Fr [] L f f') 0 0 := by
  refine CT.start (cc := cX0_shade) (maxL := 1) (ret := (some .int)) (by decide) rfl (Nat.le_of_ble_eq_true rfl) ?_
  intro p e s m below meth c ls hst hP hK hD hev hS hl
  obtain ⟨hx, hb, hr, hml, hts, hown, hlocks, hin⟩ := hst
  have hown : s.vm.findClass RX0 = some m.cls := hown
  have hin : meth.name = yX0_shade.name := hin
  have hA : ∀ q : Nat, s.heap.size ≤ q → va_A (va_pl L f) s.heap.size q := fun _ h => Or.inr h
  have hE : Ext L f L f := Ext.rf
  have hF : Fr [] L f f := Fr.rf
  have hl : lv_has ls 1 [(0, .ref h0)] := hl
  refine lv_aload_n hx hb dX0_shade_0 rfl (lv_at hl 0 rfl) ?_
  refine T_get (ci := 0) (C := RX0) (T := TX0) (N := 8) (t := tI) hx hb hts inw_X0_shade_0 hown hK hP hT 0 rfl rfl 1 (by decide) (hts (.fieldLink RX0 18 "VatHouse$Cloth" "weight" "I") (by decide +kernel)) (fun _ h9 => h9) rfl dX0_shade_1 (fun v_3 hv_1 hr_2 => ?_)
  obtain ⟨z_4, rfl⟩ := hv_1
  refine lv_iconst (v := 1) hx hb dX0_shade_4 (by decide) ?_
  refine lv_icmp_ge (tgt := 12) hx hb dX0_shade_5 (by decide) (fun c_5 => ?_) (fun c_5 => ?_)
  · refine lv_aload_n hx hb dX0_shade_12 rfl (lv_at hl 0 rfl) ?_
    refine T_get (ci := 0) (C := RX0) (T := TX0) (N := 8) (t := tI) hx hb hts inw_X0_shade_0 hown hK hP hT 0 rfl rfl 3 (by decide) (hts (.fieldLink RX0 21 "VatHouse$Cloth" "fast" "I") (by decide +kernel)) (fun _ h9 => h9) rfl dX0_shade_13 (fun v_8 hv_6 hr_7 => ?_)
    obtain ⟨z_9, rfl⟩ := hv_6
    refine lv_aload_n hx hb dX0_shade_16 rfl (lv_at hl 0 rfl) ?_
    refine T_get (ci := 0) (C := RX0) (T := TX0) (N := 8) (t := tI) hx hb hts inw_X0_shade_0 hown hK hP hT 0 rfl rfl 1 (by decide) (hts (.fieldLink RX0 18 "VatHouse$Cloth" "weight" "I") (by decide +kernel)) (fun _ h9 => h9) rfl dX0_shade_17 (fun v_12 hv_10 hr_11 => ?_)
    obtain rfl : v_12 = .int z_4 := hr_11.symm.trans hr_2
    refine lv_idiv hx hb dX0_shade_20 (by first | exact nz (by assumption) | exact nz1 (by assumption)) ?_
    refine lv_topi (fun z_13 ez_13 => ?_)
    exact K_i hx hb hr hlocks hP hD hK hS hT hE ⟨⟨_, rfl⟩, hF⟩ (Nat.le_of_ble_eq_true rfl) (Nat.le_of_ble_eq_true rfl) dX0_shade_21
  · refine lv_iconst (v := 0) hx hb dX0_shade_8 (by decide) ?_
    refine lv_goto (tgt := 21) hx hb dX0_shade_9 (by decide) ?_
    exact K_i hx hb hr hlocks hP hD hK hS hT hE ⟨⟨_, rfl⟩, hF⟩ (Nat.le_of_ble_eq_true rfl) (Nat.le_of_ble_eq_true rfl) dX0_shade_21

abbrev rm_X0_leastShade : Room := { frames := 1, cells := 0, slots := 0, locals := 20 }
theorem inw_X0_leastShade_0 : ∀ w ∈ wsX00, w ∈ wsX0_leastShade := by decide +kernel
set_option maxHeartbeats 800000 in
set_option maxRecDepth 100000 in
theorem t_X0_leastShade (l : Launch) (dC : Nat → ClassId) (dI : Nat → Nat → Nat) (sa : Nat → Nat) (hlt : l.stackTraces = false) (g : Nat → Nat) (L : List Nat) (f : Nat → va_E) (h0 : Nat) (d : Int32) (sz : Nat) (hT : TP g L f [(h0, (0, 0, 0))]) : KC l dC dI sa g yX0_leastShade wsX0_leastShade rm_X0_leastShade [.ref h0, .int d] L f sz (fun r L' f' => (∃ z : Int32, r = some (.int z)) ∧ Fr [] L f f') 0 0 := by
  refine CT.start (cc := cX0_leastShade) (maxL := 2) (ret := (some .int)) (by decide) rfl (Nat.le_of_ble_eq_true rfl) ?_
  intro p e s m below meth c ls hst hP hK hD hev hS hl
  obtain ⟨hx, hb, hr, hml, hts, hown, hlocks, hin⟩ := hst
  have hown : s.vm.findClass RX0 = some m.cls := hown
  have hin : meth.name = yX0_leastShade.name := hin
  have hA : ∀ q : Nat, s.heap.size ≤ q → va_A (va_pl L f) s.heap.size q := fun _ h => Or.inr h
  have hE : Ext L f L f := Ext.rf
  have hF : Fr [] L f f := Fr.rf
  have hl : lv_has ls 2 [(0, .ref h0), (1, .int d)] := hl
  refine lv_iconst (v := 0) hx hb dX0_leastShade_0 (by decide) ?_
  refine lv_aload_n hx hb dX0_leastShade_1 rfl (lv_at hl 0 rfl) ?_
  refine K_V ⟨hx, hb, hml, hown, hts⟩ (t_X0_shade l dC dI sa hlt g _ _ h0 _ (hT.sub [0] rfl)  ) (cwV 0 hts gX0_leastShade_X0_shade rfl rfl rfl (by decide +kernel) ⟨Nat.le_of_ble_eq_true rfl, Nat.le_of_ble_eq_true rfl⟩) hP hD hK hS hA hev hT 0 0 rfl rfl rfl rfl hl.1 rfl (Nat.le_of_ble_eq_true rfl) dX0_leastShade_2 ⟨Nat.le_of_ble_eq_true rfl, Nat.le_of_ble_eq_true rfl⟩ (fun r L_1 f_2 H locs hw_3 hP hD hS hT hE1 => ?_)
  have hF := Fr.call hF hE hw_3.2 (by decide)
  have hE := hE.tr hE1
  obtain ⟨⟨z_4, rfl⟩, hw_3⟩ := hw_3
  refine W.eq (g2 := F0 m 5 ls [.int z_4, .int 0]) rfl ?_
  refine lv_iconst (v := 3) hx hb dX0_leastShade_5 (by decide) ?_
  refine lv_iload_n hx hb dX0_leastShade_6 rfl (lv_at hl 1 rfl) ?_
  refine lv_aload_n hx hb dX0_leastShade_7 rfl (lv_at hl 0 rfl) ?_
  refine T_get (ci := 0) (C := RX0) (T := TX0) (N := 8) (t := tI) hx hb hts inw_X0_leastShade_0 hown hK hP hT 0 rfl rfl 5 (by decide) (hts (.fieldLink RX0 9 "VatHouse$Cloth" "day" "I") (by decide +kernel)) (fun _ h9 => h9) rfl dX0_leastShade_8 (fun v_7 hv_5 hr_6 => ?_)
  obtain ⟨z_8, rfl⟩ := hv_5
  refine lv_isub hx hb dX0_leastShade_11 ?_
  refine lv_topi (fun z_9 ez_9 => ?_)
  refine lv_imul hx hb dX0_leastShade_12 ?_
  refine lv_topi (fun z_10 ez_10 => ?_)
  refine lv_bipush (v := 100) hx hb dX0_leastShade_13 (by decide) ?_
  refine lv_idiv hx hb dX0_leastShade_15 (by decide) ?_
  refine lv_topi (fun z_11 ez_11 => ?_)
  refine lv_isub hx hb dX0_leastShade_16 ?_
  refine lv_topi (fun z_12 ez_12 => ?_)
  refine va_mmax hx hb (hml.trans hl.1.symm) hown (hts (.methodLink RX0 35 Lib.Math.max.name) (by decide +kernel)) (hts (.static Lib.Math.max.name) (by decide +kernel)) (hts (.initialized "java/lang/Math") (by decide +kernel)) (hts (.code Lib.Math.max.name Lib.Math.max.code 2 (some .int)) (by decide +kernel)) (Nat.le_of_ble_eq_true rfl) (Nat.le_of_ble_eq_true rfl) (Nat.le_of_ble_eq_true rfl) (Nat.le_of_ble_eq_true rfl) dX0_leastShade_17 ?_
  refine lv_topi (fun z_13 ez_13 => ?_)
  exact K_i hx hb hr hlocks hP hD hK hS hT hE ⟨⟨_, rfl⟩, hF⟩ (Nat.le_of_ble_eq_true rfl) (Nat.le_of_ble_eq_true rfl) dX0_leastShade_20

abbrev rm_X0_greatestShade : Room := { frames := 1, cells := 0, slots := 0, locals := 20 }
theorem inw_X0_greatestShade_0 : ∀ w ∈ wsX00, w ∈ wsX0_greatestShade := by decide +kernel
set_option maxHeartbeats 800000 in
set_option maxRecDepth 100000 in
theorem t_X0_greatestShade (l : Launch) (dC : Nat → ClassId) (dI : Nat → Nat → Nat) (sa : Nat → Nat) (hlt : l.stackTraces = false) (g : Nat → Nat) (L : List Nat) (f : Nat → va_E) (h0 : Nat) (d : Int32) (sz : Nat) (hT : TP g L f [(h0, (0, 0, 0))]) : KC l dC dI sa g yX0_greatestShade wsX0_greatestShade rm_X0_greatestShade [.ref h0, .int d] L f sz (fun r L' f' => (∃ z : Int32, r = some (.int z)) ∧ Fr [] L f f') 0 0 := by
  refine CT.start (cc := cX0_greatestShade) (maxL := 2) (ret := (some .int)) (by decide) rfl (Nat.le_of_ble_eq_true rfl) ?_
  intro p e s m below meth c ls hst hP hK hD hev hS hl
  obtain ⟨hx, hb, hr, hml, hts, hown, hlocks, hin⟩ := hst
  have hown : s.vm.findClass RX0 = some m.cls := hown
  have hin : meth.name = yX0_greatestShade.name := hin
  have hA : ∀ q : Nat, s.heap.size ≤ q → va_A (va_pl L f) s.heap.size q := fun _ h => Or.inr h
  have hE : Ext L f L f := Ext.rf
  have hF : Fr [] L f f := Fr.rf
  have hl : lv_has ls 2 [(0, .ref h0), (1, .int d)] := hl
  refine lv_iconst (v := 0) hx hb dX0_greatestShade_0 (by decide) ?_
  refine lv_aload_n hx hb dX0_greatestShade_1 rfl (lv_at hl 0 rfl) ?_
  refine K_V ⟨hx, hb, hml, hown, hts⟩ (t_X0_shade l dC dI sa hlt g _ _ h0 _ (hT.sub [0] rfl)  ) (cwV 0 hts gX0_greatestShade_X0_shade rfl rfl rfl (by decide +kernel) ⟨Nat.le_of_ble_eq_true rfl, Nat.le_of_ble_eq_true rfl⟩) hP hD hK hS hA hev hT 0 0 rfl rfl rfl rfl hl.1 rfl (Nat.le_of_ble_eq_true rfl) dX0_greatestShade_2 ⟨Nat.le_of_ble_eq_true rfl, Nat.le_of_ble_eq_true rfl⟩ (fun r L_1 f_2 H locs hw_3 hP hD hS hT hE1 => ?_)
  have hF := Fr.call hF hE hw_3.2 (by decide)
  have hE := hE.tr hE1
  obtain ⟨⟨z_4, rfl⟩, hw_3⟩ := hw_3
  refine W.eq (g2 := F0 m 5 ls [.int z_4, .int 0]) rfl ?_
  refine lv_iload_n hx hb dX0_greatestShade_5 rfl (lv_at hl 1 rfl) ?_
  refine lv_aload_n hx hb dX0_greatestShade_6 rfl (lv_at hl 0 rfl) ?_
  refine T_get (ci := 0) (C := RX0) (T := TX0) (N := 8) (t := tI) hx hb hts inw_X0_greatestShade_0 hown hK hP hT 0 rfl rfl 5 (by decide) (hts (.fieldLink RX0 9 "VatHouse$Cloth" "day" "I") (by decide +kernel)) (fun _ h9 => h9) rfl dX0_greatestShade_7 (fun v_7 hv_5 hr_6 => ?_)
  obtain ⟨z_8, rfl⟩ := hv_5
  refine lv_isub hx hb dX0_greatestShade_10 ?_
  refine lv_topi (fun z_9 ez_9 => ?_)
  refine lv_bipush (v := 100) hx hb dX0_greatestShade_11 (by decide) ?_
  refine lv_idiv hx hb dX0_greatestShade_13 (by decide) ?_
  refine lv_topi (fun z_10 ez_10 => ?_)
  refine lv_isub hx hb dX0_greatestShade_14 ?_
  refine lv_topi (fun z_11 ez_11 => ?_)
  refine va_mmax hx hb (hml.trans hl.1.symm) hown (hts (.methodLink RX0 35 Lib.Math.max.name) (by decide +kernel)) (hts (.static Lib.Math.max.name) (by decide +kernel)) (hts (.initialized "java/lang/Math") (by decide +kernel)) (hts (.code Lib.Math.max.name Lib.Math.max.code 2 (some .int)) (by decide +kernel)) (Nat.le_of_ble_eq_true rfl) (Nat.le_of_ble_eq_true rfl) (Nat.le_of_ble_eq_true rfl) (Nat.le_of_ble_eq_true rfl) dX0_greatestShade_15 ?_
  refine lv_topi (fun z_12 ez_12 => ?_)
  exact K_i hx hb hr hlocks hP hD hK hS hT hE ⟨⟨_, rfl⟩, hF⟩ (Nat.le_of_ble_eq_true rfl) (Nat.le_of_ble_eq_true rfl) dX0_greatestShade_18

abbrev rm_X0_spanMeets : Room := { frames := 2, cells := 0, slots := 0, locals := 41 }
set_option maxHeartbeats 800000 in
set_option maxRecDepth 100000 in
theorem t_X0_spanMeets (l : Launch) (dC : Nat → ClassId) (dI : Nat → Nat → Nat) (sa : Nat → Nat) (hlt : l.stackTraces = false) (g : Nat → Nat) (L : List Nat) (f : Nat → va_E) (h0 : Nat) (o : Nat) (d : Int32) (sz : Nat) (hT : TP g L f [(h0, (0, 0, 0)), (o, (0, 0, 0))]) : KC l dC dI sa g yX0_spanMeets wsX0_spanMeets rm_X0_spanMeets [.ref h0, .ref o, .int d] L f sz (fun r L' f' => (∃ z : Int32, r = some (.int z) ∧ (z = 0 ∨ z = 1)) ∧ Fr [] L f f') 0 0 := by
  refine CT.start (cc := cX0_spanMeets) (maxL := 3) (ret := (some .boolean)) (by decide) rfl (Nat.le_of_ble_eq_true rfl) ?_
  intro p e s m below meth c ls hst hP hK hD hev hS hl
  obtain ⟨hx, hb, hr, hml, hts, hown, hlocks, hin⟩ := hst
  have hown : s.vm.findClass RX0 = some m.cls := hown
  have hin : meth.name = yX0_spanMeets.name := hin
  have hA : ∀ q : Nat, s.heap.size ≤ q → va_A (va_pl L f) s.heap.size q := fun _ h => Or.inr h
  have hE : Ext L f L f := Ext.rf
  have hF : Fr [] L f f := Fr.rf
  have hl : lv_has ls 3 [(0, .ref h0), (1, .ref o), (2, .int d)] := hl
  refine lv_aload_n hx hb dX0_spanMeets_0 rfl (lv_at hl 0 rfl) ?_
  refine lv_iload_n hx hb dX0_spanMeets_1 rfl (lv_at hl 2 rfl) ?_
  refine K_V ⟨hx, hb, hml, hown, hts⟩ (t_X0_hasSpan l dC dI sa hlt g _ _ h0 d _ (hT.sub [0] rfl)  ) (cwV 1 hts gX0_spanMeets_X0_hasSpan rfl rfl rfl (by decide +kernel) ⟨Nat.le_of_ble_eq_true rfl, Nat.le_of_ble_eq_true rfl⟩) hP hD hK hS hA hev hT 0 0 rfl rfl rfl rfl hl.1 rfl (Nat.le_of_ble_eq_true rfl) dX0_spanMeets_2 ⟨Nat.le_of_ble_eq_true rfl, Nat.le_of_ble_eq_true rfl⟩ (fun r L_1 f_2 H locs hw_3 hP hD hS hT hE1 => ?_)
  have hF := Fr.call hF hE hw_3.2 (by decide)
  have hE := hE.tr hE1
  obtain ⟨⟨z_4, rfl, hz_z_4⟩, hw_3⟩ := hw_3
  refine W.eq (g2 := F0 m 5 ls [.int z_4]) rfl ?_
  refine lv_if_eq (tgt := 46) hx hb dX0_spanMeets_5 (by decide) (fun c_5 => ?_) (fun c_5 => ?_)
  · refine lv_iconst (v := 0) hx hb dX0_spanMeets_46 (by decide) ?_
    exact K_z hx hb hr rfl hlocks hP hD hK hS hT hE ⟨⟨_, rfl, Or.inl rfl⟩, hF⟩ (Nat.le_of_ble_eq_true rfl) (Nat.le_of_ble_eq_true rfl) dX0_spanMeets_47
  · refine lv_aload_n hx hb dX0_spanMeets_8 rfl (lv_at hl 1 rfl) ?_
    refine lv_iload_n hx hb dX0_spanMeets_9 rfl (lv_at hl 2 rfl) ?_
    refine K_V ⟨hx, hb, hml, hown, hts⟩ (t_X0_hasSpan l dC dI sa hlt g _ _ o d _ (hT.sub [1] rfl)  ) (cwV 1 hts gX0_spanMeets_X0_hasSpan rfl rfl rfl (by decide +kernel) ⟨Nat.le_of_ble_eq_true rfl, Nat.le_of_ble_eq_true rfl⟩) hP hD hK hS hA hev hT 1 0 rfl rfl rfl rfl hl.1 rfl (Nat.le_of_ble_eq_true rfl) dX0_spanMeets_10 ⟨Nat.le_of_ble_eq_true rfl, Nat.le_of_ble_eq_true rfl⟩ (fun r L_6 f_7 H locs hw_8 hP hD hS hT hE1 => ?_)
    have hF := Fr.call hF hE hw_8.2 (by decide)
    have hE := hE.tr hE1
    obtain ⟨⟨z_9, rfl, hz_z_9⟩, hw_8⟩ := hw_8
    refine W.eq (g2 := F0 m 13 ls [.int z_9]) rfl ?_
    refine lv_if_eq (tgt := 46) hx hb dX0_spanMeets_13 (by decide) (fun c_10 => ?_) (fun c_10 => ?_)
    · refine lv_iconst (v := 0) hx hb dX0_spanMeets_46 (by decide) ?_
      exact K_z hx hb hr rfl hlocks hP hD hK hS hT hE ⟨⟨_, rfl, Or.inl rfl⟩, hF⟩ (Nat.le_of_ble_eq_true rfl) (Nat.le_of_ble_eq_true rfl) dX0_spanMeets_47
    · refine lv_aload_n hx hb dX0_spanMeets_16 rfl (lv_at hl 0 rfl) ?_
      refine lv_iload_n hx hb dX0_spanMeets_17 rfl (lv_at hl 2 rfl) ?_
      refine K_V ⟨hx, hb, hml, hown, hts⟩ (t_X0_leastShade l dC dI sa hlt g _ _ h0 d _ (hT.sub [0] rfl)  ) (cwV 1 hts gX0_spanMeets_X0_leastShade rfl rfl rfl (by decide +kernel) ⟨Nat.le_of_ble_eq_true rfl, Nat.le_of_ble_eq_true rfl⟩) hP hD hK hS hA hev hT 0 0 rfl rfl rfl rfl hl.1 rfl (Nat.le_of_ble_eq_true rfl) dX0_spanMeets_18 ⟨Nat.le_of_ble_eq_true rfl, Nat.le_of_ble_eq_true rfl⟩ (fun r L_11 f_12 H locs hw_13 hP hD hS hT hE1 => ?_)
      have hF := Fr.call hF hE hw_13.2 (by decide)
      have hE := hE.tr hE1
      obtain ⟨⟨z_14, rfl⟩, hw_13⟩ := hw_13
      refine W.eq (g2 := F0 m 21 ls [.int z_14]) rfl ?_
      refine lv_aload_n hx hb dX0_spanMeets_21 rfl (lv_at hl 1 rfl) ?_
      refine lv_iload_n hx hb dX0_spanMeets_22 rfl (lv_at hl 2 rfl) ?_
      refine K_V ⟨hx, hb, hml, hown, hts⟩ (t_X0_greatestShade l dC dI sa hlt g _ _ o d _ (hT.sub [1] rfl)  ) (cwV 1 hts gX0_spanMeets_X0_greatestShade rfl rfl rfl (by decide +kernel) ⟨Nat.le_of_ble_eq_true rfl, Nat.le_of_ble_eq_true rfl⟩) hP hD hK hS hA hev hT 1 0 rfl rfl rfl rfl hl.1 rfl (Nat.le_of_ble_eq_true rfl) dX0_spanMeets_23 ⟨Nat.le_of_ble_eq_true rfl, Nat.le_of_ble_eq_true rfl⟩ (fun r L_15 f_16 H locs hw_17 hP hD hS hT hE1 => ?_)
      have hF := Fr.call hF hE hw_17.2 (by decide)
      have hE := hE.tr hE1
      obtain ⟨⟨z_18, rfl⟩, hw_17⟩ := hw_17
      refine W.eq (g2 := F0 m 26 ls [.int z_18, .int z_14]) rfl ?_
      refine lv_icmp_gt (tgt := 46) hx hb dX0_spanMeets_26 (by decide) (fun c_19 => ?_) (fun c_19 => ?_)
      · refine lv_iconst (v := 0) hx hb dX0_spanMeets_46 (by decide) ?_
        exact K_z hx hb hr rfl hlocks hP hD hK hS hT hE ⟨⟨_, rfl, Or.inl rfl⟩, hF⟩ (Nat.le_of_ble_eq_true rfl) (Nat.le_of_ble_eq_true rfl) dX0_spanMeets_47
      · refine lv_aload_n hx hb dX0_spanMeets_29 rfl (lv_at hl 1 rfl) ?_
        refine lv_iload_n hx hb dX0_spanMeets_30 rfl (lv_at hl 2 rfl) ?_
        refine K_V ⟨hx, hb, hml, hown, hts⟩ (t_X0_leastShade l dC dI sa hlt g _ _ o d _ (hT.sub [1] rfl)  ) (cwV 1 hts gX0_spanMeets_X0_leastShade rfl rfl rfl (by decide +kernel) ⟨Nat.le_of_ble_eq_true rfl, Nat.le_of_ble_eq_true rfl⟩) hP hD hK hS hA hev hT 1 0 rfl rfl rfl rfl hl.1 rfl (Nat.le_of_ble_eq_true rfl) dX0_spanMeets_31 ⟨Nat.le_of_ble_eq_true rfl, Nat.le_of_ble_eq_true rfl⟩ (fun r L_20 f_21 H locs hw_22 hP hD hS hT hE1 => ?_)
        have hF := Fr.call hF hE hw_22.2 (by decide)
        have hE := hE.tr hE1
        obtain ⟨⟨z_23, rfl⟩, hw_22⟩ := hw_22
        refine W.eq (g2 := F0 m 34 ls [.int z_23]) rfl ?_
        refine lv_aload_n hx hb dX0_spanMeets_34 rfl (lv_at hl 0 rfl) ?_
        refine lv_iload_n hx hb dX0_spanMeets_35 rfl (lv_at hl 2 rfl) ?_
        refine K_V ⟨hx, hb, hml, hown, hts⟩ (t_X0_greatestShade l dC dI sa hlt g _ _ h0 d _ (hT.sub [0] rfl)  ) (cwV 1 hts gX0_spanMeets_X0_greatestShade rfl rfl rfl (by decide +kernel) ⟨Nat.le_of_ble_eq_true rfl, Nat.le_of_ble_eq_true rfl⟩) hP hD hK hS hA hev hT 0 0 rfl rfl rfl rfl hl.1 rfl (Nat.le_of_ble_eq_true rfl) dX0_spanMeets_36 ⟨Nat.le_of_ble_eq_true rfl, Nat.le_of_ble_eq_true rfl⟩ (fun r L_24 f_25 H locs hw_26 hP hD hS hT hE1 => ?_)
        have hF := Fr.call hF hE hw_26.2 (by decide)
        have hE := hE.tr hE1
        obtain ⟨⟨z_27, rfl⟩, hw_26⟩ := hw_26
        refine W.eq (g2 := F0 m 39 ls [.int z_27, .int z_23]) rfl ?_
        refine lv_icmp_gt (tgt := 46) hx hb dX0_spanMeets_39 (by decide) (fun c_28 => ?_) (fun c_28 => ?_)
        · refine lv_iconst (v := 0) hx hb dX0_spanMeets_46 (by decide) ?_
          exact K_z hx hb hr rfl hlocks hP hD hK hS hT hE ⟨⟨_, rfl, Or.inl rfl⟩, hF⟩ (Nat.le_of_ble_eq_true rfl) (Nat.le_of_ble_eq_true rfl) dX0_spanMeets_47
        · refine lv_iconst (v := 1) hx hb dX0_spanMeets_42 (by decide) ?_
          refine lv_goto (tgt := 47) hx hb dX0_spanMeets_43 (by decide) ?_
          exact K_z hx hb hr rfl hlocks hP hD hK hS hT hE ⟨⟨_, rfl, Or.inr rfl⟩, hF⟩ (Nat.le_of_ble_eq_true rfl) (Nat.le_of_ble_eq_true rfl) dX0_spanMeets_47

abbrev rm_X7_givesTo : Room := { frames := 1, cells := 0, slots := 0, locals := 20 }
theorem inw_X7_givesTo_0 : ∀ w ∈ wsX00, w ∈ wsX7_givesTo := by decide +kernel
theorem inw_X7_givesTo_7 : ∀ w ∈ wsX70, w ∈ wsX7_givesTo := by decide +kernel
set_option maxHeartbeats 800000 in
set_option maxRecDepth 100000 in
theorem t_X7_givesTo (l : Launch) (dC : Nat → ClassId) (dI : Nat → Nat → Nat) (sa : Nat → Nat) (hlt : l.stackTraces = false) (g : Nat → Nat) (L : List Nat) (f : Nat → va_E) (h0 : Nat) (o : Nat) (mm : Int32) (sz : Nat) (hT : TP g L f [(h0, (0, 7, 0)), (o, (0, 0, 0))]) : KC l dC dI sa g yX7_givesTo wsX7_givesTo rm_X7_givesTo [.ref h0, .ref o, .int mm] L f sz (fun r L' f' => (∃ z : Int32, r = some (.int z)) ∧ Fr [] L f f') 0 0 := by
  refine CT.start (cc := cX7_givesTo) (maxL := 5) (ret := (some .int)) (by decide) rfl (Nat.le_of_ble_eq_true rfl) ?_
  intro p e s m below meth c ls hst hP hK hD hev hS hl
  obtain ⟨hx, hb, hr, hml, hts, hown, hlocks, hin⟩ := hst
  have hown : s.vm.findClass RX7 = some m.cls := hown
  have hin : meth.name = yX7_givesTo.name := hin
  have hA : ∀ q : Nat, s.heap.size ≤ q → va_A (va_pl L f) s.heap.size q := fun _ h => Or.inr h
  have hE : Ext L f L f := Ext.rf
  have hF : Fr [] L f f := Fr.rf
  have hl : lv_has ls 5 [(0, .ref h0), (1, .ref o), (2, .int mm)] := hl
  refine lv_bipush (v := 100) hx hb dX7_givesTo_0 (by decide) ?_
  refine lv_aload_n hx hb dX7_givesTo_2 rfl (lv_at hl 1 rfl) ?_
  refine T_get (ci := 0) (C := RX0) (T := TX0) (N := 8) (t := tI) hx hb hts inw_X7_givesTo_0 hown hK hP hT 1 rfl rfl 1 (by decide) (hts (.fieldLink RX7 21 "VatHouse$Cloth" "weight" "I") (by decide +kernel)) (fun _ h9 => h9) rfl dX7_givesTo_3 (fun v_3 hv_1 hr_2 => ?_)
  obtain ⟨z_4, rfl⟩ := hv_1
  refine lv_iadd hx hb dX7_givesTo_6 ?_
  refine lv_topi (fun z_5 ez_5 => ?_)
  refine lv_istore_n (lv' := [(3, .int z_5), (0, .ref h0), (1, .ref o), (2, .int mm)]) hx hb dX7_givesTo_7 rfl hl (by decide) rfl (fun ls hl => ?_)
  refine lv_aload_n hx hb dX7_givesTo_8 rfl (lv_at hl 1 rfl) ?_
  refine T_get (ci := 7) (C := RX7) (T := TX7) (N := 8) (t := tI) hx hb hts inw_X7_givesTo_7 hown hK hP hT 0 rfl rfl 4 (by decide) (hts (.fieldLink RX7 9 "VatHouse$Vat" "state" "I") (by decide +kernel)) (fun _ h9 => h9) rfl dX7_givesTo_9 (fun v_8 hv_6 hr_7 => ?_)
  obtain ⟨z_9, rfl⟩ := hv_6
  refine lv_iconst (v := 2) hx hb dX7_givesTo_12 (by decide) ?_
  refine lv_icmp_eq (tgt := 21) hx hb dX7_givesTo_13 (by decide) (fun c_10 => ?_) (fun c_10 => ?_)
  · refine lv_iconst (v := 0) hx hb dX7_givesTo_21 (by decide) ?_
    exact K_i hx hb hr hlocks hP hD hK hS hT hE ⟨⟨_, rfl⟩, hF⟩ (Nat.le_of_ble_eq_true rfl) (Nat.le_of_ble_eq_true rfl) dX7_givesTo_22
  · refine lv_iload_n hx hb dX7_givesTo_16 rfl (lv_at hl 0 rfl) ?_
    refine lv_iconst (v := 1) hx hb dX7_givesTo_17 (by decide) ?_
    refine lv_icmp_ge (tgt := 23) hx hb dX7_givesTo_18 (by decide) (fun c_11 => ?_) (fun c_11 => ?_)
    · refine lv_aload_n hx hb dX7_givesTo_23 rfl (lv_at hl 1 rfl) ?_
      refine T_get (ci := 7) (C := RX7) (T := TX7) (N := 8) (t := tI) hx hb hts inw_X7_givesTo_7 hown hK hP hT 0 rfl rfl 1 (by decide) (hts (.fieldLink RX7 26 "VatHouse$Vat" "grains" "I") (by decide +kernel)) (fun _ h9 => h9) rfl dX7_givesTo_24 (fun v_14 hv_12 hr_13 => ?_)
      obtain ⟨z_15, rfl⟩ := hv_12
      refine lv_iload_n hx hb dX7_givesTo_27 rfl (lv_at hl 3 rfl) ?_
      refine lv_imul hx hb dX7_givesTo_28 ?_
      refine lv_topi (fun z_16 ez_16 => ?_)
      refine lv_iload_n hx hb dX7_givesTo_29 rfl (lv_at hl 0 rfl) ?_
      refine lv_idiv hx hb dX7_givesTo_30 (by first | exact nz (by assumption) | exact nz1 (by assumption)) ?_
      refine lv_topi (fun z_17 ez_17 => ?_)
      refine lv_istore (lv' := [(4, .int z_17), (3, .int z_5), (0, .ref h0), (1, .ref o), (2, .int mm)]) hx hb dX7_givesTo_31 hl (by decide) rfl (fun ls hl => ?_)
      refine lv_aload_n hx hb dX7_givesTo_33 rfl (lv_at hl 2 rfl) ?_
      refine T_get (ci := 7) (C := RX7) (T := TX7) (N := 8) (t := tI) hx hb hts inw_X7_givesTo_7 hown hK hP hT 0 rfl rfl 4 (by decide) (hts (.fieldLink RX7 9 "VatHouse$Vat" "state" "I") (by decide +kernel)) (fun _ h9 => h9) rfl dX7_givesTo_34 (fun v_20 hv_18 hr_19 => ?_)
      obtain rfl : v_20 = .int z_9 := hr_19.symm.trans hr_7
      refine lv_iconst (v := 1) hx hb dX7_givesTo_37 (by decide) ?_
      refine lv_icmp_ne (tgt := 47) hx hb dX7_givesTo_38 (by decide) (fun c_21 => ?_) (fun c_21 => ?_)
      · refine lv_iload hx hb dX7_givesTo_47 (lv_at hl 0 rfl) ?_
        refine lv_aload_n hx hb dX7_givesTo_49 rfl (lv_at hl 3 rfl) ?_
        refine K_V ⟨hx, hb, hml, hown, hts⟩ (t_X0_room l dC dI sa hlt g _ _ o _ (hT.sub [1] rfl)  ) (cwV 0 hts gX7_givesTo_X0_room rfl rfl rfl (by decide +kernel) ⟨Nat.le_of_ble_eq_true rfl, Nat.le_of_ble_eq_true rfl⟩) hP hD hK hS hA hev hT 1 0 rfl rfl rfl rfl hl.1 rfl (Nat.le_of_ble_eq_true rfl) dX7_givesTo_50 ⟨Nat.le_of_ble_eq_true rfl, Nat.le_of_ble_eq_true rfl⟩ (fun r L_22 f_23 H locs hw_24 hP hD hS hT hE1 => ?_)
        have hF := Fr.call hF hE hw_24.2 (by decide)
        have hE := hE.tr hE1
        obtain ⟨⟨z_25, rfl⟩, hw_24⟩ := hw_24
        refine W.eq (g2 := F0 m 53 ls [.int z_25, .int z_17]) rfl ?_
        refine va_mmin hx hb (hml.trans hl.1.symm) hown (hts (.methodLink RX7 33 Lib.Math.min.name) (by decide +kernel)) (hts (.static Lib.Math.min.name) (by decide +kernel)) (hts (.initialized "java/lang/Math") (by decide +kernel)) (hts (.code Lib.Math.min.name Lib.Math.min.code 2 (some .int)) (by decide +kernel)) (Nat.le_of_ble_eq_true rfl) (Nat.le_of_ble_eq_true rfl) (Nat.le_of_ble_eq_true rfl) (Nat.le_of_ble_eq_true rfl) dX7_givesTo_53 ?_
        refine lv_topi (fun z_26 ez_26 => ?_)
        exact K_i hx hb hr hlocks hP hD hK hS hT hE ⟨⟨_, rfl⟩, hF⟩ (Nat.le_of_ble_eq_true rfl) (Nat.le_of_ble_eq_true rfl) dX7_givesTo_56
      · refine lv_iload hx hb dX7_givesTo_41 (lv_at hl 0 rfl) ?_
        refine lv_iconst (v := 2) hx hb dX7_givesTo_43 (by decide) ?_
        refine lv_idiv hx hb dX7_givesTo_44 (by decide) ?_
        refine lv_topi (fun z_27 ez_27 => ?_)
        refine lv_istore (lv' := [(4, .int z_27), (3, .int z_5), (0, .ref h0), (1, .ref o), (2, .int mm)]) hx hb dX7_givesTo_45 hl (by decide) rfl (fun ls hl => ?_)
        refine lv_iload hx hb dX7_givesTo_47 (lv_at hl 0 rfl) ?_
        refine lv_aload_n hx hb dX7_givesTo_49 rfl (lv_at hl 3 rfl) ?_
        refine K_V ⟨hx, hb, hml, hown, hts⟩ (t_X0_room l dC dI sa hlt g _ _ o _ (hT.sub [1] rfl)  ) (cwV 0 hts gX7_givesTo_X0_room rfl rfl rfl (by decide +kernel) ⟨Nat.le_of_ble_eq_true rfl, Nat.le_of_ble_eq_true rfl⟩) hP hD hK hS hA hev hT 1 0 rfl rfl rfl rfl hl.1 rfl (Nat.le_of_ble_eq_true rfl) dX7_givesTo_50 ⟨Nat.le_of_ble_eq_true rfl, Nat.le_of_ble_eq_true rfl⟩ (fun r L_28 f_29 H locs hw_30 hP hD hS hT hE1 => ?_)
        have hF := Fr.call hF hE hw_30.2 (by decide)
        have hE := hE.tr hE1
        obtain ⟨⟨z_31, rfl⟩, hw_30⟩ := hw_30
        refine W.eq (g2 := F0 m 53 ls [.int z_31, .int z_27]) rfl ?_
        refine va_mmin hx hb (hml.trans hl.1.symm) hown (hts (.methodLink RX7 33 Lib.Math.min.name) (by decide +kernel)) (hts (.static Lib.Math.min.name) (by decide +kernel)) (hts (.initialized "java/lang/Math") (by decide +kernel)) (hts (.code Lib.Math.min.name Lib.Math.min.code 2 (some .int)) (by decide +kernel)) (Nat.le_of_ble_eq_true rfl) (Nat.le_of_ble_eq_true rfl) (Nat.le_of_ble_eq_true rfl) (Nat.le_of_ble_eq_true rfl) dX7_givesTo_53 ?_
        refine lv_topi (fun z_32 ez_32 => ?_)
        exact K_i hx hb hr hlocks hP hD hK hS hT hE ⟨⟨_, rfl⟩, hF⟩ (Nat.le_of_ble_eq_true rfl) (Nat.le_of_ble_eq_true rfl) dX7_givesTo_56
    · refine lv_iconst (v := 0) hx hb dX7_givesTo_21 (by decide) ?_
      exact K_i hx hb hr hlocks hP hD hK hS hT hE ⟨⟨_, rfl⟩, hF⟩ (Nat.le_of_ble_eq_true rfl) (Nat.le_of_ble_eq_true rfl) dX7_givesTo_22

abbrev rm_X8_vatAt : Room := { frames := 6, cells := 1, slots := 6, locals := 82 }
theorem inw_X8_vatAt_8 : ∀ w ∈ wsX80, w ∈ wsX8_vatAt := by decide +kernel
theorem inx_X8_vatAt_8 : ∀ w ∈ (xN RX8 24).filter goodWord, w ∈ wsX8_vatAt := fun _ h => List.mem_cons_of_mem _ (List.mem_append_right _ h)
set_option maxHeartbeats 800000 in
set_option maxRecDepth 100000 in
theorem t_X8_vatAt (l : Launch) (dC : Nat → ClassId) (dI : Nat → Nat → Nat) (sa : Nat → Nat) (hlt : l.stackTraces = false) (g : Nat → Nat) (L : List Nat) (f : Nat → va_E) (h0 : Nat) (num : Int32) (sz : Nat) (hT : TP g L f [(h0, (0, 8, 0))]) : KX l dC dI sa g yX8_vatAt wsX8_vatAt rm_X8_vatAt [.ref h0, .int num] L f sz (fun r L' f' => (∃ v : Value, r = some v ∧ okv L' f' (1, 0, 7, 0) v) ∧ Fr [] L f f') (fun E L' f' => (E = NSE) ∧ Fr [] L f f') 1 6 := by
  refine KX.start (cc := cX8_vatAt) (maxL := 2) (ret := (some (.object "VatHouse$Vat"))) (by decide) rfl (Nat.le_of_ble_eq_true rfl) ?_
  intro p e s m below meth c ls hst hno hP hK hD hev hS hl
  obtain ⟨hx, hb, hr, hml, hts, hown, hlocks, hin⟩ := hst
  have hown : s.vm.findClass RX8 = some m.cls := hown
  have hin : meth.name = yX8_vatAt.name := hin
  have hA : ∀ q : Nat, s.heap.size ≤ q → va_A (va_pl L f) s.heap.size q := fun _ h => Or.inr h
  have hE : Ext L f L f := Ext.rf
  have hF : Fr [] L f f := Fr.rf
  have hl : lv_has ls 2 [(0, .ref h0), (1, .int num)] := hl
  refine lv_iload_n hx hb dX8_vatAt_0 rfl (lv_at hl 1 rfl) ?_
  refine lv_if_lt (tgt := 13) hx hb dX8_vatAt_1 (by decide) (fun c_1 => ?_) (fun c_1 => ?_)
  · exact K_x (cls := NSE) hno hx hb hlt hlocks hown hts xg_0 xg_1 xg_2 xg_5 (by decide +kernel) (hts (.classLink RX8 20 NSE) (by decide +kernel)) (hts (.initialized NSE) (by decide +kernel)) hev.2.1.1 (inx_X8_vatAt_8) xb_8 hev.2.2.1.1 xo_8 hev (hl.1.trans hml.symm) dX8_vatAt_13 dX8_vatAt_16 dX8_vatAt_17 dX8_vatAt_19 dX8_vatAt_22 (Nat.le_of_ble_eq_true rfl) (Nat.le_of_ble_eq_true rfl) (Nat.le_of_ble_eq_true rfl) (Nat.le_of_ble_eq_true rfl) ⟨rfl, hF⟩ hP hD hK hS hT hE (Nat.le_of_ble_eq_true rfl) (Nat.le_of_ble_eq_true rfl)
  · refine lv_iload_n hx hb dX8_vatAt_4 rfl (lv_at hl 1 rfl) ?_
    refine lv_aload_n hx hb dX8_vatAt_5 rfl (lv_at hl 0 rfl) ?_
    refine T_get (ci := 8) (C := RX8) (T := TX8) (N := 3) (t := (1, 2, g 2, 6)) hx hb hts inw_X8_vatAt_8 hown hK hP hT 0 rfl rfl 0 (by decide) (hts (.fieldLink RX8 11 "VatHouse$Works" "vats" "[LVatHouse$Vat;") (by decide +kernel)) (fun _ h9 => h9) rfl dX8_vatAt_6 (fun v_4 hv_2 hr_3 => ?_)
    obtain ⟨b_5, rfl, hb9⟩ := hv_2
    have hT := hT.add hb9
    refine T_alen hx hb hK hP hT 0 2 rfl rfl (v := 6) rfl dX8_vatAt_9 ?_
    refine lv_icmp_lt (tgt := 23) hx hb dX8_vatAt_10 (by decide) (fun c_6 => ?_) (fun c_6 => ?_)
    · refine lv_aload_n hx hb dX8_vatAt_23 rfl (lv_at hl 0 rfl) ?_
      refine T_get (ci := 8) (C := RX8) (T := TX8) (N := 3) (t := (1, 2, g 2, 6)) hx hb hts inw_X8_vatAt_8 hown hK hP hT 1 rfl rfl 0 (by decide) (hts (.fieldLink RX8 11 "VatHouse$Works" "vats" "[LVatHouse$Vat;") (by decide +kernel)) (fun _ h9 => h9) rfl dX8_vatAt_24 (fun v_9 hv_7 hr_8 => ?_)
      obtain rfl : v_9 = .ref b_5 := hr_8.symm.trans hr_3
      refine lv_iload_n hx hb dX8_vatAt_27 rfl (lv_at hl 1 rfl) ?_
      refine T_vald hx hb hK hP hT 0 2 (Or.inl rfl) rfl rfl (vin 6 (by decide) rfl (by assumption) (lt_nle (by assumption))) dX8_vatAt_28 (fun b_10 hb9 hra => ?_)
      have hT := hT.add hb9
      refine vx_ret ?_
      exact K_a hx hb hr (Or.inl ⟨_, rfl⟩) (Or.inr ⟨_, rfl⟩) hlocks hP hD hK hS hT hE ⟨⟨_, rfl, _, rfl, hT.at 0 rfl⟩, hF⟩ (Nat.le_of_ble_eq_true rfl) (Nat.le_of_ble_eq_true rfl) dX8_vatAt_29
    · exact K_x (cls := NSE) hno hx hb hlt hlocks hown hts xg_0 xg_1 xg_2 xg_5 (by decide +kernel) (hts (.classLink RX8 20 NSE) (by decide +kernel)) (hts (.initialized NSE) (by decide +kernel)) hev.2.1.1 (inx_X8_vatAt_8) xb_8 hev.2.2.1.1 xo_8 hev (hl.1.trans hml.symm) dX8_vatAt_13 dX8_vatAt_16 dX8_vatAt_17 dX8_vatAt_19 dX8_vatAt_22 (Nat.le_of_ble_eq_true rfl) (Nat.le_of_ble_eq_true rfl) (Nat.le_of_ble_eq_true rfl) (Nat.le_of_ble_eq_true rfl) ⟨rfl, hF⟩ hP hD hK hS hT hE (Nat.le_of_ble_eq_true rfl) (Nat.le_of_ble_eq_true rfl)

abbrev rm_X9_demand : Room := { frames := 6, cells := 1, slots := 6, locals := 82 }
theorem inx_X9_demand_i : ∀ w ∈ (xI RX9 256).filter goodWord, w ∈ wsX9_demand := fun _ h => List.mem_cons_of_mem _ (List.mem_append_right _ h)
set_option maxHeartbeats 800000 in
set_option maxRecDepth 100000 in
theorem t_X9_demand (l : Launch) (dC : Nat → ClassId) (dI : Nat → Nat → Nat) (sa : Nat → Nat) (hlt : l.stackTraces = false) (g : Nat → Nat) (L : List Nat) (f : Nat → va_E) (b : Int32) (sz : Nat) (hT : TP g L f []) : KX l dC dI sa g yX9_demand wsX9_demand rm_X9_demand [.int b] L f sz (fun r L' f' => (r = none) ∧ Fr [] L f f') (fun E L' f' => (E = IAE) ∧ Fr [] L f f') 1 6 := by
  refine KX.start (cc := cX9_demand) (maxL := 1) (ret := none) (by decide) rfl (Nat.le_of_ble_eq_true rfl) ?_
  intro p e s m below meth c ls hst hno hP hK hD hev hS hl
  obtain ⟨hx, hb, hr, hml, hts, hown, hlocks, hin⟩ := hst
  have hown : s.vm.findClass RX9 = some m.cls := hown
  have hin : meth.name = yX9_demand.name := hin
  have hA : ∀ q : Nat, s.heap.size ≤ q → va_A (va_pl L f) s.heap.size q := fun _ h => Or.inr h
  have hE : Ext L f L f := Ext.rf
  have hF : Fr [] L f f := Fr.rf
  have hl : lv_has ls 1 [(0, .int b)] := hl
  refine lv_iload_n hx hb dX9_demand_0 rfl (lv_at hl 0 rfl) ?_
  refine lv_if_ne (tgt := 14) hx hb dX9_demand_1 (by decide) (fun c_1 => ?_) (fun c_1 => ?_)
  · refine vx_ret ?_
    exact K_v hx hb hr hlocks hP hD hK hS hT hE ⟨rfl, hF⟩ (Nat.le_of_ble_eq_true rfl) (Nat.le_of_ble_eq_true rfl) dX9_demand_14
  · exact K_x (cls := IAE) hno hx hb hlt hlocks hown hts Bundle.six_0 Bundle.six_1 Bundle.six_2 Bundle.six_5 (by decide +kernel) (hts (.classLink RX9 252 IAE) (by decide +kernel)) (hts (.initialized IAE) (by decide +kernel)) hev.2.1.2.1 (inx_X9_demand_i) xb_i hev.2.2.1.2.1 xo_i hev (hl.1.trans hml.symm) dX9_demand_4 dX9_demand_7 dX9_demand_8 dX9_demand_10 dX9_demand_13 (Nat.le_of_ble_eq_true rfl) (Nat.le_of_ble_eq_true rfl) (Nat.le_of_ble_eq_true rfl) (Nat.le_of_ble_eq_true rfl) ⟨rfl, hF⟩ hP hD hK hS hT hE (Nat.le_of_ble_eq_true rfl) (Nat.le_of_ble_eq_true rfl)

abbrev rm_X9_clothAt : Room := { frames := 6, cells := 1, slots := 6, locals := 82 }
theorem inw_X9_clothAt_9 : ∀ w ∈ wsX90, w ∈ wsX9_clothAt := by decide +kernel
theorem inx_X9_clothAt_9 : ∀ w ∈ (xN RX9 153).filter goodWord, w ∈ wsX9_clothAt := fun _ h => List.mem_cons_of_mem _ (List.mem_append_right _ h)
set_option maxHeartbeats 800000 in
set_option maxRecDepth 100000 in
theorem t_X9_clothAt (l : Launch) (dC : Nat → ClassId) (dI : Nat → Nat → Nat) (sa : Nat → Nat) (hlt : l.stackTraces = false) (g : Nat → Nat) (L : List Nat) (f : Nat → va_E) (h0 : Nat) (num : Int32) (sz : Nat) (hT : TP g L f [(h0, (0, 9, 0))]) : KX l dC dI sa g yX9_clothAt wsX9_clothAt rm_X9_clothAt [.ref h0, .int num] L f sz (fun r L' f' => (∃ v : Value, r = some v ∧ okv L' f' (1, 0, 0, 0) v) ∧ Fr [] L f f') (fun E L' f' => (E = NSE) ∧ Fr [] L f f') 1 6 := by
  refine KX.start (cc := cX9_clothAt) (maxL := 3) (ret := (some (.object "VatHouse$Cloth"))) (by decide) rfl (Nat.le_of_ble_eq_true rfl) ?_
  intro p e s m below meth c ls hst hno hP hK hD hev hS hl
  obtain ⟨hx, hb, hr, hml, hts, hown, hlocks, hin⟩ := hst
  have hown : s.vm.findClass RX9 = some m.cls := hown
  have hin : meth.name = yX9_clothAt.name := hin
  have hA : ∀ q : Nat, s.heap.size ≤ q → va_A (va_pl L f) s.heap.size q := fun _ h => Or.inr h
  have hE : Ext L f L f := Ext.rf
  have hF : Fr [] L f f := Fr.rf
  have hl : lv_has ls 3 [(0, .ref h0), (1, .int num)] := hl
  refine lv_iload_n hx hb dX9_clothAt_0 rfl (lv_at hl 1 rfl) ?_
  refine lv_if_lt (tgt := 21) hx hb dX9_clothAt_1 (by decide) (fun c_1 => ?_) (fun c_1 => ?_)
  · exact K_x (cls := NSE) hno hx hb hlt hlocks hown hts xg_0 xg_1 xg_2 xg_5 (by decide +kernel) (hts (.classLink RX9 149 NSE) (by decide +kernel)) (hts (.initialized NSE) (by decide +kernel)) hev.2.1.2.2.1 (inx_X9_clothAt_9) xb_9 hev.2.2.1.1 xo_9 hev (hl.1.trans hml.symm) dX9_clothAt_21 dX9_clothAt_24 dX9_clothAt_25 dX9_clothAt_27 dX9_clothAt_30 (Nat.le_of_ble_eq_true rfl) (Nat.le_of_ble_eq_true rfl) (Nat.le_of_ble_eq_true rfl) (Nat.le_of_ble_eq_true rfl) ⟨rfl, hF⟩ hP hD hK hS hT hE (Nat.le_of_ble_eq_true rfl) (Nat.le_of_ble_eq_true rfl)
  · refine lv_iload_n hx hb dX9_clothAt_4 rfl (lv_at hl 1 rfl) ?_
    refine lv_aload_n hx hb dX9_clothAt_5 rfl (lv_at hl 0 rfl) ?_
    refine T_get (ci := 9) (C := RX9) (T := TX9) (N := 11) (t := tI) hx hb hts inw_X9_clothAt_9 hown hK hP hT 0 rfl rfl 2 (by decide) (hts (.fieldLink RX9 92 "VatHouse" "clothsMade" "I") (by decide +kernel)) (fun _ h9 => h9) rfl dX9_clothAt_6 (fun v_4 hv_2 hr_3 => ?_)
    obtain ⟨z_5, rfl⟩ := hv_2
    refine lv_icmp_ge (tgt := 21) hx hb dX9_clothAt_9 (by decide) (fun c_6 => ?_) (fun c_6 => ?_)
    · exact K_x (cls := NSE) hno hx hb hlt hlocks hown hts xg_0 xg_1 xg_2 xg_5 (by decide +kernel) (hts (.classLink RX9 149 NSE) (by decide +kernel)) (hts (.initialized NSE) (by decide +kernel)) hev.2.1.2.2.1 (inx_X9_clothAt_9) xb_9 hev.2.2.1.1 xo_9 hev (hl.1.trans hml.symm) dX9_clothAt_21 dX9_clothAt_24 dX9_clothAt_25 dX9_clothAt_27 dX9_clothAt_30 (Nat.le_of_ble_eq_true rfl) (Nat.le_of_ble_eq_true rfl) (Nat.le_of_ble_eq_true rfl) (Nat.le_of_ble_eq_true rfl) ⟨rfl, hF⟩ hP hD hK hS hT hE (Nat.le_of_ble_eq_true rfl) (Nat.le_of_ble_eq_true rfl)
    · refine lv_iload_n hx hb dX9_clothAt_12 rfl (lv_at hl 1 rfl) ?_
      refine lv_aload_n hx hb dX9_clothAt_13 rfl (lv_at hl 0 rfl) ?_
      refine T_get (ci := 9) (C := RX9) (T := TX9) (N := 11) (t := (1, 2, g 3, 30)) hx hb hts inw_X9_clothAt_9 hown hK hP hT 0 rfl rfl 1 (by decide) (hts (.fieldLink RX9 18 "VatHouse" "cloths" "[LVatHouse$Cloth;") (by decide +kernel)) (fun _ h9 => h9) rfl dX9_clothAt_14 (fun v_9 hv_7 hr_8 => ?_)
      obtain ⟨b_10, rfl, hb9⟩ := hv_7
      have hT := hT.add hb9
      refine T_alen hx hb hK hP hT 0 3 rfl rfl (v := 30) rfl dX9_clothAt_17 ?_
      refine lv_icmp_lt (tgt := 31) hx hb dX9_clothAt_18 (by decide) (fun c_11 => ?_) (fun c_11 => ?_)
      · refine lv_aload_n hx hb dX9_clothAt_31 rfl (lv_at hl 0 rfl) ?_
        refine T_get (ci := 9) (C := RX9) (T := TX9) (N := 11) (t := (1, 2, g 3, 30)) hx hb hts inw_X9_clothAt_9 hown hK hP hT 1 rfl rfl 1 (by decide) (hts (.fieldLink RX9 18 "VatHouse" "cloths" "[LVatHouse$Cloth;") (by decide +kernel)) (fun _ h9 => h9) rfl dX9_clothAt_32 (fun v_14 hv_12 hr_13 => ?_)
        obtain rfl : v_14 = .ref b_10 := hr_13.symm.trans hr_8
        refine lv_iload_n hx hb dX9_clothAt_35 rfl (lv_at hl 1 rfl) ?_
        refine T_cald hx hb hK hP hT 0 3 rfl rfl (vin 30 (by decide) rfl (by assumption) (lt_nle (by assumption))) dX9_clothAt_36 (fun hra => ?_) (fun b_15 hb9 hra => ?_)
        · refine lv_astore_nN (lv' := [(2, .null), (0, .ref h0), (1, .int num)]) hx hb dX9_clothAt_37 rfl hl (by decide) rfl (fun ls hl => ?_)
          refine lv_aload_nN hx hb dX9_clothAt_38 rfl (lv_at hl 0 rfl) ?_
          refine lv_ifnonnullN hx hb dX9_clothAt_39 ?_
          exact K_x (cls := NSE) hno hx hb hlt hlocks hown hts xg_0 xg_1 xg_2 xg_5 (by decide +kernel) (hts (.classLink RX9 149 NSE) (by decide +kernel)) (hts (.initialized NSE) (by decide +kernel)) hev.2.1.2.2.1 (inx_X9_clothAt_9) xb_9 hev.2.2.1.1 xo_9 hev (hl.1.trans hml.symm) dX9_clothAt_42 dX9_clothAt_45 dX9_clothAt_46 dX9_clothAt_48 dX9_clothAt_51 (Nat.le_of_ble_eq_true rfl) (Nat.le_of_ble_eq_true rfl) (Nat.le_of_ble_eq_true rfl) (Nat.le_of_ble_eq_true rfl) ⟨rfl, hF⟩ hP hD hK hS hT hE (Nat.le_of_ble_eq_true rfl) (Nat.le_of_ble_eq_true rfl)
        · have hT := hT.add hb9
          refine lv_astore_n (lv' := [(2, .ref b_15), (0, .ref h0), (1, .int num)]) hx hb dX9_clothAt_37 rfl hl (by decide) rfl (fun ls hl => ?_)
          refine lv_aload_n hx hb dX9_clothAt_38 rfl (lv_at hl 0 rfl) ?_
          refine lv_ifnonnull (tgt := 52) hx hb dX9_clothAt_39 (by decide) ?_
          refine lv_aload_n hx hb dX9_clothAt_52 rfl (lv_at hl 0 rfl) ?_
          refine vx_ret ?_
          exact K_a hx hb hr (Or.inl ⟨_, rfl⟩) (Or.inr ⟨_, rfl⟩) hlocks hP hD hK hS hT hE ⟨⟨_, rfl, _, rfl, hT.at 0 rfl⟩, hF⟩ (Nat.le_of_ble_eq_true rfl) (Nat.le_of_ble_eq_true rfl) dX9_clothAt_53
      · exact K_x (cls := NSE) hno hx hb hlt hlocks hown hts xg_0 xg_1 xg_2 xg_5 (by decide +kernel) (hts (.classLink RX9 149 NSE) (by decide +kernel)) (hts (.initialized NSE) (by decide +kernel)) hev.2.1.2.2.1 (inx_X9_clothAt_9) xb_9 hev.2.2.1.1 xo_9 hev (hl.1.trans hml.symm) dX9_clothAt_21 dX9_clothAt_24 dX9_clothAt_25 dX9_clothAt_27 dX9_clothAt_30 (Nat.le_of_ble_eq_true rfl) (Nat.le_of_ble_eq_true rfl) (Nat.le_of_ble_eq_true rfl) (Nat.le_of_ble_eq_true rfl) ⟨rfl, hF⟩ hP hD hK hS hT hE (Nat.le_of_ble_eq_true rfl) (Nat.le_of_ble_eq_true rfl)
