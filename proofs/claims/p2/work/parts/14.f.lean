theorem tab_out_1_6 {x : Int32} (h1 : ¬ x = 1) (h2 : ¬ x = 2) (h3 : ¬ x = 3) (h4 : ¬ x = 4) (h5 : ¬ x = 5) (h6 : ¬ x = 6) : x.toInt < 1 ∨ 6 < x.toInt := by
  have e1 : x.toInt ≠ 1 := fun h => h1 (Int32.toInt_inj.mp h)
  have e2 : x.toInt ≠ 2 := fun h => h2 (Int32.toInt_inj.mp h)
  have e3 : x.toInt ≠ 3 := fun h => h3 (Int32.toInt_inj.mp h)
  have e4 : x.toInt ≠ 4 := fun h => h4 (Int32.toInt_inj.mp h)
  have e5 : x.toInt ≠ 5 := fun h => h5 (Int32.toInt_inj.mp h)
  have e6 : x.toInt ≠ 6 := fun h => h6 (Int32.toInt_inj.mp h)
  omega

theorem tab_out_8_11 {x : Int32} (h8 : ¬ x = 8) (h9 : ¬ x = 9) (h10 : ¬ x = 10) (h11 : ¬ x = 11) : x.toInt < 8 ∨ 11 < x.toInt := by
  have e8 : x.toInt ≠ 8 := fun h => h8 (Int32.toInt_inj.mp h)
  have e9 : x.toInt ≠ 9 := fun h => h9 (Int32.toInt_inj.mp h)
  have e10 : x.toInt ≠ 10 := fun h => h10 (Int32.toInt_inj.mp h)
  have e11 : x.toInt ≠ 11 := fun h => h11 (Int32.toInt_inj.mp h)
  omega

theorem tab_out_15_18 {x : Int32} (h15 : ¬ x = 15) (h16 : ¬ x = 16) (h17 : ¬ x = 17) (h18 : ¬ x = 18) : x.toInt < 15 ∨ 18 < x.toInt := by
  have e15 : x.toInt ≠ 15 := fun h => h15 (Int32.toInt_inj.mp h)
  have e16 : x.toInt ≠ 16 := fun h => h16 (Int32.toInt_inj.mp h)
  have e17 : x.toInt ≠ 17 := fun h => h17 (Int32.toInt_inj.mp h)
  have e18 : x.toInt ≠ 18 := fun h => h18 (Int32.toInt_inj.mp h)
  omega

theorem tab_out_8_10 {x : Int32} (h8 : ¬ x = 8) (h9 : ¬ x = 9) (h10 : ¬ x = 10) : x.toInt < 8 ∨ 10 < x.toInt := by
  have e8 : x.toInt ≠ 8 := fun h => h8 (Int32.toInt_inj.mp h)
  have e9 : x.toInt ≠ 9 := fun h => h9 (Int32.toInt_inj.mp h)
  have e10 : x.toInt ≠ 10 := fun h => h10 (Int32.toInt_inj.mp h)
  omega

theorem inc_toInt {a b : Int32} (h : a < b) : (a + 1).toInt = a.toInt + 1 := by
  rw [Int32.lt_iff_toInt_lt] at h
  have h1 := Int32.toInt_lt b
  have h2 := Int32.le_toInt a
  rw [Int32.toInt_add]
  have h3 : (1 : Int32).toInt = 1 := by decide
  rw [h3, Int.bmod_def]
  omega

abbrev rm_X4_mayCount : Room := { frames := 0, cells := 0, slots := 0, locals := 0 }
theorem inw_X4_mayCount_4 : ∀ w ∈ wsX40, w ∈ wsX4_mayCount := by decide +kernel
set_option maxHeartbeats 800000 in
set_option maxRecDepth 100000 in
theorem t_X4_mayCount (l : Launch) (dC : Nat → ClassId) (dI : Nat → Nat → Nat) (sa : Nat → Nat) (hlt : l.stackTraces = false) (g : Nat → Nat) (L : List Nat) (f : Nat → va_E) (h0 : Nat) (li : Int32) (cn : Int32) (sz : Nat) (hT : TP g L f [(h0, (0, 4, 0))]) (hm_li : rd f h0 1 = .int li) (hm_cn : rd f h0 4 = .int cn) : KC l dC dI sa g yX4_mayCount wsX4_mayCount rm_X4_mayCount [.ref h0] L f sz (fun r L' f' => ((r = some (.int 0) ∧ (rd f' h0 4 = .int cn)) ∨ (r = some (.int 1) ∧ (∃ k : Int32, rd f' h0 4 = .int k ∧ cn.toInt < li.toInt ∧ k.toInt = cn.toInt + 1))) ∧ Fr [(4, 4)] L f f') 0 0 := by
  refine CT.start (cc := cX4_mayCount) (maxL := 1) (ret := (some .boolean)) (by decide) rfl (Nat.le_of_ble_eq_true rfl) ?_
  intro p e s m below meth c ls hst hP hK hD hev hS hl
  obtain ⟨hx, hb, hr, hml, hts, hown, hlocks, hin⟩ := hst
  have hown : s.vm.findClass RX4 = some m.cls := hown
  have hin : meth.name = yX4_mayCount.name := hin
  have hA : ∀ q : Nat, s.heap.size ≤ q → va_A (va_pl L f) s.heap.size q := fun _ h => Or.inr h
  have hE : Ext L f L f := Ext.rf
  have hF : Fr [(4, 4)] L f f := Fr.rf
  have hl : lv_has ls 1 [(0, .ref h0)] := hl
  refine lv_aload_n hx hb dX4_mayCount_0 rfl (lv_at hl 0 rfl) ?_
  refine T_get (ci := 4) (C := RX4) (T := TX4) (N := 8) (t := tI) hx hb hts inw_X4_mayCount_4 hown hK hP hT 0 rfl rfl 4 (by decide) (hts (.fieldLink RX4 22 "VatHouse$Runner" "counted" "I") (by decide +kernel)) (fun _ h9 => h9) rfl dX4_mayCount_1 (fun v_3 hv_1 hr_2 => ?_)
  obtain rfl : v_3 = .int cn := hr_2.symm.trans hm_cn
  refine lv_aload_n hx hb dX4_mayCount_4 rfl (lv_at hl 0 rfl) ?_
  refine T_get (ci := 4) (C := RX4) (T := TX4) (N := 8) (t := tI) hx hb hts inw_X4_mayCount_4 hown hK hP hT 0 rfl rfl 1 (by decide) (hts (.fieldLink RX4 19 "VatHouse$Runner" "limit" "I") (by decide +kernel)) (fun _ h9 => h9) rfl dX4_mayCount_5 (fun v_6 hv_4 hr_5 => ?_)
  obtain rfl : v_6 = .int li := hr_5.symm.trans hm_li
  refine lv_icmp_lt (tgt := 13) hx hb dX4_mayCount_8 (by decide) (fun c_7 => ?_) (fun c_7 => ?_)
  · refine lv_aload_n hx hb dX4_mayCount_13 rfl (lv_at hl 0 rfl) ?_
    refine lv_dup hx hb dX4_mayCount_14 rfl ?_
    refine T_get (ci := 4) (C := RX4) (T := TX4) (N := 8) (t := tI) hx hb hts inw_X4_mayCount_4 hown hK hP hT 0 rfl rfl 4 (by decide) (hts (.fieldLink RX4 22 "VatHouse$Runner" "counted" "I") (by decide +kernel)) (fun _ h9 => h9) rfl dX4_mayCount_15 (fun v_10 hv_8 hr_9 => ?_)
    obtain rfl : v_10 = .int cn := hr_9.symm.trans hm_cn
    refine lv_iconst (v := 1) hx hb dX4_mayCount_18 (by decide) ?_
    refine lv_iadd hx hb dX4_mayCount_19 ?_
    refine lv_topi (fun z_11 ez_11 => ?_)
    have hTo := hT
    refine T_put (ci := 4) (v := .int z_11) (ty := .int) (t := tI) (C := RX4) (T := TX4) (N := 8) hx hb hts inw_X4_mayCount_4 tyX4 tyX4_ok nmX4 hown hK hP hD hS hT 0 rfl rfl 4 (by decide) (hts (.fieldLink RX4 22 "VatHouse$Runner" "counted" "I") (by decide +kernel)) (fun _ h9 => h9) rfl (by decide +kernel) rfl rfl rfl ⟨_, rfl⟩ dX4_mayCount_20 (fun f_12 H locs hP hD hS hT hE1 hrd_13 hup_14 => ?_)
    have hF := Fr.put (a := h0) (ci := 4) hF hE ((hE1 h0 (hT.at 0 rfl).1).2.symm.trans (hT.at 0 rfl).2) (by decide) hrd_13 hup_14
    have hE := hE.tr hE1
    have hk_15 : rd f_12 h0 1 = .int li := ((Fr.put (cs := [(4, 4)]) (a := h0) (ci := 4) Fr.rf Ext.rf (hTo.at 0 rfl).2 (by decide) hrd_13 hup_14).1 h0 (hTo.at 0 rfl).1 4 (hTo.at 0 rfl).2 1 (by decide)).trans hm_li
    have hk_16 : rd f_12 h0 4 = .int z_11 := (hrd_13 h0 4).trans (if_pos ⟨rfl, rfl⟩)
    refine lv_iconst (v := 1) hx hb dX4_mayCount_23 (by decide) ?_
    exact K_z hx hb hr rfl hlocks hP hD hK hS hT hE ⟨Or.inr ⟨rfl, ⟨_, hk_16, Int32.lt_iff_toInt_lt.mp c_7, by rw [ez_11]; exact inc_toInt c_7⟩⟩, hF⟩ (Nat.le_of_ble_eq_true rfl) (Nat.le_of_ble_eq_true rfl) dX4_mayCount_24
  · refine lv_iconst (v := 0) hx hb dX4_mayCount_11 (by decide) ?_
    exact K_z hx hb hr rfl hlocks hP hD hK hS hT hE ⟨Or.inl ⟨rfl, hm_cn⟩, hF⟩ (Nat.le_of_ble_eq_true rfl) (Nat.le_of_ble_eq_true rfl) dX4_mayCount_12

abbrev rm_X4_doAir : Room := { frames := 2, cells := 0, slots := 0, locals := 43 }
theorem inw_X4_doAir_0 : ∀ w ∈ wsX00, w ∈ wsX4_doAir := by decide +kernel
theorem inw_X4_doAir_4 : ∀ w ∈ wsX40, w ∈ wsX4_doAir := by decide +kernel
set_option maxHeartbeats 800000 in
set_option maxRecDepth 100000 in
theorem t_X4_doAir (l : Launch) (dC : Nat → ClassId) (dI : Nat → Nat → Nat) (sa : Nat → Nat) (hlt : l.stackTraces = false) (g : Nat → Nat) (L : List Nat) (f : Nat → va_E) (h0 : Nat) (w : Nat) (sz : Nat) (hT : TP g L f [(h0, (0, 4, 0)), (w, (0, 0, 0))]) : KC l dC dI sa g yX4_doAir wsX4_doAir rm_X4_doAir [.ref h0, .ref w] L f sz (fun r L' f' => (∃ z : Int32, r = some (.int z)) ∧ Fr [(0, 0), (0, 1), (0, 2), (0, 3), (0, 4), (0, 5), (0, 6), (0, 7), (8, 0), (8, 1), (8, 2)] L f f') 0 0 := by
  refine CT.start (cc := cX4_doAir) (maxL := 2) (ret := (some .int)) (by decide) rfl (Nat.le_of_ble_eq_true rfl) ?_
  intro p e s m below meth c ls hst hP hK hD hev hS hl
  obtain ⟨hx, hb, hr, hml, hts, hown, hlocks, hin⟩ := hst
  have hown : s.vm.findClass RX4 = some m.cls := hown
  have hin : meth.name = yX4_doAir.name := hin
  have hA : ∀ q : Nat, s.heap.size ≤ q → va_A (va_pl L f) s.heap.size q := fun _ h => Or.inr h
  have hE : Ext L f L f := Ext.rf
  have hF : Fr [(0, 0), (0, 1), (0, 2), (0, 3), (0, 4), (0, 5), (0, 6), (0, 7), (8, 0), (8, 1), (8, 2)] L f f := Fr.rf
  have hl : lv_has ls 2 [(0, .ref h0), (1, .ref w)] := hl
  refine lv_aload_n hx hb dX4_doAir_0 rfl (lv_at hl 1 rfl) ?_
  refine T_get (ci := 0) (C := RX0) (T := TX0) (N := 8) (t := tI) hx hb hts inw_X4_doAir_0 hown hK hP hT 1 rfl rfl 2 (by decide) (hts (.fieldLink RX4 137 "VatHouse$Cloth" "loose" "I") (by decide +kernel)) (fun _ h9 => h9) rfl dX4_doAir_1 (fun v_3 hv_1 hr_2 => ?_)
  obtain ⟨z_4, rfl⟩ := hv_1
  refine lv_iconst (v := 1) hx hb dX4_doAir_4 (by decide) ?_
  refine lv_icmp_ge (tgt := 10) hx hb dX4_doAir_5 (by decide) (fun c_5 => ?_) (fun c_5 => ?_)
  · refine lv_aload_n hx hb dX4_doAir_10 rfl (lv_at hl 0 rfl) ?_
    refine T_get (ci := 4) (C := RX4) (T := TX4) (N := 8) (t := (1, 0, 8, 0)) hx hb hts inw_X4_doAir_4 hown hK hP hT 0 rfl rfl 0 (by decide) (hts (.fieldLink RX4 15 "VatHouse$Runner" "works" "LVatHouse$Works;") (by decide +kernel)) (fun _ h9 => h9) rfl dX4_doAir_11 (fun v_8 hv_6 hr_7 => ?_)
    obtain ⟨b_9, rfl, hb9⟩ := hv_6
    have hT := hT.add hb9
    refine lv_aload_n hx hb dX4_doAir_14 rfl (lv_at hl 1 rfl) ?_
    refine K_V ⟨hx, hb, hml, hown, hts⟩ (t_X8_airOut l dC dI sa hlt g _ _ b_9 w _ (hT.sub [0, 2] rfl)  ) (cwV 1 hts gX4_doAir_X8_airOut rfl rfl rfl (by decide +kernel) ⟨Nat.le_of_ble_eq_true rfl, Nat.le_of_ble_eq_true rfl⟩) hP hD hK hS hA hev hT 0 8 rfl rfl rfl rfl hl.1 rfl (Nat.le_of_ble_eq_true rfl) dX4_doAir_15 ⟨Nat.le_of_ble_eq_true rfl, Nat.le_of_ble_eq_true rfl⟩ (fun r L_10 f_11 H locs hw_12 hP hD hS hT hE1 => ?_)
    have hF := Fr.call hF hE hw_12.2 (by decide)
    have hE := hE.tr hE1
    obtain ⟨⟨z_13, rfl⟩, hw_12⟩ := hw_12
    refine W.eq (g2 := F0 m 18 ls [.int z_13]) rfl ?_
    refine lv_pop hx hb dX4_doAir_18 rfl ?_
    refine lv_iconst (v := 0) hx hb dX4_doAir_19 (by decide) ?_
    exact K_i hx hb hr hlocks hP hD hK hS hT hE ⟨⟨_, rfl⟩, hF⟩ (Nat.le_of_ble_eq_true rfl) (Nat.le_of_ble_eq_true rfl) dX4_doAir_20
  · refine lv_iconst (v := 3) hx hb dX4_doAir_8 (by decide) ?_
    exact K_i hx hb hr hlocks hP hD hK hS hT hE ⟨⟨_, rfl⟩, hF⟩ (Nat.le_of_ble_eq_true rfl) (Nat.le_of_ble_eq_true rfl) dX4_doAir_9

abbrev rm_X4_doLime : Room := { frames := 1, cells := 0, slots := 0, locals := 20 }
theorem inw_X4_doLime_7 : ∀ w ∈ wsX70, w ∈ wsX4_doLime := by decide +kernel
set_option maxHeartbeats 800000 in
set_option maxRecDepth 100000 in
theorem t_X4_doLime (l : Launch) (dC : Nat → ClassId) (dI : Nat → Nat → Nat) (sa : Nat → Nat) (hlt : l.stackTraces = false) (g : Nat → Nat) (L : List Nat) (f : Nat → va_E) (h0 : Nat) (v : Nat) (sz : Nat) (hT : TP g L f [(h0, (0, 4, 0)), (v, (0, 7, 0))]) : KC l dC dI sa g yX4_doLime wsX4_doLime rm_X4_doLime [.ref h0, .ref v] L f sz (fun r L' f' => (∃ z : Int32, r = some (.int z)) ∧ Fr [(7, 0), (7, 1), (7, 2), (7, 3), (7, 4), (7, 5), (7, 6), (7, 7)] L f f') 0 0 := by
  refine CT.start (cc := cX4_doLime) (maxL := 2) (ret := (some .int)) (by decide) rfl (Nat.le_of_ble_eq_true rfl) ?_
  intro p e s m below meth c ls hst hP hK hD hev hS hl
  obtain ⟨hx, hb, hr, hml, hts, hown, hlocks, hin⟩ := hst
  have hown : s.vm.findClass RX4 = some m.cls := hown
  have hin : meth.name = yX4_doLime.name := hin
  have hA : ∀ q : Nat, s.heap.size ≤ q → va_A (va_pl L f) s.heap.size q := fun _ h => Or.inr h
  have hE : Ext L f L f := Ext.rf
  have hF : Fr [(7, 0), (7, 1), (7, 2), (7, 3), (7, 4), (7, 5), (7, 6), (7, 7)] L f f := Fr.rf
  have hl : lv_has ls 2 [(0, .ref h0), (1, .ref v)] := hl
  refine lv_aload_n hx hb dX4_doLime_0 rfl (lv_at hl 1 rfl) ?_
  refine T_get (ci := 7) (C := RX7) (T := TX7) (N := 8) (t := tI) hx hb hts inw_X4_doLime_7 hown hK hP hT 1 rfl rfl 4 (by decide) (hts (.fieldLink RX4 126 "VatHouse$Vat" "state" "I") (by decide +kernel)) (fun _ h9 => h9) rfl dX4_doLime_1 (fun v_3 hv_1 hr_2 => ?_)
  obtain ⟨z_4, rfl⟩ := hv_1
  refine lv_iconst (v := 2) hx hb dX4_doLime_4 (by decide) ?_
  refine lv_icmp_eq (tgt := 10) hx hb dX4_doLime_5 (by decide) (fun c_5 => ?_) (fun c_5 => ?_)
  · refine lv_aload_n hx hb dX4_doLime_10 rfl (lv_at hl 1 rfl) ?_
    refine K_V ⟨hx, hb, hml, hown, hts⟩ (t_X7_takeLime l dC dI sa hlt g _ _ v _ (hT.sub [1] rfl)  ) (cwV 0 hts gX4_doLime_X7_takeLime rfl rfl rfl (by decide +kernel) ⟨Nat.le_of_ble_eq_true rfl, Nat.le_of_ble_eq_true rfl⟩) hP hD hK hS hA hev hT 1 7 rfl rfl rfl rfl hl.1 rfl (Nat.le_of_ble_eq_true rfl) dX4_doLime_11 ⟨Nat.le_of_ble_eq_true rfl, Nat.le_of_ble_eq_true rfl⟩ (fun r L_6 f_7 H locs hw_8 hP hD hS hT hE1 => ?_)
    have hF := Fr.call hF hE hw_8.2 (by decide)
    have hE := hE.tr hE1
    obtain ⟨rfl, hw_8⟩ := hw_8
    refine W.eq (g2 := F0 m 14 ls []) rfl ?_
    refine lv_iconst (v := 0) hx hb dX4_doLime_14 (by decide) ?_
    exact K_i hx hb hr hlocks hP hD hK hS hT hE ⟨⟨_, rfl⟩, hF⟩ (Nat.le_of_ble_eq_true rfl) (Nat.le_of_ble_eq_true rfl) dX4_doLime_15
  · refine lv_iconst (v := 4) hx hb dX4_doLime_8 (by decide) ?_
    exact K_i hx hb hr hlocks hP hD hK hS hT hE ⟨⟨_, rfl⟩, hF⟩ (Nat.le_of_ble_eq_true rfl) (Nat.le_of_ble_eq_true rfl) dX4_doLime_9

abbrev rm_X4_doDip : Room := { frames := 2, cells := 0, slots := 0, locals := 47 }
theorem inw_X4_doDip_4 : ∀ w ∈ wsX40, w ∈ wsX4_doDip := by decide +kernel
theorem inw_X4_doDip_7 : ∀ w ∈ wsX70, w ∈ wsX4_doDip := by decide +kernel
set_option maxHeartbeats 800000 in
set_option maxRecDepth 100000 in
theorem t_X4_doDip (l : Launch) (dC : Nat → ClassId) (dI : Nat → Nat → Nat) (sa : Nat → Nat) (hlt : l.stackTraces = false) (g : Nat → Nat) (L : List Nat) (f : Nat → va_E) (h0 : Nat) (v : Nat) (w : Nat) (mm : Int32) (sz : Nat) (hT : TP g L f [(h0, (0, 4, 0)), (v, (0, 7, 0)), (w, (0, 0, 0))]) : KC l dC dI sa g yX4_doDip wsX4_doDip rm_X4_doDip [.ref h0, .ref v, .ref w, .int mm] L f sz (fun r L' f' => (∃ z : Int32, r = some (.int z)) ∧ Fr [(0, 0), (0, 1), (0, 2), (0, 3), (0, 4), (0, 5), (0, 6), (0, 7), (7, 0), (7, 1), (7, 2), (7, 3), (7, 4), (7, 5), (7, 6), (7, 7), (4, 5), (4, 6)] L f f') 0 0 := by
  refine CT.start (cc := cX4_doDip) (maxL := 5) (ret := (some .int)) (by decide) rfl (Nat.le_of_ble_eq_true rfl) ?_
  intro p e s m below meth c ls hst hP hK hD hev hS hl
  obtain ⟨hx, hb, hr, hml, hts, hown, hlocks, hin⟩ := hst
  have hown : s.vm.findClass RX4 = some m.cls := hown
  have hin : meth.name = yX4_doDip.name := hin
  have hA : ∀ q : Nat, s.heap.size ≤ q → va_A (va_pl L f) s.heap.size q := fun _ h => Or.inr h
  have hE : Ext L f L f := Ext.rf
  have hF : Fr [(0, 0), (0, 1), (0, 2), (0, 3), (0, 4), (0, 5), (0, 6), (0, 7), (7, 0), (7, 1), (7, 2), (7, 3), (7, 4), (7, 5), (7, 6), (7, 7), (4, 5), (4, 6)] L f f := Fr.rf
  have hl : lv_has ls 5 [(0, .ref h0), (1, .ref v), (2, .ref w), (3, .int mm)] := hl
  refine lv_aload_n hx hb dX4_doDip_0 rfl (lv_at hl 1 rfl) ?_
  refine T_get (ci := 7) (C := RX7) (T := TX7) (N := 8) (t := tI) hx hb hts inw_X4_doDip_7 hown hK hP hT 1 rfl rfl 4 (by decide) (hts (.fieldLink RX4 126 "VatHouse$Vat" "state" "I") (by decide +kernel)) (fun _ h9 => h9) rfl dX4_doDip_1 (fun v_3 hv_1 hr_2 => ?_)
  obtain ⟨z_4, rfl⟩ := hv_1
  refine lv_iconst (v := 2) hx hb dX4_doDip_4 (by decide) ?_
  refine lv_icmp_ne (tgt := 10) hx hb dX4_doDip_5 (by decide) (fun c_5 => ?_) (fun c_5 => ?_)
  · refine lv_aload_n hx hb dX4_doDip_10 rfl (lv_at hl 1 rfl) ?_
    refine lv_aload_n hx hb dX4_doDip_11 rfl (lv_at hl 2 rfl) ?_
    refine lv_iload_n hx hb dX4_doDip_12 rfl (lv_at hl 3 rfl) ?_
    refine K_V ⟨hx, hb, hml, hown, hts⟩ (t_X7_givesTo l dC dI sa hlt g _ _ v w mm _ (hT.sub [1, 2] rfl)  ) (cwV 2 hts gX4_doDip_X7_givesTo rfl rfl rfl (by decide +kernel) ⟨Nat.le_of_ble_eq_true rfl, Nat.le_of_ble_eq_true rfl⟩) hP hD hK hS hA hev hT 1 7 rfl rfl rfl rfl hl.1 rfl (Nat.le_of_ble_eq_true rfl) dX4_doDip_13 ⟨Nat.le_of_ble_eq_true rfl, Nat.le_of_ble_eq_true rfl⟩ (fun r L_6 f_7 H locs hw_8 hP hD hS hT hE1 => ?_)
    have hF := Fr.call hF hE hw_8.2 (by decide)
    have hE := hE.tr hE1
    obtain ⟨⟨z_9, rfl⟩, hw_8⟩ := hw_8
    refine W.eq (g2 := F0 m 16 ls [.int z_9]) rfl ?_
    refine lv_istore (lv' := [(4, .int z_9), (0, .ref h0), (1, .ref v), (2, .ref w), (3, .int mm)]) hx hb dX4_doDip_16 hl (by decide) rfl (fun ls hl => ?_)
    refine lv_iload hx hb dX4_doDip_18 (lv_at hl 0 rfl) ?_
    refine lv_iconst (v := 1) hx hb dX4_doDip_20 (by decide) ?_
    refine lv_icmp_ge (tgt := 26) hx hb dX4_doDip_21 (by decide) (fun c_10 => ?_) (fun c_10 => ?_)
    · refine lv_aload_n hx hb dX4_doDip_26 rfl (lv_at hl 1 rfl) ?_
      refine T_get (ci := 4) (C := RX4) (T := TX4) (N := 8) (t := (1, 0, 8, 0)) hx hb hts inw_X4_doDip_4 hown hK hP hT 0 rfl rfl 0 (by decide) (hts (.fieldLink RX4 15 "VatHouse$Runner" "works" "LVatHouse$Works;") (by decide +kernel)) (fun _ h9 => h9) rfl dX4_doDip_27 (fun v_13 hv_11 hr_12 => ?_)
      obtain ⟨b_14, rfl, hb9⟩ := hv_11
      have hT := hT.add hb9
      refine lv_aload_n hx hb dX4_doDip_30 rfl (lv_at hl 2 rfl) ?_
      refine lv_aload_n hx hb dX4_doDip_31 rfl (lv_at hl 3 rfl) ?_
      refine lv_iload_n hx hb dX4_doDip_32 rfl (lv_at hl 4 rfl) ?_
      refine lv_iload hx hb dX4_doDip_33 (lv_at hl 0 rfl) ?_
      refine K_V ⟨hx, hb, hml, hown, hts⟩ (t_X8_dipInto l dC dI sa hlt g _ _ b_14 v w mm z_9 _ (hT.sub [0, 2, 3] rfl)  ) (cwV 4 hts gX4_doDip_X8_dipInto rfl rfl rfl (by decide +kernel) ⟨Nat.le_of_ble_eq_true rfl, Nat.le_of_ble_eq_true rfl⟩) hP hD hK hS hA hev hT 0 8 rfl rfl rfl rfl hl.1 rfl (Nat.le_of_ble_eq_true rfl) dX4_doDip_35 ⟨Nat.le_of_ble_eq_true rfl, Nat.le_of_ble_eq_true rfl⟩ (fun r L_15 f_16 H locs hw_17 hP hD hS hT hE1 => ?_)
      have hF := Fr.call hF hE hw_17.2 (by decide)
      have hE := hE.tr hE1
      obtain ⟨rfl, hw_17⟩ := hw_17
      refine W.eq (g2 := F0 m 38 ls []) rfl ?_
      refine lv_aload_n hx hb dX4_doDip_38 rfl (lv_at hl 1 rfl) ?_
      refine lv_dup hx hb dX4_doDip_39 rfl ?_
      refine T_get (ci := 4) (C := RX4) (T := TX4) (N := 8) (t := tI) hx hb hts inw_X4_doDip_4 hown hK hP hT 1 rfl rfl 6 (by decide) (hts (.fieldLink RX4 28 "VatHouse$Runner" "grainsMoved" "I") (by decide +kernel)) (fun _ h9 => h9) rfl dX4_doDip_40 (fun v_20 hv_18 hr_19 => ?_)
      obtain ⟨z_21, rfl⟩ := hv_18
      refine lv_iload hx hb dX4_doDip_43 (lv_at hl 0 rfl) ?_
      refine lv_iadd hx hb dX4_doDip_45 ?_
      refine lv_topi (fun z_22 ez_22 => ?_)
      refine T_put (ci := 4) (v := .int z_22) (ty := .int) (t := tI) (C := RX4) (T := TX4) (N := 8) hx hb hts inw_X4_doDip_4 tyX4 tyX4_ok nmX4 hown hK hP hD hS hT 1 rfl rfl 6 (by decide) (hts (.fieldLink RX4 28 "VatHouse$Runner" "grainsMoved" "I") (by decide +kernel)) (fun _ h9 => h9) rfl (by decide +kernel) rfl rfl rfl ⟨_, rfl⟩ dX4_doDip_46 (fun f_23 H locs hP hD hS hT hE1 hrd_24 hup_25 => ?_)
      have hF := Fr.put (a := h0) (ci := 4) hF hE ((hE1 h0 (hT.at 1 rfl).1).2.symm.trans (hT.at 1 rfl).2) (by decide) hrd_24 hup_25
      have hE := hE.tr hE1
      refine lv_aload_n hx hb dX4_doDip_49 rfl (lv_at hl 1 rfl) ?_
      refine lv_dup hx hb dX4_doDip_50 rfl ?_
      refine T_get (ci := 4) (C := RX4) (T := TX4) (N := 8) (t := tI) hx hb hts inw_X4_doDip_4 hown hK hP hT 1 rfl rfl 5 (by decide) (hts (.fieldLink RX4 25 "VatHouse$Runner" "dipsDone" "I") (by decide +kernel)) (fun _ h9 => h9) rfl dX4_doDip_51 (fun v_28 hv_26 hr_27 => ?_)
      obtain ⟨z_29, rfl⟩ := hv_26
      refine lv_iconst (v := 1) hx hb dX4_doDip_54 (by decide) ?_
      refine lv_iadd hx hb dX4_doDip_55 ?_
      refine lv_topi (fun z_30 ez_30 => ?_)
      refine T_put (ci := 4) (v := .int z_30) (ty := .int) (t := tI) (C := RX4) (T := TX4) (N := 8) hx hb hts inw_X4_doDip_4 tyX4 tyX4_ok nmX4 hown hK hP hD hS hT 1 rfl rfl 5 (by decide) (hts (.fieldLink RX4 25 "VatHouse$Runner" "dipsDone" "I") (by decide +kernel)) (fun _ h9 => h9) rfl (by decide +kernel) rfl rfl rfl ⟨_, rfl⟩ dX4_doDip_56 (fun f_31 H locs hP hD hS hT hE1 hrd_32 hup_33 => ?_)
      have hF := Fr.put (a := h0) (ci := 4) hF hE ((hE1 h0 (hT.at 1 rfl).1).2.symm.trans (hT.at 1 rfl).2) (by decide) hrd_32 hup_33
      have hE := hE.tr hE1
      refine lv_iconst (v := 0) hx hb dX4_doDip_59 (by decide) ?_
      exact K_i hx hb hr hlocks hP hD hK hS hT hE ⟨⟨_, rfl⟩, hF⟩ (Nat.le_of_ble_eq_true rfl) (Nat.le_of_ble_eq_true rfl) dX4_doDip_60
    · refine lv_iconst (v := 2) hx hb dX4_doDip_24 (by decide) ?_
      exact K_i hx hb hr hlocks hP hD hK hS hT hE ⟨⟨_, rfl⟩, hF⟩ (Nat.le_of_ble_eq_true rfl) (Nat.le_of_ble_eq_true rfl) dX4_doDip_25
  · refine lv_iconst (v := 1) hx hb dX4_doDip_8 (by decide) ?_
    exact K_i hx hb hr hlocks hP hD hK hS hT hE ⟨⟨_, rfl⟩, hF⟩ (Nat.le_of_ble_eq_true rfl) (Nat.le_of_ble_eq_true rfl) dX4_doDip_9

abbrev rm_X8_vatAtZ : Room := { frames := 6, cells := 1, slots := 6, locals := 82 }
set_option maxHeartbeats 800000 in
set_option maxRecDepth 100000 in
theorem t_X8_vatAtZ (l : Launch) (dC : Nat → ClassId) (dI : Nat → Nat → Nat) (sa : Nat → Nat) (hlt : l.stackTraces = false) (g : Nat → Nat) (L : List Nat) (f : Nat → va_E) (h0 : Nat) (num : Int32) (sz : Nat) (hT : TP g L f [(h0, (0, 8, 0))]) : KY l dC dI sa g yX8_vatAt wsX8_vatAt rm_X8_vatAtZ [.ref h0, .int num] L f sz (fun r L' f' => (∃ v : Value, r = some v ∧ okv L' f' (1, 0, 7, 0) v) ∧ Fr [] L f f') (fun n _ => n = 0) (fun E L' f' => (E = NSE) ∧ Fr [] L f f') 1 6 := by
  refine KY.start (cc := cX8_vatAt) (maxL := 2) (ret := (some (.object "VatHouse$Vat"))) (by decide) rfl (Nat.le_of_ble_eq_true rfl) ?_
  intro p e s m below meth c ls hst hno hP hK hD hev hS hl
  obtain ⟨hx, hb, hr, hml, hts, hown, hlocks, hin⟩ := hst
  have hown : s.vm.findClass RX8 = some m.cls := hown
  have hin : meth.name = yX8_vatAt.name := hin
  have hA : ∀ q : Nat, s.heap.size ≤ q → va_A (va_pl L f) s.heap.size q := fun _ h => Or.inr h
  have hE : Ext L f L f := Ext.rf
  have hF : Fr [] L f f := Fr.rf
  have hl : lv_has ls 2 [(0, .ref h0), (1, .int num)] := hl
  refine lv_iload_n hx hb dX8_vatAt_0 rfl (lv_at hl 1 rfl) ?_
  refine lv_if_lt (tgt := 13) hx hb dX8_vatAt_1 (by decide) (fun c_1 => ?_) (fun c_1 => ?_)
  · exact K_x (cls := NSE) hno hx hb hlt hlocks hown hts xg_0 xg_1 xg_2 xg_5 (by decide +kernel) (hts (.classLink RX8 20 NSE) (by decide +kernel)) (hts (.initialized NSE) (by decide +kernel)) hev.2.1.1 (inx_X8_vatAt_8) xb_8 hev.2.2.1.1 xo_8 hev (hl.1.trans hml.symm) dX8_vatAt_13 dX8_vatAt_16 dX8_vatAt_17 dX8_vatAt_19 dX8_vatAt_22 (Nat.le_of_ble_eq_true rfl) (Nat.le_of_ble_eq_true rfl) (Nat.le_of_ble_eq_true rfl) (Nat.le_of_ble_eq_true rfl) ⟨rfl, hF⟩ hP hD hK hS hT hE (Nat.le_of_ble_eq_true rfl) (Nat.le_of_ble_eq_true rfl)
  · refine lv_iload_n hx hb dX8_vatAt_4 rfl (lv_at hl 1 rfl) ?_
    refine lv_aload_n hx hb dX8_vatAt_5 rfl (lv_at hl 0 rfl) ?_
    refine T_get (ci := 8) (C := RX8) (T := TX8) (N := 3) (t := (1, 2, g 2, 6)) hx hb hts inw_X8_vatAt_8 hown hK hP hT 0 rfl rfl 0 (by decide) (hts (.fieldLink RX8 11 "VatHouse$Works" "vats" "[LVatHouse$Vat;") (by decide +kernel)) (fun _ h9 => h9) rfl dX8_vatAt_6 (fun v_4 hv_2 hr_3 => ?_)
    obtain ⟨b_5, rfl, hb9⟩ := hv_2
    have hT := hT.add hb9
    refine T_alen hx hb hK hP hT 0 2 rfl rfl (v := 6) rfl dX8_vatAt_9 ?_
    refine lv_icmp_lt (tgt := 23) hx hb dX8_vatAt_10 (by decide) (fun c_6 => ?_) (fun c_6 => ?_)
    · refine lv_aload_n hx hb dX8_vatAt_23 rfl (lv_at hl 0 rfl) ?_
      refine T_get (ci := 8) (C := RX8) (T := TX8) (N := 3) (t := (1, 2, g 2, 6)) hx hb hts inw_X8_vatAt_8 hown hK hP hT 1 rfl rfl 0 (by decide) (hts (.fieldLink RX8 11 "VatHouse$Works" "vats" "[LVatHouse$Vat;") (by decide +kernel)) (fun _ h9 => h9) rfl dX8_vatAt_24 (fun v_9 hv_7 hr_8 => ?_)
      obtain rfl : v_9 = .ref b_5 := hr_8.symm.trans hr_3
      refine lv_iload_n hx hb dX8_vatAt_27 rfl (lv_at hl 1 rfl) ?_
      refine T_vald hx hb hK hP hT 0 2 (Or.inl rfl) rfl rfl (vin 6 (by decide) rfl (by assumption) (lt_nle (by assumption))) dX8_vatAt_28 (fun b_10 hb9 hra => ?_)
      have hT := hT.add hb9
      refine vx_ret ?_
      exact K_aZ hx hb hr (Or.inl ⟨_, rfl⟩) (Or.inr ⟨_, rfl⟩) hlocks hP hD hK hS hT hE ⟨⟨_, rfl, _, rfl, hT.at 0 rfl⟩, hF⟩ (rfl) (Nat.le_of_ble_eq_true rfl) (Nat.le_of_ble_eq_true rfl) (Nat.le_of_ble_eq_true rfl) dX8_vatAt_29
    · exact K_x (cls := NSE) hno hx hb hlt hlocks hown hts xg_0 xg_1 xg_2 xg_5 (by decide +kernel) (hts (.classLink RX8 20 NSE) (by decide +kernel)) (hts (.initialized NSE) (by decide +kernel)) hev.2.1.1 (inx_X8_vatAt_8) xb_8 hev.2.2.1.1 xo_8 hev (hl.1.trans hml.symm) dX8_vatAt_13 dX8_vatAt_16 dX8_vatAt_17 dX8_vatAt_19 dX8_vatAt_22 (Nat.le_of_ble_eq_true rfl) (Nat.le_of_ble_eq_true rfl) (Nat.le_of_ble_eq_true rfl) (Nat.le_of_ble_eq_true rfl) ⟨rfl, hF⟩ hP hD hK hS hT hE (Nat.le_of_ble_eq_true rfl) (Nat.le_of_ble_eq_true rfl)

abbrev rm_X4_lookAt : Room := { frames := 7, cells := 1, slots := 6, locals := 103 }
theorem inw_X4_lookAt_0 : ∀ w ∈ wsX00, w ∈ wsX4_lookAt := by decide +kernel
theorem inw_X4_lookAt_4 : ∀ w ∈ wsX40, w ∈ wsX4_lookAt := by decide +kernel
theorem inw_X4_lookAt_5 : ∀ w ∈ wsX50, w ∈ wsX4_lookAt := by decide +kernel
theorem inw_X4_lookAt_7 : ∀ w ∈ wsX70, w ∈ wsX4_lookAt := by decide +kernel
theorem inw_X4_lookAt_8 : ∀ w ∈ wsX80, w ∈ wsX4_lookAt := by decide +kernel
set_option maxHeartbeats 800000 in
set_option maxRecDepth 100000 in
theorem t_X4_lookAt (l : Launch) (dC : Nat → ClassId) (dI : Nat → Nat → Nat) (sa : Nat → Nat) (hlt : l.stackTraces = false) (g : Nat → Nat) (L : List Nat) (f : Nat → va_E) (h0 : Nat) (o : Nat) (w : Nat) (sz : Nat) (hT : TP g L f [(h0, (0, 4, 0)), (o, (0, 5, 0)), (w, (0, 0, 0))]) : KY l dC dI sa g yX4_lookAt wsX4_lookAt rm_X4_lookAt [.ref h0, .ref o, .ref w] L f sz (fun r L' f' => (∃ z : Int32, r = some (.int z)) ∧ Fr [] L f f') (fun n _ => n = 0) (fun E L' f' => (E = NSE) ∧ Fr [] L f f') 1 6 := by
  refine KY.start (cc := cX4_lookAt) (maxL := 3) (ret := (some .int)) (by decide) rfl (Nat.le_of_ble_eq_true rfl) ?_
  intro p e s m below meth c ls hst hno hP hK hD hev hS hl
  obtain ⟨hx, hb, hr, hml, hts, hown, hlocks, hin⟩ := hst
  have hown : s.vm.findClass RX4 = some m.cls := hown
  have hin : meth.name = yX4_lookAt.name := hin
  have hA : ∀ q : Nat, s.heap.size ≤ q → va_A (va_pl L f) s.heap.size q := fun _ h => Or.inr h
  have hE : Ext L f L f := Ext.rf
  have hF : Fr [] L f f := Fr.rf
  have hl : lv_has ls 3 [(0, .ref h0), (1, .ref o), (2, .ref w)] := hl
  refine lv_aload_n hx hb dX4_lookAt_0 rfl (lv_at hl 1 rfl) ?_
  refine T_get (ci := 5) (C := RX5) (T := TX5) (N := 8) (t := tI) hx hb hts inw_X4_lookAt_5 hown hK hP hT 1 rfl rfl 3 (by decide) (hts (.fieldLink RX4 162 "VatHouse$Step" "look" "I") (by decide +kernel)) (fun _ h9 => h9) rfl dX4_lookAt_1 (fun v_3 hv_1 hr_2 => ?_)
  obtain ⟨z_4, rfl⟩ := hv_1
  by_cases c_5 : z_4 = 15
  · refine lv_tableIn (tgt := 36) hx hb dX4_lookAt_4 (by rw [c_5]; decide) (by rw [c_5]; decide) (by rw [c_5]; rfl) (by decide) ?_
    refine lv_aload_n hx hb dX4_lookAt_36 rfl (lv_at hl 2 rfl) ?_
    refine K_V ⟨hx, hb, hml, hown, hts⟩ (t_X0_shade l dC dI sa hlt g _ _ w _ (hT.sub [2] rfl)  ) (cwV 0 hts gX4_lookAt_X0_shade rfl rfl rfl (by decide +kernel) ⟨Nat.le_of_ble_eq_true rfl, Nat.le_of_ble_eq_true rfl⟩) hP hD hK hS hA hev hT 2 0 rfl rfl rfl rfl hl.1 rfl (Nat.le_of_ble_eq_true rfl) dX4_lookAt_37 ⟨Nat.le_of_ble_eq_true rfl, Nat.le_of_ble_eq_true rfl⟩ (fun r L_6 f_7 H locs hw_8 hP hD hS hT hE1 => ?_)
    have hF := Fr.call hF hE hw_8.2 (by decide)
    have hE := hE.tr hE1
    obtain ⟨⟨z_9, rfl⟩, hw_8⟩ := hw_8
    refine W.eq (g2 := F0 m 40 ls [.int z_9]) rfl ?_
    refine vx_ret ?_
    exact K_iZ hx hb hr hlocks hP hD hK hS hT hE ⟨⟨_, rfl⟩, hF⟩ (rfl) (Nat.le_of_ble_eq_true rfl) (Nat.le_of_ble_eq_true rfl) (Nat.le_of_ble_eq_true rfl) dX4_lookAt_40
  by_cases c_10 : z_4 = 16
  · refine lv_tableIn (tgt := 41) hx hb dX4_lookAt_4 (by rw [c_10]; decide) (by rw [c_10]; decide) (by rw [c_10]; rfl) (by decide) ?_
    refine lv_aload_n hx hb dX4_lookAt_41 rfl (lv_at hl 2 rfl) ?_
    refine T_get (ci := 0) (C := RX0) (T := TX0) (N := 8) (t := tI) hx hb hts inw_X4_lookAt_0 hown hK hP hT 2 rfl rfl 2 (by decide) (hts (.fieldLink RX4 137 "VatHouse$Cloth" "loose" "I") (by decide +kernel)) (fun _ h9 => h9) rfl dX4_lookAt_42 (fun v_13 hv_11 hr_12 => ?_)
    obtain ⟨z_14, rfl⟩ := hv_11
    refine vx_ret ?_
    exact K_iZ hx hb hr hlocks hP hD hK hS hT hE ⟨⟨_, rfl⟩, hF⟩ (rfl) (Nat.le_of_ble_eq_true rfl) (Nat.le_of_ble_eq_true rfl) (Nat.le_of_ble_eq_true rfl) dX4_lookAt_45
  by_cases c_15 : z_4 = 17
  · refine lv_tableIn (tgt := 46) hx hb dX4_lookAt_4 (by rw [c_15]; decide) (by rw [c_15]; decide) (by rw [c_15]; rfl) (by decide) ?_
    refine lv_aload_n hx hb dX4_lookAt_46 rfl (lv_at hl 0 rfl) ?_
    refine T_get (ci := 4) (C := RX4) (T := TX4) (N := 8) (t := (1, 0, 8, 0)) hx hb hts inw_X4_lookAt_4 hown hK hP hT 0 rfl rfl 0 (by decide) (hts (.fieldLink RX4 15 "VatHouse$Runner" "works" "LVatHouse$Works;") (by decide +kernel)) (fun _ h9 => h9) rfl dX4_lookAt_47 (fun v_18 hv_16 hr_17 => ?_)
    obtain ⟨b_19, rfl, hb9⟩ := hv_16
    have hT := hT.add hb9
    refine lv_aload_n hx hb dX4_lookAt_50 rfl (lv_at hl 1 rfl) ?_
    refine T_get (ci := 5) (C := RX5) (T := TX5) (N := 8) (t := tI) hx hb hts inw_X4_lookAt_5 hown hK hP hT 2 rfl rfl 1 (by decide) (hts (.fieldLink RX4 67 "VatHouse$Step" "vat" "I") (by decide +kernel)) (fun _ h9 => h9) rfl dX4_lookAt_51 (fun v_22 hv_20 hr_21 => ?_)
    obtain ⟨z_23, rfl⟩ := hv_20
    refine K_VY ⟨hx, hb, hml, hown, hts⟩ (t_X8_vatAtZ l dC dI sa hlt g _ _ b_19 z_23 _ (hT.sub [0] rfl)  ) (cwV 1 hts gX4_lookAt_X8_vatAt rfl rfl rfl (by decide +kernel) ⟨Nat.le_of_ble_eq_true rfl, Nat.le_of_ble_eq_true rfl⟩) hP hD hK hS hA hev hT 0 8 rfl rfl rfl rfl hl.1 rfl (Nat.le_of_ble_eq_true rfl) dX4_lookAt_54 ⟨Nat.le_of_ble_eq_true rfl, Nat.le_of_ble_eq_true rfl⟩ (fun E ce q9 L9 f9 H locs hpx hP hD hS hT hE1 hce hcv hcl => ?_) (fun r L_24 f_25 n_27 H locs hw_26 hn_28 hP hD hS hT hE1 => ?_)
    · have hF := Fr.call hF hE hpx.2 (by decide)
      have hE := hE.tr hE1
      exact K_out hno hlocks ⟨hpx.1, hF⟩ hP hD hK hS hT hE hce hcv hcl (Nat.le_of_ble_eq_true rfl) (Nat.le_of_ble_eq_true rfl)
    have hF := Fr.call hF hE hw_26.2 (by decide)
    have hE := hE.tr hE1
    obtain rfl : n_27 = 0 := hn_28
    obtain ⟨⟨v_29, rfl, hv9⟩, hw_26⟩ := hw_26
    obtain ⟨b_30, rfl, hb9⟩ := hv9
    have hT := hT.add hb9
    refine W.eq (g2 := F0 m 57 ls [.ref b_30]) rfl ?_
    refine T_get (ci := 7) (C := RX7) (T := TX7) (N := 8) (t := tI) hx hb hts inw_X4_lookAt_7 hown hK hP hT 0 rfl rfl 1 (by decide) (hts (.fieldLink RX4 165 "VatHouse$Vat" "grains" "I") (by decide +kernel)) (fun _ h9 => h9) rfl dX4_lookAt_57 (fun v_33 hv_31 hr_32 => ?_)
    obtain ⟨z_34, rfl⟩ := hv_31
    refine vx_ret ?_
    exact K_iZ hx hb hr hlocks hP hD hK hS hT hE ⟨⟨_, rfl⟩, hF⟩ (rfl) (Nat.le_of_ble_eq_true rfl) (Nat.le_of_ble_eq_true rfl) (Nat.le_of_ble_eq_true rfl) dX4_lookAt_60
  by_cases c_35 : z_4 = 18
  · refine lv_tableIn (tgt := 61) hx hb dX4_lookAt_4 (by rw [c_35]; decide) (by rw [c_35]; decide) (by rw [c_35]; rfl) (by decide) ?_
    refine lv_aload_n hx hb dX4_lookAt_61 rfl (lv_at hl 0 rfl) ?_
    refine T_get (ci := 4) (C := RX4) (T := TX4) (N := 8) (t := (1, 0, 8, 0)) hx hb hts inw_X4_lookAt_4 hown hK hP hT 0 rfl rfl 0 (by decide) (hts (.fieldLink RX4 15 "VatHouse$Runner" "works" "LVatHouse$Works;") (by decide +kernel)) (fun _ h9 => h9) rfl dX4_lookAt_62 (fun v_38 hv_36 hr_37 => ?_)
    obtain ⟨b_39, rfl, hb9⟩ := hv_36
    have hT := hT.add hb9
    refine lv_aload_n hx hb dX4_lookAt_65 rfl (lv_at hl 1 rfl) ?_
    refine T_get (ci := 5) (C := RX5) (T := TX5) (N := 8) (t := tI) hx hb hts inw_X4_lookAt_5 hown hK hP hT 2 rfl rfl 1 (by decide) (hts (.fieldLink RX4 67 "VatHouse$Step" "vat" "I") (by decide +kernel)) (fun _ h9 => h9) rfl dX4_lookAt_66 (fun v_42 hv_40 hr_41 => ?_)
    obtain ⟨z_43, rfl⟩ := hv_40
    refine K_VY ⟨hx, hb, hml, hown, hts⟩ (t_X8_vatAtZ l dC dI sa hlt g _ _ b_39 z_43 _ (hT.sub [0] rfl)  ) (cwV 1 hts gX4_lookAt_X8_vatAt rfl rfl rfl (by decide +kernel) ⟨Nat.le_of_ble_eq_true rfl, Nat.le_of_ble_eq_true rfl⟩) hP hD hK hS hA hev hT 0 8 rfl rfl rfl rfl hl.1 rfl (Nat.le_of_ble_eq_true rfl) dX4_lookAt_69 ⟨Nat.le_of_ble_eq_true rfl, Nat.le_of_ble_eq_true rfl⟩ (fun E ce q9 L9 f9 H locs hpx hP hD hS hT hE1 hce hcv hcl => ?_) (fun r L_44 f_45 n_47 H locs hw_46 hn_48 hP hD hS hT hE1 => ?_)
    · have hF := Fr.call hF hE hpx.2 (by decide)
      have hE := hE.tr hE1
      exact K_out hno hlocks ⟨hpx.1, hF⟩ hP hD hK hS hT hE hce hcv hcl (Nat.le_of_ble_eq_true rfl) (Nat.le_of_ble_eq_true rfl)
    have hF := Fr.call hF hE hw_46.2 (by decide)
    have hE := hE.tr hE1
    obtain rfl : n_47 = 0 := hn_48
    obtain ⟨⟨v_49, rfl, hv9⟩, hw_46⟩ := hw_46
    obtain ⟨b_50, rfl, hb9⟩ := hv9
    have hT := hT.add hb9
    refine W.eq (g2 := F0 m 72 ls [.ref b_50]) rfl ?_
    refine T_get (ci := 7) (C := RX7) (T := TX7) (N := 8) (t := tI) hx hb hts inw_X4_lookAt_7 hown hK hP hT 0 rfl rfl 2 (by decide) (hts (.fieldLink RX4 168 "VatHouse$Vat" "food" "I") (by decide +kernel)) (fun _ h9 => h9) rfl dX4_lookAt_72 (fun v_53 hv_51 hr_52 => ?_)
    obtain ⟨z_54, rfl⟩ := hv_51
    refine vx_ret ?_
    exact K_iZ hx hb hr hlocks hP hD hK hS hT hE ⟨⟨_, rfl⟩, hF⟩ (rfl) (Nat.le_of_ble_eq_true rfl) (Nat.le_of_ble_eq_true rfl) (Nat.le_of_ble_eq_true rfl) dX4_lookAt_75
  refine lv_tableOut (tgt := 76) hx hb dX4_lookAt_4 (tab_out_15_18 c_5 c_10 c_15 c_35) (by decide) ?_
  refine lv_aload_n hx hb dX4_lookAt_76 rfl (lv_at hl 0 rfl) ?_
  refine T_get (ci := 4) (C := RX4) (T := TX4) (N := 8) (t := (1, 0, 8, 0)) hx hb hts inw_X4_lookAt_4 hown hK hP hT 0 rfl rfl 0 (by decide) (hts (.fieldLink RX4 15 "VatHouse$Runner" "works" "LVatHouse$Works;") (by decide +kernel)) (fun _ h9 => h9) rfl dX4_lookAt_77 (fun v_57 hv_55 hr_56 => ?_)
  obtain ⟨b_58, rfl, hb9⟩ := hv_55
  have hT := hT.add hb9
  refine T_get (ci := 8) (C := RX8) (T := TX8) (N := 3) (t := tI) hx hb hts inw_X4_lookAt_8 hown hK hP hT 0 rfl rfl 1 (by decide) (hts (.fieldLink RX4 171 "VatHouse$Works" "hours" "I") (by decide +kernel)) (fun _ h9 => h9) rfl dX4_lookAt_80 (fun v_61 hv_59 hr_60 => ?_)
  obtain ⟨z_62, rfl⟩ := hv_59
  refine lv_bipush (v := 24) hx hb dX4_lookAt_83 (by decide) ?_
  refine lv_irem hx hb dX4_lookAt_85 (by decide) ?_
  refine lv_topi (fun z_63 ez_63 => ?_)
  refine vx_ret ?_
  exact K_iZ hx hb hr hlocks hP hD hK hS hT hE ⟨⟨_, rfl⟩, hF⟩ (rfl) (Nat.le_of_ble_eq_true rfl) (Nat.le_of_ble_eq_true rfl) (Nat.le_of_ble_eq_true rfl) dX4_lookAt_86

abbrev rm_X4_holds : Room := { frames := 8, cells := 1, slots := 6, locals := 125 }
theorem inw_X4_holds_5 : ∀ w ∈ wsX50, w ∈ wsX4_holds := by decide +kernel
set_option maxHeartbeats 800000 in
set_option maxRecDepth 100000 in
theorem t_X4_holds (l : Launch) (dC : Nat → ClassId) (dI : Nat → Nat → Nat) (sa : Nat → Nat) (hlt : l.stackTraces = false) (g : Nat → Nat) (L : List Nat) (f : Nat → va_E) (h0 : Nat) (o : Nat) (w : Nat) (sz : Nat) (hT : TP g L f [(h0, (0, 4, 0)), (o, (0, 5, 0)), (w, (0, 0, 0))]) : KY l dC dI sa g yX4_holds wsX4_holds rm_X4_holds [.ref h0, .ref o, .ref w] L f sz (fun r L' f' => (∃ z : Int32, r = some (.int z) ∧ (z = 0 ∨ z = 1)) ∧ Fr [] L f f') (fun n _ => n = 0) (fun E L' f' => (E = NSE) ∧ Fr [] L f f') 1 6 := by
  refine KY.start (cc := cX4_holds) (maxL := 4) (ret := (some .boolean)) (by decide) rfl (Nat.le_of_ble_eq_true rfl) ?_
  intro p e s m below meth c ls hst hno hP hK hD hev hS hl
  obtain ⟨hx, hb, hr, hml, hts, hown, hlocks, hin⟩ := hst
  have hown : s.vm.findClass RX4 = some m.cls := hown
  have hin : meth.name = yX4_holds.name := hin
  have hA : ∀ q : Nat, s.heap.size ≤ q → va_A (va_pl L f) s.heap.size q := fun _ h => Or.inr h
  have hE : Ext L f L f := Ext.rf
  have hF : Fr [] L f f := Fr.rf
  have hl : lv_has ls 4 [(0, .ref h0), (1, .ref o), (2, .ref w)] := hl
  refine lv_aload_n hx hb dX4_holds_0 rfl (lv_at hl 0 rfl) ?_
  refine lv_aload_n hx hb dX4_holds_1 rfl (lv_at hl 1 rfl) ?_
  refine lv_aload_n hx hb dX4_holds_2 rfl (lv_at hl 2 rfl) ?_
  refine K_VY ⟨hx, hb, hml, hown, hts⟩ (t_X4_lookAt l dC dI sa hlt g _ _ h0 o w _ (hT.sub [0, 1, 2] rfl)  ) (cwV 2 hts gX4_holds_X4_lookAt rfl rfl rfl (by decide +kernel) ⟨Nat.le_of_ble_eq_true rfl, Nat.le_of_ble_eq_true rfl⟩) hP hD hK hS hA hev hT 0 4 rfl rfl rfl rfl hl.1 rfl (Nat.le_of_ble_eq_true rfl) dX4_holds_3 ⟨Nat.le_of_ble_eq_true rfl, Nat.le_of_ble_eq_true rfl⟩ (fun E ce q9 L9 f9 H locs hpx hP hD hS hT hE1 hce hcv hcl => ?_) (fun r L_1 f_2 n_4 H locs hw_3 hn_5 hP hD hS hT hE1 => ?_)
  · have hF := Fr.call hF hE hpx.2 (by decide)
    have hE := hE.tr hE1
    exact K_out hno hlocks ⟨hpx.1, hF⟩ hP hD hK hS hT hE hce hcv hcl (Nat.le_of_ble_eq_true rfl) (Nat.le_of_ble_eq_true rfl)
  have hF := Fr.call hF hE hw_3.2 (by decide)
  have hE := hE.tr hE1
  obtain rfl : n_4 = 0 := hn_5
  obtain ⟨⟨z_6, rfl⟩, hw_3⟩ := hw_3
  refine W.eq (g2 := F0 m 6 ls [.int z_6]) rfl ?_
  refine lv_istore_n (lv' := [(3, .int z_6), (0, .ref h0), (1, .ref o), (2, .ref w)]) hx hb dX4_holds_6 rfl hl (by decide) rfl (fun ls hl => ?_)
  refine lv_aload_n hx hb dX4_holds_7 rfl (lv_at hl 2 rfl) ?_
  refine T_get (ci := 5) (C := RX5) (T := TX5) (N := 8) (t := tI) hx hb hts inw_X4_holds_5 hown hK hP hT 1 rfl rfl 4 (by decide) (hts (.fieldLink RX4 158 "VatHouse$Step" "below" "Z") (by decide +kernel)) (fun _ h9 => h9) rfl dX4_holds_8 (fun v_9 hv_7 hr_8 => ?_)
  obtain ⟨z_10, rfl⟩ := hv_7
  refine lv_if_eq (tgt := 30) hx hb dX4_holds_11 (by decide) (fun c_11 => ?_) (fun c_11 => ?_)
  · refine lv_iload_n hx hb dX4_holds_30 rfl (lv_at hl 0 rfl) ?_
    refine lv_aload_n hx hb dX4_holds_31 rfl (lv_at hl 2 rfl) ?_
    refine T_get (ci := 5) (C := RX5) (T := TX5) (N := 8) (t := tI) hx hb hts inw_X4_holds_5 hown hK hP hT 1 rfl rfl 2 (by decide) (hts (.fieldLink RX4 76 "VatHouse$Step" "number" "I") (by decide +kernel)) (fun _ h9 => h9) rfl dX4_holds_32 (fun v_14 hv_12 hr_13 => ?_)
    obtain ⟨z_15, rfl⟩ := hv_12
    refine lv_icmp_ne (tgt := 42) hx hb dX4_holds_35 (by decide) (fun c_16 => ?_) (fun c_16 => ?_)
    · refine lv_iconst (v := 0) hx hb dX4_holds_42 (by decide) ?_
      refine vx_ret ?_
      exact K_zZ hx hb hr rfl hlocks hP hD hK hS hT hE ⟨⟨_, rfl, Or.inl rfl⟩, hF⟩ (rfl) (Nat.le_of_ble_eq_true rfl) (Nat.le_of_ble_eq_true rfl) (Nat.le_of_ble_eq_true rfl) dX4_holds_43
    · refine lv_iconst (v := 1) hx hb dX4_holds_38 (by decide) ?_
      refine lv_goto (tgt := 43) hx hb dX4_holds_39 (by decide) ?_
      refine vx_ret ?_
      exact K_zZ hx hb hr rfl hlocks hP hD hK hS hT hE ⟨⟨_, rfl, Or.inr rfl⟩, hF⟩ (rfl) (Nat.le_of_ble_eq_true rfl) (Nat.le_of_ble_eq_true rfl) (Nat.le_of_ble_eq_true rfl) dX4_holds_43
  · refine lv_iload_n hx hb dX4_holds_14 rfl (lv_at hl 0 rfl) ?_
    refine lv_aload_n hx hb dX4_holds_15 rfl (lv_at hl 2 rfl) ?_
    refine T_get (ci := 5) (C := RX5) (T := TX5) (N := 8) (t := tI) hx hb hts inw_X4_holds_5 hown hK hP hT 1 rfl rfl 2 (by decide) (hts (.fieldLink RX4 76 "VatHouse$Step" "number" "I") (by decide +kernel)) (fun _ h9 => h9) rfl dX4_holds_16 (fun v_19 hv_17 hr_18 => ?_)
    obtain ⟨z_20, rfl⟩ := hv_17
    refine lv_icmp_ge (tgt := 26) hx hb dX4_holds_19 (by decide) (fun c_21 => ?_) (fun c_21 => ?_)
    · refine lv_iconst (v := 0) hx hb dX4_holds_26 (by decide) ?_
      refine lv_goto (tgt := 43) hx hb dX4_holds_27 (by decide) ?_
      refine vx_ret ?_
      exact K_zZ hx hb hr rfl hlocks hP hD hK hS hT hE ⟨⟨_, rfl, Or.inl rfl⟩, hF⟩ (rfl) (Nat.le_of_ble_eq_true rfl) (Nat.le_of_ble_eq_true rfl) (Nat.le_of_ble_eq_true rfl) dX4_holds_43
    · refine lv_iconst (v := 1) hx hb dX4_holds_22 (by decide) ?_
      refine lv_goto (tgt := 43) hx hb dX4_holds_23 (by decide) ?_
      refine vx_ret ?_
      exact K_zZ hx hb hr rfl hlocks hP hD hK hS hT hE ⟨⟨_, rfl, Or.inr rfl⟩, hF⟩ (rfl) (Nat.le_of_ble_eq_true rfl) (Nat.le_of_ble_eq_true rfl) (Nat.le_of_ble_eq_true rfl) dX4_holds_43

abbrev rm_X4_doRest : Room := { frames := 3, cells := 0, slots := 0, locals := 56 }
theorem inw_X4_doRest_4 : ∀ w ∈ wsX40, w ∈ wsX4_doRest := by decide +kernel
set_option maxHeartbeats 800000 in
set_option maxRecDepth 100000 in
theorem t_X4_doRest (l : Launch) (dC : Nat → ClassId) (dI : Nat → Nat → Nat) (sa : Nat → Nat) (hlt : l.stackTraces = false) (g : Nat → Nat) (L : List Nat) (f : Nat → va_E) (h0 : Nat) (nn : Int32) (li : Int32) (cn : Int32) (sz : Nat) (hT : TP g L f [(h0, (0, 4, 0))]) (hm_li : rd f h0 1 = .int li) (hm_cn : rd f h0 4 = .int cn) : KC l dC dI sa g yX4_doRest wsX4_doRest rm_X4_doRest [.ref h0, .int nn] L f sz (fun r L' f' => (∃ z : Int32, r = some (.int z)) ∧ Fr [(7, 0), (7, 1), (7, 2), (7, 3), (7, 4), (7, 5), (7, 6), (7, 7), (8, 0), (8, 1), (8, 2), (4, 4), (4, 7)] L f f' ∧ (∃ cn' : Int32, rd f' h0 4 = .int cn' ∧ (cn.toInt ≤ cn'.toInt))) 0 0 := by
  refine CT.start (cc := cX4_doRest) (maxL := 3) (ret := (some .int)) (by decide) rfl (Nat.le_of_ble_eq_true rfl) ?_
  intro p e s m below meth c ls hst hP hK hD hev hS hl
  obtain ⟨hx, hb, hr, hml, hts, hown, hlocks, hin⟩ := hst
  have hown : s.vm.findClass RX4 = some m.cls := hown
  have hin : meth.name = yX4_doRest.name := hin
  have hA : ∀ q : Nat, s.heap.size ≤ q → va_A (va_pl L f) s.heap.size q := fun _ h => Or.inr h
  have hE : Ext L f L f := Ext.rf
  have hF : Fr [(7, 0), (7, 1), (7, 2), (7, 3), (7, 4), (7, 5), (7, 6), (7, 7), (8, 0), (8, 1), (8, 2), (4, 4), (4, 7)] L f f := Fr.rf
  have hl : lv_has ls 3 [(0, .ref h0), (1, .int nn)] := hl
  refine lv_iconst (v := 0) hx hb dX4_doRest_0 (by decide) ?_
  refine lv_istore_n (lv' := [(2, .int 0), (0, .ref h0), (1, .int nn)]) hx hb dX4_doRest_1 rfl hl (by decide) rfl (fun ls hl => ?_)
  have lp : ∀ (n : Nat) (ii : Int32) (k1 : Int32) (L1 : List Nat) (f1 : Nat → va_E) (H : Heap) (locs : List Loc) (ls : Array Slot), ((li.toInt - k1.toInt).toNat + 1 < n) → rd f1 h0 1 = .int li → rd f1 h0 4 = .int k1 → (cn.toInt ≤ k1.toInt) → va_P (dC, dI) vwCl (va_pl L1 f1) H → va_D (va_A (va_pl L f) s.heap.size) (va_pl L1 f1) → va_S (va_A (va_pl L f) s.heap.size) s.heap H locs → TP g L1 f1 [(h0, (0, 4, 0))] → Ext L f L1 f1 → Fr [(7, 0), (7, 1), (7, 2), (7, 3), (7, 4), (7, 5), (7, 6), (7, 7), (8, 0), (8, 1), (8, 2), (4, 4), (4, 7)] L f f1 → lv_has ls 3 [(2, .int ii), (0, .ref h0), (1, .int nn)] → W p l e rm_X4_doRest s m [.ref h0, .int nn].toArray below meth c H locs 0 0 (MQ below (Qg (kpost g L f (fun r L' f' => (∃ z : Int32, r = some (.int z)) ∧ Fr [(7, 0), (7, 1), (7, 2), (7, 3), (7, 4), (7, 5), (7, 6), (7, 7), (8, 0), (8, 1), (8, 2), (4, 4), (4, 7)] L f f' ∧ (∃ cn' : Int32, rd f' h0 4 = .int cn' ∧ (cn.toInt ≤ cn'.toInt)))) (fun (u : PL) t => QW dC dI (va_A (va_pl L f) s.heap.size) (va_pl u.1 u.2) [] t) (va_A (va_pl L f) s.heap.size)) [.ref h0, .int nn].toArray s (0) (0) (va_A (va_pl L f) s.heap.size)) (F0 m 2 ls []) := by
    intro n
    induction n with
    | zero => intro ii k1 L1 f1 H locs ls hm hk_h0_1 hk_h0_4 hle hP hD hS hT hE hF hl; exact absurd hm (by omega)
    | succ n ih =>
      intro ii k1 L1 f1 H locs ls hm hk_h0_1 hk_h0_4 hle hP hD hS hT hE hF hl
      refine lv_iload_n hx hb dX4_doRest_2 rfl (lv_at hl 0 rfl) ?_
      refine lv_iload_n hx hb dX4_doRest_3 rfl (lv_at hl 2 rfl) ?_
      refine lv_icmp_ge (tgt := 39) hx hb dX4_doRest_4 (by decide) (fun c_1 => ?_) (fun c_1 => ?_)
      · refine lv_iconst (v := 0) hx hb dX4_doRest_39 (by decide) ?_
        exact K_i hx hb hr hlocks hP hD hK hS hT hE ⟨⟨_, rfl⟩, hF, _, hk_h0_4, by omega⟩ (Nat.le_of_ble_eq_true rfl) (Nat.le_of_ble_eq_true rfl) dX4_doRest_40
      · refine lv_aload_n hx hb dX4_doRest_7 rfl (lv_at hl 1 rfl) ?_
        have hTo := hT
        refine K_V ⟨hx, hb, hml, hown, hts⟩ (t_X4_mayCount l dC dI sa hlt g _ _ h0 li k1 _ (hT.sub [0] rfl)  hk_h0_1 hk_h0_4 ) (cwV 0 hts gX4_doRest_X4_mayCount rfl rfl rfl (by decide +kernel) ⟨Nat.le_of_ble_eq_true rfl, Nat.le_of_ble_eq_true rfl⟩) hP hD hK hS hA hev hT 0 4 rfl rfl rfl rfl hl.1 rfl (Nat.le_of_ble_eq_true rfl) dX4_doRest_8 ⟨Nat.le_of_ble_eq_true rfl, Nat.le_of_ble_eq_true rfl⟩ (fun r L_2 f_3 H locs hw_4 hP hD hS hT hE1 => ?_)
        have hF := Fr.call hF hE hw_4.2 (by decide)
        have hE := hE.tr hE1
        obtain ⟨⟨rfl, hz2_5⟩ | ⟨rfl, hz2_5⟩, hw_4⟩ := hw_4
        · have hk_6 : rd f_3 h0 1 = .int li := (hw_4.1 h0 (hTo.at 0 rfl).1 4 (hTo.at 0 rfl).2 1 (by decide)).trans hk_h0_1
          refine W.eq (g2 := F0 m 11 ls [.int 0]) rfl ?_
          refine lv_if_ne (tgt := 16) hx hb dX4_doRest_11 (by decide) (fun c_7 => ?_) (fun c_7 => ?_)
          · exact absurd c_7 (by decide)
          refine lv_iconst (v := (-1)) hx hb dX4_doRest_14 (by decide) ?_
          exact K_i hx hb hr hlocks hP hD hK hS hT hE ⟨⟨_, rfl⟩, hF, _, hz2_5, by omega⟩ (Nat.le_of_ble_eq_true rfl) (Nat.le_of_ble_eq_true rfl) dX4_doRest_15
        · have hk_8 : rd f_3 h0 1 = .int li := (hw_4.1 h0 (hTo.at 0 rfl).1 4 (hTo.at 0 rfl).2 1 (by decide)).trans hk_h0_1
          obtain ⟨kn_9, hk_10, hu_11, hv_12⟩ := hz2_5
          refine W.eq (g2 := F0 m 11 ls [.int 1]) rfl ?_
          refine lv_if_ne (tgt := 16) hx hb dX4_doRest_11 (by decide) (fun c_13 => ?_) (fun c_13 => ?_)
          rotate_left
          · exact absurd c_13 (by decide)
          refine lv_aload_n hx hb dX4_doRest_16 rfl (lv_at hl 1 rfl) ?_
          refine T_get (ci := 4) (C := RX4) (T := TX4) (N := 8) (t := (1, 0, 8, 0)) hx hb hts inw_X4_doRest_4 hown hK hP hT 0 rfl rfl 0 (by decide) (hts (.fieldLink RX4 15 "VatHouse$Runner" "works" "LVatHouse$Works;") (by decide +kernel)) (fun _ h9 => h9) rfl dX4_doRest_17 (fun v_16 hv_14 hr_15 => ?_)
          obtain ⟨b_17, rfl, hb9⟩ := hv_14
          have hT := hT.add hb9
          have hTo := hT
          refine K_V ⟨hx, hb, hml, hown, hts⟩ (t_X8_passHour l dC dI sa hlt g _ _ b_17 _ (hT.sub [0] rfl)  ) (cwV 0 hts gX4_doRest_X8_passHour rfl rfl rfl (by decide +kernel) ⟨Nat.le_of_ble_eq_true rfl, Nat.le_of_ble_eq_true rfl⟩) hP hD hK hS hA hev hT 0 8 rfl rfl rfl rfl hl.1 rfl (Nat.le_of_ble_eq_true rfl) dX4_doRest_20 ⟨Nat.le_of_ble_eq_true rfl, Nat.le_of_ble_eq_true rfl⟩ (fun r L_18 f_19 H locs hw_20 hP hD hS hT hE1 => ?_)
          have hF := Fr.call hF hE hw_20.2 (by decide)
          have hE := hE.tr hE1
          obtain ⟨rfl, hw_20⟩ := hw_20
          have hk_21 : rd f_19 h0 1 = .int li := (hw_20.1 h0 (hTo.at 1 rfl).1 4 (hTo.at 1 rfl).2 1 (by decide)).trans hk_8
          have hk_22 : rd f_19 h0 4 = .int kn_9 := (hw_20.1 h0 (hTo.at 1 rfl).1 4 (hTo.at 1 rfl).2 4 (by decide)).trans hk_10
          refine W.eq (g2 := F0 m 23 ls []) rfl ?_
          refine lv_aload_n hx hb dX4_doRest_23 rfl (lv_at hl 1 rfl) ?_
          refine lv_dup hx hb dX4_doRest_24 rfl ?_
          refine T_get (ci := 4) (C := RX4) (T := TX4) (N := 8) (t := tI) hx hb hts inw_X4_doRest_4 hown hK hP hT 1 rfl rfl 7 (by decide) (hts (.fieldLink RX4 31 "VatHouse$Runner" "hoursRested" "I") (by decide +kernel)) (fun _ h9 => h9) rfl dX4_doRest_25 (fun v_25 hv_23 hr_24 => ?_)
          obtain ⟨z_26, rfl⟩ := hv_23
          refine lv_iconst (v := 1) hx hb dX4_doRest_28 (by decide) ?_
          refine lv_iadd hx hb dX4_doRest_29 ?_
          refine lv_topi (fun z_27 ez_27 => ?_)
          have hTo := hT
          refine T_put (ci := 4) (v := .int z_27) (ty := .int) (t := tI) (C := RX4) (T := TX4) (N := 8) hx hb hts inw_X4_doRest_4 tyX4 tyX4_ok nmX4 hown hK hP hD hS hT 1 rfl rfl 7 (by decide) (hts (.fieldLink RX4 31 "VatHouse$Runner" "hoursRested" "I") (by decide +kernel)) (fun _ h9 => h9) rfl (by decide +kernel) rfl rfl rfl ⟨_, rfl⟩ dX4_doRest_30 (fun f_28 H locs hP hD hS hT hE1 hrd_29 hup_30 => ?_)
          have hF := Fr.put (a := h0) (ci := 4) hF hE ((hE1 h0 (hT.at 1 rfl).1).2.symm.trans (hT.at 1 rfl).2) (by decide) hrd_29 hup_30
          have hE := hE.tr hE1
          have hk_31 : rd f_28 h0 1 = .int li := ((Fr.put (cs := [(4, 7)]) (a := h0) (ci := 4) Fr.rf Ext.rf (hTo.at 1 rfl).2 (by decide) hrd_29 hup_30).1 h0 (hTo.at 1 rfl).1 4 (hTo.at 1 rfl).2 1 (by decide)).trans hk_21
          have hk_32 : rd f_28 h0 4 = .int kn_9 := ((Fr.put (cs := [(4, 7)]) (a := h0) (ci := 4) Fr.rf Ext.rf (hTo.at 1 rfl).2 (by decide) hrd_29 hup_30).1 h0 (hTo.at 1 rfl).1 4 (hTo.at 1 rfl).2 4 (by decide)).trans hk_22
          refine lv_iinc (v := (ii + 1)) (lv' := [(2, .int (ii + 1)), (0, .ref h0), (1, .int nn)]) hx hb dX4_doRest_33 hl (k := 0) rfl rfl (by decide) rfl (fun ls hl => ?_)
          refine lv_goto (tgt := 2) hx hb dX4_doRest_36 (by decide) ?_
          exact ih (ii + 1) kn_9 _ _ _ _ _ (by omega) hk_31 hk_32 (by omega) hP hD hS (hT.sub [1] rfl) hE hF (lv_sub hl [0, 1, 2] rfl)
  exact lp ((li.toInt - cn.toInt).toNat + 2) 0 cn _ _ _ _ _ (by omega) hm_li hm_cn (by omega) hP hD hS (hT.sub [0] rfl) hE hF (lv_sub hl [0, 1, 2] rfl)

abbrev rm_X4_doPlain : Room := { frames := 7, cells := 1, slots := 6, locals := 103 }
theorem inw_X4_doPlain_4 : ∀ w ∈ wsX40, w ∈ wsX4_doPlain := by decide +kernel
theorem inw_X4_doPlain_5 : ∀ w ∈ wsX50, w ∈ wsX4_doPlain := by decide +kernel
set_option maxHeartbeats 800000 in
set_option maxRecDepth 100000 in
theorem t_X4_doPlain (l : Launch) (dC : Nat → ClassId) (dI : Nat → Nat → Nat) (sa : Nat → Nat) (hlt : l.stackTraces = false) (g : Nat → Nat) (L : List Nat) (f : Nat → va_E) (h0 : Nat) (o : Nat) (w : Nat) (li : Int32) (cn : Int32) (sz : Nat) (hT : TP g L f [(h0, (0, 4, 0)), (o, (0, 5, 0)), (w, (0, 0, 0))]) (hm_li : rd f h0 1 = .int li) (hm_cn : rd f h0 4 = .int cn) : KY l dC dI sa g yX4_doPlain wsX4_doPlain rm_X4_doPlain [.ref h0, .ref o, .ref w] L f sz (fun r L' f' => (∃ z : Int32, r = some (.int z)) ∧ Fr [(0, 0), (0, 1), (0, 2), (0, 3), (0, 4), (0, 5), (0, 6), (0, 7), (7, 0), (7, 1), (7, 2), (7, 3), (7, 4), (7, 5), (7, 6), (7, 7), (8, 0), (8, 1), (8, 2), (4, 4), (4, 5), (4, 6), (4, 7)] L f f' ∧ (∃ cn' : Int32, rd f' h0 4 = .int cn' ∧ (cn.toInt ≤ cn'.toInt))) (fun n _ => n = 0) (fun E L' f' => (E = NSE) ∧ Fr [(0, 0), (0, 1), (0, 2), (0, 3), (0, 4), (0, 5), (0, 6), (0, 7), (7, 0), (7, 1), (7, 2), (7, 3), (7, 4), (7, 5), (7, 6), (7, 7), (8, 0), (8, 1), (8, 2), (4, 4), (4, 5), (4, 6), (4, 7)] L f f') 1 6 := by
  refine KY.start (cc := cX4_doPlain) (maxL := 3) (ret := (some .int)) (by decide) rfl (Nat.le_of_ble_eq_true rfl) ?_
  intro p e s m below meth c ls hst hno hP hK hD hev hS hl
  obtain ⟨hx, hb, hr, hml, hts, hown, hlocks, hin⟩ := hst
  have hown : s.vm.findClass RX4 = some m.cls := hown
  have hin : meth.name = yX4_doPlain.name := hin
  have hA : ∀ q : Nat, s.heap.size ≤ q → va_A (va_pl L f) s.heap.size q := fun _ h => Or.inr h
  have hE : Ext L f L f := Ext.rf
  have hF : Fr [(0, 0), (0, 1), (0, 2), (0, 3), (0, 4), (0, 5), (0, 6), (0, 7), (7, 0), (7, 1), (7, 2), (7, 3), (7, 4), (7, 5), (7, 6), (7, 7), (8, 0), (8, 1), (8, 2), (4, 4), (4, 5), (4, 6), (4, 7)] L f f := Fr.rf
  have hl : lv_has ls 3 [(0, .ref h0), (1, .ref o), (2, .ref w)] := hl
  refine lv_aload_n hx hb dX4_doPlain_0 rfl (lv_at hl 1 rfl) ?_
  refine T_get (ci := 5) (C := RX5) (T := TX5) (N := 8) (t := tI) hx hb hts inw_X4_doPlain_5 hown hK hP hT 1 rfl rfl 0 (by decide) (hts (.fieldLink RX4 51 "VatHouse$Step" "word" "I") (by decide +kernel)) (fun _ h9 => h9) rfl dX4_doPlain_1 (fun v_3 hv_1 hr_2 => ?_)
  obtain ⟨z_4, rfl⟩ := hv_1
  by_cases c_5 : z_4 = 1
  · refine lv_tableIn (tgt := 44) hx hb dX4_doPlain_4 (by rw [c_5]; decide) (by rw [c_5]; decide) (by rw [c_5]; rfl) (by decide) ?_
    refine lv_aload_n hx hb dX4_doPlain_44 rfl (lv_at hl 0 rfl) ?_
    refine lv_aload_n hx hb dX4_doPlain_45 rfl (lv_at hl 0 rfl) ?_
    refine T_get (ci := 4) (C := RX4) (T := TX4) (N := 8) (t := (1, 0, 8, 0)) hx hb hts inw_X4_doPlain_4 hown hK hP hT 0 rfl rfl 0 (by decide) (hts (.fieldLink RX4 15 "VatHouse$Runner" "works" "LVatHouse$Works;") (by decide +kernel)) (fun _ h9 => h9) rfl dX4_doPlain_46 (fun v_8 hv_6 hr_7 => ?_)
    obtain ⟨b_9, rfl, hb9⟩ := hv_6
    have hT := hT.add hb9
    refine lv_aload_n hx hb dX4_doPlain_49 rfl (lv_at hl 1 rfl) ?_
    refine T_get (ci := 5) (C := RX5) (T := TX5) (N := 8) (t := tI) hx hb hts inw_X4_doPlain_5 hown hK hP hT 2 rfl rfl 1 (by decide) (hts (.fieldLink RX4 67 "VatHouse$Step" "vat" "I") (by decide +kernel)) (fun _ h9 => h9) rfl dX4_doPlain_50 (fun v_12 hv_10 hr_11 => ?_)
    obtain ⟨z_13, rfl⟩ := hv_10
    have hTo := hT
    refine K_VY ⟨hx, hb, hml, hown, hts⟩ (t_X8_vatAtZ l dC dI sa hlt g _ _ b_9 z_13 _ (hT.sub [0] rfl)  ) (cwV 1 hts gX4_doPlain_X8_vatAt rfl rfl rfl (by decide +kernel) ⟨Nat.le_of_ble_eq_true rfl, Nat.le_of_ble_eq_true rfl⟩) hP hD hK hS hA hev hT 0 8 rfl rfl rfl rfl hl.1 rfl (Nat.le_of_ble_eq_true rfl) dX4_doPlain_53 ⟨Nat.le_of_ble_eq_true rfl, Nat.le_of_ble_eq_true rfl⟩ (fun E ce q9 L9 f9 H locs hpx hP hD hS hT hE1 hce hcv hcl => ?_) (fun r L_14 f_15 n_17 H locs hw_16 hn_18 hP hD hS hT hE1 => ?_)
    · have hF := Fr.call hF hE hpx.2 (by decide)
      have hE := hE.tr hE1
      exact K_out hno hlocks ⟨hpx.1, hF⟩ hP hD hK hS hT hE hce hcv hcl (Nat.le_of_ble_eq_true rfl) (Nat.le_of_ble_eq_true rfl)
    have hF := Fr.call hF hE hw_16.2 (by decide)
    have hE := hE.tr hE1
    obtain rfl : n_17 = 0 := hn_18
    obtain ⟨⟨v_19, rfl, hv9⟩, hw_16⟩ := hw_16
    obtain ⟨b_20, rfl, hb9⟩ := hv9
    have hT := hT.add hb9
    have hk_21 : rd f_15 h0 1 = .int li := (hw_16.1 h0 (hTo.at 1 rfl).1 4 (hTo.at 1 rfl).2 1 (by decide)).trans hm_li
    have hk_22 : rd f_15 h0 4 = .int cn := (hw_16.1 h0 (hTo.at 1 rfl).1 4 (hTo.at 1 rfl).2 4 (by decide)).trans hm_cn
    refine W.eq (g2 := F0 m 56 ls [.ref b_20, .ref h0]) rfl ?_
    refine lv_aload_n hx hb dX4_doPlain_56 rfl (lv_at hl 2 rfl) ?_
    refine lv_aload_n hx hb dX4_doPlain_57 rfl (lv_at hl 1 rfl) ?_
    refine T_get (ci := 5) (C := RX5) (T := TX5) (N := 8) (t := tI) hx hb hts inw_X4_doPlain_5 hown hK hP hT 3 rfl rfl 2 (by decide) (hts (.fieldLink RX4 76 "VatHouse$Step" "number" "I") (by decide +kernel)) (fun _ h9 => h9) rfl dX4_doPlain_58 (fun v_25 hv_23 hr_24 => ?_)
    obtain ⟨z_26, rfl⟩ := hv_23
    have hTo := hT
    refine K_V ⟨hx, hb, hml, hown, hts⟩ (t_X4_doDip l dC dI sa hlt g _ _ h0 b_20 w z_26 _ (hT.sub [2, 0, 4] rfl)  ) (cwV 3 hts gX4_doPlain_X4_doDip rfl rfl rfl (by decide +kernel) ⟨Nat.le_of_ble_eq_true rfl, Nat.le_of_ble_eq_true rfl⟩) hP hD hK hS hA hev hT 2 4 rfl rfl rfl rfl hl.1 rfl (Nat.le_of_ble_eq_true rfl) dX4_doPlain_61 ⟨Nat.le_of_ble_eq_true rfl, Nat.le_of_ble_eq_true rfl⟩ (fun r L_27 f_28 H locs hw_29 hP hD hS hT hE1 => ?_)
    have hF := Fr.call hF hE hw_29.2 (by decide)
    have hE := hE.tr hE1
    obtain ⟨⟨z_30, rfl⟩, hw_29⟩ := hw_29
    have hk_31 : rd f_28 h0 1 = .int li := (hw_29.1 h0 (hTo.at 2 rfl).1 4 (hTo.at 2 rfl).2 1 (by decide)).trans hk_21
    have hk_32 : rd f_28 h0 4 = .int cn := (hw_29.1 h0 (hTo.at 2 rfl).1 4 (hTo.at 2 rfl).2 4 (by decide)).trans hk_22
    refine W.eq (g2 := F0 m 64 ls [.int z_30]) rfl ?_
    refine vx_ret ?_
    exact K_iZ hx hb hr hlocks hP hD hK hS hT hE ⟨⟨_, rfl⟩, hF, _, hk_32, by omega⟩ (rfl) (Nat.le_of_ble_eq_true rfl) (Nat.le_of_ble_eq_true rfl) (Nat.le_of_ble_eq_true rfl) dX4_doPlain_64
  by_cases c_33 : z_4 = 2
  · refine lv_tableIn (tgt := 65) hx hb dX4_doPlain_4 (by rw [c_33]; decide) (by rw [c_33]; decide) (by rw [c_33]; rfl) (by decide) ?_
    refine lv_aload_n hx hb dX4_doPlain_65 rfl (lv_at hl 0 rfl) ?_
    refine lv_aload_n hx hb dX4_doPlain_66 rfl (lv_at hl 2 rfl) ?_
    have hTo := hT
    refine K_V ⟨hx, hb, hml, hown, hts⟩ (t_X4_doAir l dC dI sa hlt g _ _ h0 w _ (hT.sub [0, 2] rfl)  ) (cwV 1 hts gX4_doPlain_X4_doAir rfl rfl rfl (by decide +kernel) ⟨Nat.le_of_ble_eq_true rfl, Nat.le_of_ble_eq_true rfl⟩) hP hD hK hS hA hev hT 0 4 rfl rfl rfl rfl hl.1 rfl (Nat.le_of_ble_eq_true rfl) dX4_doPlain_67 ⟨Nat.le_of_ble_eq_true rfl, Nat.le_of_ble_eq_true rfl⟩ (fun r L_34 f_35 H locs hw_36 hP hD hS hT hE1 => ?_)
    have hF := Fr.call hF hE hw_36.2 (by decide)
    have hE := hE.tr hE1
    obtain ⟨⟨z_37, rfl⟩, hw_36⟩ := hw_36
    have hk_38 : rd f_35 h0 1 = .int li := (hw_36.1 h0 (hTo.at 0 rfl).1 4 (hTo.at 0 rfl).2 1 (by decide)).trans hm_li
    have hk_39 : rd f_35 h0 4 = .int cn := (hw_36.1 h0 (hTo.at 0 rfl).1 4 (hTo.at 0 rfl).2 4 (by decide)).trans hm_cn
    refine W.eq (g2 := F0 m 70 ls [.int z_37]) rfl ?_
    refine vx_ret ?_
    exact K_iZ hx hb hr hlocks hP hD hK hS hT hE ⟨⟨_, rfl⟩, hF, _, hk_39, by omega⟩ (rfl) (Nat.le_of_ble_eq_true rfl) (Nat.le_of_ble_eq_true rfl) (Nat.le_of_ble_eq_true rfl) dX4_doPlain_70
  by_cases c_40 : z_4 = 3
  · refine lv_tableIn (tgt := 71) hx hb dX4_doPlain_4 (by rw [c_40]; decide) (by rw [c_40]; decide) (by rw [c_40]; rfl) (by decide) ?_
    refine lv_aload_n hx hb dX4_doPlain_71 rfl (lv_at hl 0 rfl) ?_
    refine T_get (ci := 4) (C := RX4) (T := TX4) (N := 8) (t := (1, 0, 8, 0)) hx hb hts inw_X4_doPlain_4 hown hK hP hT 0 rfl rfl 0 (by decide) (hts (.fieldLink RX4 15 "VatHouse$Runner" "works" "LVatHouse$Works;") (by decide +kernel)) (fun _ h9 => h9) rfl dX4_doPlain_72 (fun v_43 hv_41 hr_42 => ?_)
    obtain ⟨b_44, rfl, hb9⟩ := hv_41
    have hT := hT.add hb9
    refine lv_aload_n hx hb dX4_doPlain_75 rfl (lv_at hl 2 rfl) ?_
    have hTo := hT
    refine K_V ⟨hx, hb, hml, hown, hts⟩ (t_X8_washOut l dC dI sa hlt g _ _ b_44 w _ (hT.sub [0, 3] rfl)  ) (cwV 1 hts gX4_doPlain_X8_washOut rfl rfl rfl (by decide +kernel) ⟨Nat.le_of_ble_eq_true rfl, Nat.le_of_ble_eq_true rfl⟩) hP hD hK hS hA hev hT 0 8 rfl rfl rfl rfl hl.1 rfl (Nat.le_of_ble_eq_true rfl) dX4_doPlain_76 ⟨Nat.le_of_ble_eq_true rfl, Nat.le_of_ble_eq_true rfl⟩ (fun r L_45 f_46 H locs hw_47 hP hD hS hT hE1 => ?_)
    have hF := Fr.call hF hE hw_47.2 (by decide)
    have hE := hE.tr hE1
    obtain ⟨⟨z_48, rfl⟩, hw_47⟩ := hw_47
    have hk_49 : rd f_46 h0 1 = .int li := (hw_47.1 h0 (hTo.at 1 rfl).1 4 (hTo.at 1 rfl).2 1 (by decide)).trans hm_li
    have hk_50 : rd f_46 h0 4 = .int cn := (hw_47.1 h0 (hTo.at 1 rfl).1 4 (hTo.at 1 rfl).2 4 (by decide)).trans hm_cn
    refine W.eq (g2 := F0 m 79 ls [.int z_48]) rfl ?_
    refine lv_pop hx hb dX4_doPlain_79 rfl ?_
    refine lv_iconst (v := 0) hx hb dX4_doPlain_80 (by decide) ?_
    refine vx_ret ?_
    exact K_iZ hx hb hr hlocks hP hD hK hS hT hE ⟨⟨_, rfl⟩, hF, _, hk_50, by omega⟩ (rfl) (Nat.le_of_ble_eq_true rfl) (Nat.le_of_ble_eq_true rfl) (Nat.le_of_ble_eq_true rfl) dX4_doPlain_81
  by_cases c_51 : z_4 = 4
  · refine lv_tableIn (tgt := 82) hx hb dX4_doPlain_4 (by rw [c_51]; decide) (by rw [c_51]; decide) (by rw [c_51]; rfl) (by decide) ?_
    refine lv_aload_n hx hb dX4_doPlain_82 rfl (lv_at hl 0 rfl) ?_
    refine lv_aload_n hx hb dX4_doPlain_83 rfl (lv_at hl 1 rfl) ?_
    refine T_get (ci := 5) (C := RX5) (T := TX5) (N := 8) (t := tI) hx hb hts inw_X4_doPlain_5 hown hK hP hT 1 rfl rfl 2 (by decide) (hts (.fieldLink RX4 76 "VatHouse$Step" "number" "I") (by decide +kernel)) (fun _ h9 => h9) rfl dX4_doPlain_84 (fun v_54 hv_52 hr_53 => ?_)
    obtain ⟨z_55, rfl⟩ := hv_52
    have hTo := hT
    refine K_V ⟨hx, hb, hml, hown, hts⟩ (t_X4_doRest l dC dI sa hlt g _ _ h0 z_55 li cn _ (hT.sub [0] rfl)  hm_li hm_cn ) (cwV 1 hts gX4_doPlain_X4_doRest rfl rfl rfl (by decide +kernel) ⟨Nat.le_of_ble_eq_true rfl, Nat.le_of_ble_eq_true rfl⟩) hP hD hK hS hA hev hT 0 4 rfl rfl rfl rfl hl.1 rfl (Nat.le_of_ble_eq_true rfl) dX4_doPlain_87 ⟨Nat.le_of_ble_eq_true rfl, Nat.le_of_ble_eq_true rfl⟩ (fun r L_56 f_57 H locs hw_58 hP hD hS hT hE1 => ?_)
    have hF := Fr.call hF hE hw_58.2.1 (by decide)
    have hE := hE.tr hE1
    obtain ⟨⟨z_59, rfl⟩, hw_58⟩ := hw_58
    obtain ⟨hfr_60, cn_61, hk_62, hrel_63⟩ := hw_58
    have hk_65 : rd f_57 h0 1 = .int li := (hfr_60.1 h0 (hTo.at 0 rfl).1 4 (hTo.at 0 rfl).2 1 (by decide)).trans hm_li
    refine W.eq (g2 := F0 m 90 ls [.int z_59]) rfl ?_
    refine vx_ret ?_
    exact K_iZ hx hb hr hlocks hP hD hK hS hT hE ⟨⟨_, rfl⟩, hF, _, hk_62, by omega⟩ (rfl) (Nat.le_of_ble_eq_true rfl) (Nat.le_of_ble_eq_true rfl) (Nat.le_of_ble_eq_true rfl) dX4_doPlain_90
  by_cases c_66 : z_4 = 5
  · refine lv_tableIn (tgt := 91) hx hb dX4_doPlain_4 (by rw [c_66]; decide) (by rw [c_66]; decide) (by rw [c_66]; rfl) (by decide) ?_
    refine lv_aload_n hx hb dX4_doPlain_91 rfl (lv_at hl 0 rfl) ?_
    refine T_get (ci := 4) (C := RX4) (T := TX4) (N := 8) (t := (1, 0, 8, 0)) hx hb hts inw_X4_doPlain_4 hown hK hP hT 0 rfl rfl 0 (by decide) (hts (.fieldLink RX4 15 "VatHouse$Runner" "works" "LVatHouse$Works;") (by decide +kernel)) (fun _ h9 => h9) rfl dX4_doPlain_92 (fun v_69 hv_67 hr_68 => ?_)
    obtain ⟨b_70, rfl, hb9⟩ := hv_67
    have hT := hT.add hb9
    refine lv_aload_n hx hb dX4_doPlain_95 rfl (lv_at hl 1 rfl) ?_
    refine T_get (ci := 5) (C := RX5) (T := TX5) (N := 8) (t := tI) hx hb hts inw_X4_doPlain_5 hown hK hP hT 2 rfl rfl 1 (by decide) (hts (.fieldLink RX4 67 "VatHouse$Step" "vat" "I") (by decide +kernel)) (fun _ h9 => h9) rfl dX4_doPlain_96 (fun v_73 hv_71 hr_72 => ?_)
    obtain ⟨z_74, rfl⟩ := hv_71
    have hTo := hT
    refine K_VY ⟨hx, hb, hml, hown, hts⟩ (t_X8_vatAtZ l dC dI sa hlt g _ _ b_70 z_74 _ (hT.sub [0] rfl)  ) (cwV 1 hts gX4_doPlain_X8_vatAt rfl rfl rfl (by decide +kernel) ⟨Nat.le_of_ble_eq_true rfl, Nat.le_of_ble_eq_true rfl⟩) hP hD hK hS hA hev hT 0 8 rfl rfl rfl rfl hl.1 rfl (Nat.le_of_ble_eq_true rfl) dX4_doPlain_99 ⟨Nat.le_of_ble_eq_true rfl, Nat.le_of_ble_eq_true rfl⟩ (fun E ce q9 L9 f9 H locs hpx hP hD hS hT hE1 hce hcv hcl => ?_) (fun r L_75 f_76 n_78 H locs hw_77 hn_79 hP hD hS hT hE1 => ?_)
    · have hF := Fr.call hF hE hpx.2 (by decide)
      have hE := hE.tr hE1
      exact K_out hno hlocks ⟨hpx.1, hF⟩ hP hD hK hS hT hE hce hcv hcl (Nat.le_of_ble_eq_true rfl) (Nat.le_of_ble_eq_true rfl)
    have hF := Fr.call hF hE hw_77.2 (by decide)
    have hE := hE.tr hE1
    obtain rfl : n_78 = 0 := hn_79
    obtain ⟨⟨v_80, rfl, hv9⟩, hw_77⟩ := hw_77
    obtain ⟨b_81, rfl, hb9⟩ := hv9
    have hT := hT.add hb9
    have hk_82 : rd f_76 h0 1 = .int li := (hw_77.1 h0 (hTo.at 1 rfl).1 4 (hTo.at 1 rfl).2 1 (by decide)).trans hm_li
    have hk_83 : rd f_76 h0 4 = .int cn := (hw_77.1 h0 (hTo.at 1 rfl).1 4 (hTo.at 1 rfl).2 4 (by decide)).trans hm_cn
    refine W.eq (g2 := F0 m 102 ls [.ref b_81]) rfl ?_
    refine lv_aload_n hx hb dX4_doPlain_102 rfl (lv_at hl 1 rfl) ?_
    refine T_get (ci := 5) (C := RX5) (T := TX5) (N := 8) (t := tI) hx hb hts inw_X4_doPlain_5 hown hK hP hT 3 rfl rfl 2 (by decide) (hts (.fieldLink RX4 76 "VatHouse$Step" "number" "I") (by decide +kernel)) (fun _ h9 => h9) rfl dX4_doPlain_103 (fun v_86 hv_84 hr_85 => ?_)
    obtain ⟨z_87, rfl⟩ := hv_84
    have hTo := hT
    refine K_V ⟨hx, hb, hml, hown, hts⟩ (t_X7_takeFood l dC dI sa hlt g _ _ b_81 z_87 _ (hT.sub [0] rfl)  ) (cwV 1 hts gX4_doPlain_X7_takeFood rfl rfl rfl (by decide +kernel) ⟨Nat.le_of_ble_eq_true rfl, Nat.le_of_ble_eq_true rfl⟩) hP hD hK hS hA hev hT 0 7 rfl rfl rfl rfl hl.1 rfl (Nat.le_of_ble_eq_true rfl) dX4_doPlain_106 ⟨Nat.le_of_ble_eq_true rfl, Nat.le_of_ble_eq_true rfl⟩ (fun r L_88 f_89 H locs hw_90 hP hD hS hT hE1 => ?_)
    have hF := Fr.call hF hE hw_90.2 (by decide)
    have hE := hE.tr hE1
    obtain ⟨⟨z_91, rfl, hz_z_91⟩, hw_90⟩ := hw_90
    have hk_92 : rd f_89 h0 1 = .int li := (hw_90.1 h0 (hTo.at 2 rfl).1 4 (hTo.at 2 rfl).2 1 (by decide)).trans hk_82
    have hk_93 : rd f_89 h0 4 = .int cn := (hw_90.1 h0 (hTo.at 2 rfl).1 4 (hTo.at 2 rfl).2 4 (by decide)).trans hk_83
    refine W.eq (g2 := F0 m 109 ls [.int z_91]) rfl ?_
    refine lv_if_eq (tgt := 116) hx hb dX4_doPlain_109 (by decide) (fun c_94 => ?_) (fun c_94 => ?_)
    · refine lv_iconst (v := 5) hx hb dX4_doPlain_116 (by decide) ?_
      refine vx_ret ?_
      exact K_iZ hx hb hr hlocks hP hD hK hS hT hE ⟨⟨_, rfl⟩, hF, _, hk_93, by omega⟩ (rfl) (Nat.le_of_ble_eq_true rfl) (Nat.le_of_ble_eq_true rfl) (Nat.le_of_ble_eq_true rfl) dX4_doPlain_117
    · refine lv_iconst (v := 0) hx hb dX4_doPlain_112 (by decide) ?_
      refine lv_goto (tgt := 117) hx hb dX4_doPlain_113 (by decide) ?_
      refine vx_ret ?_
      exact K_iZ hx hb hr hlocks hP hD hK hS hT hE ⟨⟨_, rfl⟩, hF, _, hk_93, by omega⟩ (rfl) (Nat.le_of_ble_eq_true rfl) (Nat.le_of_ble_eq_true rfl) (Nat.le_of_ble_eq_true rfl) dX4_doPlain_117
  by_cases c_95 : z_4 = 6
  · refine lv_tableIn (tgt := 118) hx hb dX4_doPlain_4 (by rw [c_95]; decide) (by rw [c_95]; decide) (by rw [c_95]; rfl) (by decide) ?_
    refine lv_aload_n hx hb dX4_doPlain_118 rfl (lv_at hl 0 rfl) ?_
    refine lv_aload_n hx hb dX4_doPlain_119 rfl (lv_at hl 0 rfl) ?_
    refine T_get (ci := 4) (C := RX4) (T := TX4) (N := 8) (t := (1, 0, 8, 0)) hx hb hts inw_X4_doPlain_4 hown hK hP hT 0 rfl rfl 0 (by decide) (hts (.fieldLink RX4 15 "VatHouse$Runner" "works" "LVatHouse$Works;") (by decide +kernel)) (fun _ h9 => h9) rfl dX4_doPlain_120 (fun v_98 hv_96 hr_97 => ?_)
    obtain ⟨b_99, rfl, hb9⟩ := hv_96
    have hT := hT.add hb9
    refine lv_aload_n hx hb dX4_doPlain_123 rfl (lv_at hl 1 rfl) ?_
    refine T_get (ci := 5) (C := RX5) (T := TX5) (N := 8) (t := tI) hx hb hts inw_X4_doPlain_5 hown hK hP hT 2 rfl rfl 1 (by decide) (hts (.fieldLink RX4 67 "VatHouse$Step" "vat" "I") (by decide +kernel)) (fun _ h9 => h9) rfl dX4_doPlain_124 (fun v_102 hv_100 hr_101 => ?_)
    obtain ⟨z_103, rfl⟩ := hv_100
    have hTo := hT
    refine K_VY ⟨hx, hb, hml, hown, hts⟩ (t_X8_vatAtZ l dC dI sa hlt g _ _ b_99 z_103 _ (hT.sub [0] rfl)  ) (cwV 1 hts gX4_doPlain_X8_vatAt rfl rfl rfl (by decide +kernel) ⟨Nat.le_of_ble_eq_true rfl, Nat.le_of_ble_eq_true rfl⟩) hP hD hK hS hA hev hT 0 8 rfl rfl rfl rfl hl.1 rfl (Nat.le_of_ble_eq_true rfl) dX4_doPlain_127 ⟨Nat.le_of_ble_eq_true rfl, Nat.le_of_ble_eq_true rfl⟩ (fun E ce q9 L9 f9 H locs hpx hP hD hS hT hE1 hce hcv hcl => ?_) (fun r L_104 f_105 n_107 H locs hw_106 hn_108 hP hD hS hT hE1 => ?_)
    · have hF := Fr.call hF hE hpx.2 (by decide)
      have hE := hE.tr hE1
      exact K_out hno hlocks ⟨hpx.1, hF⟩ hP hD hK hS hT hE hce hcv hcl (Nat.le_of_ble_eq_true rfl) (Nat.le_of_ble_eq_true rfl)
    have hF := Fr.call hF hE hw_106.2 (by decide)
    have hE := hE.tr hE1
    obtain rfl : n_107 = 0 := hn_108
    obtain ⟨⟨v_109, rfl, hv9⟩, hw_106⟩ := hw_106
    obtain ⟨b_110, rfl, hb9⟩ := hv9
    have hT := hT.add hb9
    have hk_111 : rd f_105 h0 1 = .int li := (hw_106.1 h0 (hTo.at 1 rfl).1 4 (hTo.at 1 rfl).2 1 (by decide)).trans hm_li
    have hk_112 : rd f_105 h0 4 = .int cn := (hw_106.1 h0 (hTo.at 1 rfl).1 4 (hTo.at 1 rfl).2 4 (by decide)).trans hm_cn
    refine W.eq (g2 := F0 m 130 ls [.ref b_110, .ref h0]) rfl ?_
    have hTo := hT
    refine K_V ⟨hx, hb, hml, hown, hts⟩ (t_X4_doLime l dC dI sa hlt g _ _ h0 b_110 _ (hT.sub [2, 0] rfl)  ) (cwV 1 hts gX4_doPlain_X4_doLime rfl rfl rfl (by decide +kernel) ⟨Nat.le_of_ble_eq_true rfl, Nat.le_of_ble_eq_true rfl⟩) hP hD hK hS hA hev hT 2 4 rfl rfl rfl rfl hl.1 rfl (Nat.le_of_ble_eq_true rfl) dX4_doPlain_130 ⟨Nat.le_of_ble_eq_true rfl, Nat.le_of_ble_eq_true rfl⟩ (fun r L_113 f_114 H locs hw_115 hP hD hS hT hE1 => ?_)
    have hF := Fr.call hF hE hw_115.2 (by decide)
    have hE := hE.tr hE1
    obtain ⟨⟨z_116, rfl⟩, hw_115⟩ := hw_115
    have hk_117 : rd f_114 h0 1 = .int li := (hw_115.1 h0 (hTo.at 2 rfl).1 4 (hTo.at 2 rfl).2 1 (by decide)).trans hk_111
    have hk_118 : rd f_114 h0 4 = .int cn := (hw_115.1 h0 (hTo.at 2 rfl).1 4 (hTo.at 2 rfl).2 4 (by decide)).trans hk_112
    refine W.eq (g2 := F0 m 133 ls [.int z_116]) rfl ?_
    refine vx_ret ?_
    exact K_iZ hx hb hr hlocks hP hD hK hS hT hE ⟨⟨_, rfl⟩, hF, _, hk_118, by omega⟩ (rfl) (Nat.le_of_ble_eq_true rfl) (Nat.le_of_ble_eq_true rfl) (Nat.le_of_ble_eq_true rfl) dX4_doPlain_133
  refine lv_tableOut (tgt := 134) hx hb dX4_doPlain_4 (tab_out_1_6 c_5 c_33 c_40 c_51 c_66 c_95) (by decide) ?_
  refine lv_bipush (v := 100) hx hb dX4_doPlain_134 (by decide) ?_
  refine lv_aload_n hx hb dX4_doPlain_136 rfl (lv_at hl 1 rfl) ?_
  refine T_get (ci := 5) (C := RX5) (T := TX5) (N := 8) (t := tI) hx hb hts inw_X4_doPlain_5 hown hK hP hT 1 rfl rfl 2 (by decide) (hts (.fieldLink RX4 76 "VatHouse$Step" "number" "I") (by decide +kernel)) (fun _ h9 => h9) rfl dX4_doPlain_137 (fun v_121 hv_119 hr_120 => ?_)
  obtain ⟨z_122, rfl⟩ := hv_119
  refine lv_iadd hx hb dX4_doPlain_140 ?_
  refine lv_topi (fun z_123 ez_123 => ?_)
  refine vx_ret ?_
  exact K_iZ hx hb hr hlocks hP hD hK hS hT hE ⟨⟨_, rfl⟩, hF, _, hm_cn, by omega⟩ (rfl) (Nat.le_of_ble_eq_true rfl) (Nat.le_of_ble_eq_true rfl) (Nat.le_of_ble_eq_true rfl) dX4_doPlain_141

abbrev rm_X4_doSteps (j : Nat) (d : Nat) : Room := { frames := 3 * j + 30, cells := 1, slots := 6, locals := 100 * j + 500 }
abbrev rm_X4_doBuilt (j : Nat) (d : Nat) : Room := { frames := 3 * j + 32, cells := 1, slots := 6, locals := 100 * j + 566 }
abbrev rm_X4_doTimes (j : Nat) (d : Nat) : Room := { frames := 3 * j + 31, cells := 1, slots := 6, locals := 100 * j + 533 }
theorem inw_X4_doTimes_5 : ∀ w ∈ wsX50, w ∈ wsX4_doTimes := by decide +kernel
set_option maxHeartbeats 800000 in
set_option maxRecDepth 100000 in
theorem t_X4_doTimes (l : Launch) (dC : Nat → ClassId) (dI : Nat → Nat → Nat) (sa : Nat → Nat) (hlt : l.stackTraces = false) (g : Nat → Nat) (L : List Nat) (f : Nat → va_E) (j : Nat) (d : Nat) (h0 : Nat) (o : Nat) (w : Nat) (dep : Int32) (li : Int32) (cn : Int32) (sz : Nat) (hT : TP g L f [(h0, (0, 4, 0)), (o, (0, 5, 0)), (w, (0, 0, 0))]) (hm_li : rd f h0 1 = .int li) (hm_cn : rd f h0 4 = .int cn) (hd : dep = nI d) (hdj : d + j = 9) (IHS : ∀ (L : List Nat) (f : Nat → va_E) (h0 : Nat) (fs : Value) (w : Nat) (dep : Int32) (li : Int32) (cn : Int32) (sz : Nat) (hT : TP g L f [(h0, (0, 4, 0)), (w, (0, 0, 0))]) (hn_fs : okv L f (2, 0, 5, 0) fs) (hm_li : rd f h0 1 = .int li) (hm_cn : rd f h0 4 = .int cn) (hd : dep = nI d), KY l dC dI sa g yX4_doSteps wsX4_doSteps (rm_X4_doSteps j d) [.ref h0, fs, .ref w, .int dep] L f sz (fun r L' f' => (∃ z : Int32, r = some (.int z)) ∧ Fr [(0, 0), (0, 1), (0, 2), (0, 3), (0, 4), (0, 5), (0, 6), (0, 7), (7, 0), (7, 1), (7, 2), (7, 3), (7, 4), (7, 5), (7, 6), (7, 7), (8, 0), (8, 1), (8, 2), (4, 4), (4, 5), (4, 6), (4, 7)] L f f' ∧ (∃ cn' : Int32, rd f' h0 4 = .int cn' ∧ (cn.toInt ≤ cn'.toInt))) (fun n _ => n = 0) (fun E L' f' => (E = NSE) ∧ Fr [(0, 0), (0, 1), (0, 2), (0, 3), (0, 4), (0, 5), (0, 6), (0, 7), (7, 0), (7, 1), (7, 2), (7, 3), (7, 4), (7, 5), (7, 6), (7, 7), (8, 0), (8, 1), (8, 2), (4, 4), (4, 5), (4, 6), (4, 7)] L f f') 1 6) : KY l dC dI sa g yX4_doTimes wsX4_doTimes (rm_X4_doTimes j d) [.ref h0, .ref o, .ref w, .int dep] L f sz (fun r L' f' => (∃ z : Int32, r = some (.int z)) ∧ Fr [(0, 0), (0, 1), (0, 2), (0, 3), (0, 4), (0, 5), (0, 6), (0, 7), (7, 0), (7, 1), (7, 2), (7, 3), (7, 4), (7, 5), (7, 6), (7, 7), (8, 0), (8, 1), (8, 2), (4, 4), (4, 5), (4, 6), (4, 7)] L f f' ∧ (∃ cn' : Int32, rd f' h0 4 = .int cn' ∧ (cn.toInt ≤ cn'.toInt))) (fun n _ => n = 0) (fun E L' f' => (E = NSE) ∧ Fr [(0, 0), (0, 1), (0, 2), (0, 3), (0, 4), (0, 5), (0, 6), (0, 7), (7, 0), (7, 1), (7, 2), (7, 3), (7, 4), (7, 5), (7, 6), (7, 7), (8, 0), (8, 1), (8, 2), (4, 4), (4, 5), (4, 6), (4, 7)] L f f') 1 6 := by
  refine KY.start (cc := cX4_doTimes) (maxL := 6) (ret := (some .int)) (by decide) rfl (Nat.le_of_ble_eq_true rfl) ?_
  intro p e s m below meth c ls hst hno hP hK hD hev hS hl
  obtain ⟨hx, hb, hr, hml, hts, hown, hlocks, hin⟩ := hst
  have hown : s.vm.findClass RX4 = some m.cls := hown
  have hin : meth.name = yX4_doTimes.name := hin
  have hA : ∀ q : Nat, s.heap.size ≤ q → va_A (va_pl L f) s.heap.size q := fun _ h => Or.inr h
  have hE : Ext L f L f := Ext.rf
  have hF : Fr [(0, 0), (0, 1), (0, 2), (0, 3), (0, 4), (0, 5), (0, 6), (0, 7), (7, 0), (7, 1), (7, 2), (7, 3), (7, 4), (7, 5), (7, 6), (7, 7), (8, 0), (8, 1), (8, 2), (4, 4), (4, 5), (4, 6), (4, 7)] L f f := Fr.rf
  have hl : lv_has ls 6 [(0, .ref h0), (1, .ref o), (2, .ref w), (3, .int dep)] := hl
  refine lv_iconst (v := 0) hx hb dX4_doTimes_0 (by decide) ?_
  refine lv_istore (lv' := [(4, .int 0), (0, .ref h0), (1, .ref o), (2, .ref w), (3, .int dep)]) hx hb dX4_doTimes_1 hl (by decide) rfl (fun ls hl => ?_)
  refine lv_iconst (v := 0) hx hb dX4_doTimes_3 (by decide) ?_
  refine lv_istore (lv' := [(5, .int 0), (4, .int 0), (0, .ref h0), (1, .ref o), (2, .ref w), (3, .int dep)]) hx hb dX4_doTimes_4 hl (by decide) rfl (fun ls hl => ?_)
  have lp : ∀ (n : Nat) (oc : Int32) (ii : Int32) (k1 : Int32) (L1 : List Nat) (f1 : Nat → va_E) (H : Heap) (locs : List Loc) (ls : Array Slot), ((oc = 0 → (li.toInt - k1.toInt).toNat + 1 < n) ∧ 0 < n) → rd f1 h0 1 = .int li → rd f1 h0 4 = .int k1 → (cn.toInt ≤ k1.toInt) → va_P (dC, dI) vwCl (va_pl L1 f1) H → va_D (va_A (va_pl L f) s.heap.size) (va_pl L1 f1) → va_S (va_A (va_pl L f) s.heap.size) s.heap H locs → TP g L1 f1 [(h0, (0, 4, 0)), (o, (0, 5, 0)), (w, (0, 0, 0))] → Ext L f L1 f1 → Fr [(0, 0), (0, 1), (0, 2), (0, 3), (0, 4), (0, 5), (0, 6), (0, 7), (7, 0), (7, 1), (7, 2), (7, 3), (7, 4), (7, 5), (7, 6), (7, 7), (8, 0), (8, 1), (8, 2), (4, 4), (4, 5), (4, 6), (4, 7)] L f f1 → lv_has ls 6 [(4, .int oc), (5, .int ii), (0, .ref h0), (1, .ref o), (2, .ref w), (3, .int dep)] → W p l e (rm_X4_doTimes j d) s m [.ref h0, .ref o, .ref w, .int dep].toArray below meth c H locs 0 0 (vx_MQ below (Qz dC dI g L f (va_A (va_pl L f) s.heap.size) (fun r L' f' => (∃ z : Int32, r = some (.int z)) ∧ Fr [(0, 0), (0, 1), (0, 2), (0, 3), (0, 4), (0, 5), (0, 6), (0, 7), (7, 0), (7, 1), (7, 2), (7, 3), (7, 4), (7, 5), (7, 6), (7, 7), (8, 0), (8, 1), (8, 2), (4, 4), (4, 5), (4, 6), (4, 7)] L f f' ∧ (∃ cn' : Int32, rd f' h0 4 = .int cn' ∧ (cn.toInt ≤ cn'.toInt))) (fun n _ => n = 0)) (XK dC dI g L f s.heap.size (fun E L' f' => (E = NSE) ∧ Fr [(0, 0), (0, 1), (0, 2), (0, 3), (0, 4), (0, 5), (0, 6), (0, 7), (7, 0), (7, 1), (7, 2), (7, 3), (7, 4), (7, 5), (7, 6), (7, 7), (8, 0), (8, 1), (8, 2), (4, 4), (4, 5), (4, 6), (4, 7)] L f f')) [.ref h0, .ref o, .ref w, .int dep].toArray s (1) (6) (va_A (va_pl L f) s.heap.size)) (F0 m 6 ls []) := by
    intro n
    induction n with
    | zero => intro oc ii k1 L1 f1 H locs ls hm hk_h0_1 hk_h0_4 hle hP hD hS hT hE hF hl; exact absurd hm.2 (by omega)
    | succ n ih =>
      intro oc ii k1 L1 f1 H locs ls hm hk_h0_1 hk_h0_4 hle hP hD hS hT hE hF hl
      refine lv_iload hx hb dX4_doTimes_6 (lv_at hl 1 rfl) ?_
      refine lv_aload_n hx hb dX4_doTimes_8 rfl (lv_at hl 3 rfl) ?_
      refine T_get (ci := 5) (C := RX5) (T := TX5) (N := 8) (t := tI) hx hb hts inw_X4_doTimes_5 hown hK hP hT 1 rfl rfl 2 (by decide) (hts (.fieldLink RX4 76 "VatHouse$Step" "number" "I") (by decide +kernel)) (fun _ h9 => h9) rfl dX4_doTimes_9 (fun v_3 hv_1 hr_2 => ?_)
      obtain ⟨z_4, rfl⟩ := hv_1
      refine lv_icmp_ge (tgt := 49) hx hb dX4_doTimes_12 (by decide) (fun c_5 => ?_) (fun c_5 => ?_)
      · refine lv_iload hx hb dX4_doTimes_49 (lv_at hl 0 rfl) ?_
        refine vx_ret ?_
        exact K_iZ hx hb hr hlocks hP hD hK hS hT hE ⟨⟨_, rfl⟩, hF, _, hk_h0_4, by omega⟩ (rfl) (by first | exact Nat.le_of_ble_eq_true rfl | (simp only [rm_X4_doTimes]; omega) | omega) (by first | exact Nat.le_of_ble_eq_true rfl | (simp only [rm_X4_doTimes]; omega) | omega) (by first | exact Nat.le_of_ble_eq_true rfl | (simp only [rm_X4_doTimes]; omega) | omega) dX4_doTimes_51
      · refine lv_iload hx hb dX4_doTimes_15 (lv_at hl 0 rfl) ?_
        refine lv_if_ne (tgt := 49) hx hb dX4_doTimes_17 (by decide) (fun c_6 => ?_) (fun c_6 => ?_)
        · refine lv_iload hx hb dX4_doTimes_49 (lv_at hl 0 rfl) ?_
          refine vx_ret ?_
          exact K_iZ hx hb hr hlocks hP hD hK hS hT hE ⟨⟨_, rfl⟩, hF, _, hk_h0_4, by omega⟩ (rfl) (by first | exact Nat.le_of_ble_eq_true rfl | (simp only [rm_X4_doTimes]; omega) | omega) (by first | exact Nat.le_of_ble_eq_true rfl | (simp only [rm_X4_doTimes]; omega) | omega) (by first | exact Nat.le_of_ble_eq_true rfl | (simp only [rm_X4_doTimes]; omega) | omega) dX4_doTimes_51
        · refine lv_aload_n hx hb dX4_doTimes_20 rfl (lv_at hl 2 rfl) ?_
          have hTo := hT
          refine K_V ⟨hx, hb, hml, hown, hts⟩ (t_X4_mayCount l dC dI sa hlt g _ _ h0 li k1 _ (hT.sub [0] rfl)  hk_h0_1 hk_h0_4 ) (cwV 0 hts gX4_doTimes_X4_mayCount rfl rfl rfl (by decide +kernel) ⟨(by first | exact Nat.le_of_ble_eq_true rfl | (simp only [rm_X4_mayCount, rm_X4_doTimes]; omega)), (by first | exact Nat.le_of_ble_eq_true rfl | (simp only [rm_X4_mayCount, rm_X4_doTimes]; omega))⟩) hP hD hK hS hA hev hT 0 4 rfl rfl rfl rfl hl.1 rfl (Nat.le_of_ble_eq_true rfl) dX4_doTimes_21 ⟨(by first | exact Nat.le_of_ble_eq_true rfl | (simp only [rm_X4_doTimes]; omega) | omega), (by first | exact Nat.le_of_ble_eq_true rfl | (simp only [rm_X4_doTimes]; omega) | omega)⟩ (fun r L_7 f_8 H locs hw_9 hP hD hS hT hE1 => ?_)
          have hF := Fr.call hF hE hw_9.2 (by decide)
          have hE := hE.tr hE1
          obtain ⟨⟨rfl, hz2_10⟩ | ⟨rfl, hz2_10⟩, hw_9⟩ := hw_9
          · have hk_11 : rd f_8 h0 1 = .int li := (hw_9.1 h0 (hTo.at 0 rfl).1 4 (hTo.at 0 rfl).2 1 (by decide)).trans hk_h0_1
            refine W.eq (g2 := F0 m 24 ls [.int 0]) rfl ?_
            refine lv_if_eq (tgt := 40) hx hb dX4_doTimes_24 (by decide) (fun c_12 => ?_) (fun c_12 => ?_)
            rotate_left
            · exact absurd c_12 (by decide)
            refine lv_iconst (v := (-1)) hx hb dX4_doTimes_40 (by decide) ?_
            refine lv_istore (lv' := [(4, .int (-1)), (5, .int ii), (0, .ref h0), (1, .ref o), (2, .ref w), (3, .int dep)]) hx hb dX4_doTimes_41 hl (by decide) rfl (fun ls hl => ?_)
            refine lv_iinc (v := (ii + 1)) (lv' := [(5, .int (ii + 1)), (4, .int (-1)), (0, .ref h0), (1, .ref o), (2, .ref w), (3, .int dep)]) hx hb dX4_doTimes_43 hl (k := 1) rfl rfl (by decide) rfl (fun ls hl => ?_)
            refine lv_goto (tgt := 6) hx hb dX4_doTimes_46 (by decide) ?_
            exact ih (-1) (ii + 1) k1 _ _ _ _ _ (⟨fun h9 => absurd h9 (by decide), by have := hm.1 c_6; omega⟩) hk_11 hz2_10 (by omega) hP hD hS (hT.sub [0, 1, 2] rfl) hE hF (lv_sub hl [1, 0, 2, 3, 4, 5] rfl)
          · have hk_13 : rd f_8 h0 1 = .int li := (hw_9.1 h0 (hTo.at 0 rfl).1 4 (hTo.at 0 rfl).2 1 (by decide)).trans hk_h0_1
            obtain ⟨kn_14, hk_15, hu_16, hv_17⟩ := hz2_10
            refine W.eq (g2 := F0 m 24 ls [.int 1]) rfl ?_
            refine lv_if_eq (tgt := 40) hx hb dX4_doTimes_24 (by decide) (fun c_18 => ?_) (fun c_18 => ?_)
            · exact absurd c_18 (by decide)
            refine lv_aload_n hx hb dX4_doTimes_27 rfl (lv_at hl 2 rfl) ?_
            refine lv_aload_n hx hb dX4_doTimes_28 rfl (lv_at hl 3 rfl) ?_
            refine T_get (ci := 5) (C := RX5) (T := TX5) (N := 8) (t := (2, 0, 5, 0)) hx hb hts inw_X4_doTimes_5 hown hK hP hT 1 rfl rfl 5 (by decide) (hts (.fieldLink RX4 114 "VatHouse$Step" "block" "LVatHouse$Step;") (by decide +kernel)) (fun _ h9 => h9) rfl dX4_doTimes_29 (fun v_21 hv_19 hr_20 => ?_)
            rcases hv_19 with rfl | ⟨b_22, rfl, hb9⟩
            · refine lv_aload_n hx hb dX4_doTimes_32 rfl (lv_at hl 4 rfl) ?_
              refine lv_iload_n hx hb dX4_doTimes_33 rfl (lv_at hl 5 rfl) ?_
              have hTo := hT
              refine K_VY ⟨hx, hb, hml, hown, hts⟩ (IHS _ _ h0 .null w dep li kn_14 _ (hT.sub [0, 2] rfl) (Or.inl rfl) hk_13 hk_15 hd) (cwV 3 hts gX4_doTimes_X4_doSteps rfl rfl rfl (by decide +kernel) ⟨(by first | exact Nat.le_of_ble_eq_true rfl | (simp only [rm_X4_doSteps, rm_X4_doTimes]; omega)), (by first | exact Nat.le_of_ble_eq_true rfl | (simp only [rm_X4_doSteps, rm_X4_doTimes]; omega))⟩) hP hD hK hS hA hev hT 0 4 rfl rfl rfl rfl hl.1 rfl (Nat.le_of_ble_eq_true rfl) dX4_doTimes_34 ⟨(by first | exact Nat.le_of_ble_eq_true rfl | (simp only [rm_X4_doTimes]; omega) | omega), (by first | exact Nat.le_of_ble_eq_true rfl | (simp only [rm_X4_doTimes]; omega) | omega)⟩ (fun E ce q9 L9 f9 H locs hpx hP hD hS hT hE1 hce hcv hcl => ?_) (fun r L_23 f_24 n_26 H locs hw_25 hn_27 hP hD hS hT hE1 => ?_)
              · have hF := Fr.call hF hE hpx.2 (by decide)
                have hE := hE.tr hE1
                exact K_out hno hlocks ⟨hpx.1, hF⟩ hP hD hK hS hT hE hce hcv hcl (by first | exact Nat.le_of_ble_eq_true rfl | (simp only [rm_X4_doTimes]; omega) | omega) (by first | exact Nat.le_of_ble_eq_true rfl | (simp only [rm_X4_doTimes]; omega) | omega)
              have hF := Fr.call hF hE hw_25.2.1 (by decide)
              have hE := hE.tr hE1
              obtain rfl : n_26 = 0 := hn_27
              obtain ⟨⟨z_28, rfl⟩, hw_25⟩ := hw_25
              obtain ⟨hfr_29, cn_30, hk_31, hrel_32⟩ := hw_25
              have hk_34 : rd f_24 h0 1 = .int li := (hfr_29.1 h0 (hTo.at 0 rfl).1 4 (hTo.at 0 rfl).2 1 (by decide)).trans hk_13
              refine W.eq (g2 := F0 m 37 ls [.int z_28]) rfl ?_
              refine lv_goto (tgt := 41) hx hb dX4_doTimes_37 (by decide) ?_
              refine lv_istore (lv' := [(4, .int z_28), (5, .int ii), (0, .ref h0), (1, .ref o), (2, .ref w), (3, .int dep)]) hx hb dX4_doTimes_41 hl (by decide) rfl (fun ls hl => ?_)
              refine lv_iinc (v := (ii + 1)) (lv' := [(5, .int (ii + 1)), (4, .int z_28), (0, .ref h0), (1, .ref o), (2, .ref w), (3, .int dep)]) hx hb dX4_doTimes_43 hl (k := 1) rfl rfl (by decide) rfl (fun ls hl => ?_)
              refine lv_goto (tgt := 6) hx hb dX4_doTimes_46 (by decide) ?_
              exact ih z_28 (ii + 1) cn_30 _ _ _ _ _ (⟨fun _ => by have := hm.1 c_6; omega, by have := hm.1 c_6; omega⟩) hk_34 hk_31 (by omega) hP hD hS (hT.sub [0, 1, 2] rfl) hE hF (lv_sub hl [1, 0, 2, 3, 4, 5] rfl)
            · have hT := hT.add hb9
              refine lv_aload_n hx hb dX4_doTimes_32 rfl (lv_at hl 4 rfl) ?_
              refine lv_iload_n hx hb dX4_doTimes_33 rfl (lv_at hl 5 rfl) ?_
              have hTo := hT
              refine K_VY ⟨hx, hb, hml, hown, hts⟩ (IHS _ _ h0 (.ref b_22) w dep li kn_14 _ (hT.sub [1, 3] rfl) (Or.inr ⟨_, rfl, hT.at 0 rfl⟩) hk_13 hk_15 hd) (cwV 3 hts gX4_doTimes_X4_doSteps rfl rfl rfl (by decide +kernel) ⟨(by first | exact Nat.le_of_ble_eq_true rfl | (simp only [rm_X4_doSteps, rm_X4_doTimes]; omega)), (by first | exact Nat.le_of_ble_eq_true rfl | (simp only [rm_X4_doSteps, rm_X4_doTimes]; omega))⟩) hP hD hK hS hA hev hT 1 4 rfl rfl rfl rfl hl.1 rfl (Nat.le_of_ble_eq_true rfl) dX4_doTimes_34 ⟨(by first | exact Nat.le_of_ble_eq_true rfl | (simp only [rm_X4_doTimes]; omega) | omega), (by first | exact Nat.le_of_ble_eq_true rfl | (simp only [rm_X4_doTimes]; omega) | omega)⟩ (fun E ce q9 L9 f9 H locs hpx hP hD hS hT hE1 hce hcv hcl => ?_) (fun r L_35 f_36 n_38 H locs hw_37 hn_39 hP hD hS hT hE1 => ?_)
              · have hF := Fr.call hF hE hpx.2 (by decide)
                have hE := hE.tr hE1
                exact K_out hno hlocks ⟨hpx.1, hF⟩ hP hD hK hS hT hE hce hcv hcl (by first | exact Nat.le_of_ble_eq_true rfl | (simp only [rm_X4_doTimes]; omega) | omega) (by first | exact Nat.le_of_ble_eq_true rfl | (simp only [rm_X4_doTimes]; omega) | omega)
              have hF := Fr.call hF hE hw_37.2.1 (by decide)
              have hE := hE.tr hE1
              obtain rfl : n_38 = 0 := hn_39
              obtain ⟨⟨z_40, rfl⟩, hw_37⟩ := hw_37
              obtain ⟨hfr_41, cn_42, hk_43, hrel_44⟩ := hw_37
              have hk_46 : rd f_36 h0 1 = .int li := (hfr_41.1 h0 (hTo.at 1 rfl).1 4 (hTo.at 1 rfl).2 1 (by decide)).trans hk_13
              refine W.eq (g2 := F0 m 37 ls [.int z_40]) rfl ?_
              refine lv_goto (tgt := 41) hx hb dX4_doTimes_37 (by decide) ?_
              refine lv_istore (lv' := [(4, .int z_40), (5, .int ii), (0, .ref h0), (1, .ref o), (2, .ref w), (3, .int dep)]) hx hb dX4_doTimes_41 hl (by decide) rfl (fun ls hl => ?_)
              refine lv_iinc (v := (ii + 1)) (lv' := [(5, .int (ii + 1)), (4, .int z_40), (0, .ref h0), (1, .ref o), (2, .ref w), (3, .int dep)]) hx hb dX4_doTimes_43 hl (k := 1) rfl rfl (by decide) rfl (fun ls hl => ?_)
              refine lv_goto (tgt := 6) hx hb dX4_doTimes_46 (by decide) ?_
              exact ih z_40 (ii + 1) cn_42 _ _ _ _ _ (⟨fun _ => by have := hm.1 c_6; omega, by have := hm.1 c_6; omega⟩) hk_46 hk_43 (by omega) hP hD hS (hT.sub [1, 2, 3] rfl) hE hF (lv_sub hl [1, 0, 2, 3, 4, 5] rfl)
  exact lp ((li.toInt - cn.toInt).toNat + 2) 0 0 cn _ _ _ _ _ (⟨fun _ => by omega, by omega⟩) hm_li hm_cn (by omega) hP hD hS (hT.sub [0, 1, 2] rfl) hE hF (lv_sub hl [1, 0, 2, 3, 4, 5] rfl)

abbrev rm_X4_doUntil (j : Nat) (d : Nat) : Room := { frames := 3 * j + 31, cells := 1, slots := 6, locals := 100 * j + 533 }
theorem inw_X4_doUntil_4 : ∀ w ∈ wsX40, w ∈ wsX4_doUntil := by decide +kernel
theorem inw_X4_doUntil_5 : ∀ w ∈ wsX50, w ∈ wsX4_doUntil := by decide +kernel
set_option maxHeartbeats 800000 in
set_option maxRecDepth 100000 in
theorem t_X4_doUntil (l : Launch) (dC : Nat → ClassId) (dI : Nat → Nat → Nat) (sa : Nat → Nat) (hlt : l.stackTraces = false) (g : Nat → Nat) (L : List Nat) (f : Nat → va_E) (j : Nat) (d : Nat) (h0 : Nat) (o : Nat) (w : Nat) (dep : Int32) (li : Int32) (cn : Int32) (sz : Nat) (hT : TP g L f [(h0, (0, 4, 0)), (o, (0, 5, 0)), (w, (0, 0, 0))]) (hm_li : rd f h0 1 = .int li) (hm_cn : rd f h0 4 = .int cn) (hd : dep = nI d) (hdj : d + j = 9) (IHS : ∀ (L : List Nat) (f : Nat → va_E) (h0 : Nat) (fs : Value) (w : Nat) (dep : Int32) (li : Int32) (cn : Int32) (sz : Nat) (hT : TP g L f [(h0, (0, 4, 0)), (w, (0, 0, 0))]) (hn_fs : okv L f (2, 0, 5, 0) fs) (hm_li : rd f h0 1 = .int li) (hm_cn : rd f h0 4 = .int cn) (hd : dep = nI d), KY l dC dI sa g yX4_doSteps wsX4_doSteps (rm_X4_doSteps j d) [.ref h0, fs, .ref w, .int dep] L f sz (fun r L' f' => (∃ z : Int32, r = some (.int z)) ∧ Fr [(0, 0), (0, 1), (0, 2), (0, 3), (0, 4), (0, 5), (0, 6), (0, 7), (7, 0), (7, 1), (7, 2), (7, 3), (7, 4), (7, 5), (7, 6), (7, 7), (8, 0), (8, 1), (8, 2), (4, 4), (4, 5), (4, 6), (4, 7)] L f f' ∧ (∃ cn' : Int32, rd f' h0 4 = .int cn' ∧ (cn.toInt ≤ cn'.toInt))) (fun n _ => n = 0) (fun E L' f' => (E = NSE) ∧ Fr [(0, 0), (0, 1), (0, 2), (0, 3), (0, 4), (0, 5), (0, 6), (0, 7), (7, 0), (7, 1), (7, 2), (7, 3), (7, 4), (7, 5), (7, 6), (7, 7), (8, 0), (8, 1), (8, 2), (4, 4), (4, 5), (4, 6), (4, 7)] L f f') 1 6) : KY l dC dI sa g yX4_doUntil wsX4_doUntil (rm_X4_doUntil j d) [.ref h0, .ref o, .ref w, .int dep] L f sz (fun r L' f' => (∃ z : Int32, r = some (.int z)) ∧ Fr [(0, 0), (0, 1), (0, 2), (0, 3), (0, 4), (0, 5), (0, 6), (0, 7), (7, 0), (7, 1), (7, 2), (7, 3), (7, 4), (7, 5), (7, 6), (7, 7), (8, 0), (8, 1), (8, 2), (4, 4), (4, 5), (4, 6), (4, 7)] L f f' ∧ (∃ cn' : Int32, rd f' h0 4 = .int cn' ∧ (cn.toInt ≤ cn'.toInt))) (fun n _ => n = 0) (fun E L' f' => (E = NSE) ∧ Fr [(0, 0), (0, 1), (0, 2), (0, 3), (0, 4), (0, 5), (0, 6), (0, 7), (7, 0), (7, 1), (7, 2), (7, 3), (7, 4), (7, 5), (7, 6), (7, 7), (8, 0), (8, 1), (8, 2), (4, 4), (4, 5), (4, 6), (4, 7)] L f f') 1 6 := by
  refine KY.start (cc := cX4_doUntil) (maxL := 6) (ret := (some .int)) (by decide) rfl (Nat.le_of_ble_eq_true rfl) ?_
  intro p e s m below meth c ls hst hno hP hK hD hev hS hl
  obtain ⟨hx, hb, hr, hml, hts, hown, hlocks, hin⟩ := hst
  have hown : s.vm.findClass RX4 = some m.cls := hown
  have hin : meth.name = yX4_doUntil.name := hin
  have hA : ∀ q : Nat, s.heap.size ≤ q → va_A (va_pl L f) s.heap.size q := fun _ h => Or.inr h
  have hE : Ext L f L f := Ext.rf
  have hF : Fr [(0, 0), (0, 1), (0, 2), (0, 3), (0, 4), (0, 5), (0, 6), (0, 7), (7, 0), (7, 1), (7, 2), (7, 3), (7, 4), (7, 5), (7, 6), (7, 7), (8, 0), (8, 1), (8, 2), (4, 4), (4, 5), (4, 6), (4, 7)] L f f := Fr.rf
  have hl : lv_has ls 6 [(0, .ref h0), (1, .ref o), (2, .ref w), (3, .int dep)] := hl
  refine lv_iconst (v := 0) hx hb dX4_doUntil_0 (by decide) ?_
  refine lv_istore (lv' := [(4, .int 0), (0, .ref h0), (1, .ref o), (2, .ref w), (3, .int dep)]) hx hb dX4_doUntil_1 hl (by decide) rfl (fun ls hl => ?_)
  refine lv_iconst (v := 0) hx hb dX4_doUntil_3 (by decide) ?_
  refine lv_istore (lv' := [(5, .int 0), (4, .int 0), (0, .ref h0), (1, .ref o), (2, .ref w), (3, .int dep)]) hx hb dX4_doUntil_4 hl (by decide) rfl (fun ls hl => ?_)
  have lp : ∀ (n : Nat) (oc : Int32) (ii : Int32) (k1 : Int32) (L1 : List Nat) (f1 : Nat → va_E) (H : Heap) (locs : List Loc) (ls : Array Slot), ((oc = 0 → (li.toInt - k1.toInt).toNat + 1 < n) ∧ 0 < n) → rd f1 h0 1 = .int li → rd f1 h0 4 = .int k1 → (cn.toInt ≤ k1.toInt) → va_P (dC, dI) vwCl (va_pl L1 f1) H → va_D (va_A (va_pl L f) s.heap.size) (va_pl L1 f1) → va_S (va_A (va_pl L f) s.heap.size) s.heap H locs → TP g L1 f1 [(h0, (0, 4, 0)), (o, (0, 5, 0)), (w, (0, 0, 0))] → Ext L f L1 f1 → Fr [(0, 0), (0, 1), (0, 2), (0, 3), (0, 4), (0, 5), (0, 6), (0, 7), (7, 0), (7, 1), (7, 2), (7, 3), (7, 4), (7, 5), (7, 6), (7, 7), (8, 0), (8, 1), (8, 2), (4, 4), (4, 5), (4, 6), (4, 7)] L f f1 → lv_has ls 6 [(4, .int oc), (5, .int ii), (0, .ref h0), (1, .ref o), (2, .ref w), (3, .int dep)] → W p l e (rm_X4_doUntil j d) s m [.ref h0, .ref o, .ref w, .int dep].toArray below meth c H locs 0 0 (vx_MQ below (Qz dC dI g L f (va_A (va_pl L f) s.heap.size) (fun r L' f' => (∃ z : Int32, r = some (.int z)) ∧ Fr [(0, 0), (0, 1), (0, 2), (0, 3), (0, 4), (0, 5), (0, 6), (0, 7), (7, 0), (7, 1), (7, 2), (7, 3), (7, 4), (7, 5), (7, 6), (7, 7), (8, 0), (8, 1), (8, 2), (4, 4), (4, 5), (4, 6), (4, 7)] L f f' ∧ (∃ cn' : Int32, rd f' h0 4 = .int cn' ∧ (cn.toInt ≤ cn'.toInt))) (fun n _ => n = 0)) (XK dC dI g L f s.heap.size (fun E L' f' => (E = NSE) ∧ Fr [(0, 0), (0, 1), (0, 2), (0, 3), (0, 4), (0, 5), (0, 6), (0, 7), (7, 0), (7, 1), (7, 2), (7, 3), (7, 4), (7, 5), (7, 6), (7, 7), (8, 0), (8, 1), (8, 2), (4, 4), (4, 5), (4, 6), (4, 7)] L f f')) [.ref h0, .ref o, .ref w, .int dep].toArray s (1) (6) (va_A (va_pl L f) s.heap.size)) (F0 m 6 ls []) := by
    intro n
    induction n with
    | zero => intro oc ii k1 L1 f1 H locs ls hm hk_h0_1 hk_h0_4 hle hP hD hS hT hE hF hl; exact absurd hm.2 (by omega)
    | succ n ih =>
      intro oc ii k1 L1 f1 H locs ls hm hk_h0_1 hk_h0_4 hle hP hD hS hT hE hF hl
      refine lv_iload hx hb dX4_doUntil_6 (lv_at hl 1 rfl) ?_
      refine lv_aload_n hx hb dX4_doUntil_8 rfl (lv_at hl 2 rfl) ?_
      refine T_get (ci := 4) (C := RX4) (T := TX4) (N := 8) (t := tI) hx hb hts inw_X4_doUntil_4 hown hK hP hT 0 rfl rfl 1 (by decide) (hts (.fieldLink RX4 19 "VatHouse$Runner" "limit" "I") (by decide +kernel)) (fun _ h9 => h9) rfl dX4_doUntil_9 (fun v_3 hv_1 hr_2 => ?_)
      obtain rfl : v_3 = .int li := hr_2.symm.trans hk_h0_1
      refine lv_icmp_gt (tgt := 60) hx hb dX4_doUntil_12 (by decide) (fun c_4 => ?_) (fun c_4 => ?_)
      · refine lv_iload hx hb dX4_doUntil_60 (lv_at hl 0 rfl) ?_
        refine vx_ret ?_
        exact K_iZ hx hb hr hlocks hP hD hK hS hT hE ⟨⟨_, rfl⟩, hF, _, hk_h0_4, by omega⟩ (rfl) (by first | exact Nat.le_of_ble_eq_true rfl | (simp only [rm_X4_doUntil]; omega) | omega) (by first | exact Nat.le_of_ble_eq_true rfl | (simp only [rm_X4_doUntil]; omega) | omega) (by first | exact Nat.le_of_ble_eq_true rfl | (simp only [rm_X4_doUntil]; omega) | omega) dX4_doUntil_62
      · refine lv_iload hx hb dX4_doUntil_15 (lv_at hl 0 rfl) ?_
        refine lv_if_ne (tgt := 60) hx hb dX4_doUntil_17 (by decide) (fun c_5 => ?_) (fun c_5 => ?_)
        · refine lv_iload hx hb dX4_doUntil_60 (lv_at hl 0 rfl) ?_
          refine vx_ret ?_
          exact K_iZ hx hb hr hlocks hP hD hK hS hT hE ⟨⟨_, rfl⟩, hF, _, hk_h0_4, by omega⟩ (rfl) (by first | exact Nat.le_of_ble_eq_true rfl | (simp only [rm_X4_doUntil]; omega) | omega) (by first | exact Nat.le_of_ble_eq_true rfl | (simp only [rm_X4_doUntil]; omega) | omega) (by first | exact Nat.le_of_ble_eq_true rfl | (simp only [rm_X4_doUntil]; omega) | omega) dX4_doUntil_62
        · refine lv_aload_n hx hb dX4_doUntil_20 rfl (lv_at hl 2 rfl) ?_
          have hTo := hT
          refine K_V ⟨hx, hb, hml, hown, hts⟩ (t_X4_mayCount l dC dI sa hlt g _ _ h0 li k1 _ (hT.sub [0] rfl)  hk_h0_1 hk_h0_4 ) (cwV 0 hts gX4_doUntil_X4_mayCount rfl rfl rfl (by decide +kernel) ⟨(by first | exact Nat.le_of_ble_eq_true rfl | (simp only [rm_X4_mayCount, rm_X4_doUntil]; omega)), (by first | exact Nat.le_of_ble_eq_true rfl | (simp only [rm_X4_mayCount, rm_X4_doUntil]; omega))⟩) hP hD hK hS hA hev hT 0 4 rfl rfl rfl rfl hl.1 rfl (Nat.le_of_ble_eq_true rfl) dX4_doUntil_21 ⟨(by first | exact Nat.le_of_ble_eq_true rfl | (simp only [rm_X4_doUntil]; omega) | omega), (by first | exact Nat.le_of_ble_eq_true rfl | (simp only [rm_X4_doUntil]; omega) | omega)⟩ (fun r L_6 f_7 H locs hw_8 hP hD hS hT hE1 => ?_)
          have hF := Fr.call hF hE hw_8.2 (by decide)
          have hE := hE.tr hE1
          obtain ⟨⟨rfl, hz2_9⟩ | ⟨rfl, hz2_9⟩, hw_8⟩ := hw_8
          · have hk_10 : rd f_7 h0 1 = .int li := (hw_8.1 h0 (hTo.at 0 rfl).1 4 (hTo.at 0 rfl).2 1 (by decide)).trans hk_h0_1
            refine W.eq (g2 := F0 m 24 ls [.int 0]) rfl ?_
            refine lv_if_ne (tgt := 29) hx hb dX4_doUntil_24 (by decide) (fun c_11 => ?_) (fun c_11 => ?_)
            · exact absurd c_11 (by decide)
            refine lv_iconst (v := (-1)) hx hb dX4_doUntil_27 (by decide) ?_
            refine vx_ret ?_
            exact K_iZ hx hb hr hlocks hP hD hK hS hT hE ⟨⟨_, rfl⟩, hF, _, hz2_9, by omega⟩ (rfl) (by first | exact Nat.le_of_ble_eq_true rfl | (simp only [rm_X4_doUntil]; omega) | omega) (by first | exact Nat.le_of_ble_eq_true rfl | (simp only [rm_X4_doUntil]; omega) | omega) (by first | exact Nat.le_of_ble_eq_true rfl | (simp only [rm_X4_doUntil]; omega) | omega) dX4_doUntil_28
          · have hk_12 : rd f_7 h0 1 = .int li := (hw_8.1 h0 (hTo.at 0 rfl).1 4 (hTo.at 0 rfl).2 1 (by decide)).trans hk_h0_1
            obtain ⟨kn_13, hk_14, hu_15, hv_16⟩ := hz2_9
            refine W.eq (g2 := F0 m 24 ls [.int 1]) rfl ?_
            refine lv_if_ne (tgt := 29) hx hb dX4_doUntil_24 (by decide) (fun c_17 => ?_) (fun c_17 => ?_)
            rotate_left
            · exact absurd c_17 (by decide)
            refine lv_aload_n hx hb dX4_doUntil_29 rfl (lv_at hl 4 rfl) ?_
            have hTo := hT
            refine K_V ⟨hx, hb, hml, hown, hts⟩ (t_X0_shade l dC dI sa hlt g _ _ w _ (hT.sub [2] rfl)  ) (cwV 0 hts gX4_doUntil_X0_shade rfl rfl rfl (by decide +kernel) ⟨(by first | exact Nat.le_of_ble_eq_true rfl | (simp only [rm_X0_shade, rm_X4_doUntil]; omega)), (by first | exact Nat.le_of_ble_eq_true rfl | (simp only [rm_X0_shade, rm_X4_doUntil]; omega))⟩) hP hD hK hS hA hev hT 2 0 rfl rfl rfl rfl hl.1 rfl (Nat.le_of_ble_eq_true rfl) dX4_doUntil_30 ⟨(by first | exact Nat.le_of_ble_eq_true rfl | (simp only [rm_X4_doUntil]; omega) | omega), (by first | exact Nat.le_of_ble_eq_true rfl | (simp only [rm_X4_doUntil]; omega) | omega)⟩ (fun r L_18 f_19 H locs hw_20 hP hD hS hT hE1 => ?_)
            have hF := Fr.call hF hE hw_20.2 (by decide)
            have hE := hE.tr hE1
            obtain ⟨⟨z_21, rfl⟩, hw_20⟩ := hw_20
            have hk_22 : rd f_19 h0 1 = .int li := (hw_20.1 h0 (hTo.at 0 rfl).1 4 (hTo.at 0 rfl).2 1 (by decide)).trans hk_12
            have hk_23 : rd f_19 h0 4 = .int kn_13 := (hw_20.1 h0 (hTo.at 0 rfl).1 4 (hTo.at 0 rfl).2 4 (by decide)).trans hk_14
            refine W.eq (g2 := F0 m 33 ls [.int z_21]) rfl ?_
            refine lv_aload_n hx hb dX4_doUntil_33 rfl (lv_at hl 3 rfl) ?_
            refine T_get (ci := 5) (C := RX5) (T := TX5) (N := 8) (t := tI) hx hb hts inw_X4_doUntil_5 hown hK hP hT 1 rfl rfl 2 (by decide) (hts (.fieldLink RX4 76 "VatHouse$Step" "number" "I") (by decide +kernel)) (fun _ h9 => h9) rfl dX4_doUntil_34 (fun v_26 hv_24 hr_25 => ?_)
            obtain ⟨z_27, rfl⟩ := hv_24
            refine lv_icmp_lt (tgt := 42) hx hb dX4_doUntil_37 (by decide) (fun c_28 => ?_) (fun c_28 => ?_)
            · refine lv_aload_n hx hb dX4_doUntil_42 rfl (lv_at hl 2 rfl) ?_
              refine lv_aload_n hx hb dX4_doUntil_43 rfl (lv_at hl 3 rfl) ?_
              refine T_get (ci := 5) (C := RX5) (T := TX5) (N := 8) (t := (2, 0, 5, 0)) hx hb hts inw_X4_doUntil_5 hown hK hP hT 1 rfl rfl 5 (by decide) (hts (.fieldLink RX4 114 "VatHouse$Step" "block" "LVatHouse$Step;") (by decide +kernel)) (fun _ h9 => h9) rfl dX4_doUntil_44 (fun v_31 hv_29 hr_30 => ?_)
              rcases hv_29 with rfl | ⟨b_32, rfl, hb9⟩
              · refine lv_aload_n hx hb dX4_doUntil_47 rfl (lv_at hl 4 rfl) ?_
                refine lv_iload_n hx hb dX4_doUntil_48 rfl (lv_at hl 5 rfl) ?_
                have hTo := hT
                refine K_VY ⟨hx, hb, hml, hown, hts⟩ (IHS _ _ h0 .null w dep li kn_13 _ (hT.sub [0, 2] rfl) (Or.inl rfl) hk_22 hk_23 hd) (cwV 3 hts gX4_doUntil_X4_doSteps rfl rfl rfl (by decide +kernel) ⟨(by first | exact Nat.le_of_ble_eq_true rfl | (simp only [rm_X4_doSteps, rm_X4_doUntil]; omega)), (by first | exact Nat.le_of_ble_eq_true rfl | (simp only [rm_X4_doSteps, rm_X4_doUntil]; omega))⟩) hP hD hK hS hA hev hT 0 4 rfl rfl rfl rfl hl.1 rfl (Nat.le_of_ble_eq_true rfl) dX4_doUntil_49 ⟨(by first | exact Nat.le_of_ble_eq_true rfl | (simp only [rm_X4_doUntil]; omega) | omega), (by first | exact Nat.le_of_ble_eq_true rfl | (simp only [rm_X4_doUntil]; omega) | omega)⟩ (fun E ce q9 L9 f9 H locs hpx hP hD hS hT hE1 hce hcv hcl => ?_) (fun r L_33 f_34 n_36 H locs hw_35 hn_37 hP hD hS hT hE1 => ?_)
                · have hF := Fr.call hF hE hpx.2 (by decide)
                  have hE := hE.tr hE1
                  exact K_out hno hlocks ⟨hpx.1, hF⟩ hP hD hK hS hT hE hce hcv hcl (by first | exact Nat.le_of_ble_eq_true rfl | (simp only [rm_X4_doUntil]; omega) | omega) (by first | exact Nat.le_of_ble_eq_true rfl | (simp only [rm_X4_doUntil]; omega) | omega)
                have hF := Fr.call hF hE hw_35.2.1 (by decide)
                have hE := hE.tr hE1
                obtain rfl : n_36 = 0 := hn_37
                obtain ⟨⟨z_38, rfl⟩, hw_35⟩ := hw_35
                obtain ⟨hfr_39, cn_40, hk_41, hrel_42⟩ := hw_35
                have hk_44 : rd f_34 h0 1 = .int li := (hfr_39.1 h0 (hTo.at 0 rfl).1 4 (hTo.at 0 rfl).2 1 (by decide)).trans hk_22
                refine W.eq (g2 := F0 m 52 ls [.int z_38]) rfl ?_
                refine lv_istore (lv' := [(4, .int z_38), (5, .int ii), (0, .ref h0), (1, .ref o), (2, .ref w), (3, .int dep)]) hx hb dX4_doUntil_52 hl (by decide) rfl (fun ls hl => ?_)
                refine lv_iinc (v := (ii + 1)) (lv' := [(5, .int (ii + 1)), (4, .int z_38), (0, .ref h0), (1, .ref o), (2, .ref w), (3, .int dep)]) hx hb dX4_doUntil_54 hl (k := 1) rfl rfl (by decide) rfl (fun ls hl => ?_)
                refine lv_goto (tgt := 6) hx hb dX4_doUntil_57 (by decide) ?_
                exact ih z_38 (ii + 1) cn_40 _ _ _ _ _ (⟨fun _ => by have := hm.1 c_5; omega, by have := hm.1 c_5; omega⟩) hk_44 hk_41 (by omega) hP hD hS (hT.sub [0, 1, 2] rfl) hE hF (lv_sub hl [1, 0, 2, 3, 4, 5] rfl)
              · have hT := hT.add hb9
                refine lv_aload_n hx hb dX4_doUntil_47 rfl (lv_at hl 4 rfl) ?_
                refine lv_iload_n hx hb dX4_doUntil_48 rfl (lv_at hl 5 rfl) ?_
                have hTo := hT
                refine K_VY ⟨hx, hb, hml, hown, hts⟩ (IHS _ _ h0 (.ref b_32) w dep li kn_13 _ (hT.sub [1, 3] rfl) (Or.inr ⟨_, rfl, hT.at 0 rfl⟩) hk_22 hk_23 hd) (cwV 3 hts gX4_doUntil_X4_doSteps rfl rfl rfl (by decide +kernel) ⟨(by first | exact Nat.le_of_ble_eq_true rfl | (simp only [rm_X4_doSteps, rm_X4_doUntil]; omega)), (by first | exact Nat.le_of_ble_eq_true rfl | (simp only [rm_X4_doSteps, rm_X4_doUntil]; omega))⟩) hP hD hK hS hA hev hT 1 4 rfl rfl rfl rfl hl.1 rfl (Nat.le_of_ble_eq_true rfl) dX4_doUntil_49 ⟨(by first | exact Nat.le_of_ble_eq_true rfl | (simp only [rm_X4_doUntil]; omega) | omega), (by first | exact Nat.le_of_ble_eq_true rfl | (simp only [rm_X4_doUntil]; omega) | omega)⟩ (fun E ce q9 L9 f9 H locs hpx hP hD hS hT hE1 hce hcv hcl => ?_) (fun r L_45 f_46 n_48 H locs hw_47 hn_49 hP hD hS hT hE1 => ?_)
                · have hF := Fr.call hF hE hpx.2 (by decide)
                  have hE := hE.tr hE1
                  exact K_out hno hlocks ⟨hpx.1, hF⟩ hP hD hK hS hT hE hce hcv hcl (by first | exact Nat.le_of_ble_eq_true rfl | (simp only [rm_X4_doUntil]; omega) | omega) (by first | exact Nat.le_of_ble_eq_true rfl | (simp only [rm_X4_doUntil]; omega) | omega)
                have hF := Fr.call hF hE hw_47.2.1 (by decide)
                have hE := hE.tr hE1
                obtain rfl : n_48 = 0 := hn_49
                obtain ⟨⟨z_50, rfl⟩, hw_47⟩ := hw_47
                obtain ⟨hfr_51, cn_52, hk_53, hrel_54⟩ := hw_47
                have hk_56 : rd f_46 h0 1 = .int li := (hfr_51.1 h0 (hTo.at 1 rfl).1 4 (hTo.at 1 rfl).2 1 (by decide)).trans hk_22
                refine W.eq (g2 := F0 m 52 ls [.int z_50]) rfl ?_
                refine lv_istore (lv' := [(4, .int z_50), (5, .int ii), (0, .ref h0), (1, .ref o), (2, .ref w), (3, .int dep)]) hx hb dX4_doUntil_52 hl (by decide) rfl (fun ls hl => ?_)
                refine lv_iinc (v := (ii + 1)) (lv' := [(5, .int (ii + 1)), (4, .int z_50), (0, .ref h0), (1, .ref o), (2, .ref w), (3, .int dep)]) hx hb dX4_doUntil_54 hl (k := 1) rfl rfl (by decide) rfl (fun ls hl => ?_)
                refine lv_goto (tgt := 6) hx hb dX4_doUntil_57 (by decide) ?_
                exact ih z_50 (ii + 1) cn_52 _ _ _ _ _ (⟨fun _ => by have := hm.1 c_5; omega, by have := hm.1 c_5; omega⟩) hk_56 hk_53 (by omega) hP hD hS (hT.sub [1, 2, 3] rfl) hE hF (lv_sub hl [1, 0, 2, 3, 4, 5] rfl)
            · refine lv_iconst (v := 0) hx hb dX4_doUntil_40 (by decide) ?_
              refine vx_ret ?_
              exact K_iZ hx hb hr hlocks hP hD hK hS hT hE ⟨⟨_, rfl⟩, hF, _, hk_23, by omega⟩ (rfl) (by first | exact Nat.le_of_ble_eq_true rfl | (simp only [rm_X4_doUntil]; omega) | omega) (by first | exact Nat.le_of_ble_eq_true rfl | (simp only [rm_X4_doUntil]; omega) | omega) (by first | exact Nat.le_of_ble_eq_true rfl | (simp only [rm_X4_doUntil]; omega) | omega) dX4_doUntil_41
  exact lp ((li.toInt - cn.toInt).toNat + 2) 0 0 cn _ _ _ _ _ (⟨fun _ => by omega, by omega⟩) hm_li hm_cn (by omega) hP hD hS (hT.sub [0, 1, 2] rfl) hE hF (lv_sub hl [1, 0, 2, 3, 4, 5] rfl)

abbrev rm_X4_doTry (j : Nat) (d : Nat) : Room := { frames := 3 * j + 31, cells := 1, slots := 6, locals := 100 * j + 533 }
theorem inw_X4_doTry_5 : ∀ w ∈ wsX50, w ∈ wsX4_doTry := by decide +kernel
set_option maxHeartbeats 800000 in
set_option maxRecDepth 100000 in
theorem t_X4_doTry (l : Launch) (dC : Nat → ClassId) (dI : Nat → Nat → Nat) (sa : Nat → Nat) (hlt : l.stackTraces = false) (g : Nat → Nat) (L : List Nat) (f : Nat → va_E) (j : Nat) (d : Nat) (h0 : Nat) (o : Nat) (w : Nat) (dep : Int32) (li : Int32) (cn : Int32) (sz : Nat) (hT : TP g L f [(h0, (0, 4, 0)), (o, (0, 5, 0)), (w, (0, 0, 0))]) (hm_li : rd f h0 1 = .int li) (hm_cn : rd f h0 4 = .int cn) (hd : dep = nI d) (hdj : d + j = 9) (IHS : ∀ (L : List Nat) (f : Nat → va_E) (h0 : Nat) (fs : Value) (w : Nat) (dep : Int32) (li : Int32) (cn : Int32) (sz : Nat) (hT : TP g L f [(h0, (0, 4, 0)), (w, (0, 0, 0))]) (hn_fs : okv L f (2, 0, 5, 0) fs) (hm_li : rd f h0 1 = .int li) (hm_cn : rd f h0 4 = .int cn) (hd : dep = nI d), KY l dC dI sa g yX4_doSteps wsX4_doSteps (rm_X4_doSteps j d) [.ref h0, fs, .ref w, .int dep] L f sz (fun r L' f' => (∃ z : Int32, r = some (.int z)) ∧ Fr [(0, 0), (0, 1), (0, 2), (0, 3), (0, 4), (0, 5), (0, 6), (0, 7), (7, 0), (7, 1), (7, 2), (7, 3), (7, 4), (7, 5), (7, 6), (7, 7), (8, 0), (8, 1), (8, 2), (4, 4), (4, 5), (4, 6), (4, 7)] L f f' ∧ (∃ cn' : Int32, rd f' h0 4 = .int cn' ∧ (cn.toInt ≤ cn'.toInt))) (fun n _ => n = 0) (fun E L' f' => (E = NSE) ∧ Fr [(0, 0), (0, 1), (0, 2), (0, 3), (0, 4), (0, 5), (0, 6), (0, 7), (7, 0), (7, 1), (7, 2), (7, 3), (7, 4), (7, 5), (7, 6), (7, 7), (8, 0), (8, 1), (8, 2), (4, 4), (4, 5), (4, 6), (4, 7)] L f f') 1 6) : KY l dC dI sa g yX4_doTry wsX4_doTry (rm_X4_doTry j d) [.ref h0, .ref o, .ref w, .int dep] L f sz (fun r L' f' => (∃ z : Int32, r = some (.int z)) ∧ Fr [(0, 0), (0, 1), (0, 2), (0, 3), (0, 4), (0, 5), (0, 6), (0, 7), (7, 0), (7, 1), (7, 2), (7, 3), (7, 4), (7, 5), (7, 6), (7, 7), (8, 0), (8, 1), (8, 2), (4, 4), (4, 5), (4, 6), (4, 7)] L f f' ∧ (∃ cn' : Int32, rd f' h0 4 = .int cn' ∧ (cn.toInt ≤ cn'.toInt))) (fun n _ => n = 0) (fun E L' f' => (E = NSE) ∧ Fr [(0, 0), (0, 1), (0, 2), (0, 3), (0, 4), (0, 5), (0, 6), (0, 7), (7, 0), (7, 1), (7, 2), (7, 3), (7, 4), (7, 5), (7, 6), (7, 7), (8, 0), (8, 1), (8, 2), (4, 4), (4, 5), (4, 6), (4, 7)] L f f') 1 6 := by
  refine KY.start (cc := cX4_doTry) (maxL := 5) (ret := (some .int)) (by decide) rfl (Nat.le_of_ble_eq_true rfl) ?_
  intro p e s m below meth c ls hst hno hP hK hD hev hS hl
  obtain ⟨hx, hb, hr, hml, hts, hown, hlocks, hin⟩ := hst
  have hown : s.vm.findClass RX4 = some m.cls := hown
  have hin : meth.name = yX4_doTry.name := hin
  have hA : ∀ q : Nat, s.heap.size ≤ q → va_A (va_pl L f) s.heap.size q := fun _ h => Or.inr h
  have hE : Ext L f L f := Ext.rf
  have hF : Fr [(0, 0), (0, 1), (0, 2), (0, 3), (0, 4), (0, 5), (0, 6), (0, 7), (7, 0), (7, 1), (7, 2), (7, 3), (7, 4), (7, 5), (7, 6), (7, 7), (8, 0), (8, 1), (8, 2), (4, 4), (4, 5), (4, 6), (4, 7)] L f f := Fr.rf
  have hl : lv_has ls 5 [(0, .ref h0), (1, .ref o), (2, .ref w), (3, .int dep)] := hl
  refine lv_aload_n hx hb dX4_doTry_0 rfl (lv_at hl 0 rfl) ?_
  refine lv_aload_n hx hb dX4_doTry_1 rfl (lv_at hl 1 rfl) ?_
  refine T_get (ci := 5) (C := RX5) (T := TX5) (N := 8) (t := (2, 0, 5, 0)) hx hb hts inw_X4_doTry_5 hown hK hP hT 1 rfl rfl 5 (by decide) (hts (.fieldLink RX4 114 "VatHouse$Step" "block" "LVatHouse$Step;") (by decide +kernel)) (fun _ h9 => h9) rfl dX4_doTry_2 (fun v_3 hv_1 hr_2 => ?_)
  rcases hv_1 with rfl | ⟨b_4, rfl, hb9⟩
  · refine lv_aload_n hx hb dX4_doTry_5 rfl (lv_at hl 2 rfl) ?_
    refine lv_iload_n hx hb dX4_doTry_6 rfl (lv_at hl 3 rfl) ?_
    have hTo := hT
    refine K_VY ⟨hx, hb, hml, hown, hts⟩ (IHS _ _ h0 .null w dep li cn _ (hT.sub [0, 2] rfl) (Or.inl rfl) hm_li hm_cn hd) (cwV 3 hts gX4_doTry_X4_doSteps rfl rfl rfl (by decide +kernel) ⟨(by first | exact Nat.le_of_ble_eq_true rfl | (simp only [rm_X4_doSteps, rm_X4_doTry]; omega)), (by first | exact Nat.le_of_ble_eq_true rfl | (simp only [rm_X4_doSteps, rm_X4_doTry]; omega))⟩) hP hD hK hS hA hev hT 0 4 rfl rfl rfl rfl hl.1 rfl (Nat.le_of_ble_eq_true rfl) dX4_doTry_7 ⟨(by first | exact Nat.le_of_ble_eq_true rfl | (simp only [rm_X4_doTry]; omega) | omega), (by first | exact Nat.le_of_ble_eq_true rfl | (simp only [rm_X4_doTry]; omega) | omega)⟩ (fun E ce q9 L9 f9 H locs hpx hP hD hS hT hE1 hce hcv hcl => ?_) (fun r L_5 f_6 n_8 H locs hw_7 hn_9 hP hD hS hT hE1 => ?_)
    · have hF := Fr.call hF hE hpx.2 (by decide)
      have hE := hE.tr hE1
      exact K_out hno hlocks ⟨hpx.1, hF⟩ hP hD hK hS hT hE hce hcv hcl (by first | exact Nat.le_of_ble_eq_true rfl | (simp only [rm_X4_doTry]; omega) | omega) (by first | exact Nat.le_of_ble_eq_true rfl | (simp only [rm_X4_doTry]; omega) | omega)
    have hF := Fr.call hF hE hw_7.2.1 (by decide)
    have hE := hE.tr hE1
    obtain rfl : n_8 = 0 := hn_9
    obtain ⟨⟨z_10, rfl⟩, hw_7⟩ := hw_7
    obtain ⟨hfr_11, cn_12, hk_13, hrel_14⟩ := hw_7
    have hk_16 : rd f_6 h0 1 = .int li := (hfr_11.1 h0 (hTo.at 0 rfl).1 4 (hTo.at 0 rfl).2 1 (by decide)).trans hm_li
    refine W.eq (g2 := F0 m 10 ls [.int z_10]) rfl ?_
    refine lv_istore (lv' := [(4, .int z_10), (0, .ref h0), (1, .ref o), (2, .ref w), (3, .int dep)]) hx hb dX4_doTry_10 hl (by decide) rfl (fun ls hl => ?_)
    refine lv_iload hx hb dX4_doTry_12 (lv_at hl 0 rfl) ?_
    refine lv_if_eq (tgt := 23) hx hb dX4_doTry_14 (by decide) (fun c_17 => ?_) (fun c_17 => ?_)
    · refine lv_iload hx hb dX4_doTry_23 (lv_at hl 0 rfl) ?_
      refine vx_ret ?_
      exact K_iZ hx hb hr hlocks hP hD hK hS hT hE ⟨⟨_, rfl⟩, hF, _, hk_13, by omega⟩ (rfl) (by first | exact Nat.le_of_ble_eq_true rfl | (simp only [rm_X4_doTry]; omega) | omega) (by first | exact Nat.le_of_ble_eq_true rfl | (simp only [rm_X4_doTry]; omega) | omega) (by first | exact Nat.le_of_ble_eq_true rfl | (simp only [rm_X4_doTry]; omega) | omega) dX4_doTry_25
    · refine lv_iload hx hb dX4_doTry_17 (lv_at hl 0 rfl) ?_
      refine lv_iconst (v := (-1)) hx hb dX4_doTry_19 (by decide) ?_
      refine lv_icmp_ne (tgt := 26) hx hb dX4_doTry_20 (by decide) (fun c_18 => ?_) (fun c_18 => ?_)
      · refine lv_aload_n hx hb dX4_doTry_26 rfl (lv_at hl 1 rfl) ?_
        refine lv_aload_n hx hb dX4_doTry_27 rfl (lv_at hl 2 rfl) ?_
        refine T_get (ci := 5) (C := RX5) (T := TX5) (N := 8) (t := (2, 0, 5, 0)) hx hb hts inw_X4_doTry_5 hown hK hP hT 1 rfl rfl 6 (by decide) (hts (.fieldLink RX4 117 "VatHouse$Step" "other" "LVatHouse$Step;") (by decide +kernel)) (fun _ h9 => h9) rfl dX4_doTry_28 (fun v_21 hv_19 hr_20 => ?_)
        rcases hv_19 with rfl | ⟨b_22, rfl, hb9⟩
        · refine lv_aload_n hx hb dX4_doTry_31 rfl (lv_at hl 3 rfl) ?_
          refine lv_iload_n hx hb dX4_doTry_32 rfl (lv_at hl 4 rfl) ?_
          have hTo := hT
          refine K_VY ⟨hx, hb, hml, hown, hts⟩ (IHS _ _ h0 .null w dep li cn_12 _ (hT.sub [0, 2] rfl) (Or.inl rfl) hk_16 hk_13 hd) (cwV 3 hts gX4_doTry_X4_doSteps rfl rfl rfl (by decide +kernel) ⟨(by first | exact Nat.le_of_ble_eq_true rfl | (simp only [rm_X4_doSteps, rm_X4_doTry]; omega)), (by first | exact Nat.le_of_ble_eq_true rfl | (simp only [rm_X4_doSteps, rm_X4_doTry]; omega))⟩) hP hD hK hS hA hev hT 0 4 rfl rfl rfl rfl hl.1 rfl (Nat.le_of_ble_eq_true rfl) dX4_doTry_33 ⟨(by first | exact Nat.le_of_ble_eq_true rfl | (simp only [rm_X4_doTry]; omega) | omega), (by first | exact Nat.le_of_ble_eq_true rfl | (simp only [rm_X4_doTry]; omega) | omega)⟩ (fun E ce q9 L9 f9 H locs hpx hP hD hS hT hE1 hce hcv hcl => ?_) (fun r L_23 f_24 n_26 H locs hw_25 hn_27 hP hD hS hT hE1 => ?_)
          · have hF := Fr.call hF hE hpx.2 (by decide)
            have hE := hE.tr hE1
            exact K_out hno hlocks ⟨hpx.1, hF⟩ hP hD hK hS hT hE hce hcv hcl (by first | exact Nat.le_of_ble_eq_true rfl | (simp only [rm_X4_doTry]; omega) | omega) (by first | exact Nat.le_of_ble_eq_true rfl | (simp only [rm_X4_doTry]; omega) | omega)
          have hF := Fr.call hF hE hw_25.2.1 (by decide)
          have hE := hE.tr hE1
          obtain rfl : n_26 = 0 := hn_27
          obtain ⟨⟨z_28, rfl⟩, hw_25⟩ := hw_25
          obtain ⟨hfr_29, cn_30, hk_31, hrel_32⟩ := hw_25
          have hk_34 : rd f_24 h0 1 = .int li := (hfr_29.1 h0 (hTo.at 0 rfl).1 4 (hTo.at 0 rfl).2 1 (by decide)).trans hk_16
          refine W.eq (g2 := F0 m 36 ls [.int z_28]) rfl ?_
          refine vx_ret ?_
          exact K_iZ hx hb hr hlocks hP hD hK hS hT hE ⟨⟨_, rfl⟩, hF, _, hk_31, by omega⟩ (rfl) (by first | exact Nat.le_of_ble_eq_true rfl | (simp only [rm_X4_doTry]; omega) | omega) (by first | exact Nat.le_of_ble_eq_true rfl | (simp only [rm_X4_doTry]; omega) | omega) (by first | exact Nat.le_of_ble_eq_true rfl | (simp only [rm_X4_doTry]; omega) | omega) dX4_doTry_36
        · have hT := hT.add hb9
          refine lv_aload_n hx hb dX4_doTry_31 rfl (lv_at hl 3 rfl) ?_
          refine lv_iload_n hx hb dX4_doTry_32 rfl (lv_at hl 4 rfl) ?_
          have hTo := hT
          refine K_VY ⟨hx, hb, hml, hown, hts⟩ (IHS _ _ h0 (.ref b_22) w dep li cn_12 _ (hT.sub [1, 3] rfl) (Or.inr ⟨_, rfl, hT.at 0 rfl⟩) hk_16 hk_13 hd) (cwV 3 hts gX4_doTry_X4_doSteps rfl rfl rfl (by decide +kernel) ⟨(by first | exact Nat.le_of_ble_eq_true rfl | (simp only [rm_X4_doSteps, rm_X4_doTry]; omega)), (by first | exact Nat.le_of_ble_eq_true rfl | (simp only [rm_X4_doSteps, rm_X4_doTry]; omega))⟩) hP hD hK hS hA hev hT 1 4 rfl rfl rfl rfl hl.1 rfl (Nat.le_of_ble_eq_true rfl) dX4_doTry_33 ⟨(by first | exact Nat.le_of_ble_eq_true rfl | (simp only [rm_X4_doTry]; omega) | omega), (by first | exact Nat.le_of_ble_eq_true rfl | (simp only [rm_X4_doTry]; omega) | omega)⟩ (fun E ce q9 L9 f9 H locs hpx hP hD hS hT hE1 hce hcv hcl => ?_) (fun r L_35 f_36 n_38 H locs hw_37 hn_39 hP hD hS hT hE1 => ?_)
          · have hF := Fr.call hF hE hpx.2 (by decide)
            have hE := hE.tr hE1
            exact K_out hno hlocks ⟨hpx.1, hF⟩ hP hD hK hS hT hE hce hcv hcl (by first | exact Nat.le_of_ble_eq_true rfl | (simp only [rm_X4_doTry]; omega) | omega) (by first | exact Nat.le_of_ble_eq_true rfl | (simp only [rm_X4_doTry]; omega) | omega)
          have hF := Fr.call hF hE hw_37.2.1 (by decide)
          have hE := hE.tr hE1
          obtain rfl : n_38 = 0 := hn_39
          obtain ⟨⟨z_40, rfl⟩, hw_37⟩ := hw_37
          obtain ⟨hfr_41, cn_42, hk_43, hrel_44⟩ := hw_37
          have hk_46 : rd f_36 h0 1 = .int li := (hfr_41.1 h0 (hTo.at 1 rfl).1 4 (hTo.at 1 rfl).2 1 (by decide)).trans hk_16
          refine W.eq (g2 := F0 m 36 ls [.int z_40]) rfl ?_
          refine vx_ret ?_
          exact K_iZ hx hb hr hlocks hP hD hK hS hT hE ⟨⟨_, rfl⟩, hF, _, hk_43, by omega⟩ (rfl) (by first | exact Nat.le_of_ble_eq_true rfl | (simp only [rm_X4_doTry]; omega) | omega) (by first | exact Nat.le_of_ble_eq_true rfl | (simp only [rm_X4_doTry]; omega) | omega) (by first | exact Nat.le_of_ble_eq_true rfl | (simp only [rm_X4_doTry]; omega) | omega) dX4_doTry_36
      · refine lv_iload hx hb dX4_doTry_23 (lv_at hl 0 rfl) ?_
        refine vx_ret ?_
        exact K_iZ hx hb hr hlocks hP hD hK hS hT hE ⟨⟨_, rfl⟩, hF, _, hk_13, by omega⟩ (rfl) (by first | exact Nat.le_of_ble_eq_true rfl | (simp only [rm_X4_doTry]; omega) | omega) (by first | exact Nat.le_of_ble_eq_true rfl | (simp only [rm_X4_doTry]; omega) | omega) (by first | exact Nat.le_of_ble_eq_true rfl | (simp only [rm_X4_doTry]; omega) | omega) dX4_doTry_25
  · have hT := hT.add hb9
    refine lv_aload_n hx hb dX4_doTry_5 rfl (lv_at hl 2 rfl) ?_
    refine lv_iload_n hx hb dX4_doTry_6 rfl (lv_at hl 3 rfl) ?_
    have hTo := hT
    refine K_VY ⟨hx, hb, hml, hown, hts⟩ (IHS _ _ h0 (.ref b_4) w dep li cn _ (hT.sub [1, 3] rfl) (Or.inr ⟨_, rfl, hT.at 0 rfl⟩) hm_li hm_cn hd) (cwV 3 hts gX4_doTry_X4_doSteps rfl rfl rfl (by decide +kernel) ⟨(by first | exact Nat.le_of_ble_eq_true rfl | (simp only [rm_X4_doSteps, rm_X4_doTry]; omega)), (by first | exact Nat.le_of_ble_eq_true rfl | (simp only [rm_X4_doSteps, rm_X4_doTry]; omega))⟩) hP hD hK hS hA hev hT 1 4 rfl rfl rfl rfl hl.1 rfl (Nat.le_of_ble_eq_true rfl) dX4_doTry_7 ⟨(by first | exact Nat.le_of_ble_eq_true rfl | (simp only [rm_X4_doTry]; omega) | omega), (by first | exact Nat.le_of_ble_eq_true rfl | (simp only [rm_X4_doTry]; omega) | omega)⟩ (fun E ce q9 L9 f9 H locs hpx hP hD hS hT hE1 hce hcv hcl => ?_) (fun r L_47 f_48 n_50 H locs hw_49 hn_51 hP hD hS hT hE1 => ?_)
    · have hF := Fr.call hF hE hpx.2 (by decide)
      have hE := hE.tr hE1
      exact K_out hno hlocks ⟨hpx.1, hF⟩ hP hD hK hS hT hE hce hcv hcl (by first | exact Nat.le_of_ble_eq_true rfl | (simp only [rm_X4_doTry]; omega) | omega) (by first | exact Nat.le_of_ble_eq_true rfl | (simp only [rm_X4_doTry]; omega) | omega)
    have hF := Fr.call hF hE hw_49.2.1 (by decide)
    have hE := hE.tr hE1
    obtain rfl : n_50 = 0 := hn_51
    obtain ⟨⟨z_52, rfl⟩, hw_49⟩ := hw_49
    obtain ⟨hfr_53, cn_54, hk_55, hrel_56⟩ := hw_49
    have hk_58 : rd f_48 h0 1 = .int li := (hfr_53.1 h0 (hTo.at 1 rfl).1 4 (hTo.at 1 rfl).2 1 (by decide)).trans hm_li
    refine W.eq (g2 := F0 m 10 ls [.int z_52]) rfl ?_
    refine lv_istore (lv' := [(4, .int z_52), (0, .ref h0), (1, .ref o), (2, .ref w), (3, .int dep)]) hx hb dX4_doTry_10 hl (by decide) rfl (fun ls hl => ?_)
    refine lv_iload hx hb dX4_doTry_12 (lv_at hl 0 rfl) ?_
    refine lv_if_eq (tgt := 23) hx hb dX4_doTry_14 (by decide) (fun c_59 => ?_) (fun c_59 => ?_)
    · refine lv_iload hx hb dX4_doTry_23 (lv_at hl 0 rfl) ?_
      refine vx_ret ?_
      exact K_iZ hx hb hr hlocks hP hD hK hS hT hE ⟨⟨_, rfl⟩, hF, _, hk_55, by omega⟩ (rfl) (by first | exact Nat.le_of_ble_eq_true rfl | (simp only [rm_X4_doTry]; omega) | omega) (by first | exact Nat.le_of_ble_eq_true rfl | (simp only [rm_X4_doTry]; omega) | omega) (by first | exact Nat.le_of_ble_eq_true rfl | (simp only [rm_X4_doTry]; omega) | omega) dX4_doTry_25
    · refine lv_iload hx hb dX4_doTry_17 (lv_at hl 0 rfl) ?_
      refine lv_iconst (v := (-1)) hx hb dX4_doTry_19 (by decide) ?_
      refine lv_icmp_ne (tgt := 26) hx hb dX4_doTry_20 (by decide) (fun c_60 => ?_) (fun c_60 => ?_)
      · refine lv_aload_n hx hb dX4_doTry_26 rfl (lv_at hl 1 rfl) ?_
        refine lv_aload_n hx hb dX4_doTry_27 rfl (lv_at hl 2 rfl) ?_
        refine T_get (ci := 5) (C := RX5) (T := TX5) (N := 8) (t := (2, 0, 5, 0)) hx hb hts inw_X4_doTry_5 hown hK hP hT 2 rfl rfl 6 (by decide) (hts (.fieldLink RX4 117 "VatHouse$Step" "other" "LVatHouse$Step;") (by decide +kernel)) (fun _ h9 => h9) rfl dX4_doTry_28 (fun v_63 hv_61 hr_62 => ?_)
        rcases hv_61 with rfl | ⟨b_64, rfl, hb9⟩
        · refine lv_aload_n hx hb dX4_doTry_31 rfl (lv_at hl 3 rfl) ?_
          refine lv_iload_n hx hb dX4_doTry_32 rfl (lv_at hl 4 rfl) ?_
          have hTo := hT
          refine K_VY ⟨hx, hb, hml, hown, hts⟩ (IHS _ _ h0 .null w dep li cn_54 _ (hT.sub [1, 3] rfl) (Or.inl rfl) hk_58 hk_55 hd) (cwV 3 hts gX4_doTry_X4_doSteps rfl rfl rfl (by decide +kernel) ⟨(by first | exact Nat.le_of_ble_eq_true rfl | (simp only [rm_X4_doSteps, rm_X4_doTry]; omega)), (by first | exact Nat.le_of_ble_eq_true rfl | (simp only [rm_X4_doSteps, rm_X4_doTry]; omega))⟩) hP hD hK hS hA hev hT 1 4 rfl rfl rfl rfl hl.1 rfl (Nat.le_of_ble_eq_true rfl) dX4_doTry_33 ⟨(by first | exact Nat.le_of_ble_eq_true rfl | (simp only [rm_X4_doTry]; omega) | omega), (by first | exact Nat.le_of_ble_eq_true rfl | (simp only [rm_X4_doTry]; omega) | omega)⟩ (fun E ce q9 L9 f9 H locs hpx hP hD hS hT hE1 hce hcv hcl => ?_) (fun r L_65 f_66 n_68 H locs hw_67 hn_69 hP hD hS hT hE1 => ?_)
          · have hF := Fr.call hF hE hpx.2 (by decide)
            have hE := hE.tr hE1
            exact K_out hno hlocks ⟨hpx.1, hF⟩ hP hD hK hS hT hE hce hcv hcl (by first | exact Nat.le_of_ble_eq_true rfl | (simp only [rm_X4_doTry]; omega) | omega) (by first | exact Nat.le_of_ble_eq_true rfl | (simp only [rm_X4_doTry]; omega) | omega)
          have hF := Fr.call hF hE hw_67.2.1 (by decide)
          have hE := hE.tr hE1
          obtain rfl : n_68 = 0 := hn_69
          obtain ⟨⟨z_70, rfl⟩, hw_67⟩ := hw_67
          obtain ⟨hfr_71, cn_72, hk_73, hrel_74⟩ := hw_67
          have hk_76 : rd f_66 h0 1 = .int li := (hfr_71.1 h0 (hTo.at 1 rfl).1 4 (hTo.at 1 rfl).2 1 (by decide)).trans hk_58
          refine W.eq (g2 := F0 m 36 ls [.int z_70]) rfl ?_
          refine vx_ret ?_
          exact K_iZ hx hb hr hlocks hP hD hK hS hT hE ⟨⟨_, rfl⟩, hF, _, hk_73, by omega⟩ (rfl) (by first | exact Nat.le_of_ble_eq_true rfl | (simp only [rm_X4_doTry]; omega) | omega) (by first | exact Nat.le_of_ble_eq_true rfl | (simp only [rm_X4_doTry]; omega) | omega) (by first | exact Nat.le_of_ble_eq_true rfl | (simp only [rm_X4_doTry]; omega) | omega) dX4_doTry_36
        · have hT := hT.add hb9
          refine lv_aload_n hx hb dX4_doTry_31 rfl (lv_at hl 3 rfl) ?_
          refine lv_iload_n hx hb dX4_doTry_32 rfl (lv_at hl 4 rfl) ?_
          have hTo := hT
          refine K_VY ⟨hx, hb, hml, hown, hts⟩ (IHS _ _ h0 (.ref b_64) w dep li cn_54 _ (hT.sub [2, 4] rfl) (Or.inr ⟨_, rfl, hT.at 0 rfl⟩) hk_58 hk_55 hd) (cwV 3 hts gX4_doTry_X4_doSteps rfl rfl rfl (by decide +kernel) ⟨(by first | exact Nat.le_of_ble_eq_true rfl | (simp only [rm_X4_doSteps, rm_X4_doTry]; omega)), (by first | exact Nat.le_of_ble_eq_true rfl | (simp only [rm_X4_doSteps, rm_X4_doTry]; omega))⟩) hP hD hK hS hA hev hT 2 4 rfl rfl rfl rfl hl.1 rfl (Nat.le_of_ble_eq_true rfl) dX4_doTry_33 ⟨(by first | exact Nat.le_of_ble_eq_true rfl | (simp only [rm_X4_doTry]; omega) | omega), (by first | exact Nat.le_of_ble_eq_true rfl | (simp only [rm_X4_doTry]; omega) | omega)⟩ (fun E ce q9 L9 f9 H locs hpx hP hD hS hT hE1 hce hcv hcl => ?_) (fun r L_77 f_78 n_80 H locs hw_79 hn_81 hP hD hS hT hE1 => ?_)
          · have hF := Fr.call hF hE hpx.2 (by decide)
            have hE := hE.tr hE1
            exact K_out hno hlocks ⟨hpx.1, hF⟩ hP hD hK hS hT hE hce hcv hcl (by first | exact Nat.le_of_ble_eq_true rfl | (simp only [rm_X4_doTry]; omega) | omega) (by first | exact Nat.le_of_ble_eq_true rfl | (simp only [rm_X4_doTry]; omega) | omega)
          have hF := Fr.call hF hE hw_79.2.1 (by decide)
          have hE := hE.tr hE1
          obtain rfl : n_80 = 0 := hn_81
          obtain ⟨⟨z_82, rfl⟩, hw_79⟩ := hw_79
          obtain ⟨hfr_83, cn_84, hk_85, hrel_86⟩ := hw_79
          have hk_88 : rd f_78 h0 1 = .int li := (hfr_83.1 h0 (hTo.at 2 rfl).1 4 (hTo.at 2 rfl).2 1 (by decide)).trans hk_58
          refine W.eq (g2 := F0 m 36 ls [.int z_82]) rfl ?_
          refine vx_ret ?_
          exact K_iZ hx hb hr hlocks hP hD hK hS hT hE ⟨⟨_, rfl⟩, hF, _, hk_85, by omega⟩ (rfl) (by first | exact Nat.le_of_ble_eq_true rfl | (simp only [rm_X4_doTry]; omega) | omega) (by first | exact Nat.le_of_ble_eq_true rfl | (simp only [rm_X4_doTry]; omega) | omega) (by first | exact Nat.le_of_ble_eq_true rfl | (simp only [rm_X4_doTry]; omega) | omega) dX4_doTry_36
      · refine lv_iload hx hb dX4_doTry_23 (lv_at hl 0 rfl) ?_
        refine vx_ret ?_
        exact K_iZ hx hb hr hlocks hP hD hK hS hT hE ⟨⟨_, rfl⟩, hF, _, hk_55, by omega⟩ (rfl) (by first | exact Nat.le_of_ble_eq_true rfl | (simp only [rm_X4_doTry]; omega) | omega) (by first | exact Nat.le_of_ble_eq_true rfl | (simp only [rm_X4_doTry]; omega) | omega) (by first | exact Nat.le_of_ble_eq_true rfl | (simp only [rm_X4_doTry]; omega) | omega) dX4_doTry_25

abbrev rm_X4_doWithLast (j : Nat) (d : Nat) : Room := { frames := 3 * j + 31, cells := 1, slots := 6, locals := 100 * j + 533 }
theorem inw_X4_doWithLast_5 : ∀ w ∈ wsX50, w ∈ wsX4_doWithLast := by decide +kernel
set_option maxHeartbeats 800000 in
set_option maxRecDepth 100000 in
theorem t_X4_doWithLast (l : Launch) (dC : Nat → ClassId) (dI : Nat → Nat → Nat) (sa : Nat → Nat) (hlt : l.stackTraces = false) (g : Nat → Nat) (L : List Nat) (f : Nat → va_E) (j : Nat) (d : Nat) (h0 : Nat) (o : Nat) (w : Nat) (dep : Int32) (li : Int32) (cn : Int32) (sz : Nat) (hT : TP g L f [(h0, (0, 4, 0)), (o, (0, 5, 0)), (w, (0, 0, 0))]) (hm_li : rd f h0 1 = .int li) (hm_cn : rd f h0 4 = .int cn) (hd : dep = nI d) (hdj : d + j = 9) (IHS : ∀ (L : List Nat) (f : Nat → va_E) (h0 : Nat) (fs : Value) (w : Nat) (dep : Int32) (li : Int32) (cn : Int32) (sz : Nat) (hT : TP g L f [(h0, (0, 4, 0)), (w, (0, 0, 0))]) (hn_fs : okv L f (2, 0, 5, 0) fs) (hm_li : rd f h0 1 = .int li) (hm_cn : rd f h0 4 = .int cn) (hd : dep = nI d), KY l dC dI sa g yX4_doSteps wsX4_doSteps (rm_X4_doSteps j d) [.ref h0, fs, .ref w, .int dep] L f sz (fun r L' f' => (∃ z : Int32, r = some (.int z)) ∧ Fr [(0, 0), (0, 1), (0, 2), (0, 3), (0, 4), (0, 5), (0, 6), (0, 7), (7, 0), (7, 1), (7, 2), (7, 3), (7, 4), (7, 5), (7, 6), (7, 7), (8, 0), (8, 1), (8, 2), (4, 4), (4, 5), (4, 6), (4, 7)] L f f' ∧ (∃ cn' : Int32, rd f' h0 4 = .int cn' ∧ (cn.toInt ≤ cn'.toInt))) (fun n _ => n = 0) (fun E L' f' => (E = NSE) ∧ Fr [(0, 0), (0, 1), (0, 2), (0, 3), (0, 4), (0, 5), (0, 6), (0, 7), (7, 0), (7, 1), (7, 2), (7, 3), (7, 4), (7, 5), (7, 6), (7, 7), (8, 0), (8, 1), (8, 2), (4, 4), (4, 5), (4, 6), (4, 7)] L f f') 1 6) : KY l dC dI sa g yX4_doWithLast wsX4_doWithLast (rm_X4_doWithLast j d) [.ref h0, .ref o, .ref w, .int dep] L f sz (fun r L' f' => (∃ z : Int32, r = some (.int z)) ∧ Fr [(0, 0), (0, 1), (0, 2), (0, 3), (0, 4), (0, 5), (0, 6), (0, 7), (7, 0), (7, 1), (7, 2), (7, 3), (7, 4), (7, 5), (7, 6), (7, 7), (8, 0), (8, 1), (8, 2), (4, 4), (4, 5), (4, 6), (4, 7)] L f f' ∧ (∃ cn' : Int32, rd f' h0 4 = .int cn' ∧ (cn.toInt ≤ cn'.toInt))) (fun n _ => n = 0) (fun E L' f' => (E = NSE) ∧ Fr [(0, 0), (0, 1), (0, 2), (0, 3), (0, 4), (0, 5), (0, 6), (0, 7), (7, 0), (7, 1), (7, 2), (7, 3), (7, 4), (7, 5), (7, 6), (7, 7), (8, 0), (8, 1), (8, 2), (4, 4), (4, 5), (4, 6), (4, 7)] L f f') 1 6 := by
  refine KY.start (cc := cX4_doWithLast) (maxL := 6) (ret := (some .int)) (by decide) rfl (Nat.le_of_ble_eq_true rfl) ?_
  intro p e s m below meth c ls hst hno hP hK hD hev hS hl
  obtain ⟨hx, hb, hr, hml, hts, hown, hlocks, hin⟩ := hst
  have hown : s.vm.findClass RX4 = some m.cls := hown
  have hin : meth.name = yX4_doWithLast.name := hin
  have hA : ∀ q : Nat, s.heap.size ≤ q → va_A (va_pl L f) s.heap.size q := fun _ h => Or.inr h
  have hE : Ext L f L f := Ext.rf
  have hF : Fr [(0, 0), (0, 1), (0, 2), (0, 3), (0, 4), (0, 5), (0, 6), (0, 7), (7, 0), (7, 1), (7, 2), (7, 3), (7, 4), (7, 5), (7, 6), (7, 7), (8, 0), (8, 1), (8, 2), (4, 4), (4, 5), (4, 6), (4, 7)] L f f := Fr.rf
  have hl : lv_has ls 6 [(0, .ref h0), (1, .ref o), (2, .ref w), (3, .int dep)] := hl
  refine lv_aload_n hx hb dX4_doWithLast_0 rfl (lv_at hl 0 rfl) ?_
  refine lv_aload_n hx hb dX4_doWithLast_1 rfl (lv_at hl 1 rfl) ?_
  refine T_get (ci := 5) (C := RX5) (T := TX5) (N := 8) (t := (2, 0, 5, 0)) hx hb hts inw_X4_doWithLast_5 hown hK hP hT 1 rfl rfl 5 (by decide) (hts (.fieldLink RX4 114 "VatHouse$Step" "block" "LVatHouse$Step;") (by decide +kernel)) (fun _ h9 => h9) rfl dX4_doWithLast_2 (fun v_3 hv_1 hr_2 => ?_)
  rcases hv_1 with rfl | ⟨b_4, rfl, hb9⟩
  · refine lv_aload_n hx hb dX4_doWithLast_5 rfl (lv_at hl 2 rfl) ?_
    refine lv_iload_n hx hb dX4_doWithLast_6 rfl (lv_at hl 3 rfl) ?_
    have hTo := hT
    refine K_VY ⟨hx, hb, hml, hown, hts⟩ (IHS _ _ h0 .null w dep li cn _ (hT.sub [0, 2] rfl) (Or.inl rfl) hm_li hm_cn hd) (cwV 3 hts gX4_doWithLast_X4_doSteps rfl rfl rfl (by decide +kernel) ⟨(by first | exact Nat.le_of_ble_eq_true rfl | (simp only [rm_X4_doSteps, rm_X4_doWithLast]; omega)), (by first | exact Nat.le_of_ble_eq_true rfl | (simp only [rm_X4_doSteps, rm_X4_doWithLast]; omega))⟩) hP hD hK hS hA hev hT 0 4 rfl rfl rfl rfl hl.1 rfl (Nat.le_of_ble_eq_true rfl) dX4_doWithLast_7 ⟨(by first | exact Nat.le_of_ble_eq_true rfl | (simp only [rm_X4_doWithLast]; omega) | omega), (by first | exact Nat.le_of_ble_eq_true rfl | (simp only [rm_X4_doWithLast]; omega) | omega)⟩ (fun E ce q9 L9 f9 H locs hpx hP hD hS hT hE1 hce hcv hcl => ?_) (fun r L_5 f_6 n_8 H locs hw_7 hn_9 hP hD hS hT hE1 => ?_)
    · have hF := Fr.call hF hE hpx.2 (by decide)
      have hE := hE.tr hE1
      exact K_out hno hlocks ⟨hpx.1, hF⟩ hP hD hK hS hT hE hce hcv hcl (by first | exact Nat.le_of_ble_eq_true rfl | (simp only [rm_X4_doWithLast]; omega) | omega) (by first | exact Nat.le_of_ble_eq_true rfl | (simp only [rm_X4_doWithLast]; omega) | omega)
    have hF := Fr.call hF hE hw_7.2.1 (by decide)
    have hE := hE.tr hE1
    obtain rfl : n_8 = 0 := hn_9
    obtain ⟨⟨z_10, rfl⟩, hw_7⟩ := hw_7
    obtain ⟨hfr_11, cn_12, hk_13, hrel_14⟩ := hw_7
    have hk_16 : rd f_6 h0 1 = .int li := (hfr_11.1 h0 (hTo.at 0 rfl).1 4 (hTo.at 0 rfl).2 1 (by decide)).trans hm_li
    refine W.eq (g2 := F0 m 10 ls [.int z_10]) rfl ?_
    refine lv_istore (lv' := [(4, .int z_10), (0, .ref h0), (1, .ref o), (2, .ref w), (3, .int dep)]) hx hb dX4_doWithLast_10 hl (by decide) rfl (fun ls hl => ?_)
    refine lv_iload hx hb dX4_doWithLast_12 (lv_at hl 0 rfl) ?_
    refine lv_iconst (v := (-1)) hx hb dX4_doWithLast_14 (by decide) ?_
    refine lv_icmp_ne (tgt := 20) hx hb dX4_doWithLast_15 (by decide) (fun c_17 => ?_) (fun c_17 => ?_)
    · refine lv_aload_n hx hb dX4_doWithLast_20 rfl (lv_at hl 1 rfl) ?_
      refine lv_aload_n hx hb dX4_doWithLast_21 rfl (lv_at hl 2 rfl) ?_
      refine T_get (ci := 5) (C := RX5) (T := TX5) (N := 8) (t := (2, 0, 5, 0)) hx hb hts inw_X4_doWithLast_5 hown hK hP hT 1 rfl rfl 6 (by decide) (hts (.fieldLink RX4 117 "VatHouse$Step" "other" "LVatHouse$Step;") (by decide +kernel)) (fun _ h9 => h9) rfl dX4_doWithLast_22 (fun v_20 hv_18 hr_19 => ?_)
      rcases hv_18 with rfl | ⟨b_21, rfl, hb9⟩
      · refine lv_aload_n hx hb dX4_doWithLast_25 rfl (lv_at hl 3 rfl) ?_
        refine lv_iload_n hx hb dX4_doWithLast_26 rfl (lv_at hl 4 rfl) ?_
        have hTo := hT
        refine K_VY ⟨hx, hb, hml, hown, hts⟩ (IHS _ _ h0 .null w dep li cn_12 _ (hT.sub [0, 2] rfl) (Or.inl rfl) hk_16 hk_13 hd) (cwV 3 hts gX4_doWithLast_X4_doSteps rfl rfl rfl (by decide +kernel) ⟨(by first | exact Nat.le_of_ble_eq_true rfl | (simp only [rm_X4_doSteps, rm_X4_doWithLast]; omega)), (by first | exact Nat.le_of_ble_eq_true rfl | (simp only [rm_X4_doSteps, rm_X4_doWithLast]; omega))⟩) hP hD hK hS hA hev hT 0 4 rfl rfl rfl rfl hl.1 rfl (Nat.le_of_ble_eq_true rfl) dX4_doWithLast_27 ⟨(by first | exact Nat.le_of_ble_eq_true rfl | (simp only [rm_X4_doWithLast]; omega) | omega), (by first | exact Nat.le_of_ble_eq_true rfl | (simp only [rm_X4_doWithLast]; omega) | omega)⟩ (fun E ce q9 L9 f9 H locs hpx hP hD hS hT hE1 hce hcv hcl => ?_) (fun r L_22 f_23 n_25 H locs hw_24 hn_26 hP hD hS hT hE1 => ?_)
        · have hF := Fr.call hF hE hpx.2 (by decide)
          have hE := hE.tr hE1
          exact K_out hno hlocks ⟨hpx.1, hF⟩ hP hD hK hS hT hE hce hcv hcl (by first | exact Nat.le_of_ble_eq_true rfl | (simp only [rm_X4_doWithLast]; omega) | omega) (by first | exact Nat.le_of_ble_eq_true rfl | (simp only [rm_X4_doWithLast]; omega) | omega)
        have hF := Fr.call hF hE hw_24.2.1 (by decide)
        have hE := hE.tr hE1
        obtain rfl : n_25 = 0 := hn_26
        obtain ⟨⟨z_27, rfl⟩, hw_24⟩ := hw_24
        obtain ⟨hfr_28, cn_29, hk_30, hrel_31⟩ := hw_24
        have hk_33 : rd f_23 h0 1 = .int li := (hfr_28.1 h0 (hTo.at 0 rfl).1 4 (hTo.at 0 rfl).2 1 (by decide)).trans hk_16
        refine W.eq (g2 := F0 m 30 ls [.int z_27]) rfl ?_
        refine lv_istore (lv' := [(5, .int z_27), (4, .int z_10), (0, .ref h0), (1, .ref o), (2, .ref w), (3, .int dep)]) hx hb dX4_doWithLast_30 hl (by decide) rfl (fun ls hl => ?_)
        refine lv_iload hx hb dX4_doWithLast_32 (lv_at hl 0 rfl) ?_
        refine lv_if_ne (tgt := 42) hx hb dX4_doWithLast_34 (by decide) (fun c_34 => ?_) (fun c_34 => ?_)
        · refine lv_iload hx hb dX4_doWithLast_42 (lv_at hl 0 rfl) ?_
          refine vx_ret ?_
          exact K_iZ hx hb hr hlocks hP hD hK hS hT hE ⟨⟨_, rfl⟩, hF, _, hk_30, by omega⟩ (rfl) (by first | exact Nat.le_of_ble_eq_true rfl | (simp only [rm_X4_doWithLast]; omega) | omega) (by first | exact Nat.le_of_ble_eq_true rfl | (simp only [rm_X4_doWithLast]; omega) | omega) (by first | exact Nat.le_of_ble_eq_true rfl | (simp only [rm_X4_doWithLast]; omega) | omega) dX4_doWithLast_44
        · refine lv_iload hx hb dX4_doWithLast_37 (lv_at hl 1 rfl) ?_
          refine lv_goto (tgt := 44) hx hb dX4_doWithLast_39 (by decide) ?_
          refine vx_ret ?_
          exact K_iZ hx hb hr hlocks hP hD hK hS hT hE ⟨⟨_, rfl⟩, hF, _, hk_30, by omega⟩ (rfl) (by first | exact Nat.le_of_ble_eq_true rfl | (simp only [rm_X4_doWithLast]; omega) | omega) (by first | exact Nat.le_of_ble_eq_true rfl | (simp only [rm_X4_doWithLast]; omega) | omega) (by first | exact Nat.le_of_ble_eq_true rfl | (simp only [rm_X4_doWithLast]; omega) | omega) dX4_doWithLast_44
      · have hT := hT.add hb9
        refine lv_aload_n hx hb dX4_doWithLast_25 rfl (lv_at hl 3 rfl) ?_
        refine lv_iload_n hx hb dX4_doWithLast_26 rfl (lv_at hl 4 rfl) ?_
        have hTo := hT
        refine K_VY ⟨hx, hb, hml, hown, hts⟩ (IHS _ _ h0 (.ref b_21) w dep li cn_12 _ (hT.sub [1, 3] rfl) (Or.inr ⟨_, rfl, hT.at 0 rfl⟩) hk_16 hk_13 hd) (cwV 3 hts gX4_doWithLast_X4_doSteps rfl rfl rfl (by decide +kernel) ⟨(by first | exact Nat.le_of_ble_eq_true rfl | (simp only [rm_X4_doSteps, rm_X4_doWithLast]; omega)), (by first | exact Nat.le_of_ble_eq_true rfl | (simp only [rm_X4_doSteps, rm_X4_doWithLast]; omega))⟩) hP hD hK hS hA hev hT 1 4 rfl rfl rfl rfl hl.1 rfl (Nat.le_of_ble_eq_true rfl) dX4_doWithLast_27 ⟨(by first | exact Nat.le_of_ble_eq_true rfl | (simp only [rm_X4_doWithLast]; omega) | omega), (by first | exact Nat.le_of_ble_eq_true rfl | (simp only [rm_X4_doWithLast]; omega) | omega)⟩ (fun E ce q9 L9 f9 H locs hpx hP hD hS hT hE1 hce hcv hcl => ?_) (fun r L_35 f_36 n_38 H locs hw_37 hn_39 hP hD hS hT hE1 => ?_)
        · have hF := Fr.call hF hE hpx.2 (by decide)
          have hE := hE.tr hE1
          exact K_out hno hlocks ⟨hpx.1, hF⟩ hP hD hK hS hT hE hce hcv hcl (by first | exact Nat.le_of_ble_eq_true rfl | (simp only [rm_X4_doWithLast]; omega) | omega) (by first | exact Nat.le_of_ble_eq_true rfl | (simp only [rm_X4_doWithLast]; omega) | omega)
        have hF := Fr.call hF hE hw_37.2.1 (by decide)
        have hE := hE.tr hE1
        obtain rfl : n_38 = 0 := hn_39
        obtain ⟨⟨z_40, rfl⟩, hw_37⟩ := hw_37
        obtain ⟨hfr_41, cn_42, hk_43, hrel_44⟩ := hw_37
        have hk_46 : rd f_36 h0 1 = .int li := (hfr_41.1 h0 (hTo.at 1 rfl).1 4 (hTo.at 1 rfl).2 1 (by decide)).trans hk_16
        refine W.eq (g2 := F0 m 30 ls [.int z_40]) rfl ?_
        refine lv_istore (lv' := [(5, .int z_40), (4, .int z_10), (0, .ref h0), (1, .ref o), (2, .ref w), (3, .int dep)]) hx hb dX4_doWithLast_30 hl (by decide) rfl (fun ls hl => ?_)
        refine lv_iload hx hb dX4_doWithLast_32 (lv_at hl 0 rfl) ?_
        refine lv_if_ne (tgt := 42) hx hb dX4_doWithLast_34 (by decide) (fun c_47 => ?_) (fun c_47 => ?_)
        · refine lv_iload hx hb dX4_doWithLast_42 (lv_at hl 0 rfl) ?_
          refine vx_ret ?_
          exact K_iZ hx hb hr hlocks hP hD hK hS hT hE ⟨⟨_, rfl⟩, hF, _, hk_43, by omega⟩ (rfl) (by first | exact Nat.le_of_ble_eq_true rfl | (simp only [rm_X4_doWithLast]; omega) | omega) (by first | exact Nat.le_of_ble_eq_true rfl | (simp only [rm_X4_doWithLast]; omega) | omega) (by first | exact Nat.le_of_ble_eq_true rfl | (simp only [rm_X4_doWithLast]; omega) | omega) dX4_doWithLast_44
        · refine lv_iload hx hb dX4_doWithLast_37 (lv_at hl 1 rfl) ?_
          refine lv_goto (tgt := 44) hx hb dX4_doWithLast_39 (by decide) ?_
          refine vx_ret ?_
          exact K_iZ hx hb hr hlocks hP hD hK hS hT hE ⟨⟨_, rfl⟩, hF, _, hk_43, by omega⟩ (rfl) (by first | exact Nat.le_of_ble_eq_true rfl | (simp only [rm_X4_doWithLast]; omega) | omega) (by first | exact Nat.le_of_ble_eq_true rfl | (simp only [rm_X4_doWithLast]; omega) | omega) (by first | exact Nat.le_of_ble_eq_true rfl | (simp only [rm_X4_doWithLast]; omega) | omega) dX4_doWithLast_44
    · refine lv_iconst (v := (-1)) hx hb dX4_doWithLast_18 (by decide) ?_
      refine vx_ret ?_
      exact K_iZ hx hb hr hlocks hP hD hK hS hT hE ⟨⟨_, rfl⟩, hF, _, hk_13, by omega⟩ (rfl) (by first | exact Nat.le_of_ble_eq_true rfl | (simp only [rm_X4_doWithLast]; omega) | omega) (by first | exact Nat.le_of_ble_eq_true rfl | (simp only [rm_X4_doWithLast]; omega) | omega) (by first | exact Nat.le_of_ble_eq_true rfl | (simp only [rm_X4_doWithLast]; omega) | omega) dX4_doWithLast_19
  · have hT := hT.add hb9
    refine lv_aload_n hx hb dX4_doWithLast_5 rfl (lv_at hl 2 rfl) ?_
    refine lv_iload_n hx hb dX4_doWithLast_6 rfl (lv_at hl 3 rfl) ?_
    have hTo := hT
    refine K_VY ⟨hx, hb, hml, hown, hts⟩ (IHS _ _ h0 (.ref b_4) w dep li cn _ (hT.sub [1, 3] rfl) (Or.inr ⟨_, rfl, hT.at 0 rfl⟩) hm_li hm_cn hd) (cwV 3 hts gX4_doWithLast_X4_doSteps rfl rfl rfl (by decide +kernel) ⟨(by first | exact Nat.le_of_ble_eq_true rfl | (simp only [rm_X4_doSteps, rm_X4_doWithLast]; omega)), (by first | exact Nat.le_of_ble_eq_true rfl | (simp only [rm_X4_doSteps, rm_X4_doWithLast]; omega))⟩) hP hD hK hS hA hev hT 1 4 rfl rfl rfl rfl hl.1 rfl (Nat.le_of_ble_eq_true rfl) dX4_doWithLast_7 ⟨(by first | exact Nat.le_of_ble_eq_true rfl | (simp only [rm_X4_doWithLast]; omega) | omega), (by first | exact Nat.le_of_ble_eq_true rfl | (simp only [rm_X4_doWithLast]; omega) | omega)⟩ (fun E ce q9 L9 f9 H locs hpx hP hD hS hT hE1 hce hcv hcl => ?_) (fun r L_48 f_49 n_51 H locs hw_50 hn_52 hP hD hS hT hE1 => ?_)
    · have hF := Fr.call hF hE hpx.2 (by decide)
      have hE := hE.tr hE1
      exact K_out hno hlocks ⟨hpx.1, hF⟩ hP hD hK hS hT hE hce hcv hcl (by first | exact Nat.le_of_ble_eq_true rfl | (simp only [rm_X4_doWithLast]; omega) | omega) (by first | exact Nat.le_of_ble_eq_true rfl | (simp only [rm_X4_doWithLast]; omega) | omega)
    have hF := Fr.call hF hE hw_50.2.1 (by decide)
    have hE := hE.tr hE1
    obtain rfl : n_51 = 0 := hn_52
    obtain ⟨⟨z_53, rfl⟩, hw_50⟩ := hw_50
    obtain ⟨hfr_54, cn_55, hk_56, hrel_57⟩ := hw_50
    have hk_59 : rd f_49 h0 1 = .int li := (hfr_54.1 h0 (hTo.at 1 rfl).1 4 (hTo.at 1 rfl).2 1 (by decide)).trans hm_li
    refine W.eq (g2 := F0 m 10 ls [.int z_53]) rfl ?_
    refine lv_istore (lv' := [(4, .int z_53), (0, .ref h0), (1, .ref o), (2, .ref w), (3, .int dep)]) hx hb dX4_doWithLast_10 hl (by decide) rfl (fun ls hl => ?_)
    refine lv_iload hx hb dX4_doWithLast_12 (lv_at hl 0 rfl) ?_
    refine lv_iconst (v := (-1)) hx hb dX4_doWithLast_14 (by decide) ?_
    refine lv_icmp_ne (tgt := 20) hx hb dX4_doWithLast_15 (by decide) (fun c_60 => ?_) (fun c_60 => ?_)
    · refine lv_aload_n hx hb dX4_doWithLast_20 rfl (lv_at hl 1 rfl) ?_
      refine lv_aload_n hx hb dX4_doWithLast_21 rfl (lv_at hl 2 rfl) ?_
      refine T_get (ci := 5) (C := RX5) (T := TX5) (N := 8) (t := (2, 0, 5, 0)) hx hb hts inw_X4_doWithLast_5 hown hK hP hT 2 rfl rfl 6 (by decide) (hts (.fieldLink RX4 117 "VatHouse$Step" "other" "LVatHouse$Step;") (by decide +kernel)) (fun _ h9 => h9) rfl dX4_doWithLast_22 (fun v_63 hv_61 hr_62 => ?_)
      rcases hv_61 with rfl | ⟨b_64, rfl, hb9⟩
      · refine lv_aload_n hx hb dX4_doWithLast_25 rfl (lv_at hl 3 rfl) ?_
        refine lv_iload_n hx hb dX4_doWithLast_26 rfl (lv_at hl 4 rfl) ?_
        have hTo := hT
        refine K_VY ⟨hx, hb, hml, hown, hts⟩ (IHS _ _ h0 .null w dep li cn_55 _ (hT.sub [1, 3] rfl) (Or.inl rfl) hk_59 hk_56 hd) (cwV 3 hts gX4_doWithLast_X4_doSteps rfl rfl rfl (by decide +kernel) ⟨(by first | exact Nat.le_of_ble_eq_true rfl | (simp only [rm_X4_doSteps, rm_X4_doWithLast]; omega)), (by first | exact Nat.le_of_ble_eq_true rfl | (simp only [rm_X4_doSteps, rm_X4_doWithLast]; omega))⟩) hP hD hK hS hA hev hT 1 4 rfl rfl rfl rfl hl.1 rfl (Nat.le_of_ble_eq_true rfl) dX4_doWithLast_27 ⟨(by first | exact Nat.le_of_ble_eq_true rfl | (simp only [rm_X4_doWithLast]; omega) | omega), (by first | exact Nat.le_of_ble_eq_true rfl | (simp only [rm_X4_doWithLast]; omega) | omega)⟩ (fun E ce q9 L9 f9 H locs hpx hP hD hS hT hE1 hce hcv hcl => ?_) (fun r L_65 f_66 n_68 H locs hw_67 hn_69 hP hD hS hT hE1 => ?_)
        · have hF := Fr.call hF hE hpx.2 (by decide)
          have hE := hE.tr hE1
          exact K_out hno hlocks ⟨hpx.1, hF⟩ hP hD hK hS hT hE hce hcv hcl (by first | exact Nat.le_of_ble_eq_true rfl | (simp only [rm_X4_doWithLast]; omega) | omega) (by first | exact Nat.le_of_ble_eq_true rfl | (simp only [rm_X4_doWithLast]; omega) | omega)
        have hF := Fr.call hF hE hw_67.2.1 (by decide)
        have hE := hE.tr hE1
        obtain rfl : n_68 = 0 := hn_69
        obtain ⟨⟨z_70, rfl⟩, hw_67⟩ := hw_67
        obtain ⟨hfr_71, cn_72, hk_73, hrel_74⟩ := hw_67
        have hk_76 : rd f_66 h0 1 = .int li := (hfr_71.1 h0 (hTo.at 1 rfl).1 4 (hTo.at 1 rfl).2 1 (by decide)).trans hk_59
        refine W.eq (g2 := F0 m 30 ls [.int z_70]) rfl ?_
        refine lv_istore (lv' := [(5, .int z_70), (4, .int z_53), (0, .ref h0), (1, .ref o), (2, .ref w), (3, .int dep)]) hx hb dX4_doWithLast_30 hl (by decide) rfl (fun ls hl => ?_)
        refine lv_iload hx hb dX4_doWithLast_32 (lv_at hl 0 rfl) ?_
        refine lv_if_ne (tgt := 42) hx hb dX4_doWithLast_34 (by decide) (fun c_77 => ?_) (fun c_77 => ?_)
        · refine lv_iload hx hb dX4_doWithLast_42 (lv_at hl 0 rfl) ?_
          refine vx_ret ?_
          exact K_iZ hx hb hr hlocks hP hD hK hS hT hE ⟨⟨_, rfl⟩, hF, _, hk_73, by omega⟩ (rfl) (by first | exact Nat.le_of_ble_eq_true rfl | (simp only [rm_X4_doWithLast]; omega) | omega) (by first | exact Nat.le_of_ble_eq_true rfl | (simp only [rm_X4_doWithLast]; omega) | omega) (by first | exact Nat.le_of_ble_eq_true rfl | (simp only [rm_X4_doWithLast]; omega) | omega) dX4_doWithLast_44
        · refine lv_iload hx hb dX4_doWithLast_37 (lv_at hl 1 rfl) ?_
          refine lv_goto (tgt := 44) hx hb dX4_doWithLast_39 (by decide) ?_
          refine vx_ret ?_
          exact K_iZ hx hb hr hlocks hP hD hK hS hT hE ⟨⟨_, rfl⟩, hF, _, hk_73, by omega⟩ (rfl) (by first | exact Nat.le_of_ble_eq_true rfl | (simp only [rm_X4_doWithLast]; omega) | omega) (by first | exact Nat.le_of_ble_eq_true rfl | (simp only [rm_X4_doWithLast]; omega) | omega) (by first | exact Nat.le_of_ble_eq_true rfl | (simp only [rm_X4_doWithLast]; omega) | omega) dX4_doWithLast_44
      · have hT := hT.add hb9
        refine lv_aload_n hx hb dX4_doWithLast_25 rfl (lv_at hl 3 rfl) ?_
        refine lv_iload_n hx hb dX4_doWithLast_26 rfl (lv_at hl 4 rfl) ?_
        have hTo := hT
        refine K_VY ⟨hx, hb, hml, hown, hts⟩ (IHS _ _ h0 (.ref b_64) w dep li cn_55 _ (hT.sub [2, 4] rfl) (Or.inr ⟨_, rfl, hT.at 0 rfl⟩) hk_59 hk_56 hd) (cwV 3 hts gX4_doWithLast_X4_doSteps rfl rfl rfl (by decide +kernel) ⟨(by first | exact Nat.le_of_ble_eq_true rfl | (simp only [rm_X4_doSteps, rm_X4_doWithLast]; omega)), (by first | exact Nat.le_of_ble_eq_true rfl | (simp only [rm_X4_doSteps, rm_X4_doWithLast]; omega))⟩) hP hD hK hS hA hev hT 2 4 rfl rfl rfl rfl hl.1 rfl (Nat.le_of_ble_eq_true rfl) dX4_doWithLast_27 ⟨(by first | exact Nat.le_of_ble_eq_true rfl | (simp only [rm_X4_doWithLast]; omega) | omega), (by first | exact Nat.le_of_ble_eq_true rfl | (simp only [rm_X4_doWithLast]; omega) | omega)⟩ (fun E ce q9 L9 f9 H locs hpx hP hD hS hT hE1 hce hcv hcl => ?_) (fun r L_78 f_79 n_81 H locs hw_80 hn_82 hP hD hS hT hE1 => ?_)
        · have hF := Fr.call hF hE hpx.2 (by decide)
          have hE := hE.tr hE1
          exact K_out hno hlocks ⟨hpx.1, hF⟩ hP hD hK hS hT hE hce hcv hcl (by first | exact Nat.le_of_ble_eq_true rfl | (simp only [rm_X4_doWithLast]; omega) | omega) (by first | exact Nat.le_of_ble_eq_true rfl | (simp only [rm_X4_doWithLast]; omega) | omega)
        have hF := Fr.call hF hE hw_80.2.1 (by decide)
        have hE := hE.tr hE1
        obtain rfl : n_81 = 0 := hn_82
        obtain ⟨⟨z_83, rfl⟩, hw_80⟩ := hw_80
        obtain ⟨hfr_84, cn_85, hk_86, hrel_87⟩ := hw_80
        have hk_89 : rd f_79 h0 1 = .int li := (hfr_84.1 h0 (hTo.at 2 rfl).1 4 (hTo.at 2 rfl).2 1 (by decide)).trans hk_59
        refine W.eq (g2 := F0 m 30 ls [.int z_83]) rfl ?_
        refine lv_istore (lv' := [(5, .int z_83), (4, .int z_53), (0, .ref h0), (1, .ref o), (2, .ref w), (3, .int dep)]) hx hb dX4_doWithLast_30 hl (by decide) rfl (fun ls hl => ?_)
        refine lv_iload hx hb dX4_doWithLast_32 (lv_at hl 0 rfl) ?_
        refine lv_if_ne (tgt := 42) hx hb dX4_doWithLast_34 (by decide) (fun c_90 => ?_) (fun c_90 => ?_)
        · refine lv_iload hx hb dX4_doWithLast_42 (lv_at hl 0 rfl) ?_
          refine vx_ret ?_
          exact K_iZ hx hb hr hlocks hP hD hK hS hT hE ⟨⟨_, rfl⟩, hF, _, hk_86, by omega⟩ (rfl) (by first | exact Nat.le_of_ble_eq_true rfl | (simp only [rm_X4_doWithLast]; omega) | omega) (by first | exact Nat.le_of_ble_eq_true rfl | (simp only [rm_X4_doWithLast]; omega) | omega) (by first | exact Nat.le_of_ble_eq_true rfl | (simp only [rm_X4_doWithLast]; omega) | omega) dX4_doWithLast_44
        · refine lv_iload hx hb dX4_doWithLast_37 (lv_at hl 1 rfl) ?_
          refine lv_goto (tgt := 44) hx hb dX4_doWithLast_39 (by decide) ?_
          refine vx_ret ?_
          exact K_iZ hx hb hr hlocks hP hD hK hS hT hE ⟨⟨_, rfl⟩, hF, _, hk_86, by omega⟩ (rfl) (by first | exact Nat.le_of_ble_eq_true rfl | (simp only [rm_X4_doWithLast]; omega) | omega) (by first | exact Nat.le_of_ble_eq_true rfl | (simp only [rm_X4_doWithLast]; omega) | omega) (by first | exact Nat.le_of_ble_eq_true rfl | (simp only [rm_X4_doWithLast]; omega) | omega) dX4_doWithLast_44
    · refine lv_iconst (v := (-1)) hx hb dX4_doWithLast_18 (by decide) ?_
      refine vx_ret ?_
      exact K_iZ hx hb hr hlocks hP hD hK hS hT hE ⟨⟨_, rfl⟩, hF, _, hk_56, by omega⟩ (rfl) (by first | exact Nat.le_of_ble_eq_true rfl | (simp only [rm_X4_doWithLast]; omega) | omega) (by first | exact Nat.le_of_ble_eq_true rfl | (simp only [rm_X4_doWithLast]; omega) | omega) (by first | exact Nat.le_of_ble_eq_true rfl | (simp only [rm_X4_doWithLast]; omega) | omega) dX4_doWithLast_19

theorem inw_X4_doBuilt_5 : ∀ w ∈ wsX50, w ∈ wsX4_doBuilt := by decide +kernel
set_option maxHeartbeats 800000 in
set_option maxRecDepth 100000 in
theorem t_X4_doBuilt (l : Launch) (dC : Nat → ClassId) (dI : Nat → Nat → Nat) (sa : Nat → Nat) (hlt : l.stackTraces = false) (g : Nat → Nat) (L : List Nat) (f : Nat → va_E) (j : Nat) (d : Nat) (h0 : Nat) (o : Nat) (w : Nat) (dep : Int32) (li : Int32) (cn : Int32) (sz : Nat) (hT : TP g L f [(h0, (0, 4, 0)), (o, (0, 5, 0)), (w, (0, 0, 0))]) (hm_li : rd f h0 1 = .int li) (hm_cn : rd f h0 4 = .int cn) (hd : dep = nI d) (hdj : d + j = 9) (IHS : ∀ (L : List Nat) (f : Nat → va_E) (h0 : Nat) (fs : Value) (w : Nat) (dep : Int32) (li : Int32) (cn : Int32) (sz : Nat) (hT : TP g L f [(h0, (0, 4, 0)), (w, (0, 0, 0))]) (hn_fs : okv L f (2, 0, 5, 0) fs) (hm_li : rd f h0 1 = .int li) (hm_cn : rd f h0 4 = .int cn) (hd : dep = nI d), KY l dC dI sa g yX4_doSteps wsX4_doSteps (rm_X4_doSteps j d) [.ref h0, fs, .ref w, .int dep] L f sz (fun r L' f' => (∃ z : Int32, r = some (.int z)) ∧ Fr [(0, 0), (0, 1), (0, 2), (0, 3), (0, 4), (0, 5), (0, 6), (0, 7), (7, 0), (7, 1), (7, 2), (7, 3), (7, 4), (7, 5), (7, 6), (7, 7), (8, 0), (8, 1), (8, 2), (4, 4), (4, 5), (4, 6), (4, 7)] L f f' ∧ (∃ cn' : Int32, rd f' h0 4 = .int cn' ∧ (cn.toInt ≤ cn'.toInt))) (fun n _ => n = 0) (fun E L' f' => (E = NSE) ∧ Fr [(0, 0), (0, 1), (0, 2), (0, 3), (0, 4), (0, 5), (0, 6), (0, 7), (7, 0), (7, 1), (7, 2), (7, 3), (7, 4), (7, 5), (7, 6), (7, 7), (8, 0), (8, 1), (8, 2), (4, 4), (4, 5), (4, 6), (4, 7)] L f f') 1 6) : KY l dC dI sa g yX4_doBuilt wsX4_doBuilt (rm_X4_doBuilt j d) [.ref h0, .ref o, .ref w, .int dep] L f sz (fun r L' f' => (∃ z : Int32, r = some (.int z)) ∧ Fr [(0, 0), (0, 1), (0, 2), (0, 3), (0, 4), (0, 5), (0, 6), (0, 7), (7, 0), (7, 1), (7, 2), (7, 3), (7, 4), (7, 5), (7, 6), (7, 7), (8, 0), (8, 1), (8, 2), (4, 4), (4, 5), (4, 6), (4, 7)] L f f' ∧ (∃ cn' : Int32, rd f' h0 4 = .int cn' ∧ (cn.toInt ≤ cn'.toInt))) (fun n _ => n = 0) (fun E L' f' => (E = NSE) ∧ Fr [(0, 0), (0, 1), (0, 2), (0, 3), (0, 4), (0, 5), (0, 6), (0, 7), (7, 0), (7, 1), (7, 2), (7, 3), (7, 4), (7, 5), (7, 6), (7, 7), (8, 0), (8, 1), (8, 2), (4, 4), (4, 5), (4, 6), (4, 7)] L f f') 1 6 := by
  refine KY.start (cc := cX4_doBuilt) (maxL := 4) (ret := (some .int)) (by decide) rfl (Nat.le_of_ble_eq_true rfl) ?_
  intro p e s m below meth c ls hst hno hP hK hD hev hS hl
  obtain ⟨hx, hb, hr, hml, hts, hown, hlocks, hin⟩ := hst
  have hown : s.vm.findClass RX4 = some m.cls := hown
  have hin : meth.name = yX4_doBuilt.name := hin
  have hA : ∀ q : Nat, s.heap.size ≤ q → va_A (va_pl L f) s.heap.size q := fun _ h => Or.inr h
  have hE : Ext L f L f := Ext.rf
  have hF : Fr [(0, 0), (0, 1), (0, 2), (0, 3), (0, 4), (0, 5), (0, 6), (0, 7), (7, 0), (7, 1), (7, 2), (7, 3), (7, 4), (7, 5), (7, 6), (7, 7), (8, 0), (8, 1), (8, 2), (4, 4), (4, 5), (4, 6), (4, 7)] L f f := Fr.rf
  have hl : lv_has ls 4 [(0, .ref h0), (1, .ref o), (2, .ref w), (3, .int dep)] := hl
  refine lv_aload_n hx hb dX4_doBuilt_0 rfl (lv_at hl 1 rfl) ?_
  refine T_get (ci := 5) (C := RX5) (T := TX5) (N := 8) (t := tI) hx hb hts inw_X4_doBuilt_5 hown hK hP hT 1 rfl rfl 0 (by decide) (hts (.fieldLink RX4 51 "VatHouse$Step" "word" "I") (by decide +kernel)) (fun _ h9 => h9) rfl dX4_doBuilt_1 (fun v_3 hv_1 hr_2 => ?_)
  obtain ⟨z_4, rfl⟩ := hv_1
  by_cases c_5 : z_4 = 8
  · refine lv_tableIn (tgt := 36) hx hb dX4_doBuilt_4 (by rw [c_5]; decide) (by rw [c_5]; decide) (by rw [c_5]; rfl) (by decide) ?_
    refine lv_aload_n hx hb dX4_doBuilt_36 rfl (lv_at hl 0 rfl) ?_
    refine lv_aload_n hx hb dX4_doBuilt_37 rfl (lv_at hl 1 rfl) ?_
    refine lv_aload_n hx hb dX4_doBuilt_38 rfl (lv_at hl 2 rfl) ?_
    refine lv_iload_n hx hb dX4_doBuilt_39 rfl (lv_at hl 3 rfl) ?_
    have hTo := hT
    refine K_VY ⟨hx, hb, hml, hown, hts⟩ (t_X4_doTimes l dC dI sa hlt g _ _ j d h0 o w dep li cn _ (hT.sub [0, 1, 2] rfl)  hm_li hm_cn hd hdj IHS) (cwV 3 hts gX4_doBuilt_X4_doTimes rfl rfl rfl (by decide +kernel) ⟨(by first | exact Nat.le_of_ble_eq_true rfl | (simp only [rm_X4_doTimes, rm_X4_doBuilt]; omega)), (by first | exact Nat.le_of_ble_eq_true rfl | (simp only [rm_X4_doTimes, rm_X4_doBuilt]; omega))⟩) hP hD hK hS hA hev hT 0 4 rfl rfl rfl rfl hl.1 rfl (Nat.le_of_ble_eq_true rfl) dX4_doBuilt_40 ⟨(by first | exact Nat.le_of_ble_eq_true rfl | (simp only [rm_X4_doBuilt]; omega) | omega), (by first | exact Nat.le_of_ble_eq_true rfl | (simp only [rm_X4_doBuilt]; omega) | omega)⟩ (fun E ce q9 L9 f9 H locs hpx hP hD hS hT hE1 hce hcv hcl => ?_) (fun r L_6 f_7 n_9 H locs hw_8 hn_10 hP hD hS hT hE1 => ?_)
    · have hF := Fr.call hF hE hpx.2 (by decide)
      have hE := hE.tr hE1
      exact K_out hno hlocks ⟨hpx.1, hF⟩ hP hD hK hS hT hE hce hcv hcl (by first | exact Nat.le_of_ble_eq_true rfl | (simp only [rm_X4_doBuilt]; omega) | omega) (by first | exact Nat.le_of_ble_eq_true rfl | (simp only [rm_X4_doBuilt]; omega) | omega)
    have hF := Fr.call hF hE hw_8.2.1 (by decide)
    have hE := hE.tr hE1
    obtain rfl : n_9 = 0 := hn_10
    obtain ⟨⟨z_11, rfl⟩, hw_8⟩ := hw_8
    obtain ⟨hfr_12, cn_13, hk_14, hrel_15⟩ := hw_8
    have hk_17 : rd f_7 h0 1 = .int li := (hfr_12.1 h0 (hTo.at 0 rfl).1 4 (hTo.at 0 rfl).2 1 (by decide)).trans hm_li
    refine W.eq (g2 := F0 m 43 ls [.int z_11]) rfl ?_
    refine vx_ret ?_
    exact K_iZ hx hb hr hlocks hP hD hK hS hT hE ⟨⟨_, rfl⟩, hF, _, hk_14, by omega⟩ (rfl) (by first | exact Nat.le_of_ble_eq_true rfl | (simp only [rm_X4_doBuilt]; omega) | omega) (by first | exact Nat.le_of_ble_eq_true rfl | (simp only [rm_X4_doBuilt]; omega) | omega) (by first | exact Nat.le_of_ble_eq_true rfl | (simp only [rm_X4_doBuilt]; omega) | omega) dX4_doBuilt_43
  by_cases c_18 : z_4 = 9
  · refine lv_tableIn (tgt := 44) hx hb dX4_doBuilt_4 (by rw [c_18]; decide) (by rw [c_18]; decide) (by rw [c_18]; rfl) (by decide) ?_
    refine lv_aload_n hx hb dX4_doBuilt_44 rfl (lv_at hl 0 rfl) ?_
    refine lv_aload_n hx hb dX4_doBuilt_45 rfl (lv_at hl 1 rfl) ?_
    refine lv_aload_n hx hb dX4_doBuilt_46 rfl (lv_at hl 2 rfl) ?_
    refine lv_iload_n hx hb dX4_doBuilt_47 rfl (lv_at hl 3 rfl) ?_
    have hTo := hT
    refine K_VY ⟨hx, hb, hml, hown, hts⟩ (t_X4_doUntil l dC dI sa hlt g _ _ j d h0 o w dep li cn _ (hT.sub [0, 1, 2] rfl)  hm_li hm_cn hd hdj IHS) (cwV 3 hts gX4_doBuilt_X4_doUntil rfl rfl rfl (by decide +kernel) ⟨(by first | exact Nat.le_of_ble_eq_true rfl | (simp only [rm_X4_doUntil, rm_X4_doBuilt]; omega)), (by first | exact Nat.le_of_ble_eq_true rfl | (simp only [rm_X4_doUntil, rm_X4_doBuilt]; omega))⟩) hP hD hK hS hA hev hT 0 4 rfl rfl rfl rfl hl.1 rfl (Nat.le_of_ble_eq_true rfl) dX4_doBuilt_48 ⟨(by first | exact Nat.le_of_ble_eq_true rfl | (simp only [rm_X4_doBuilt]; omega) | omega), (by first | exact Nat.le_of_ble_eq_true rfl | (simp only [rm_X4_doBuilt]; omega) | omega)⟩ (fun E ce q9 L9 f9 H locs hpx hP hD hS hT hE1 hce hcv hcl => ?_) (fun r L_19 f_20 n_22 H locs hw_21 hn_23 hP hD hS hT hE1 => ?_)
    · have hF := Fr.call hF hE hpx.2 (by decide)
      have hE := hE.tr hE1
      exact K_out hno hlocks ⟨hpx.1, hF⟩ hP hD hK hS hT hE hce hcv hcl (by first | exact Nat.le_of_ble_eq_true rfl | (simp only [rm_X4_doBuilt]; omega) | omega) (by first | exact Nat.le_of_ble_eq_true rfl | (simp only [rm_X4_doBuilt]; omega) | omega)
    have hF := Fr.call hF hE hw_21.2.1 (by decide)
    have hE := hE.tr hE1
    obtain rfl : n_22 = 0 := hn_23
    obtain ⟨⟨z_24, rfl⟩, hw_21⟩ := hw_21
    obtain ⟨hfr_25, cn_26, hk_27, hrel_28⟩ := hw_21
    have hk_30 : rd f_20 h0 1 = .int li := (hfr_25.1 h0 (hTo.at 0 rfl).1 4 (hTo.at 0 rfl).2 1 (by decide)).trans hm_li
    refine W.eq (g2 := F0 m 51 ls [.int z_24]) rfl ?_
    refine vx_ret ?_
    exact K_iZ hx hb hr hlocks hP hD hK hS hT hE ⟨⟨_, rfl⟩, hF, _, hk_27, by omega⟩ (rfl) (by first | exact Nat.le_of_ble_eq_true rfl | (simp only [rm_X4_doBuilt]; omega) | omega) (by first | exact Nat.le_of_ble_eq_true rfl | (simp only [rm_X4_doBuilt]; omega) | omega) (by first | exact Nat.le_of_ble_eq_true rfl | (simp only [rm_X4_doBuilt]; omega) | omega) dX4_doBuilt_51
  by_cases c_31 : z_4 = 10
  · refine lv_tableIn (tgt := 52) hx hb dX4_doBuilt_4 (by rw [c_31]; decide) (by rw [c_31]; decide) (by rw [c_31]; rfl) (by decide) ?_
    refine lv_aload_n hx hb dX4_doBuilt_52 rfl (lv_at hl 0 rfl) ?_
    refine lv_aload_n hx hb dX4_doBuilt_53 rfl (lv_at hl 0 rfl) ?_
    refine lv_aload_n hx hb dX4_doBuilt_54 rfl (lv_at hl 1 rfl) ?_
    refine lv_aload_n hx hb dX4_doBuilt_55 rfl (lv_at hl 2 rfl) ?_
    have hTo := hT
    refine K_VY ⟨hx, hb, hml, hown, hts⟩ (t_X4_holds l dC dI sa hlt g _ _ h0 o w _ (hT.sub [0, 1, 2] rfl)  ) (cwV 2 hts gX4_doBuilt_X4_holds rfl rfl rfl (by decide +kernel) ⟨(by first | exact Nat.le_of_ble_eq_true rfl | (simp only [rm_X4_holds, rm_X4_doBuilt]; omega)), (by first | exact Nat.le_of_ble_eq_true rfl | (simp only [rm_X4_holds, rm_X4_doBuilt]; omega))⟩) hP hD hK hS hA hev hT 0 4 rfl rfl rfl rfl hl.1 rfl (Nat.le_of_ble_eq_true rfl) dX4_doBuilt_56 ⟨(by first | exact Nat.le_of_ble_eq_true rfl | (simp only [rm_X4_doBuilt]; omega) | omega), (by first | exact Nat.le_of_ble_eq_true rfl | (simp only [rm_X4_doBuilt]; omega) | omega)⟩ (fun E ce q9 L9 f9 H locs hpx hP hD hS hT hE1 hce hcv hcl => ?_) (fun r L_32 f_33 n_35 H locs hw_34 hn_36 hP hD hS hT hE1 => ?_)
    · have hF := Fr.call hF hE hpx.2 (by decide)
      have hE := hE.tr hE1
      exact K_out hno hlocks ⟨hpx.1, hF⟩ hP hD hK hS hT hE hce hcv hcl (by first | exact Nat.le_of_ble_eq_true rfl | (simp only [rm_X4_doBuilt]; omega) | omega) (by first | exact Nat.le_of_ble_eq_true rfl | (simp only [rm_X4_doBuilt]; omega) | omega)
    have hF := Fr.call hF hE hw_34.2 (by decide)
    have hE := hE.tr hE1
    obtain rfl : n_35 = 0 := hn_36
    obtain ⟨⟨z_37, rfl, hz_z_37⟩, hw_34⟩ := hw_34
    have hk_38 : rd f_33 h0 1 = .int li := (hw_34.1 h0 (hTo.at 0 rfl).1 4 (hTo.at 0 rfl).2 1 (by decide)).trans hm_li
    have hk_39 : rd f_33 h0 4 = .int cn := (hw_34.1 h0 (hTo.at 0 rfl).1 4 (hTo.at 0 rfl).2 4 (by decide)).trans hm_cn
    refine W.eq (g2 := F0 m 59 ls [.int z_37, .ref h0]) rfl ?_
    refine lv_if_eq (tgt := 69) hx hb dX4_doBuilt_59 (by decide) (fun c_40 => ?_) (fun c_40 => ?_)
    · refine lv_aload_n hx hb dX4_doBuilt_69 rfl (lv_at hl 1 rfl) ?_
      refine T_get (ci := 5) (C := RX5) (T := TX5) (N := 8) (t := (2, 0, 5, 0)) hx hb hts inw_X4_doBuilt_5 hown hK hP hT 1 rfl rfl 6 (by decide) (hts (.fieldLink RX4 117 "VatHouse$Step" "other" "LVatHouse$Step;") (by decide +kernel)) (fun _ h9 => h9) rfl dX4_doBuilt_70 (fun v_43 hv_41 hr_42 => ?_)
      rcases hv_41 with rfl | ⟨b_44, rfl, hb9⟩
      · refine lv_aload_n hx hb dX4_doBuilt_73 rfl (lv_at hl 2 rfl) ?_
        refine lv_iload_n hx hb dX4_doBuilt_74 rfl (lv_at hl 3 rfl) ?_
        have hTo := hT
        refine K_VY ⟨hx, hb, hml, hown, hts⟩ (IHS _ _ h0 .null w dep li cn _ (hT.sub [0, 2] rfl) (Or.inl rfl) hk_38 hk_39 hd) (cwV 3 hts gX4_doBuilt_X4_doSteps rfl rfl rfl (by decide +kernel) ⟨(by first | exact Nat.le_of_ble_eq_true rfl | (simp only [rm_X4_doSteps, rm_X4_doBuilt]; omega)), (by first | exact Nat.le_of_ble_eq_true rfl | (simp only [rm_X4_doSteps, rm_X4_doBuilt]; omega))⟩) hP hD hK hS hA hev hT 0 4 rfl rfl rfl rfl hl.1 rfl (Nat.le_of_ble_eq_true rfl) dX4_doBuilt_75 ⟨(by first | exact Nat.le_of_ble_eq_true rfl | (simp only [rm_X4_doBuilt]; omega) | omega), (by first | exact Nat.le_of_ble_eq_true rfl | (simp only [rm_X4_doBuilt]; omega) | omega)⟩ (fun E ce q9 L9 f9 H locs hpx hP hD hS hT hE1 hce hcv hcl => ?_) (fun r L_45 f_46 n_48 H locs hw_47 hn_49 hP hD hS hT hE1 => ?_)
        · have hF := Fr.call hF hE hpx.2 (by decide)
          have hE := hE.tr hE1
          exact K_out hno hlocks ⟨hpx.1, hF⟩ hP hD hK hS hT hE hce hcv hcl (by first | exact Nat.le_of_ble_eq_true rfl | (simp only [rm_X4_doBuilt]; omega) | omega) (by first | exact Nat.le_of_ble_eq_true rfl | (simp only [rm_X4_doBuilt]; omega) | omega)
        have hF := Fr.call hF hE hw_47.2.1 (by decide)
        have hE := hE.tr hE1
        obtain rfl : n_48 = 0 := hn_49
        obtain ⟨⟨z_50, rfl⟩, hw_47⟩ := hw_47
        obtain ⟨hfr_51, cn_52, hk_53, hrel_54⟩ := hw_47
        have hk_56 : rd f_46 h0 1 = .int li := (hfr_51.1 h0 (hTo.at 0 rfl).1 4 (hTo.at 0 rfl).2 1 (by decide)).trans hk_38
        refine W.eq (g2 := F0 m 78 ls [.int z_50]) rfl ?_
        refine vx_ret ?_
        exact K_iZ hx hb hr hlocks hP hD hK hS hT hE ⟨⟨_, rfl⟩, hF, _, hk_53, by omega⟩ (rfl) (by first | exact Nat.le_of_ble_eq_true rfl | (simp only [rm_X4_doBuilt]; omega) | omega) (by first | exact Nat.le_of_ble_eq_true rfl | (simp only [rm_X4_doBuilt]; omega) | omega) (by first | exact Nat.le_of_ble_eq_true rfl | (simp only [rm_X4_doBuilt]; omega) | omega) dX4_doBuilt_78
      · have hT := hT.add hb9
        refine lv_aload_n hx hb dX4_doBuilt_73 rfl (lv_at hl 2 rfl) ?_
        refine lv_iload_n hx hb dX4_doBuilt_74 rfl (lv_at hl 3 rfl) ?_
        have hTo := hT
        refine K_VY ⟨hx, hb, hml, hown, hts⟩ (IHS _ _ h0 (.ref b_44) w dep li cn _ (hT.sub [1, 3] rfl) (Or.inr ⟨_, rfl, hT.at 0 rfl⟩) hk_38 hk_39 hd) (cwV 3 hts gX4_doBuilt_X4_doSteps rfl rfl rfl (by decide +kernel) ⟨(by first | exact Nat.le_of_ble_eq_true rfl | (simp only [rm_X4_doSteps, rm_X4_doBuilt]; omega)), (by first | exact Nat.le_of_ble_eq_true rfl | (simp only [rm_X4_doSteps, rm_X4_doBuilt]; omega))⟩) hP hD hK hS hA hev hT 1 4 rfl rfl rfl rfl hl.1 rfl (Nat.le_of_ble_eq_true rfl) dX4_doBuilt_75 ⟨(by first | exact Nat.le_of_ble_eq_true rfl | (simp only [rm_X4_doBuilt]; omega) | omega), (by first | exact Nat.le_of_ble_eq_true rfl | (simp only [rm_X4_doBuilt]; omega) | omega)⟩ (fun E ce q9 L9 f9 H locs hpx hP hD hS hT hE1 hce hcv hcl => ?_) (fun r L_57 f_58 n_60 H locs hw_59 hn_61 hP hD hS hT hE1 => ?_)
        · have hF := Fr.call hF hE hpx.2 (by decide)
          have hE := hE.tr hE1
          exact K_out hno hlocks ⟨hpx.1, hF⟩ hP hD hK hS hT hE hce hcv hcl (by first | exact Nat.le_of_ble_eq_true rfl | (simp only [rm_X4_doBuilt]; omega) | omega) (by first | exact Nat.le_of_ble_eq_true rfl | (simp only [rm_X4_doBuilt]; omega) | omega)
        have hF := Fr.call hF hE hw_59.2.1 (by decide)
        have hE := hE.tr hE1
        obtain rfl : n_60 = 0 := hn_61
        obtain ⟨⟨z_62, rfl⟩, hw_59⟩ := hw_59
        obtain ⟨hfr_63, cn_64, hk_65, hrel_66⟩ := hw_59
        have hk_68 : rd f_58 h0 1 = .int li := (hfr_63.1 h0 (hTo.at 1 rfl).1 4 (hTo.at 1 rfl).2 1 (by decide)).trans hk_38
        refine W.eq (g2 := F0 m 78 ls [.int z_62]) rfl ?_
        refine vx_ret ?_
        exact K_iZ hx hb hr hlocks hP hD hK hS hT hE ⟨⟨_, rfl⟩, hF, _, hk_65, by omega⟩ (rfl) (by first | exact Nat.le_of_ble_eq_true rfl | (simp only [rm_X4_doBuilt]; omega) | omega) (by first | exact Nat.le_of_ble_eq_true rfl | (simp only [rm_X4_doBuilt]; omega) | omega) (by first | exact Nat.le_of_ble_eq_true rfl | (simp only [rm_X4_doBuilt]; omega) | omega) dX4_doBuilt_78
    · refine lv_aload_n hx hb dX4_doBuilt_62 rfl (lv_at hl 1 rfl) ?_
      refine T_get (ci := 5) (C := RX5) (T := TX5) (N := 8) (t := (2, 0, 5, 0)) hx hb hts inw_X4_doBuilt_5 hown hK hP hT 1 rfl rfl 5 (by decide) (hts (.fieldLink RX4 114 "VatHouse$Step" "block" "LVatHouse$Step;") (by decide +kernel)) (fun _ h9 => h9) rfl dX4_doBuilt_63 (fun v_71 hv_69 hr_70 => ?_)
      rcases hv_69 with rfl | ⟨b_72, rfl, hb9⟩
      · refine lv_goto (tgt := 73) hx hb dX4_doBuilt_66 (by decide) ?_
        refine lv_aload_n hx hb dX4_doBuilt_73 rfl (lv_at hl 2 rfl) ?_
        refine lv_iload_n hx hb dX4_doBuilt_74 rfl (lv_at hl 3 rfl) ?_
        have hTo := hT
        refine K_VY ⟨hx, hb, hml, hown, hts⟩ (IHS _ _ h0 .null w dep li cn _ (hT.sub [0, 2] rfl) (Or.inl rfl) hk_38 hk_39 hd) (cwV 3 hts gX4_doBuilt_X4_doSteps rfl rfl rfl (by decide +kernel) ⟨(by first | exact Nat.le_of_ble_eq_true rfl | (simp only [rm_X4_doSteps, rm_X4_doBuilt]; omega)), (by first | exact Nat.le_of_ble_eq_true rfl | (simp only [rm_X4_doSteps, rm_X4_doBuilt]; omega))⟩) hP hD hK hS hA hev hT 0 4 rfl rfl rfl rfl hl.1 rfl (Nat.le_of_ble_eq_true rfl) dX4_doBuilt_75 ⟨(by first | exact Nat.le_of_ble_eq_true rfl | (simp only [rm_X4_doBuilt]; omega) | omega), (by first | exact Nat.le_of_ble_eq_true rfl | (simp only [rm_X4_doBuilt]; omega) | omega)⟩ (fun E ce q9 L9 f9 H locs hpx hP hD hS hT hE1 hce hcv hcl => ?_) (fun r L_73 f_74 n_76 H locs hw_75 hn_77 hP hD hS hT hE1 => ?_)
        · have hF := Fr.call hF hE hpx.2 (by decide)
          have hE := hE.tr hE1
          exact K_out hno hlocks ⟨hpx.1, hF⟩ hP hD hK hS hT hE hce hcv hcl (by first | exact Nat.le_of_ble_eq_true rfl | (simp only [rm_X4_doBuilt]; omega) | omega) (by first | exact Nat.le_of_ble_eq_true rfl | (simp only [rm_X4_doBuilt]; omega) | omega)
        have hF := Fr.call hF hE hw_75.2.1 (by decide)
        have hE := hE.tr hE1
        obtain rfl : n_76 = 0 := hn_77
        obtain ⟨⟨z_78, rfl⟩, hw_75⟩ := hw_75
        obtain ⟨hfr_79, cn_80, hk_81, hrel_82⟩ := hw_75
        have hk_84 : rd f_74 h0 1 = .int li := (hfr_79.1 h0 (hTo.at 0 rfl).1 4 (hTo.at 0 rfl).2 1 (by decide)).trans hk_38
        refine W.eq (g2 := F0 m 78 ls [.int z_78]) rfl ?_
        refine vx_ret ?_
        exact K_iZ hx hb hr hlocks hP hD hK hS hT hE ⟨⟨_, rfl⟩, hF, _, hk_81, by omega⟩ (rfl) (by first | exact Nat.le_of_ble_eq_true rfl | (simp only [rm_X4_doBuilt]; omega) | omega) (by first | exact Nat.le_of_ble_eq_true rfl | (simp only [rm_X4_doBuilt]; omega) | omega) (by first | exact Nat.le_of_ble_eq_true rfl | (simp only [rm_X4_doBuilt]; omega) | omega) dX4_doBuilt_78
      · have hT := hT.add hb9
        refine lv_goto (tgt := 73) hx hb dX4_doBuilt_66 (by decide) ?_
        refine lv_aload_n hx hb dX4_doBuilt_73 rfl (lv_at hl 2 rfl) ?_
        refine lv_iload_n hx hb dX4_doBuilt_74 rfl (lv_at hl 3 rfl) ?_
        have hTo := hT
        refine K_VY ⟨hx, hb, hml, hown, hts⟩ (IHS _ _ h0 (.ref b_72) w dep li cn _ (hT.sub [1, 3] rfl) (Or.inr ⟨_, rfl, hT.at 0 rfl⟩) hk_38 hk_39 hd) (cwV 3 hts gX4_doBuilt_X4_doSteps rfl rfl rfl (by decide +kernel) ⟨(by first | exact Nat.le_of_ble_eq_true rfl | (simp only [rm_X4_doSteps, rm_X4_doBuilt]; omega)), (by first | exact Nat.le_of_ble_eq_true rfl | (simp only [rm_X4_doSteps, rm_X4_doBuilt]; omega))⟩) hP hD hK hS hA hev hT 1 4 rfl rfl rfl rfl hl.1 rfl (Nat.le_of_ble_eq_true rfl) dX4_doBuilt_75 ⟨(by first | exact Nat.le_of_ble_eq_true rfl | (simp only [rm_X4_doBuilt]; omega) | omega), (by first | exact Nat.le_of_ble_eq_true rfl | (simp only [rm_X4_doBuilt]; omega) | omega)⟩ (fun E ce q9 L9 f9 H locs hpx hP hD hS hT hE1 hce hcv hcl => ?_) (fun r L_85 f_86 n_88 H locs hw_87 hn_89 hP hD hS hT hE1 => ?_)
        · have hF := Fr.call hF hE hpx.2 (by decide)
          have hE := hE.tr hE1
          exact K_out hno hlocks ⟨hpx.1, hF⟩ hP hD hK hS hT hE hce hcv hcl (by first | exact Nat.le_of_ble_eq_true rfl | (simp only [rm_X4_doBuilt]; omega) | omega) (by first | exact Nat.le_of_ble_eq_true rfl | (simp only [rm_X4_doBuilt]; omega) | omega)
        have hF := Fr.call hF hE hw_87.2.1 (by decide)
        have hE := hE.tr hE1
        obtain rfl : n_88 = 0 := hn_89
        obtain ⟨⟨z_90, rfl⟩, hw_87⟩ := hw_87
        obtain ⟨hfr_91, cn_92, hk_93, hrel_94⟩ := hw_87
        have hk_96 : rd f_86 h0 1 = .int li := (hfr_91.1 h0 (hTo.at 1 rfl).1 4 (hTo.at 1 rfl).2 1 (by decide)).trans hk_38
        refine W.eq (g2 := F0 m 78 ls [.int z_90]) rfl ?_
        refine vx_ret ?_
        exact K_iZ hx hb hr hlocks hP hD hK hS hT hE ⟨⟨_, rfl⟩, hF, _, hk_93, by omega⟩ (rfl) (by first | exact Nat.le_of_ble_eq_true rfl | (simp only [rm_X4_doBuilt]; omega) | omega) (by first | exact Nat.le_of_ble_eq_true rfl | (simp only [rm_X4_doBuilt]; omega) | omega) (by first | exact Nat.le_of_ble_eq_true rfl | (simp only [rm_X4_doBuilt]; omega) | omega) dX4_doBuilt_78
  by_cases c_97 : z_4 = 11
  · refine lv_tableIn (tgt := 79) hx hb dX4_doBuilt_4 (by rw [c_97]; decide) (by rw [c_97]; decide) (by rw [c_97]; rfl) (by decide) ?_
    refine lv_aload_n hx hb dX4_doBuilt_79 rfl (lv_at hl 0 rfl) ?_
    refine lv_aload_n hx hb dX4_doBuilt_80 rfl (lv_at hl 1 rfl) ?_
    refine lv_aload_n hx hb dX4_doBuilt_81 rfl (lv_at hl 2 rfl) ?_
    refine lv_iload_n hx hb dX4_doBuilt_82 rfl (lv_at hl 3 rfl) ?_
    have hTo := hT
    refine K_VY ⟨hx, hb, hml, hown, hts⟩ (t_X4_doTry l dC dI sa hlt g _ _ j d h0 o w dep li cn _ (hT.sub [0, 1, 2] rfl)  hm_li hm_cn hd hdj IHS) (cwV 3 hts gX4_doBuilt_X4_doTry rfl rfl rfl (by decide +kernel) ⟨(by first | exact Nat.le_of_ble_eq_true rfl | (simp only [rm_X4_doTry, rm_X4_doBuilt]; omega)), (by first | exact Nat.le_of_ble_eq_true rfl | (simp only [rm_X4_doTry, rm_X4_doBuilt]; omega))⟩) hP hD hK hS hA hev hT 0 4 rfl rfl rfl rfl hl.1 rfl (Nat.le_of_ble_eq_true rfl) dX4_doBuilt_83 ⟨(by first | exact Nat.le_of_ble_eq_true rfl | (simp only [rm_X4_doBuilt]; omega) | omega), (by first | exact Nat.le_of_ble_eq_true rfl | (simp only [rm_X4_doBuilt]; omega) | omega)⟩ (fun E ce q9 L9 f9 H locs hpx hP hD hS hT hE1 hce hcv hcl => ?_) (fun r L_98 f_99 n_101 H locs hw_100 hn_102 hP hD hS hT hE1 => ?_)
    · have hF := Fr.call hF hE hpx.2 (by decide)
      have hE := hE.tr hE1
      exact K_out hno hlocks ⟨hpx.1, hF⟩ hP hD hK hS hT hE hce hcv hcl (by first | exact Nat.le_of_ble_eq_true rfl | (simp only [rm_X4_doBuilt]; omega) | omega) (by first | exact Nat.le_of_ble_eq_true rfl | (simp only [rm_X4_doBuilt]; omega) | omega)
    have hF := Fr.call hF hE hw_100.2.1 (by decide)
    have hE := hE.tr hE1
    obtain rfl : n_101 = 0 := hn_102
    obtain ⟨⟨z_103, rfl⟩, hw_100⟩ := hw_100
    obtain ⟨hfr_104, cn_105, hk_106, hrel_107⟩ := hw_100
    have hk_109 : rd f_99 h0 1 = .int li := (hfr_104.1 h0 (hTo.at 0 rfl).1 4 (hTo.at 0 rfl).2 1 (by decide)).trans hm_li
    refine W.eq (g2 := F0 m 86 ls [.int z_103]) rfl ?_
    refine vx_ret ?_
    exact K_iZ hx hb hr hlocks hP hD hK hS hT hE ⟨⟨_, rfl⟩, hF, _, hk_106, by omega⟩ (rfl) (by first | exact Nat.le_of_ble_eq_true rfl | (simp only [rm_X4_doBuilt]; omega) | omega) (by first | exact Nat.le_of_ble_eq_true rfl | (simp only [rm_X4_doBuilt]; omega) | omega) (by first | exact Nat.le_of_ble_eq_true rfl | (simp only [rm_X4_doBuilt]; omega) | omega) dX4_doBuilt_86
  refine lv_tableOut (tgt := 87) hx hb dX4_doBuilt_4 (tab_out_8_11 c_5 c_18 c_31 c_97) (by decide) ?_
  refine lv_aload_n hx hb dX4_doBuilt_87 rfl (lv_at hl 0 rfl) ?_
  refine lv_aload_n hx hb dX4_doBuilt_88 rfl (lv_at hl 1 rfl) ?_
  refine lv_aload_n hx hb dX4_doBuilt_89 rfl (lv_at hl 2 rfl) ?_
  refine lv_iload_n hx hb dX4_doBuilt_90 rfl (lv_at hl 3 rfl) ?_
  have hTo := hT
  refine K_VY ⟨hx, hb, hml, hown, hts⟩ (t_X4_doWithLast l dC dI sa hlt g _ _ j d h0 o w dep li cn _ (hT.sub [0, 1, 2] rfl)  hm_li hm_cn hd hdj IHS) (cwV 3 hts gX4_doBuilt_X4_doWithLast rfl rfl rfl (by decide +kernel) ⟨(by first | exact Nat.le_of_ble_eq_true rfl | (simp only [rm_X4_doWithLast, rm_X4_doBuilt]; omega)), (by first | exact Nat.le_of_ble_eq_true rfl | (simp only [rm_X4_doWithLast, rm_X4_doBuilt]; omega))⟩) hP hD hK hS hA hev hT 0 4 rfl rfl rfl rfl hl.1 rfl (Nat.le_of_ble_eq_true rfl) dX4_doBuilt_91 ⟨(by first | exact Nat.le_of_ble_eq_true rfl | (simp only [rm_X4_doBuilt]; omega) | omega), (by first | exact Nat.le_of_ble_eq_true rfl | (simp only [rm_X4_doBuilt]; omega) | omega)⟩ (fun E ce q9 L9 f9 H locs hpx hP hD hS hT hE1 hce hcv hcl => ?_) (fun r L_110 f_111 n_113 H locs hw_112 hn_114 hP hD hS hT hE1 => ?_)
  · have hF := Fr.call hF hE hpx.2 (by decide)
    have hE := hE.tr hE1
    exact K_out hno hlocks ⟨hpx.1, hF⟩ hP hD hK hS hT hE hce hcv hcl (by first | exact Nat.le_of_ble_eq_true rfl | (simp only [rm_X4_doBuilt]; omega) | omega) (by first | exact Nat.le_of_ble_eq_true rfl | (simp only [rm_X4_doBuilt]; omega) | omega)
  have hF := Fr.call hF hE hw_112.2.1 (by decide)
  have hE := hE.tr hE1
  obtain rfl : n_113 = 0 := hn_114
  obtain ⟨⟨z_115, rfl⟩, hw_112⟩ := hw_112
  obtain ⟨hfr_116, cn_117, hk_118, hrel_119⟩ := hw_112
  have hk_121 : rd f_111 h0 1 = .int li := (hfr_116.1 h0 (hTo.at 0 rfl).1 4 (hTo.at 0 rfl).2 1 (by decide)).trans hm_li
  refine W.eq (g2 := F0 m 94 ls [.int z_115]) rfl ?_
  refine vx_ret ?_
  exact K_iZ hx hb hr hlocks hP hD hK hS hT hE ⟨⟨_, rfl⟩, hF, _, hk_118, by omega⟩ (rfl) (by first | exact Nat.le_of_ble_eq_true rfl | (simp only [rm_X4_doBuilt]; omega) | omega) (by first | exact Nat.le_of_ble_eq_true rfl | (simp only [rm_X4_doBuilt]; omega) | omega) (by first | exact Nat.le_of_ble_eq_true rfl | (simp only [rm_X4_doBuilt]; omega) | omega) dX4_doBuilt_94

theorem lv8 {x : Int32} {d : Nat} (hd : x = nI d) (h : x ≤ 8) (hb : d ≤ 9 := by omega) : d ≤ 8 := by
  subst hd
  rcases Nat.lt_or_ge 8 d with h1 | h1
  · have : d = 9 := by omega
    subst this
    exact absurd h (by decide)
  · exact h1

theorem inw_X4_doSteps_5 : ∀ w ∈ wsX50, w ∈ wsX4_doSteps := by decide +kernel
set_option maxHeartbeats 800000 in
set_option maxRecDepth 100000 in
theorem t_X4_doSteps (l : Launch) (dC : Nat → ClassId) (dI : Nat → Nat → Nat) (sa : Nat → Nat) (hlt : l.stackTraces = false) (g : Nat → Nat) (L : List Nat) (f : Nat → va_E) (j : Nat) (d : Nat) (h0 : Nat) (fs : Value) (w : Nat) (dep : Int32) (li : Int32) (cn : Int32) (sz : Nat) (hT : TP g L f [(h0, (0, 4, 0)), (w, (0, 0, 0))]) (hn_fs : okv L f (2, 0, 5, 0) fs) (hm_li : rd f h0 1 = .int li) (hm_cn : rd f h0 4 = .int cn) (hd : dep = nI d) (hdj : d + j = 9) (IHB : ∀ j' d' : Nat, d' + j' = 9 → j = j' + 1 → ∀ (L : List Nat) (f : Nat → va_E) (h0 : Nat) (o : Nat) (w : Nat) (dep : Int32) (li : Int32) (cn : Int32) (sz : Nat) (hT : TP g L f [(h0, (0, 4, 0)), (o, (0, 5, 0)), (w, (0, 0, 0))]) (hm_li : rd f h0 1 = .int li) (hm_cn : rd f h0 4 = .int cn) (hd : dep = nI d'), KY l dC dI sa g yX4_doBuilt wsX4_doBuilt (rm_X4_doBuilt j' d') [.ref h0, .ref o, .ref w, .int dep] L f sz (fun r L' f' => (∃ z : Int32, r = some (.int z)) ∧ Fr [(0, 0), (0, 1), (0, 2), (0, 3), (0, 4), (0, 5), (0, 6), (0, 7), (7, 0), (7, 1), (7, 2), (7, 3), (7, 4), (7, 5), (7, 6), (7, 7), (8, 0), (8, 1), (8, 2), (4, 4), (4, 5), (4, 6), (4, 7)] L f f' ∧ (∃ cn' : Int32, rd f' h0 4 = .int cn' ∧ (cn.toInt ≤ cn'.toInt))) (fun n _ => n = 0) (fun E L' f' => (E = NSE) ∧ Fr [(0, 0), (0, 1), (0, 2), (0, 3), (0, 4), (0, 5), (0, 6), (0, 7), (7, 0), (7, 1), (7, 2), (7, 3), (7, 4), (7, 5), (7, 6), (7, 7), (8, 0), (8, 1), (8, 2), (4, 4), (4, 5), (4, 6), (4, 7)] L f f') 1 6) : KY l dC dI sa g yX4_doSteps wsX4_doSteps (rm_X4_doSteps j d) [.ref h0, fs, .ref w, .int dep] L f sz (fun r L' f' => (∃ z : Int32, r = some (.int z)) ∧ Fr [(0, 0), (0, 1), (0, 2), (0, 3), (0, 4), (0, 5), (0, 6), (0, 7), (7, 0), (7, 1), (7, 2), (7, 3), (7, 4), (7, 5), (7, 6), (7, 7), (8, 0), (8, 1), (8, 2), (4, 4), (4, 5), (4, 6), (4, 7)] L f f' ∧ (∃ cn' : Int32, rd f' h0 4 = .int cn' ∧ (cn.toInt ≤ cn'.toInt))) (fun n _ => n = 0) (fun E L' f' => (E = NSE) ∧ Fr [(0, 0), (0, 1), (0, 2), (0, 3), (0, 4), (0, 5), (0, 6), (0, 7), (7, 0), (7, 1), (7, 2), (7, 3), (7, 4), (7, 5), (7, 6), (7, 7), (8, 0), (8, 1), (8, 2), (4, 4), (4, 5), (4, 6), (4, 7)] L f f') 1 6 := by
  rcases hn_fs with rfl | ⟨b_1, rfl, hb9⟩
  · refine KY.start (cc := cX4_doSteps) (maxL := 6) (ret := (some .int)) (by decide) rfl (Nat.le_of_ble_eq_true rfl) ?_
    intro p e s m below meth c ls hst hno hP hK hD hev hS hl
    obtain ⟨hx, hb, hr, hml, hts, hown, hlocks, hin⟩ := hst
    have hown : s.vm.findClass RX4 = some m.cls := hown
    have hin : meth.name = yX4_doSteps.name := hin
    have hA : ∀ q : Nat, s.heap.size ≤ q → va_A (va_pl L f) s.heap.size q := fun _ h => Or.inr h
    have hE : Ext L f L f := Ext.rf
    have hF : Fr [(0, 0), (0, 1), (0, 2), (0, 3), (0, 4), (0, 5), (0, 6), (0, 7), (7, 0), (7, 1), (7, 2), (7, 3), (7, 4), (7, 5), (7, 6), (7, 7), (8, 0), (8, 1), (8, 2), (4, 4), (4, 5), (4, 6), (4, 7)] L f f := Fr.rf
    have hl : lv_has ls 6 [(0, .ref h0), (1, .null), (2, .ref w), (3, .int dep)] := hl
    refine lv_iload_n hx hb dX4_doSteps_0 rfl (lv_at hl 3 rfl) ?_
    refine lv_bipush (v := 8) hx hb dX4_doSteps_1 (by decide) ?_
    refine lv_icmp_le (tgt := 8) hx hb dX4_doSteps_3 (by decide) (fun c_2 => ?_) (fun c_2 => ?_)
    · refine lv_iconst (v := 0) hx hb dX4_doSteps_8 (by decide) ?_
      refine lv_istore (lv' := [(4, .int 0), (0, .ref h0), (1, .null), (2, .ref w), (3, .int dep)]) hx hb dX4_doSteps_9 hl (by decide) rfl (fun ls hl => ?_)
      refine lv_aload_nN hx hb dX4_doSteps_11 rfl (lv_at hl 2 rfl) ?_
      refine lv_astoreN (lv' := [(5, .null), (4, .int 0), (0, .ref h0), (1, .null), (2, .ref w), (3, .int dep)]) hx hb dX4_doSteps_12 hl (by decide) rfl (fun ls hl => ?_)
      have lp : ∀ (n : Nat) (oc : Int32) (sv : Value) (k1 : Int32) (L1 : List Nat) (f1 : Nat → va_E) (H : Heap) (locs : List Loc) (ls : Array Slot), ((oc = 0 → (li.toInt - k1.toInt).toNat + 1 < n) ∧ 0 < n) → okv L1 f1 (2, 0, 5, 0) sv → rd f1 h0 1 = .int li → rd f1 h0 4 = .int k1 → (cn.toInt ≤ k1.toInt) → va_P (dC, dI) vwCl (va_pl L1 f1) H → va_D (va_A (va_pl L f) s.heap.size) (va_pl L1 f1) → va_S (va_A (va_pl L f) s.heap.size) s.heap H locs → TP g L1 f1 [(h0, (0, 4, 0)), (w, (0, 0, 0))] → Ext L f L1 f1 → Fr [(0, 0), (0, 1), (0, 2), (0, 3), (0, 4), (0, 5), (0, 6), (0, 7), (7, 0), (7, 1), (7, 2), (7, 3), (7, 4), (7, 5), (7, 6), (7, 7), (8, 0), (8, 1), (8, 2), (4, 4), (4, 5), (4, 6), (4, 7)] L f f1 → lv_has ls 6 [(4, .int oc), (5, sv), (0, .ref h0), (1, .null), (2, .ref w), (3, .int dep)] → W p l e (rm_X4_doSteps j d) s m [.ref h0, .null, .ref w, .int dep].toArray below meth c H locs 0 0 (vx_MQ below (Qz dC dI g L f (va_A (va_pl L f) s.heap.size) (fun r L' f' => (∃ z : Int32, r = some (.int z)) ∧ Fr [(0, 0), (0, 1), (0, 2), (0, 3), (0, 4), (0, 5), (0, 6), (0, 7), (7, 0), (7, 1), (7, 2), (7, 3), (7, 4), (7, 5), (7, 6), (7, 7), (8, 0), (8, 1), (8, 2), (4, 4), (4, 5), (4, 6), (4, 7)] L f f' ∧ (∃ cn' : Int32, rd f' h0 4 = .int cn' ∧ (cn.toInt ≤ cn'.toInt))) (fun n _ => n = 0)) (XK dC dI g L f s.heap.size (fun E L' f' => (E = NSE) ∧ Fr [(0, 0), (0, 1), (0, 2), (0, 3), (0, 4), (0, 5), (0, 6), (0, 7), (7, 0), (7, 1), (7, 2), (7, 3), (7, 4), (7, 5), (7, 6), (7, 7), (8, 0), (8, 1), (8, 2), (4, 4), (4, 5), (4, 6), (4, 7)] L f f')) [.ref h0, .null, .ref w, .int dep].toArray s (1) (6) (va_A (va_pl L f) s.heap.size)) (F0 m 14 ls []) := by
        intro n
        induction n with
        | zero => intro oc sv k1 L1 f1 H locs ls hm hn_sv hk_h0_1 hk_h0_4 hle hP hD hS hT hE hF hl; exact absurd hm.2 (by omega)
        | succ n ih =>
          intro oc sv k1 L1 f1 H locs ls hm hn_sv hk_h0_1 hk_h0_4 hle hP hD hS hT hE hF hl
          rcases hn_sv with rfl | ⟨b_3, rfl, hb9⟩
          · have hl : lv_has ls 6 [(4, .int oc), (5, .null), (0, .ref h0), (1, .null), (2, .ref w), (3, .int dep)] := hl
            refine lv_aloadN hx hb dX4_doSteps_14 (lv_at hl 1 rfl) ?_
            refine lv_ifnullN (tgt := 81) hx hb dX4_doSteps_16 (by decide) ?_
            refine lv_iload hx hb dX4_doSteps_81 (lv_at hl 0 rfl) ?_
            refine vx_ret ?_
            exact K_iZ hx hb hr hlocks hP hD hK hS hT hE ⟨⟨_, rfl⟩, hF, _, hk_h0_4, by omega⟩ (rfl) (by first | exact Nat.le_of_ble_eq_true rfl | (simp only [rm_X4_doSteps]; omega) | omega) (by first | exact Nat.le_of_ble_eq_true rfl | (simp only [rm_X4_doSteps]; omega) | omega) (by first | exact Nat.le_of_ble_eq_true rfl | (simp only [rm_X4_doSteps]; omega) | omega) dX4_doSteps_83
          · have hT := hT.add hb9
            have hl : lv_has ls 6 [(4, .int oc), (5, .ref b_3), (0, .ref h0), (1, .null), (2, .ref w), (3, .int dep)] := hl
            refine lv_aload hx hb dX4_doSteps_14 (lv_at hl 1 rfl) ?_
            refine lv_ifnull hx hb dX4_doSteps_16 ?_
            refine lv_iload hx hb dX4_doSteps_19 (lv_at hl 0 rfl) ?_
            refine lv_if_ne (tgt := 81) hx hb dX4_doSteps_21 (by decide) (fun c_4 => ?_) (fun c_4 => ?_)
            · refine lv_iload hx hb dX4_doSteps_81 (lv_at hl 0 rfl) ?_
              refine vx_ret ?_
              exact K_iZ hx hb hr hlocks hP hD hK hS hT hE ⟨⟨_, rfl⟩, hF, _, hk_h0_4, by omega⟩ (rfl) (by first | exact Nat.le_of_ble_eq_true rfl | (simp only [rm_X4_doSteps]; omega) | omega) (by first | exact Nat.le_of_ble_eq_true rfl | (simp only [rm_X4_doSteps]; omega) | omega) (by first | exact Nat.le_of_ble_eq_true rfl | (simp only [rm_X4_doSteps]; omega) | omega) dX4_doSteps_83
            · refine lv_aload_n hx hb dX4_doSteps_24 rfl (lv_at hl 2 rfl) ?_
              have hTo := hT
              refine K_V ⟨hx, hb, hml, hown, hts⟩ (t_X4_mayCount l dC dI sa hlt g _ _ h0 li k1 _ (hT.sub [1] rfl)  hk_h0_1 hk_h0_4 ) (cwV 0 hts gX4_doSteps_X4_mayCount rfl rfl rfl (by decide +kernel) ⟨(by first | exact Nat.le_of_ble_eq_true rfl | (simp only [rm_X4_mayCount, rm_X4_doSteps]; omega)), (by first | exact Nat.le_of_ble_eq_true rfl | (simp only [rm_X4_mayCount, rm_X4_doSteps]; omega))⟩) hP hD hK hS hA hev hT 1 4 rfl rfl rfl rfl hl.1 rfl (Nat.le_of_ble_eq_true rfl) dX4_doSteps_25 ⟨(by first | exact Nat.le_of_ble_eq_true rfl | (simp only [rm_X4_doSteps]; omega) | omega), (by first | exact Nat.le_of_ble_eq_true rfl | (simp only [rm_X4_doSteps]; omega) | omega)⟩ (fun r L_5 f_6 H locs hw_7 hP hD hS hT hE1 => ?_)
              have hF := Fr.call hF hE hw_7.2 (by decide)
              have hE := hE.tr hE1
              obtain ⟨⟨rfl, hz2_8⟩ | ⟨rfl, hz2_8⟩, hw_7⟩ := hw_7
              · have hk_9 : rd f_6 h0 1 = .int li := (hw_7.1 h0 (hTo.at 1 rfl).1 4 (hTo.at 1 rfl).2 1 (by decide)).trans hk_h0_1
                refine W.eq (g2 := F0 m 28 ls [.int 0]) rfl ?_
                refine lv_if_ne (tgt := 37) hx hb dX4_doSteps_28 (by decide) (fun c_10 => ?_) (fun c_10 => ?_)
                · exact absurd c_10 (by decide)
                refine lv_iconst (v := (-1)) hx hb dX4_doSteps_31 (by decide) ?_
                refine lv_istore (lv' := [(4, .int (-1)), (5, .ref b_3), (0, .ref h0), (1, .null), (2, .ref w), (3, .int dep)]) hx hb dX4_doSteps_32 hl (by decide) rfl (fun ls hl => ?_)
                refine lv_goto (tgt := 71) hx hb dX4_doSteps_34 (by decide) ?_
                refine lv_aload hx hb dX4_doSteps_71 (lv_at hl 1 rfl) ?_
                refine T_get (ci := 5) (C := RX5) (T := TX5) (N := 8) (t := (2, 0, 5, 0)) hx hb hts inw_X4_doSteps_5 hown hK hP hT 0 rfl rfl 7 (by decide) (hts (.fieldLink RX4 63 "VatHouse$Step" "next" "LVatHouse$Step;") (by decide +kernel)) (fun _ h9 => h9) rfl dX4_doSteps_73 (fun v_13 hv_11 hr_12 => ?_)
                rcases hv_11 with rfl | ⟨b_14, rfl, hb9⟩
                · refine lv_astoreN (lv' := [(5, .null), (4, .int (-1)), (0, .ref h0), (1, .null), (2, .ref w), (3, .int dep)]) hx hb dX4_doSteps_76 hl (by decide) rfl (fun ls hl => ?_)
                  refine lv_goto (tgt := 14) hx hb dX4_doSteps_78 (by decide) ?_
                  exact ih (-1) .null k1 _ _ _ _ _ (⟨fun h9 => absurd h9 (by decide), by have := hm.1 c_4; omega⟩) (Or.inl rfl) hk_9 hz2_8 (by omega) hP hD hS (hT.sub [1, 2] rfl) hE hF (lv_sub hl [1, 0, 2, 3, 4, 5] rfl)
                · have hT := hT.add hb9
                  refine lv_astore (lv' := [(5, .ref b_14), (4, .int (-1)), (0, .ref h0), (1, .null), (2, .ref w), (3, .int dep)]) hx hb dX4_doSteps_76 hl (by decide) rfl (fun ls hl => ?_)
                  refine lv_goto (tgt := 14) hx hb dX4_doSteps_78 (by decide) ?_
                  exact ih (-1) (.ref b_14) k1 _ _ _ _ _ (⟨fun h9 => absurd h9 (by decide), by have := hm.1 c_4; omega⟩) (Or.inr ⟨_, rfl, hT.at 0 rfl⟩) hk_9 hz2_8 (by omega) hP hD hS (hT.sub [2, 3] rfl) hE hF (lv_sub hl [1, 0, 2, 3, 4, 5] rfl)
              · have hk_15 : rd f_6 h0 1 = .int li := (hw_7.1 h0 (hTo.at 1 rfl).1 4 (hTo.at 1 rfl).2 1 (by decide)).trans hk_h0_1
                obtain ⟨kn_16, hk_17, hu_18, hv_19⟩ := hz2_8
                refine W.eq (g2 := F0 m 28 ls [.int 1]) rfl ?_
                refine lv_if_ne (tgt := 37) hx hb dX4_doSteps_28 (by decide) (fun c_20 => ?_) (fun c_20 => ?_)
                rotate_left
                · exact absurd c_20 (by decide)
                refine lv_aload hx hb dX4_doSteps_37 (lv_at hl 1 rfl) ?_
                refine T_get (ci := 5) (C := RX5) (T := TX5) (N := 8) (t := tI) hx hb hts inw_X4_doSteps_5 hown hK hP hT 0 rfl rfl 0 (by decide) (hts (.fieldLink RX4 51 "VatHouse$Step" "word" "I") (by decide +kernel)) (fun _ h9 => h9) rfl dX4_doSteps_39 (fun v_23 hv_21 hr_22 => ?_)
                obtain ⟨z_24, rfl⟩ := hv_21
                refine lv_bipush (v := 8) hx hb dX4_doSteps_42 (by decide) ?_
                refine lv_icmp_ge (tgt := 59) hx hb dX4_doSteps_44 (by decide) (fun c_25 => ?_) (fun c_25 => ?_)
                · refine lv_aload_n hx hb dX4_doSteps_59 rfl (lv_at hl 2 rfl) ?_
                  refine lv_aload hx hb dX4_doSteps_60 (lv_at hl 1 rfl) ?_
                  refine lv_aload_n hx hb dX4_doSteps_62 rfl (lv_at hl 4 rfl) ?_
                  refine lv_iload_n hx hb dX4_doSteps_63 rfl (lv_at hl 5 rfl) ?_
                  refine lv_iconst (v := 1) hx hb dX4_doSteps_64 (by decide) ?_
                  refine lv_iadd hx hb dX4_doSteps_65 ?_
                  refine lv_topi (fun z_26 ez_26 => ?_)
                  obtain ⟨j1, hj_27⟩ : ∃ j1, j = j1 + 1 := ⟨j - 1, by have := lv8 hd c_2; omega⟩
                  have hTo := hT
                  refine K_VY ⟨hx, hb, hml, hown, hts⟩ (IHB j1 (d + 1) (by omega) hj_27 _ _ h0 b_3 w z_26 li kn_16 _ (hT.sub [1, 0, 2] rfl)  hk_15 hk_17 (by rw [ez_26, hd]; exact nI_1 d)) (cwV 3 hts gX4_doSteps_X4_doBuilt rfl rfl rfl (by decide +kernel) ⟨(by first | exact Nat.le_of_ble_eq_true rfl | (simp only [rm_X4_doBuilt, rm_X4_doSteps]; omega)), (by first | exact Nat.le_of_ble_eq_true rfl | (simp only [rm_X4_doBuilt, rm_X4_doSteps]; omega))⟩) hP hD hK hS hA hev hT 1 4 rfl rfl rfl rfl hl.1 rfl (Nat.le_of_ble_eq_true rfl) dX4_doSteps_66 ⟨(by first | exact Nat.le_of_ble_eq_true rfl | (simp only [rm_X4_doSteps]; omega) | omega), (by first | exact Nat.le_of_ble_eq_true rfl | (simp only [rm_X4_doSteps]; omega) | omega)⟩ (fun E ce q9 L9 f9 H locs hpx hP hD hS hT hE1 hce hcv hcl => ?_) (fun r L_28 f_29 n_31 H locs hw_30 hn_32 hP hD hS hT hE1 => ?_)
                  · have hF := Fr.call hF hE hpx.2 (by decide)
                    have hE := hE.tr hE1
                    exact K_out hno hlocks ⟨hpx.1, hF⟩ hP hD hK hS hT hE hce hcv hcl (by first | exact Nat.le_of_ble_eq_true rfl | (simp only [rm_X4_doSteps]; omega) | omega) (by first | exact Nat.le_of_ble_eq_true rfl | (simp only [rm_X4_doSteps]; omega) | omega)
                  have hF := Fr.call hF hE hw_30.2.1 (by decide)
                  have hE := hE.tr hE1
                  obtain rfl : n_31 = 0 := hn_32
                  obtain ⟨⟨z_33, rfl⟩, hw_30⟩ := hw_30
                  obtain ⟨hfr_34, cn_35, hk_36, hrel_37⟩ := hw_30
                  have hk_39 : rd f_29 h0 1 = .int li := (hfr_34.1 h0 (hTo.at 1 rfl).1 4 (hTo.at 1 rfl).2 1 (by decide)).trans hk_15
                  refine W.eq (g2 := F0 m 69 ls [.int z_33]) rfl ?_
                  refine lv_istore (lv' := [(4, .int z_33), (5, .ref b_3), (0, .ref h0), (1, .null), (2, .ref w), (3, .int dep)]) hx hb dX4_doSteps_69 hl (by decide) rfl (fun ls hl => ?_)
                  refine lv_aload hx hb dX4_doSteps_71 (lv_at hl 1 rfl) ?_
                  refine T_get (ci := 5) (C := RX5) (T := TX5) (N := 8) (t := (2, 0, 5, 0)) hx hb hts inw_X4_doSteps_5 hown hK hP hT 0 rfl rfl 7 (by decide) (hts (.fieldLink RX4 63 "VatHouse$Step" "next" "LVatHouse$Step;") (by decide +kernel)) (fun _ h9 => h9) rfl dX4_doSteps_73 (fun v_42 hv_40 hr_41 => ?_)
                  rcases hv_40 with rfl | ⟨b_43, rfl, hb9⟩
                  · refine lv_astoreN (lv' := [(5, .null), (4, .int z_33), (0, .ref h0), (1, .null), (2, .ref w), (3, .int dep)]) hx hb dX4_doSteps_76 hl (by decide) rfl (fun ls hl => ?_)
                    refine lv_goto (tgt := 14) hx hb dX4_doSteps_78 (by decide) ?_
                    exact ih z_33 .null cn_35 _ _ _ _ _ (⟨fun _ => by have := hm.1 c_4; omega, by have := hm.1 c_4; omega⟩) (Or.inl rfl) hk_39 hk_36 (by omega) hP hD hS (hT.sub [1, 2] rfl) hE hF (lv_sub hl [1, 0, 2, 3, 4, 5] rfl)
                  · have hT := hT.add hb9
                    refine lv_astore (lv' := [(5, .ref b_43), (4, .int z_33), (0, .ref h0), (1, .null), (2, .ref w), (3, .int dep)]) hx hb dX4_doSteps_76 hl (by decide) rfl (fun ls hl => ?_)
                    refine lv_goto (tgt := 14) hx hb dX4_doSteps_78 (by decide) ?_
                    exact ih z_33 (.ref b_43) cn_35 _ _ _ _ _ (⟨fun _ => by have := hm.1 c_4; omega, by have := hm.1 c_4; omega⟩) (Or.inr ⟨_, rfl, hT.at 0 rfl⟩) hk_39 hk_36 (by omega) hP hD hS (hT.sub [2, 3] rfl) hE hF (lv_sub hl [1, 0, 2, 3, 4, 5] rfl)
                · refine lv_aload_n hx hb dX4_doSteps_47 rfl (lv_at hl 2 rfl) ?_
                  refine lv_aload hx hb dX4_doSteps_48 (lv_at hl 1 rfl) ?_
                  refine lv_aload_n hx hb dX4_doSteps_50 rfl (lv_at hl 4 rfl) ?_
                  have hTo := hT
                  refine K_VY ⟨hx, hb, hml, hown, hts⟩ (t_X4_doPlain l dC dI sa hlt g _ _ h0 b_3 w li kn_16 _ (hT.sub [1, 0, 2] rfl)  hk_15 hk_17 ) (cwV 2 hts gX4_doSteps_X4_doPlain rfl rfl rfl (by decide +kernel) ⟨(by first | exact Nat.le_of_ble_eq_true rfl | (simp only [rm_X4_doPlain, rm_X4_doSteps]; omega)), (by first | exact Nat.le_of_ble_eq_true rfl | (simp only [rm_X4_doPlain, rm_X4_doSteps]; omega))⟩) hP hD hK hS hA hev hT 1 4 rfl rfl rfl rfl hl.1 rfl (Nat.le_of_ble_eq_true rfl) dX4_doSteps_51 ⟨(by first | exact Nat.le_of_ble_eq_true rfl | (simp only [rm_X4_doSteps]; omega) | omega), (by first | exact Nat.le_of_ble_eq_true rfl | (simp only [rm_X4_doSteps]; omega) | omega)⟩ (fun E ce q9 L9 f9 H locs hpx hP hD hS hT hE1 hce hcv hcl => ?_) (fun r L_44 f_45 n_47 H locs hw_46 hn_48 hP hD hS hT hE1 => ?_)
                  · have hF := Fr.call hF hE hpx.2 (by decide)
                    have hE := hE.tr hE1
                    exact K_out hno hlocks ⟨hpx.1, hF⟩ hP hD hK hS hT hE hce hcv hcl (by first | exact Nat.le_of_ble_eq_true rfl | (simp only [rm_X4_doSteps]; omega) | omega) (by first | exact Nat.le_of_ble_eq_true rfl | (simp only [rm_X4_doSteps]; omega) | omega)
                  have hF := Fr.call hF hE hw_46.2.1 (by decide)
                  have hE := hE.tr hE1
                  obtain rfl : n_47 = 0 := hn_48
                  obtain ⟨⟨z_49, rfl⟩, hw_46⟩ := hw_46
                  obtain ⟨hfr_50, cn_51, hk_52, hrel_53⟩ := hw_46
                  have hk_55 : rd f_45 h0 1 = .int li := (hfr_50.1 h0 (hTo.at 1 rfl).1 4 (hTo.at 1 rfl).2 1 (by decide)).trans hk_15
                  refine W.eq (g2 := F0 m 54 ls [.int z_49]) rfl ?_
                  refine lv_istore (lv' := [(4, .int z_49), (5, .ref b_3), (0, .ref h0), (1, .null), (2, .ref w), (3, .int dep)]) hx hb dX4_doSteps_54 hl (by decide) rfl (fun ls hl => ?_)
                  refine lv_goto (tgt := 71) hx hb dX4_doSteps_56 (by decide) ?_
                  refine lv_aload hx hb dX4_doSteps_71 (lv_at hl 1 rfl) ?_
                  refine T_get (ci := 5) (C := RX5) (T := TX5) (N := 8) (t := (2, 0, 5, 0)) hx hb hts inw_X4_doSteps_5 hown hK hP hT 0 rfl rfl 7 (by decide) (hts (.fieldLink RX4 63 "VatHouse$Step" "next" "LVatHouse$Step;") (by decide +kernel)) (fun _ h9 => h9) rfl dX4_doSteps_73 (fun v_58 hv_56 hr_57 => ?_)
                  rcases hv_56 with rfl | ⟨b_59, rfl, hb9⟩
                  · refine lv_astoreN (lv' := [(5, .null), (4, .int z_49), (0, .ref h0), (1, .null), (2, .ref w), (3, .int dep)]) hx hb dX4_doSteps_76 hl (by decide) rfl (fun ls hl => ?_)
                    refine lv_goto (tgt := 14) hx hb dX4_doSteps_78 (by decide) ?_
                    exact ih z_49 .null cn_51 _ _ _ _ _ (⟨fun _ => by have := hm.1 c_4; omega, by have := hm.1 c_4; omega⟩) (Or.inl rfl) hk_55 hk_52 (by omega) hP hD hS (hT.sub [1, 2] rfl) hE hF (lv_sub hl [1, 0, 2, 3, 4, 5] rfl)
                  · have hT := hT.add hb9
                    refine lv_astore (lv' := [(5, .ref b_59), (4, .int z_49), (0, .ref h0), (1, .null), (2, .ref w), (3, .int dep)]) hx hb dX4_doSteps_76 hl (by decide) rfl (fun ls hl => ?_)
                    refine lv_goto (tgt := 14) hx hb dX4_doSteps_78 (by decide) ?_
                    exact ih z_49 (.ref b_59) cn_51 _ _ _ _ _ (⟨fun _ => by have := hm.1 c_4; omega, by have := hm.1 c_4; omega⟩) (Or.inr ⟨_, rfl, hT.at 0 rfl⟩) hk_55 hk_52 (by omega) hP hD hS (hT.sub [2, 3] rfl) hE hF (lv_sub hl [1, 0, 2, 3, 4, 5] rfl)
      exact lp ((li.toInt - cn.toInt).toNat + 2) 0 .null cn _ _ _ _ _ (⟨fun _ => by omega, by omega⟩) (Or.inl rfl) hm_li hm_cn (by omega) hP hD hS (hT.sub [0, 1] rfl) hE hF (lv_sub hl [1, 0, 2, 3, 4, 5] rfl)
    · refine lv_iconst (v := (-1)) hx hb dX4_doSteps_6 (by decide) ?_
      refine vx_ret ?_
      exact K_iZ hx hb hr hlocks hP hD hK hS hT hE ⟨⟨_, rfl⟩, hF, _, hm_cn, by omega⟩ (rfl) (by first | exact Nat.le_of_ble_eq_true rfl | (simp only [rm_X4_doSteps]; omega) | omega) (by first | exact Nat.le_of_ble_eq_true rfl | (simp only [rm_X4_doSteps]; omega) | omega) (by first | exact Nat.le_of_ble_eq_true rfl | (simp only [rm_X4_doSteps]; omega) | omega) dX4_doSteps_7
  · have hT := hT.add hb9
    refine KY.start (cc := cX4_doSteps) (maxL := 6) (ret := (some .int)) (by decide) rfl (Nat.le_of_ble_eq_true rfl) ?_
    intro p e s m below meth c ls hst hno hP hK hD hev hS hl
    obtain ⟨hx, hb, hr, hml, hts, hown, hlocks, hin⟩ := hst
    have hown : s.vm.findClass RX4 = some m.cls := hown
    have hin : meth.name = yX4_doSteps.name := hin
    have hA : ∀ q : Nat, s.heap.size ≤ q → va_A (va_pl L f) s.heap.size q := fun _ h => Or.inr h
    have hE : Ext L f L f := Ext.rf
    have hF : Fr [(0, 0), (0, 1), (0, 2), (0, 3), (0, 4), (0, 5), (0, 6), (0, 7), (7, 0), (7, 1), (7, 2), (7, 3), (7, 4), (7, 5), (7, 6), (7, 7), (8, 0), (8, 1), (8, 2), (4, 4), (4, 5), (4, 6), (4, 7)] L f f := Fr.rf
    have hl : lv_has ls 6 [(0, .ref h0), (1, .ref b_1), (2, .ref w), (3, .int dep)] := hl
    refine lv_iload_n hx hb dX4_doSteps_0 rfl (lv_at hl 3 rfl) ?_
    refine lv_bipush (v := 8) hx hb dX4_doSteps_1 (by decide) ?_
    refine lv_icmp_le (tgt := 8) hx hb dX4_doSteps_3 (by decide) (fun c_60 => ?_) (fun c_60 => ?_)
    · refine lv_iconst (v := 0) hx hb dX4_doSteps_8 (by decide) ?_
      refine lv_istore (lv' := [(4, .int 0), (0, .ref h0), (1, .ref b_1), (2, .ref w), (3, .int dep)]) hx hb dX4_doSteps_9 hl (by decide) rfl (fun ls hl => ?_)
      refine lv_aload_n hx hb dX4_doSteps_11 rfl (lv_at hl 2 rfl) ?_
      refine lv_astore (lv' := [(5, .ref b_1), (4, .int 0), (0, .ref h0), (1, .ref b_1), (2, .ref w), (3, .int dep)]) hx hb dX4_doSteps_12 hl (by decide) rfl (fun ls hl => ?_)
      have lp : ∀ (n : Nat) (oc : Int32) (sv : Value) (k1 : Int32) (L1 : List Nat) (f1 : Nat → va_E) (H : Heap) (locs : List Loc) (ls : Array Slot), ((oc = 0 → (li.toInt - k1.toInt).toNat + 1 < n) ∧ 0 < n) → okv L1 f1 (2, 0, 5, 0) sv → rd f1 h0 1 = .int li → rd f1 h0 4 = .int k1 → (cn.toInt ≤ k1.toInt) → va_P (dC, dI) vwCl (va_pl L1 f1) H → va_D (va_A (va_pl L f) s.heap.size) (va_pl L1 f1) → va_S (va_A (va_pl L f) s.heap.size) s.heap H locs → TP g L1 f1 [(b_1, (0, 5, 0)), (h0, (0, 4, 0)), (w, (0, 0, 0))] → Ext L f L1 f1 → Fr [(0, 0), (0, 1), (0, 2), (0, 3), (0, 4), (0, 5), (0, 6), (0, 7), (7, 0), (7, 1), (7, 2), (7, 3), (7, 4), (7, 5), (7, 6), (7, 7), (8, 0), (8, 1), (8, 2), (4, 4), (4, 5), (4, 6), (4, 7)] L f f1 → lv_has ls 6 [(4, .int oc), (5, sv), (0, .ref h0), (1, .ref b_1), (2, .ref w), (3, .int dep)] → W p l e (rm_X4_doSteps j d) s m [.ref h0, .ref b_1, .ref w, .int dep].toArray below meth c H locs 0 0 (vx_MQ below (Qz dC dI g L f (va_A (va_pl L f) s.heap.size) (fun r L' f' => (∃ z : Int32, r = some (.int z)) ∧ Fr [(0, 0), (0, 1), (0, 2), (0, 3), (0, 4), (0, 5), (0, 6), (0, 7), (7, 0), (7, 1), (7, 2), (7, 3), (7, 4), (7, 5), (7, 6), (7, 7), (8, 0), (8, 1), (8, 2), (4, 4), (4, 5), (4, 6), (4, 7)] L f f' ∧ (∃ cn' : Int32, rd f' h0 4 = .int cn' ∧ (cn.toInt ≤ cn'.toInt))) (fun n _ => n = 0)) (XK dC dI g L f s.heap.size (fun E L' f' => (E = NSE) ∧ Fr [(0, 0), (0, 1), (0, 2), (0, 3), (0, 4), (0, 5), (0, 6), (0, 7), (7, 0), (7, 1), (7, 2), (7, 3), (7, 4), (7, 5), (7, 6), (7, 7), (8, 0), (8, 1), (8, 2), (4, 4), (4, 5), (4, 6), (4, 7)] L f f')) [.ref h0, .ref b_1, .ref w, .int dep].toArray s (1) (6) (va_A (va_pl L f) s.heap.size)) (F0 m 14 ls []) := by
        intro n
        induction n with
        | zero => intro oc sv k1 L1 f1 H locs ls hm hn_sv hk_h0_1 hk_h0_4 hle hP hD hS hT hE hF hl; exact absurd hm.2 (by omega)
        | succ n ih =>
          intro oc sv k1 L1 f1 H locs ls hm hn_sv hk_h0_1 hk_h0_4 hle hP hD hS hT hE hF hl
          rcases hn_sv with rfl | ⟨b_61, rfl, hb9⟩
          · have hl : lv_has ls 6 [(4, .int oc), (5, .null), (0, .ref h0), (1, .ref b_1), (2, .ref w), (3, .int dep)] := hl
            refine lv_aloadN hx hb dX4_doSteps_14 (lv_at hl 1 rfl) ?_
            refine lv_ifnullN (tgt := 81) hx hb dX4_doSteps_16 (by decide) ?_
            refine lv_iload hx hb dX4_doSteps_81 (lv_at hl 0 rfl) ?_
            refine vx_ret ?_
            exact K_iZ hx hb hr hlocks hP hD hK hS hT hE ⟨⟨_, rfl⟩, hF, _, hk_h0_4, by omega⟩ (rfl) (by first | exact Nat.le_of_ble_eq_true rfl | (simp only [rm_X4_doSteps]; omega) | omega) (by first | exact Nat.le_of_ble_eq_true rfl | (simp only [rm_X4_doSteps]; omega) | omega) (by first | exact Nat.le_of_ble_eq_true rfl | (simp only [rm_X4_doSteps]; omega) | omega) dX4_doSteps_83
          · have hT := hT.add hb9
            have hl : lv_has ls 6 [(4, .int oc), (5, .ref b_61), (0, .ref h0), (1, .ref b_1), (2, .ref w), (3, .int dep)] := hl
            refine lv_aload hx hb dX4_doSteps_14 (lv_at hl 1 rfl) ?_
            refine lv_ifnull hx hb dX4_doSteps_16 ?_
            refine lv_iload hx hb dX4_doSteps_19 (lv_at hl 0 rfl) ?_
            refine lv_if_ne (tgt := 81) hx hb dX4_doSteps_21 (by decide) (fun c_62 => ?_) (fun c_62 => ?_)
            · refine lv_iload hx hb dX4_doSteps_81 (lv_at hl 0 rfl) ?_
              refine vx_ret ?_
              exact K_iZ hx hb hr hlocks hP hD hK hS hT hE ⟨⟨_, rfl⟩, hF, _, hk_h0_4, by omega⟩ (rfl) (by first | exact Nat.le_of_ble_eq_true rfl | (simp only [rm_X4_doSteps]; omega) | omega) (by first | exact Nat.le_of_ble_eq_true rfl | (simp only [rm_X4_doSteps]; omega) | omega) (by first | exact Nat.le_of_ble_eq_true rfl | (simp only [rm_X4_doSteps]; omega) | omega) dX4_doSteps_83
            · refine lv_aload_n hx hb dX4_doSteps_24 rfl (lv_at hl 2 rfl) ?_
              have hTo := hT
              refine K_V ⟨hx, hb, hml, hown, hts⟩ (t_X4_mayCount l dC dI sa hlt g _ _ h0 li k1 _ (hT.sub [2] rfl)  hk_h0_1 hk_h0_4 ) (cwV 0 hts gX4_doSteps_X4_mayCount rfl rfl rfl (by decide +kernel) ⟨(by first | exact Nat.le_of_ble_eq_true rfl | (simp only [rm_X4_mayCount, rm_X4_doSteps]; omega)), (by first | exact Nat.le_of_ble_eq_true rfl | (simp only [rm_X4_mayCount, rm_X4_doSteps]; omega))⟩) hP hD hK hS hA hev hT 2 4 rfl rfl rfl rfl hl.1 rfl (Nat.le_of_ble_eq_true rfl) dX4_doSteps_25 ⟨(by first | exact Nat.le_of_ble_eq_true rfl | (simp only [rm_X4_doSteps]; omega) | omega), (by first | exact Nat.le_of_ble_eq_true rfl | (simp only [rm_X4_doSteps]; omega) | omega)⟩ (fun r L_63 f_64 H locs hw_65 hP hD hS hT hE1 => ?_)
              have hF := Fr.call hF hE hw_65.2 (by decide)
              have hE := hE.tr hE1
              obtain ⟨⟨rfl, hz2_66⟩ | ⟨rfl, hz2_66⟩, hw_65⟩ := hw_65
              · have hk_67 : rd f_64 h0 1 = .int li := (hw_65.1 h0 (hTo.at 2 rfl).1 4 (hTo.at 2 rfl).2 1 (by decide)).trans hk_h0_1
                refine W.eq (g2 := F0 m 28 ls [.int 0]) rfl ?_
                refine lv_if_ne (tgt := 37) hx hb dX4_doSteps_28 (by decide) (fun c_68 => ?_) (fun c_68 => ?_)
                · exact absurd c_68 (by decide)
                refine lv_iconst (v := (-1)) hx hb dX4_doSteps_31 (by decide) ?_
                refine lv_istore (lv' := [(4, .int (-1)), (5, .ref b_61), (0, .ref h0), (1, .ref b_1), (2, .ref w), (3, .int dep)]) hx hb dX4_doSteps_32 hl (by decide) rfl (fun ls hl => ?_)
                refine lv_goto (tgt := 71) hx hb dX4_doSteps_34 (by decide) ?_
                refine lv_aload hx hb dX4_doSteps_71 (lv_at hl 1 rfl) ?_
                refine T_get (ci := 5) (C := RX5) (T := TX5) (N := 8) (t := (2, 0, 5, 0)) hx hb hts inw_X4_doSteps_5 hown hK hP hT 0 rfl rfl 7 (by decide) (hts (.fieldLink RX4 63 "VatHouse$Step" "next" "LVatHouse$Step;") (by decide +kernel)) (fun _ h9 => h9) rfl dX4_doSteps_73 (fun v_71 hv_69 hr_70 => ?_)
                rcases hv_69 with rfl | ⟨b_72, rfl, hb9⟩
                · refine lv_astoreN (lv' := [(5, .null), (4, .int (-1)), (0, .ref h0), (1, .ref b_1), (2, .ref w), (3, .int dep)]) hx hb dX4_doSteps_76 hl (by decide) rfl (fun ls hl => ?_)
                  refine lv_goto (tgt := 14) hx hb dX4_doSteps_78 (by decide) ?_
                  exact ih (-1) .null k1 _ _ _ _ _ (⟨fun h9 => absurd h9 (by decide), by have := hm.1 c_62; omega⟩) (Or.inl rfl) hk_67 hz2_66 (by omega) hP hD hS (hT.sub [1, 2, 3] rfl) hE hF (lv_sub hl [1, 0, 2, 3, 4, 5] rfl)
                · have hT := hT.add hb9
                  refine lv_astore (lv' := [(5, .ref b_72), (4, .int (-1)), (0, .ref h0), (1, .ref b_1), (2, .ref w), (3, .int dep)]) hx hb dX4_doSteps_76 hl (by decide) rfl (fun ls hl => ?_)
                  refine lv_goto (tgt := 14) hx hb dX4_doSteps_78 (by decide) ?_
                  exact ih (-1) (.ref b_72) k1 _ _ _ _ _ (⟨fun h9 => absurd h9 (by decide), by have := hm.1 c_62; omega⟩) (Or.inr ⟨_, rfl, hT.at 0 rfl⟩) hk_67 hz2_66 (by omega) hP hD hS (hT.sub [2, 3, 4] rfl) hE hF (lv_sub hl [1, 0, 2, 3, 4, 5] rfl)
              · have hk_73 : rd f_64 h0 1 = .int li := (hw_65.1 h0 (hTo.at 2 rfl).1 4 (hTo.at 2 rfl).2 1 (by decide)).trans hk_h0_1
                obtain ⟨kn_74, hk_75, hu_76, hv_77⟩ := hz2_66
                refine W.eq (g2 := F0 m 28 ls [.int 1]) rfl ?_
                refine lv_if_ne (tgt := 37) hx hb dX4_doSteps_28 (by decide) (fun c_78 => ?_) (fun c_78 => ?_)
                rotate_left
                · exact absurd c_78 (by decide)
                refine lv_aload hx hb dX4_doSteps_37 (lv_at hl 1 rfl) ?_
                refine T_get (ci := 5) (C := RX5) (T := TX5) (N := 8) (t := tI) hx hb hts inw_X4_doSteps_5 hown hK hP hT 0 rfl rfl 0 (by decide) (hts (.fieldLink RX4 51 "VatHouse$Step" "word" "I") (by decide +kernel)) (fun _ h9 => h9) rfl dX4_doSteps_39 (fun v_81 hv_79 hr_80 => ?_)
                obtain ⟨z_82, rfl⟩ := hv_79
                refine lv_bipush (v := 8) hx hb dX4_doSteps_42 (by decide) ?_
                refine lv_icmp_ge (tgt := 59) hx hb dX4_doSteps_44 (by decide) (fun c_83 => ?_) (fun c_83 => ?_)
                · refine lv_aload_n hx hb dX4_doSteps_59 rfl (lv_at hl 2 rfl) ?_
                  refine lv_aload hx hb dX4_doSteps_60 (lv_at hl 1 rfl) ?_
                  refine lv_aload_n hx hb dX4_doSteps_62 rfl (lv_at hl 4 rfl) ?_
                  refine lv_iload_n hx hb dX4_doSteps_63 rfl (lv_at hl 5 rfl) ?_
                  refine lv_iconst (v := 1) hx hb dX4_doSteps_64 (by decide) ?_
                  refine lv_iadd hx hb dX4_doSteps_65 ?_
                  refine lv_topi (fun z_84 ez_84 => ?_)
                  obtain ⟨j1, hj_85⟩ : ∃ j1, j = j1 + 1 := ⟨j - 1, by have := lv8 hd c_60; omega⟩
                  have hTo := hT
                  refine K_VY ⟨hx, hb, hml, hown, hts⟩ (IHB j1 (d + 1) (by omega) hj_85 _ _ h0 b_61 w z_84 li kn_74 _ (hT.sub [2, 0, 3] rfl)  hk_73 hk_75 (by rw [ez_84, hd]; exact nI_1 d)) (cwV 3 hts gX4_doSteps_X4_doBuilt rfl rfl rfl (by decide +kernel) ⟨(by first | exact Nat.le_of_ble_eq_true rfl | (simp only [rm_X4_doBuilt, rm_X4_doSteps]; omega)), (by first | exact Nat.le_of_ble_eq_true rfl | (simp only [rm_X4_doBuilt, rm_X4_doSteps]; omega))⟩) hP hD hK hS hA hev hT 2 4 rfl rfl rfl rfl hl.1 rfl (Nat.le_of_ble_eq_true rfl) dX4_doSteps_66 ⟨(by first | exact Nat.le_of_ble_eq_true rfl | (simp only [rm_X4_doSteps]; omega) | omega), (by first | exact Nat.le_of_ble_eq_true rfl | (simp only [rm_X4_doSteps]; omega) | omega)⟩ (fun E ce q9 L9 f9 H locs hpx hP hD hS hT hE1 hce hcv hcl => ?_) (fun r L_86 f_87 n_89 H locs hw_88 hn_90 hP hD hS hT hE1 => ?_)
                  · have hF := Fr.call hF hE hpx.2 (by decide)
                    have hE := hE.tr hE1
                    exact K_out hno hlocks ⟨hpx.1, hF⟩ hP hD hK hS hT hE hce hcv hcl (by first | exact Nat.le_of_ble_eq_true rfl | (simp only [rm_X4_doSteps]; omega) | omega) (by first | exact Nat.le_of_ble_eq_true rfl | (simp only [rm_X4_doSteps]; omega) | omega)
                  have hF := Fr.call hF hE hw_88.2.1 (by decide)
                  have hE := hE.tr hE1
                  obtain rfl : n_89 = 0 := hn_90
                  obtain ⟨⟨z_91, rfl⟩, hw_88⟩ := hw_88
                  obtain ⟨hfr_92, cn_93, hk_94, hrel_95⟩ := hw_88
                  have hk_97 : rd f_87 h0 1 = .int li := (hfr_92.1 h0 (hTo.at 2 rfl).1 4 (hTo.at 2 rfl).2 1 (by decide)).trans hk_73
                  refine W.eq (g2 := F0 m 69 ls [.int z_91]) rfl ?_
                  refine lv_istore (lv' := [(4, .int z_91), (5, .ref b_61), (0, .ref h0), (1, .ref b_1), (2, .ref w), (3, .int dep)]) hx hb dX4_doSteps_69 hl (by decide) rfl (fun ls hl => ?_)
                  refine lv_aload hx hb dX4_doSteps_71 (lv_at hl 1 rfl) ?_
                  refine T_get (ci := 5) (C := RX5) (T := TX5) (N := 8) (t := (2, 0, 5, 0)) hx hb hts inw_X4_doSteps_5 hown hK hP hT 0 rfl rfl 7 (by decide) (hts (.fieldLink RX4 63 "VatHouse$Step" "next" "LVatHouse$Step;") (by decide +kernel)) (fun _ h9 => h9) rfl dX4_doSteps_73 (fun v_100 hv_98 hr_99 => ?_)
                  rcases hv_98 with rfl | ⟨b_101, rfl, hb9⟩
                  · refine lv_astoreN (lv' := [(5, .null), (4, .int z_91), (0, .ref h0), (1, .ref b_1), (2, .ref w), (3, .int dep)]) hx hb dX4_doSteps_76 hl (by decide) rfl (fun ls hl => ?_)
                    refine lv_goto (tgt := 14) hx hb dX4_doSteps_78 (by decide) ?_
                    exact ih z_91 .null cn_93 _ _ _ _ _ (⟨fun _ => by have := hm.1 c_62; omega, by have := hm.1 c_62; omega⟩) (Or.inl rfl) hk_97 hk_94 (by omega) hP hD hS (hT.sub [1, 2, 3] rfl) hE hF (lv_sub hl [1, 0, 2, 3, 4, 5] rfl)
                  · have hT := hT.add hb9
                    refine lv_astore (lv' := [(5, .ref b_101), (4, .int z_91), (0, .ref h0), (1, .ref b_1), (2, .ref w), (3, .int dep)]) hx hb dX4_doSteps_76 hl (by decide) rfl (fun ls hl => ?_)
                    refine lv_goto (tgt := 14) hx hb dX4_doSteps_78 (by decide) ?_
                    exact ih z_91 (.ref b_101) cn_93 _ _ _ _ _ (⟨fun _ => by have := hm.1 c_62; omega, by have := hm.1 c_62; omega⟩) (Or.inr ⟨_, rfl, hT.at 0 rfl⟩) hk_97 hk_94 (by omega) hP hD hS (hT.sub [2, 3, 4] rfl) hE hF (lv_sub hl [1, 0, 2, 3, 4, 5] rfl)
                · refine lv_aload_n hx hb dX4_doSteps_47 rfl (lv_at hl 2 rfl) ?_
                  refine lv_aload hx hb dX4_doSteps_48 (lv_at hl 1 rfl) ?_
                  refine lv_aload_n hx hb dX4_doSteps_50 rfl (lv_at hl 4 rfl) ?_
                  have hTo := hT
                  refine K_VY ⟨hx, hb, hml, hown, hts⟩ (t_X4_doPlain l dC dI sa hlt g _ _ h0 b_61 w li kn_74 _ (hT.sub [2, 0, 3] rfl)  hk_73 hk_75 ) (cwV 2 hts gX4_doSteps_X4_doPlain rfl rfl rfl (by decide +kernel) ⟨(by first | exact Nat.le_of_ble_eq_true rfl | (simp only [rm_X4_doPlain, rm_X4_doSteps]; omega)), (by first | exact Nat.le_of_ble_eq_true rfl | (simp only [rm_X4_doPlain, rm_X4_doSteps]; omega))⟩) hP hD hK hS hA hev hT 2 4 rfl rfl rfl rfl hl.1 rfl (Nat.le_of_ble_eq_true rfl) dX4_doSteps_51 ⟨(by first | exact Nat.le_of_ble_eq_true rfl | (simp only [rm_X4_doSteps]; omega) | omega), (by first | exact Nat.le_of_ble_eq_true rfl | (simp only [rm_X4_doSteps]; omega) | omega)⟩ (fun E ce q9 L9 f9 H locs hpx hP hD hS hT hE1 hce hcv hcl => ?_) (fun r L_102 f_103 n_105 H locs hw_104 hn_106 hP hD hS hT hE1 => ?_)
                  · have hF := Fr.call hF hE hpx.2 (by decide)
                    have hE := hE.tr hE1
                    exact K_out hno hlocks ⟨hpx.1, hF⟩ hP hD hK hS hT hE hce hcv hcl (by first | exact Nat.le_of_ble_eq_true rfl | (simp only [rm_X4_doSteps]; omega) | omega) (by first | exact Nat.le_of_ble_eq_true rfl | (simp only [rm_X4_doSteps]; omega) | omega)
                  have hF := Fr.call hF hE hw_104.2.1 (by decide)
                  have hE := hE.tr hE1
                  obtain rfl : n_105 = 0 := hn_106
                  obtain ⟨⟨z_107, rfl⟩, hw_104⟩ := hw_104
                  obtain ⟨hfr_108, cn_109, hk_110, hrel_111⟩ := hw_104
                  have hk_113 : rd f_103 h0 1 = .int li := (hfr_108.1 h0 (hTo.at 2 rfl).1 4 (hTo.at 2 rfl).2 1 (by decide)).trans hk_73
                  refine W.eq (g2 := F0 m 54 ls [.int z_107]) rfl ?_
                  refine lv_istore (lv' := [(4, .int z_107), (5, .ref b_61), (0, .ref h0), (1, .ref b_1), (2, .ref w), (3, .int dep)]) hx hb dX4_doSteps_54 hl (by decide) rfl (fun ls hl => ?_)
                  refine lv_goto (tgt := 71) hx hb dX4_doSteps_56 (by decide) ?_
                  refine lv_aload hx hb dX4_doSteps_71 (lv_at hl 1 rfl) ?_
                  refine T_get (ci := 5) (C := RX5) (T := TX5) (N := 8) (t := (2, 0, 5, 0)) hx hb hts inw_X4_doSteps_5 hown hK hP hT 0 rfl rfl 7 (by decide) (hts (.fieldLink RX4 63 "VatHouse$Step" "next" "LVatHouse$Step;") (by decide +kernel)) (fun _ h9 => h9) rfl dX4_doSteps_73 (fun v_116 hv_114 hr_115 => ?_)
                  rcases hv_114 with rfl | ⟨b_117, rfl, hb9⟩
                  · refine lv_astoreN (lv' := [(5, .null), (4, .int z_107), (0, .ref h0), (1, .ref b_1), (2, .ref w), (3, .int dep)]) hx hb dX4_doSteps_76 hl (by decide) rfl (fun ls hl => ?_)
                    refine lv_goto (tgt := 14) hx hb dX4_doSteps_78 (by decide) ?_
                    exact ih z_107 .null cn_109 _ _ _ _ _ (⟨fun _ => by have := hm.1 c_62; omega, by have := hm.1 c_62; omega⟩) (Or.inl rfl) hk_113 hk_110 (by omega) hP hD hS (hT.sub [1, 2, 3] rfl) hE hF (lv_sub hl [1, 0, 2, 3, 4, 5] rfl)
                  · have hT := hT.add hb9
                    refine lv_astore (lv' := [(5, .ref b_117), (4, .int z_107), (0, .ref h0), (1, .ref b_1), (2, .ref w), (3, .int dep)]) hx hb dX4_doSteps_76 hl (by decide) rfl (fun ls hl => ?_)
                    refine lv_goto (tgt := 14) hx hb dX4_doSteps_78 (by decide) ?_
                    exact ih z_107 (.ref b_117) cn_109 _ _ _ _ _ (⟨fun _ => by have := hm.1 c_62; omega, by have := hm.1 c_62; omega⟩) (Or.inr ⟨_, rfl, hT.at 0 rfl⟩) hk_113 hk_110 (by omega) hP hD hS (hT.sub [2, 3, 4] rfl) hE hF (lv_sub hl [1, 0, 2, 3, 4, 5] rfl)
      exact lp ((li.toInt - cn.toInt).toNat + 2) 0 (.ref b_1) cn _ _ _ _ _ (⟨fun _ => by omega, by omega⟩) (Or.inr ⟨_, rfl, hT.at 0 rfl⟩) hm_li hm_cn (by omega) hP hD hS (hT.sub [0, 1, 2] rfl) hE hF (lv_sub hl [1, 0, 2, 3, 4, 5] rfl)
    · refine lv_iconst (v := (-1)) hx hb dX4_doSteps_6 (by decide) ?_
      refine vx_ret ?_
      exact K_iZ hx hb hr hlocks hP hD hK hS hT hE ⟨⟨_, rfl⟩, hF, _, hm_cn, by omega⟩ (rfl) (by first | exact Nat.le_of_ble_eq_true rfl | (simp only [rm_X4_doSteps]; omega) | omega) (by first | exact Nat.le_of_ble_eq_true rfl | (simp only [rm_X4_doSteps]; omega) | omega) (by first | exact Nat.le_of_ble_eq_true rfl | (simp only [rm_X4_doSteps]; omega) | omega) dX4_doSteps_7

theorem X4_doSteps_all (l : Launch) (dC : Nat → ClassId) (dI : Nat → Nat → Nat) (sa : Nat → Nat) (hlt : l.stackTraces = false) (g : Nat → Nat) : ∀ (j d : Nat), d + j = 9 → ∀ (L : List Nat) (f : Nat → va_E) (h0 : Nat) (fs : Value) (w : Nat) (dep : Int32) (li : Int32) (cn : Int32) (sz : Nat) (hT : TP g L f [(h0, (0, 4, 0)), (w, (0, 0, 0))]) (hn_fs : okv L f (2, 0, 5, 0) fs) (hm_li : rd f h0 1 = .int li) (hm_cn : rd f h0 4 = .int cn) (hd : dep = nI d), KY l dC dI sa g yX4_doSteps wsX4_doSteps (rm_X4_doSteps j d) [.ref h0, fs, .ref w, .int dep] L f sz (fun r L' f' => (∃ z : Int32, r = some (.int z)) ∧ Fr [(0, 0), (0, 1), (0, 2), (0, 3), (0, 4), (0, 5), (0, 6), (0, 7), (7, 0), (7, 1), (7, 2), (7, 3), (7, 4), (7, 5), (7, 6), (7, 7), (8, 0), (8, 1), (8, 2), (4, 4), (4, 5), (4, 6), (4, 7)] L f f' ∧ (∃ cn' : Int32, rd f' h0 4 = .int cn' ∧ (cn.toInt ≤ cn'.toInt))) (fun n _ => n = 0) (fun E L' f' => (E = NSE) ∧ Fr [(0, 0), (0, 1), (0, 2), (0, 3), (0, 4), (0, 5), (0, 6), (0, 7), (7, 0), (7, 1), (7, 2), (7, 3), (7, 4), (7, 5), (7, 6), (7, 7), (8, 0), (8, 1), (8, 2), (4, 4), (4, 5), (4, 6), (4, 7)] L f f') 1 6 := by
  intro j
  induction j with
  | zero => exact fun d hdj L f h0 fs w dep li cn sz hT hn hm1 hm2 hd => t_X4_doSteps l dC dI sa hlt g L f 0 d h0 fs w dep li cn sz hT hn hm1 hm2 hd hdj (fun j' d' _ h => absurd h (by omega))
  | succ j ih =>
    exact fun d hdj L f h0 fs w dep li cn sz hT hn hm1 hm2 hd => t_X4_doSteps l dC dI sa hlt g L f (j + 1) d h0 fs w dep li cn sz hT hn hm1 hm2 hd hdj (fun j' d' hdj' hj => by
      obtain rfl : j = j' := by omega
      exact fun L f h0 o w dep li cn sz hT hm1 hm2 hd => t_X4_doBuilt l dC dI sa hlt g L f j d' h0 o w dep li cn sz hT hm1 hm2 hd hdj' (ih d' hdj'))

abbrev rm_X4_follow : Room := { frames := 58, cells := 1, slots := 6, locals := 1425 }
theorem inw_X4_follow_4 : ∀ w ∈ wsX40, w ∈ wsX4_follow := by decide +kernel
set_option maxHeartbeats 800000 in
set_option maxRecDepth 100000 in
theorem t_X4_follow (l : Launch) (dC : Nat → ClassId) (dI : Nat → Nat → Nat) (sa : Nat → Nat) (hlt : l.stackTraces = false) (g : Nat → Nat) (L : List Nat) (f : Nat → va_E) (h0 : Nat) (fs : Value) (w : Nat) (lim : Int32) (sz : Nat) (hT : TP g L f [(h0, (0, 4, 0)), (w, (0, 0, 0))]) (hn_fs : okv L f (2, 0, 5, 0) fs) : KY l dC dI sa g yX4_follow wsX4_follow rm_X4_follow [.ref h0, fs, .ref w, .int lim] L f sz (fun r L' f' => (∃ z : Int32, r = some (.int z)) ∧ Fr [(0, 0), (0, 1), (0, 2), (0, 3), (0, 4), (0, 5), (0, 6), (0, 7), (7, 0), (7, 1), (7, 2), (7, 3), (7, 4), (7, 5), (7, 6), (7, 7), (8, 0), (8, 1), (8, 2), (4, 4), (4, 5), (4, 6), (4, 7), (4, 0), (4, 1), (4, 2), (4, 3), (4, 4), (4, 5), (4, 6), (4, 7)] L f f') (fun n _ => n = 0) (fun E L' f' => (E = NSE) ∧ Fr [(0, 0), (0, 1), (0, 2), (0, 3), (0, 4), (0, 5), (0, 6), (0, 7), (7, 0), (7, 1), (7, 2), (7, 3), (7, 4), (7, 5), (7, 6), (7, 7), (8, 0), (8, 1), (8, 2), (4, 4), (4, 5), (4, 6), (4, 7), (4, 0), (4, 1), (4, 2), (4, 3), (4, 4), (4, 5), (4, 6), (4, 7)] L f f') 1 6 := by
  rcases hn_fs with rfl | ⟨b_1, rfl, hb9⟩
  · refine KY.start (cc := cX4_follow) (maxL := 5) (ret := (some .int)) (by decide) rfl (Nat.le_of_ble_eq_true rfl) ?_
    intro p e s m below meth c ls hst hno hP hK hD hev hS hl
    obtain ⟨hx, hb, hr, hml, hts, hown, hlocks, hin⟩ := hst
    have hown : s.vm.findClass RX4 = some m.cls := hown
    have hin : meth.name = yX4_follow.name := hin
    have hA : ∀ q : Nat, s.heap.size ≤ q → va_A (va_pl L f) s.heap.size q := fun _ h => Or.inr h
    have hE : Ext L f L f := Ext.rf
    have hF : Fr [(0, 0), (0, 1), (0, 2), (0, 3), (0, 4), (0, 5), (0, 6), (0, 7), (7, 0), (7, 1), (7, 2), (7, 3), (7, 4), (7, 5), (7, 6), (7, 7), (8, 0), (8, 1), (8, 2), (4, 4), (4, 5), (4, 6), (4, 7), (4, 0), (4, 1), (4, 2), (4, 3), (4, 4), (4, 5), (4, 6), (4, 7)] L f f := Fr.rf
    have hl : lv_has ls 5 [(0, .ref h0), (1, .null), (2, .ref w), (3, .int lim)] := hl
    refine lv_aload_n hx hb dX4_follow_0 rfl (lv_at hl 0 rfl) ?_
    refine lv_iload_n hx hb dX4_follow_1 rfl (lv_at hl 3 rfl) ?_
    refine T_put (ci := 4) (v := .int lim) (ty := .int) (t := tI) (C := RX4) (T := TX4) (N := 8) hx hb hts inw_X4_follow_4 tyX4 tyX4_ok nmX4 hown hK hP hD hS hT 0 rfl rfl 1 (by decide) (hts (.fieldLink RX4 19 "VatHouse$Runner" "limit" "I") (by decide +kernel)) (fun _ h9 => h9) rfl (by decide +kernel) rfl rfl rfl ⟨_, rfl⟩ dX4_follow_2 (fun f_2 H locs hP hD hS hT hE1 hrd_3 hup_4 => ?_)
    have hF := Fr.put (a := h0) (ci := 4) hF hE ((hE1 h0 (hT.at 0 rfl).1).2.symm.trans (hT.at 0 rfl).2) (by decide) hrd_3 hup_4
    have hE := hE.tr hE1
    have hk_5 : rd f_2 h0 1 = .int lim := (hrd_3 h0 1).trans (if_pos ⟨rfl, rfl⟩)
    refine lv_aload_n hx hb dX4_follow_5 rfl (lv_at hl 0 rfl) ?_
    refine lv_iconst (v := 0) hx hb dX4_follow_6 (by decide) ?_
    have hTo := hT
    refine T_put (ci := 4) (v := .int 0) (ty := .int) (t := tI) (C := RX4) (T := TX4) (N := 8) hx hb hts inw_X4_follow_4 tyX4 tyX4_ok nmX4 hown hK hP hD hS hT 0 rfl rfl 4 (by decide) (hts (.fieldLink RX4 22 "VatHouse$Runner" "counted" "I") (by decide +kernel)) (fun _ h9 => h9) rfl (by decide +kernel) rfl rfl rfl ⟨_, rfl⟩ dX4_follow_7 (fun f_6 H locs hP hD hS hT hE1 hrd_7 hup_8 => ?_)
    have hF := Fr.put (a := h0) (ci := 4) hF hE ((hE1 h0 (hT.at 0 rfl).1).2.symm.trans (hT.at 0 rfl).2) (by decide) hrd_7 hup_8
    have hE := hE.tr hE1
    have hk_9 : rd f_6 h0 1 = .int lim := ((Fr.put (cs := [(4, 4)]) (a := h0) (ci := 4) Fr.rf Ext.rf (hTo.at 0 rfl).2 (by decide) hrd_7 hup_8).1 h0 (hTo.at 0 rfl).1 4 (hTo.at 0 rfl).2 1 (by decide)).trans hk_5
    have hk_10 : rd f_6 h0 4 = .int 0 := (hrd_7 h0 4).trans (if_pos ⟨rfl, rfl⟩)
    refine lv_aload_n hx hb dX4_follow_10 rfl (lv_at hl 0 rfl) ?_
    refine lv_iconst (v := 0) hx hb dX4_follow_11 (by decide) ?_
    have hTo := hT
    refine T_put (ci := 4) (v := .int 0) (ty := .int) (t := tI) (C := RX4) (T := TX4) (N := 8) hx hb hts inw_X4_follow_4 tyX4 tyX4_ok nmX4 hown hK hP hD hS hT 0 rfl rfl 5 (by decide) (hts (.fieldLink RX4 25 "VatHouse$Runner" "dipsDone" "I") (by decide +kernel)) (fun _ h9 => h9) rfl (by decide +kernel) rfl rfl rfl ⟨_, rfl⟩ dX4_follow_12 (fun f_11 H locs hP hD hS hT hE1 hrd_12 hup_13 => ?_)
    have hF := Fr.put (a := h0) (ci := 4) hF hE ((hE1 h0 (hT.at 0 rfl).1).2.symm.trans (hT.at 0 rfl).2) (by decide) hrd_12 hup_13
    have hE := hE.tr hE1
    have hk_14 : rd f_11 h0 1 = .int lim := ((Fr.put (cs := [(4, 5)]) (a := h0) (ci := 4) Fr.rf Ext.rf (hTo.at 0 rfl).2 (by decide) hrd_12 hup_13).1 h0 (hTo.at 0 rfl).1 4 (hTo.at 0 rfl).2 1 (by decide)).trans hk_9
    have hk_15 : rd f_11 h0 4 = .int 0 := ((Fr.put (cs := [(4, 5)]) (a := h0) (ci := 4) Fr.rf Ext.rf (hTo.at 0 rfl).2 (by decide) hrd_12 hup_13).1 h0 (hTo.at 0 rfl).1 4 (hTo.at 0 rfl).2 4 (by decide)).trans hk_10
    refine lv_aload_n hx hb dX4_follow_15 rfl (lv_at hl 0 rfl) ?_
    refine lv_iconst (v := 0) hx hb dX4_follow_16 (by decide) ?_
    have hTo := hT
    refine T_put (ci := 4) (v := .int 0) (ty := .int) (t := tI) (C := RX4) (T := TX4) (N := 8) hx hb hts inw_X4_follow_4 tyX4 tyX4_ok nmX4 hown hK hP hD hS hT 0 rfl rfl 6 (by decide) (hts (.fieldLink RX4 28 "VatHouse$Runner" "grainsMoved" "I") (by decide +kernel)) (fun _ h9 => h9) rfl (by decide +kernel) rfl rfl rfl ⟨_, rfl⟩ dX4_follow_17 (fun f_16 H locs hP hD hS hT hE1 hrd_17 hup_18 => ?_)
    have hF := Fr.put (a := h0) (ci := 4) hF hE ((hE1 h0 (hT.at 0 rfl).1).2.symm.trans (hT.at 0 rfl).2) (by decide) hrd_17 hup_18
    have hE := hE.tr hE1
    have hk_19 : rd f_16 h0 1 = .int lim := ((Fr.put (cs := [(4, 6)]) (a := h0) (ci := 4) Fr.rf Ext.rf (hTo.at 0 rfl).2 (by decide) hrd_17 hup_18).1 h0 (hTo.at 0 rfl).1 4 (hTo.at 0 rfl).2 1 (by decide)).trans hk_14
    have hk_20 : rd f_16 h0 4 = .int 0 := ((Fr.put (cs := [(4, 6)]) (a := h0) (ci := 4) Fr.rf Ext.rf (hTo.at 0 rfl).2 (by decide) hrd_17 hup_18).1 h0 (hTo.at 0 rfl).1 4 (hTo.at 0 rfl).2 4 (by decide)).trans hk_15
    refine lv_aload_n hx hb dX4_follow_20 rfl (lv_at hl 0 rfl) ?_
    refine lv_iconst (v := 0) hx hb dX4_follow_21 (by decide) ?_
    have hTo := hT
    refine T_put (ci := 4) (v := .int 0) (ty := .int) (t := tI) (C := RX4) (T := TX4) (N := 8) hx hb hts inw_X4_follow_4 tyX4 tyX4_ok nmX4 hown hK hP hD hS hT 0 rfl rfl 7 (by decide) (hts (.fieldLink RX4 31 "VatHouse$Runner" "hoursRested" "I") (by decide +kernel)) (fun _ h9 => h9) rfl (by decide +kernel) rfl rfl rfl ⟨_, rfl⟩ dX4_follow_22 (fun f_21 H locs hP hD hS hT hE1 hrd_22 hup_23 => ?_)
    have hF := Fr.put (a := h0) (ci := 4) hF hE ((hE1 h0 (hT.at 0 rfl).1).2.symm.trans (hT.at 0 rfl).2) (by decide) hrd_22 hup_23
    have hE := hE.tr hE1
    have hk_24 : rd f_21 h0 1 = .int lim := ((Fr.put (cs := [(4, 7)]) (a := h0) (ci := 4) Fr.rf Ext.rf (hTo.at 0 rfl).2 (by decide) hrd_22 hup_23).1 h0 (hTo.at 0 rfl).1 4 (hTo.at 0 rfl).2 1 (by decide)).trans hk_19
    have hk_25 : rd f_21 h0 4 = .int 0 := ((Fr.put (cs := [(4, 7)]) (a := h0) (ci := 4) Fr.rf Ext.rf (hTo.at 0 rfl).2 (by decide) hrd_22 hup_23).1 h0 (hTo.at 0 rfl).1 4 (hTo.at 0 rfl).2 4 (by decide)).trans hk_20
    refine lv_aload_n hx hb dX4_follow_25 rfl (lv_at hl 0 rfl) ?_
    refine lv_aload_nN hx hb dX4_follow_26 rfl (lv_at hl 1 rfl) ?_
    refine lv_aload_n hx hb dX4_follow_27 rfl (lv_at hl 2 rfl) ?_
    refine lv_iconst (v := 0) hx hb dX4_follow_28 (by decide) ?_
    have hTo := hT
    refine K_VY ⟨hx, hb, hml, hown, hts⟩ (X4_doSteps_all l dC dI sa hlt g 9 0 rfl _ _ h0 .null w 0 lim 0 _ (hT.sub [0, 1] rfl) (Or.inl rfl) hk_24 hk_25 nI_0.symm) (cwV 3 hts gX4_follow_X4_doSteps rfl rfl rfl (by decide +kernel) ⟨Nat.le_of_ble_eq_true rfl, Nat.le_of_ble_eq_true rfl⟩) hP hD hK hS hA hev hT 0 4 rfl rfl rfl rfl hl.1 rfl (Nat.le_of_ble_eq_true rfl) dX4_follow_29 ⟨Nat.le_of_ble_eq_true rfl, Nat.le_of_ble_eq_true rfl⟩ (fun E ce q9 L9 f9 H locs hpx hP hD hS hT hE1 hce hcv hcl => ?_) (fun r L_26 f_27 n_29 H locs hw_28 hn_30 hP hD hS hT hE1 => ?_)
    · have hF := Fr.call hF hE hpx.2 (by decide)
      have hE := hE.tr hE1
      exact K_out hno hlocks ⟨hpx.1, hF⟩ hP hD hK hS hT hE hce hcv hcl (Nat.le_of_ble_eq_true rfl) (Nat.le_of_ble_eq_true rfl)
    have hF := Fr.call hF hE hw_28.2.1 (by decide)
    have hE := hE.tr hE1
    obtain rfl : n_29 = 0 := hn_30
    obtain ⟨⟨z_31, rfl⟩, hw_28⟩ := hw_28
    obtain ⟨hfr_32, cn_33, hk_34, hrel_35⟩ := hw_28
    have hk_37 : rd f_27 h0 1 = .int lim := (hfr_32.1 h0 (hTo.at 0 rfl).1 4 (hTo.at 0 rfl).2 1 (by decide)).trans hk_24
    refine W.eq (g2 := F0 m 32 ls [.int z_31]) rfl ?_
    refine lv_istore (lv' := [(4, .int z_31), (0, .ref h0), (1, .null), (2, .ref w), (3, .int lim)]) hx hb dX4_follow_32 hl (by decide) rfl (fun ls hl => ?_)
    refine lv_aload_n hx hb dX4_follow_34 rfl (lv_at hl 1 rfl) ?_
    refine lv_iconst (v := 0) hx hb dX4_follow_35 (by decide) ?_
    refine lv_iload hx hb dX4_follow_36 (lv_at hl 0 rfl) ?_
    refine va_mmax hx hb (hml.trans hl.1.symm) hown (hts (.methodLink RX4 38 Lib.Math.max.name) (by decide +kernel)) (hts (.static Lib.Math.max.name) (by decide +kernel)) (hts (.initialized "java/lang/Math") (by decide +kernel)) (hts (.code Lib.Math.max.name Lib.Math.max.code 2 (some .int)) (by decide +kernel)) (Nat.le_of_ble_eq_true rfl) (Nat.le_of_ble_eq_true rfl) (Nat.le_of_ble_eq_true rfl) (Nat.le_of_ble_eq_true rfl) dX4_follow_38 ?_
    refine lv_topi (fun z_38 ez_38 => ?_)
    have hTo := hT
    refine T_put (ci := 4) (v := .int z_38) (ty := .int) (t := tI) (C := RX4) (T := TX4) (N := 8) hx hb hts inw_X4_follow_4 tyX4 tyX4_ok nmX4 hown hK hP hD hS hT 0 rfl rfl 3 (by decide) (hts (.fieldLink RX4 44 "VatHouse$Runner" "failure" "I") (by decide +kernel)) (fun _ h9 => h9) rfl (by decide +kernel) rfl rfl rfl ⟨_, rfl⟩ dX4_follow_41 (fun f_39 H locs hP hD hS hT hE1 hrd_40 hup_41 => ?_)
    have hF := Fr.put (a := h0) (ci := 4) hF hE ((hE1 h0 (hT.at 0 rfl).1).2.symm.trans (hT.at 0 rfl).2) (by decide) hrd_40 hup_41
    have hE := hE.tr hE1
    have hk_42 : rd f_39 h0 1 = .int lim := ((Fr.put (cs := [(4, 3)]) (a := h0) (ci := 4) Fr.rf Ext.rf (hTo.at 0 rfl).2 (by decide) hrd_40 hup_41).1 h0 (hTo.at 0 rfl).1 4 (hTo.at 0 rfl).2 1 (by decide)).trans hk_37
    have hk_43 : rd f_39 h0 4 = .int cn_33 := ((Fr.put (cs := [(4, 3)]) (a := h0) (ci := 4) Fr.rf Ext.rf (hTo.at 0 rfl).2 (by decide) hrd_40 hup_41).1 h0 (hTo.at 0 rfl).1 4 (hTo.at 0 rfl).2 4 (by decide)).trans hk_34
    refine lv_iload hx hb dX4_follow_44 (lv_at hl 0 rfl) ?_
    refine lv_iconst (v := (-1)) hx hb dX4_follow_46 (by decide) ?_
    refine lv_icmp_ne (tgt := 58) hx hb dX4_follow_47 (by decide) (fun c_44 => ?_) (fun c_44 => ?_)
    · refine lv_aload_n hx hb dX4_follow_58 rfl (lv_at hl 1 rfl) ?_
      refine lv_iload hx hb dX4_follow_59 (lv_at hl 0 rfl) ?_
      refine lv_if_ne (tgt := 68) hx hb dX4_follow_61 (by decide) (fun c_45 => ?_) (fun c_45 => ?_)
      · refine lv_iconst (v := 1) hx hb dX4_follow_68 (by decide) ?_
        have hTo := hT
        refine T_put (ci := 4) (v := .int 1) (ty := .int) (t := tI) (C := RX4) (T := TX4) (N := 8) hx hb hts inw_X4_follow_4 tyX4 tyX4_ok nmX4 hown hK hP hD hS hT 0 rfl rfl 2 (by decide) (hts (.fieldLink RX4 9 "VatHouse$Runner" "result" "I") (by decide +kernel)) (fun _ h9 => h9) rfl (by decide +kernel) rfl rfl rfl ⟨_, rfl⟩ dX4_follow_69 (fun f_46 H locs hP hD hS hT hE1 hrd_47 hup_48 => ?_)
        have hF := Fr.put (a := h0) (ci := 4) hF hE ((hE1 h0 (hT.at 0 rfl).1).2.symm.trans (hT.at 0 rfl).2) (by decide) hrd_47 hup_48
        have hE := hE.tr hE1
        have hk_49 : rd f_46 h0 1 = .int lim := ((Fr.put (cs := [(4, 2)]) (a := h0) (ci := 4) Fr.rf Ext.rf (hTo.at 0 rfl).2 (by decide) hrd_47 hup_48).1 h0 (hTo.at 0 rfl).1 4 (hTo.at 0 rfl).2 1 (by decide)).trans hk_42
        have hk_50 : rd f_46 h0 4 = .int cn_33 := ((Fr.put (cs := [(4, 2)]) (a := h0) (ci := 4) Fr.rf Ext.rf (hTo.at 0 rfl).2 (by decide) hrd_47 hup_48).1 h0 (hTo.at 0 rfl).1 4 (hTo.at 0 rfl).2 4 (by decide)).trans hk_43
        refine lv_aload_n hx hb dX4_follow_72 rfl (lv_at hl 1 rfl) ?_
        refine T_get (ci := 4) (C := RX4) (T := TX4) (N := 8) (t := tI) hx hb hts inw_X4_follow_4 hown hK hP hT 0 rfl rfl 2 (by decide) (hts (.fieldLink RX4 9 "VatHouse$Runner" "result" "I") (by decide +kernel)) (fun _ h9 => h9) rfl dX4_follow_73 (fun v_53 hv_51 hr_52 => ?_)
        obtain ⟨z_54, rfl⟩ := hv_51
        refine vx_ret ?_
        exact K_iZ hx hb hr hlocks hP hD hK hS hT hE ⟨⟨_, rfl⟩, hF⟩ (rfl) (Nat.le_of_ble_eq_true rfl) (Nat.le_of_ble_eq_true rfl) (Nat.le_of_ble_eq_true rfl) dX4_follow_76
      · refine lv_iconst (v := 0) hx hb dX4_follow_64 (by decide) ?_
        refine lv_goto (tgt := 69) hx hb dX4_follow_65 (by decide) ?_
        have hTo := hT
        refine T_put (ci := 4) (v := .int 0) (ty := .int) (t := tI) (C := RX4) (T := TX4) (N := 8) hx hb hts inw_X4_follow_4 tyX4 tyX4_ok nmX4 hown hK hP hD hS hT 0 rfl rfl 2 (by decide) (hts (.fieldLink RX4 9 "VatHouse$Runner" "result" "I") (by decide +kernel)) (fun _ h9 => h9) rfl (by decide +kernel) rfl rfl rfl ⟨_, rfl⟩ dX4_follow_69 (fun f_55 H locs hP hD hS hT hE1 hrd_56 hup_57 => ?_)
        have hF := Fr.put (a := h0) (ci := 4) hF hE ((hE1 h0 (hT.at 0 rfl).1).2.symm.trans (hT.at 0 rfl).2) (by decide) hrd_56 hup_57
        have hE := hE.tr hE1
        have hk_58 : rd f_55 h0 1 = .int lim := ((Fr.put (cs := [(4, 2)]) (a := h0) (ci := 4) Fr.rf Ext.rf (hTo.at 0 rfl).2 (by decide) hrd_56 hup_57).1 h0 (hTo.at 0 rfl).1 4 (hTo.at 0 rfl).2 1 (by decide)).trans hk_42
        have hk_59 : rd f_55 h0 4 = .int cn_33 := ((Fr.put (cs := [(4, 2)]) (a := h0) (ci := 4) Fr.rf Ext.rf (hTo.at 0 rfl).2 (by decide) hrd_56 hup_57).1 h0 (hTo.at 0 rfl).1 4 (hTo.at 0 rfl).2 4 (by decide)).trans hk_43
        refine lv_aload_n hx hb dX4_follow_72 rfl (lv_at hl 1 rfl) ?_
        refine T_get (ci := 4) (C := RX4) (T := TX4) (N := 8) (t := tI) hx hb hts inw_X4_follow_4 hown hK hP hT 0 rfl rfl 2 (by decide) (hts (.fieldLink RX4 9 "VatHouse$Runner" "result" "I") (by decide +kernel)) (fun _ h9 => h9) rfl dX4_follow_73 (fun v_62 hv_60 hr_61 => ?_)
        obtain ⟨z_63, rfl⟩ := hv_60
        refine vx_ret ?_
        exact K_iZ hx hb hr hlocks hP hD hK hS hT hE ⟨⟨_, rfl⟩, hF⟩ (rfl) (Nat.le_of_ble_eq_true rfl) (Nat.le_of_ble_eq_true rfl) (Nat.le_of_ble_eq_true rfl) dX4_follow_76
    · refine lv_aload_n hx hb dX4_follow_50 rfl (lv_at hl 1 rfl) ?_
      refine lv_iconst (v := 2) hx hb dX4_follow_51 (by decide) ?_
      have hTo := hT
      refine T_put (ci := 4) (v := .int 2) (ty := .int) (t := tI) (C := RX4) (T := TX4) (N := 8) hx hb hts inw_X4_follow_4 tyX4 tyX4_ok nmX4 hown hK hP hD hS hT 0 rfl rfl 2 (by decide) (hts (.fieldLink RX4 9 "VatHouse$Runner" "result" "I") (by decide +kernel)) (fun _ h9 => h9) rfl (by decide +kernel) rfl rfl rfl ⟨_, rfl⟩ dX4_follow_52 (fun f_64 H locs hP hD hS hT hE1 hrd_65 hup_66 => ?_)
      have hF := Fr.put (a := h0) (ci := 4) hF hE ((hE1 h0 (hT.at 0 rfl).1).2.symm.trans (hT.at 0 rfl).2) (by decide) hrd_65 hup_66
      have hE := hE.tr hE1
      have hk_67 : rd f_64 h0 1 = .int lim := ((Fr.put (cs := [(4, 2)]) (a := h0) (ci := 4) Fr.rf Ext.rf (hTo.at 0 rfl).2 (by decide) hrd_65 hup_66).1 h0 (hTo.at 0 rfl).1 4 (hTo.at 0 rfl).2 1 (by decide)).trans hk_42
      have hk_68 : rd f_64 h0 4 = .int cn_33 := ((Fr.put (cs := [(4, 2)]) (a := h0) (ci := 4) Fr.rf Ext.rf (hTo.at 0 rfl).2 (by decide) hrd_65 hup_66).1 h0 (hTo.at 0 rfl).1 4 (hTo.at 0 rfl).2 4 (by decide)).trans hk_43
      refine lv_goto (tgt := 72) hx hb dX4_follow_55 (by decide) ?_
      refine lv_aload_n hx hb dX4_follow_72 rfl (lv_at hl 1 rfl) ?_
      refine T_get (ci := 4) (C := RX4) (T := TX4) (N := 8) (t := tI) hx hb hts inw_X4_follow_4 hown hK hP hT 0 rfl rfl 2 (by decide) (hts (.fieldLink RX4 9 "VatHouse$Runner" "result" "I") (by decide +kernel)) (fun _ h9 => h9) rfl dX4_follow_73 (fun v_71 hv_69 hr_70 => ?_)
      obtain ⟨z_72, rfl⟩ := hv_69
      refine vx_ret ?_
      exact K_iZ hx hb hr hlocks hP hD hK hS hT hE ⟨⟨_, rfl⟩, hF⟩ (rfl) (Nat.le_of_ble_eq_true rfl) (Nat.le_of_ble_eq_true rfl) (Nat.le_of_ble_eq_true rfl) dX4_follow_76
  · have hT := hT.add hb9
    refine KY.start (cc := cX4_follow) (maxL := 5) (ret := (some .int)) (by decide) rfl (Nat.le_of_ble_eq_true rfl) ?_
    intro p e s m below meth c ls hst hno hP hK hD hev hS hl
    obtain ⟨hx, hb, hr, hml, hts, hown, hlocks, hin⟩ := hst
    have hown : s.vm.findClass RX4 = some m.cls := hown
    have hin : meth.name = yX4_follow.name := hin
    have hA : ∀ q : Nat, s.heap.size ≤ q → va_A (va_pl L f) s.heap.size q := fun _ h => Or.inr h
    have hE : Ext L f L f := Ext.rf
    have hF : Fr [(0, 0), (0, 1), (0, 2), (0, 3), (0, 4), (0, 5), (0, 6), (0, 7), (7, 0), (7, 1), (7, 2), (7, 3), (7, 4), (7, 5), (7, 6), (7, 7), (8, 0), (8, 1), (8, 2), (4, 4), (4, 5), (4, 6), (4, 7), (4, 0), (4, 1), (4, 2), (4, 3), (4, 4), (4, 5), (4, 6), (4, 7)] L f f := Fr.rf
    have hl : lv_has ls 5 [(0, .ref h0), (1, .ref b_1), (2, .ref w), (3, .int lim)] := hl
    refine lv_aload_n hx hb dX4_follow_0 rfl (lv_at hl 0 rfl) ?_
    refine lv_iload_n hx hb dX4_follow_1 rfl (lv_at hl 3 rfl) ?_
    refine T_put (ci := 4) (v := .int lim) (ty := .int) (t := tI) (C := RX4) (T := TX4) (N := 8) hx hb hts inw_X4_follow_4 tyX4 tyX4_ok nmX4 hown hK hP hD hS hT 1 rfl rfl 1 (by decide) (hts (.fieldLink RX4 19 "VatHouse$Runner" "limit" "I") (by decide +kernel)) (fun _ h9 => h9) rfl (by decide +kernel) rfl rfl rfl ⟨_, rfl⟩ dX4_follow_2 (fun f_73 H locs hP hD hS hT hE1 hrd_74 hup_75 => ?_)
    have hF := Fr.put (a := h0) (ci := 4) hF hE ((hE1 h0 (hT.at 1 rfl).1).2.symm.trans (hT.at 1 rfl).2) (by decide) hrd_74 hup_75
    have hE := hE.tr hE1
    have hk_76 : rd f_73 h0 1 = .int lim := (hrd_74 h0 1).trans (if_pos ⟨rfl, rfl⟩)
    refine lv_aload_n hx hb dX4_follow_5 rfl (lv_at hl 0 rfl) ?_
    refine lv_iconst (v := 0) hx hb dX4_follow_6 (by decide) ?_
    have hTo := hT
    refine T_put (ci := 4) (v := .int 0) (ty := .int) (t := tI) (C := RX4) (T := TX4) (N := 8) hx hb hts inw_X4_follow_4 tyX4 tyX4_ok nmX4 hown hK hP hD hS hT 1 rfl rfl 4 (by decide) (hts (.fieldLink RX4 22 "VatHouse$Runner" "counted" "I") (by decide +kernel)) (fun _ h9 => h9) rfl (by decide +kernel) rfl rfl rfl ⟨_, rfl⟩ dX4_follow_7 (fun f_77 H locs hP hD hS hT hE1 hrd_78 hup_79 => ?_)
    have hF := Fr.put (a := h0) (ci := 4) hF hE ((hE1 h0 (hT.at 1 rfl).1).2.symm.trans (hT.at 1 rfl).2) (by decide) hrd_78 hup_79
    have hE := hE.tr hE1
    have hk_80 : rd f_77 h0 1 = .int lim := ((Fr.put (cs := [(4, 4)]) (a := h0) (ci := 4) Fr.rf Ext.rf (hTo.at 1 rfl).2 (by decide) hrd_78 hup_79).1 h0 (hTo.at 1 rfl).1 4 (hTo.at 1 rfl).2 1 (by decide)).trans hk_76
    have hk_81 : rd f_77 h0 4 = .int 0 := (hrd_78 h0 4).trans (if_pos ⟨rfl, rfl⟩)
    refine lv_aload_n hx hb dX4_follow_10 rfl (lv_at hl 0 rfl) ?_
    refine lv_iconst (v := 0) hx hb dX4_follow_11 (by decide) ?_
    have hTo := hT
    refine T_put (ci := 4) (v := .int 0) (ty := .int) (t := tI) (C := RX4) (T := TX4) (N := 8) hx hb hts inw_X4_follow_4 tyX4 tyX4_ok nmX4 hown hK hP hD hS hT 1 rfl rfl 5 (by decide) (hts (.fieldLink RX4 25 "VatHouse$Runner" "dipsDone" "I") (by decide +kernel)) (fun _ h9 => h9) rfl (by decide +kernel) rfl rfl rfl ⟨_, rfl⟩ dX4_follow_12 (fun f_82 H locs hP hD hS hT hE1 hrd_83 hup_84 => ?_)
    have hF := Fr.put (a := h0) (ci := 4) hF hE ((hE1 h0 (hT.at 1 rfl).1).2.symm.trans (hT.at 1 rfl).2) (by decide) hrd_83 hup_84
    have hE := hE.tr hE1
    have hk_85 : rd f_82 h0 1 = .int lim := ((Fr.put (cs := [(4, 5)]) (a := h0) (ci := 4) Fr.rf Ext.rf (hTo.at 1 rfl).2 (by decide) hrd_83 hup_84).1 h0 (hTo.at 1 rfl).1 4 (hTo.at 1 rfl).2 1 (by decide)).trans hk_80
    have hk_86 : rd f_82 h0 4 = .int 0 := ((Fr.put (cs := [(4, 5)]) (a := h0) (ci := 4) Fr.rf Ext.rf (hTo.at 1 rfl).2 (by decide) hrd_83 hup_84).1 h0 (hTo.at 1 rfl).1 4 (hTo.at 1 rfl).2 4 (by decide)).trans hk_81
    refine lv_aload_n hx hb dX4_follow_15 rfl (lv_at hl 0 rfl) ?_
    refine lv_iconst (v := 0) hx hb dX4_follow_16 (by decide) ?_
    have hTo := hT
    refine T_put (ci := 4) (v := .int 0) (ty := .int) (t := tI) (C := RX4) (T := TX4) (N := 8) hx hb hts inw_X4_follow_4 tyX4 tyX4_ok nmX4 hown hK hP hD hS hT 1 rfl rfl 6 (by decide) (hts (.fieldLink RX4 28 "VatHouse$Runner" "grainsMoved" "I") (by decide +kernel)) (fun _ h9 => h9) rfl (by decide +kernel) rfl rfl rfl ⟨_, rfl⟩ dX4_follow_17 (fun f_87 H locs hP hD hS hT hE1 hrd_88 hup_89 => ?_)
    have hF := Fr.put (a := h0) (ci := 4) hF hE ((hE1 h0 (hT.at 1 rfl).1).2.symm.trans (hT.at 1 rfl).2) (by decide) hrd_88 hup_89
    have hE := hE.tr hE1
    have hk_90 : rd f_87 h0 1 = .int lim := ((Fr.put (cs := [(4, 6)]) (a := h0) (ci := 4) Fr.rf Ext.rf (hTo.at 1 rfl).2 (by decide) hrd_88 hup_89).1 h0 (hTo.at 1 rfl).1 4 (hTo.at 1 rfl).2 1 (by decide)).trans hk_85
    have hk_91 : rd f_87 h0 4 = .int 0 := ((Fr.put (cs := [(4, 6)]) (a := h0) (ci := 4) Fr.rf Ext.rf (hTo.at 1 rfl).2 (by decide) hrd_88 hup_89).1 h0 (hTo.at 1 rfl).1 4 (hTo.at 1 rfl).2 4 (by decide)).trans hk_86
    refine lv_aload_n hx hb dX4_follow_20 rfl (lv_at hl 0 rfl) ?_
    refine lv_iconst (v := 0) hx hb dX4_follow_21 (by decide) ?_
    have hTo := hT
    refine T_put (ci := 4) (v := .int 0) (ty := .int) (t := tI) (C := RX4) (T := TX4) (N := 8) hx hb hts inw_X4_follow_4 tyX4 tyX4_ok nmX4 hown hK hP hD hS hT 1 rfl rfl 7 (by decide) (hts (.fieldLink RX4 31 "VatHouse$Runner" "hoursRested" "I") (by decide +kernel)) (fun _ h9 => h9) rfl (by decide +kernel) rfl rfl rfl ⟨_, rfl⟩ dX4_follow_22 (fun f_92 H locs hP hD hS hT hE1 hrd_93 hup_94 => ?_)
    have hF := Fr.put (a := h0) (ci := 4) hF hE ((hE1 h0 (hT.at 1 rfl).1).2.symm.trans (hT.at 1 rfl).2) (by decide) hrd_93 hup_94
    have hE := hE.tr hE1
    have hk_95 : rd f_92 h0 1 = .int lim := ((Fr.put (cs := [(4, 7)]) (a := h0) (ci := 4) Fr.rf Ext.rf (hTo.at 1 rfl).2 (by decide) hrd_93 hup_94).1 h0 (hTo.at 1 rfl).1 4 (hTo.at 1 rfl).2 1 (by decide)).trans hk_90
    have hk_96 : rd f_92 h0 4 = .int 0 := ((Fr.put (cs := [(4, 7)]) (a := h0) (ci := 4) Fr.rf Ext.rf (hTo.at 1 rfl).2 (by decide) hrd_93 hup_94).1 h0 (hTo.at 1 rfl).1 4 (hTo.at 1 rfl).2 4 (by decide)).trans hk_91
    refine lv_aload_n hx hb dX4_follow_25 rfl (lv_at hl 0 rfl) ?_
    refine lv_aload_n hx hb dX4_follow_26 rfl (lv_at hl 1 rfl) ?_
    refine lv_aload_n hx hb dX4_follow_27 rfl (lv_at hl 2 rfl) ?_
    refine lv_iconst (v := 0) hx hb dX4_follow_28 (by decide) ?_
    have hTo := hT
    refine K_VY ⟨hx, hb, hml, hown, hts⟩ (X4_doSteps_all l dC dI sa hlt g 9 0 rfl _ _ h0 (.ref b_1) w 0 lim 0 _ (hT.sub [1, 2] rfl) (Or.inr ⟨_, rfl, hT.at 0 rfl⟩) hk_95 hk_96 nI_0.symm) (cwV 3 hts gX4_follow_X4_doSteps rfl rfl rfl (by decide +kernel) ⟨Nat.le_of_ble_eq_true rfl, Nat.le_of_ble_eq_true rfl⟩) hP hD hK hS hA hev hT 1 4 rfl rfl rfl rfl hl.1 rfl (Nat.le_of_ble_eq_true rfl) dX4_follow_29 ⟨Nat.le_of_ble_eq_true rfl, Nat.le_of_ble_eq_true rfl⟩ (fun E ce q9 L9 f9 H locs hpx hP hD hS hT hE1 hce hcv hcl => ?_) (fun r L_97 f_98 n_100 H locs hw_99 hn_101 hP hD hS hT hE1 => ?_)
    · have hF := Fr.call hF hE hpx.2 (by decide)
      have hE := hE.tr hE1
      exact K_out hno hlocks ⟨hpx.1, hF⟩ hP hD hK hS hT hE hce hcv hcl (Nat.le_of_ble_eq_true rfl) (Nat.le_of_ble_eq_true rfl)
    have hF := Fr.call hF hE hw_99.2.1 (by decide)
    have hE := hE.tr hE1
    obtain rfl : n_100 = 0 := hn_101
    obtain ⟨⟨z_102, rfl⟩, hw_99⟩ := hw_99
    obtain ⟨hfr_103, cn_104, hk_105, hrel_106⟩ := hw_99
    have hk_108 : rd f_98 h0 1 = .int lim := (hfr_103.1 h0 (hTo.at 1 rfl).1 4 (hTo.at 1 rfl).2 1 (by decide)).trans hk_95
    refine W.eq (g2 := F0 m 32 ls [.int z_102]) rfl ?_
    refine lv_istore (lv' := [(4, .int z_102), (0, .ref h0), (1, .ref b_1), (2, .ref w), (3, .int lim)]) hx hb dX4_follow_32 hl (by decide) rfl (fun ls hl => ?_)
    refine lv_aload_n hx hb dX4_follow_34 rfl (lv_at hl 1 rfl) ?_
    refine lv_iconst (v := 0) hx hb dX4_follow_35 (by decide) ?_
    refine lv_iload hx hb dX4_follow_36 (lv_at hl 0 rfl) ?_
    refine va_mmax hx hb (hml.trans hl.1.symm) hown (hts (.methodLink RX4 38 Lib.Math.max.name) (by decide +kernel)) (hts (.static Lib.Math.max.name) (by decide +kernel)) (hts (.initialized "java/lang/Math") (by decide +kernel)) (hts (.code Lib.Math.max.name Lib.Math.max.code 2 (some .int)) (by decide +kernel)) (Nat.le_of_ble_eq_true rfl) (Nat.le_of_ble_eq_true rfl) (Nat.le_of_ble_eq_true rfl) (Nat.le_of_ble_eq_true rfl) dX4_follow_38 ?_
    refine lv_topi (fun z_109 ez_109 => ?_)
    have hTo := hT
    refine T_put (ci := 4) (v := .int z_109) (ty := .int) (t := tI) (C := RX4) (T := TX4) (N := 8) hx hb hts inw_X4_follow_4 tyX4 tyX4_ok nmX4 hown hK hP hD hS hT 1 rfl rfl 3 (by decide) (hts (.fieldLink RX4 44 "VatHouse$Runner" "failure" "I") (by decide +kernel)) (fun _ h9 => h9) rfl (by decide +kernel) rfl rfl rfl ⟨_, rfl⟩ dX4_follow_41 (fun f_110 H locs hP hD hS hT hE1 hrd_111 hup_112 => ?_)
    have hF := Fr.put (a := h0) (ci := 4) hF hE ((hE1 h0 (hT.at 1 rfl).1).2.symm.trans (hT.at 1 rfl).2) (by decide) hrd_111 hup_112
    have hE := hE.tr hE1
    have hk_113 : rd f_110 h0 1 = .int lim := ((Fr.put (cs := [(4, 3)]) (a := h0) (ci := 4) Fr.rf Ext.rf (hTo.at 1 rfl).2 (by decide) hrd_111 hup_112).1 h0 (hTo.at 1 rfl).1 4 (hTo.at 1 rfl).2 1 (by decide)).trans hk_108
    have hk_114 : rd f_110 h0 4 = .int cn_104 := ((Fr.put (cs := [(4, 3)]) (a := h0) (ci := 4) Fr.rf Ext.rf (hTo.at 1 rfl).2 (by decide) hrd_111 hup_112).1 h0 (hTo.at 1 rfl).1 4 (hTo.at 1 rfl).2 4 (by decide)).trans hk_105
    refine lv_iload hx hb dX4_follow_44 (lv_at hl 0 rfl) ?_
    refine lv_iconst (v := (-1)) hx hb dX4_follow_46 (by decide) ?_
    refine lv_icmp_ne (tgt := 58) hx hb dX4_follow_47 (by decide) (fun c_115 => ?_) (fun c_115 => ?_)
    · refine lv_aload_n hx hb dX4_follow_58 rfl (lv_at hl 1 rfl) ?_
      refine lv_iload hx hb dX4_follow_59 (lv_at hl 0 rfl) ?_
      refine lv_if_ne (tgt := 68) hx hb dX4_follow_61 (by decide) (fun c_116 => ?_) (fun c_116 => ?_)
      · refine lv_iconst (v := 1) hx hb dX4_follow_68 (by decide) ?_
        have hTo := hT
        refine T_put (ci := 4) (v := .int 1) (ty := .int) (t := tI) (C := RX4) (T := TX4) (N := 8) hx hb hts inw_X4_follow_4 tyX4 tyX4_ok nmX4 hown hK hP hD hS hT 1 rfl rfl 2 (by decide) (hts (.fieldLink RX4 9 "VatHouse$Runner" "result" "I") (by decide +kernel)) (fun _ h9 => h9) rfl (by decide +kernel) rfl rfl rfl ⟨_, rfl⟩ dX4_follow_69 (fun f_117 H locs hP hD hS hT hE1 hrd_118 hup_119 => ?_)
        have hF := Fr.put (a := h0) (ci := 4) hF hE ((hE1 h0 (hT.at 1 rfl).1).2.symm.trans (hT.at 1 rfl).2) (by decide) hrd_118 hup_119
        have hE := hE.tr hE1
        have hk_120 : rd f_117 h0 1 = .int lim := ((Fr.put (cs := [(4, 2)]) (a := h0) (ci := 4) Fr.rf Ext.rf (hTo.at 1 rfl).2 (by decide) hrd_118 hup_119).1 h0 (hTo.at 1 rfl).1 4 (hTo.at 1 rfl).2 1 (by decide)).trans hk_113
        have hk_121 : rd f_117 h0 4 = .int cn_104 := ((Fr.put (cs := [(4, 2)]) (a := h0) (ci := 4) Fr.rf Ext.rf (hTo.at 1 rfl).2 (by decide) hrd_118 hup_119).1 h0 (hTo.at 1 rfl).1 4 (hTo.at 1 rfl).2 4 (by decide)).trans hk_114
        refine lv_aload_n hx hb dX4_follow_72 rfl (lv_at hl 1 rfl) ?_
        refine T_get (ci := 4) (C := RX4) (T := TX4) (N := 8) (t := tI) hx hb hts inw_X4_follow_4 hown hK hP hT 1 rfl rfl 2 (by decide) (hts (.fieldLink RX4 9 "VatHouse$Runner" "result" "I") (by decide +kernel)) (fun _ h9 => h9) rfl dX4_follow_73 (fun v_124 hv_122 hr_123 => ?_)
        obtain ⟨z_125, rfl⟩ := hv_122
        refine vx_ret ?_
        exact K_iZ hx hb hr hlocks hP hD hK hS hT hE ⟨⟨_, rfl⟩, hF⟩ (rfl) (Nat.le_of_ble_eq_true rfl) (Nat.le_of_ble_eq_true rfl) (Nat.le_of_ble_eq_true rfl) dX4_follow_76
      · refine lv_iconst (v := 0) hx hb dX4_follow_64 (by decide) ?_
        refine lv_goto (tgt := 69) hx hb dX4_follow_65 (by decide) ?_
        have hTo := hT
        refine T_put (ci := 4) (v := .int 0) (ty := .int) (t := tI) (C := RX4) (T := TX4) (N := 8) hx hb hts inw_X4_follow_4 tyX4 tyX4_ok nmX4 hown hK hP hD hS hT 1 rfl rfl 2 (by decide) (hts (.fieldLink RX4 9 "VatHouse$Runner" "result" "I") (by decide +kernel)) (fun _ h9 => h9) rfl (by decide +kernel) rfl rfl rfl ⟨_, rfl⟩ dX4_follow_69 (fun f_126 H locs hP hD hS hT hE1 hrd_127 hup_128 => ?_)
        have hF := Fr.put (a := h0) (ci := 4) hF hE ((hE1 h0 (hT.at 1 rfl).1).2.symm.trans (hT.at 1 rfl).2) (by decide) hrd_127 hup_128
        have hE := hE.tr hE1
        have hk_129 : rd f_126 h0 1 = .int lim := ((Fr.put (cs := [(4, 2)]) (a := h0) (ci := 4) Fr.rf Ext.rf (hTo.at 1 rfl).2 (by decide) hrd_127 hup_128).1 h0 (hTo.at 1 rfl).1 4 (hTo.at 1 rfl).2 1 (by decide)).trans hk_113
        have hk_130 : rd f_126 h0 4 = .int cn_104 := ((Fr.put (cs := [(4, 2)]) (a := h0) (ci := 4) Fr.rf Ext.rf (hTo.at 1 rfl).2 (by decide) hrd_127 hup_128).1 h0 (hTo.at 1 rfl).1 4 (hTo.at 1 rfl).2 4 (by decide)).trans hk_114
        refine lv_aload_n hx hb dX4_follow_72 rfl (lv_at hl 1 rfl) ?_
        refine T_get (ci := 4) (C := RX4) (T := TX4) (N := 8) (t := tI) hx hb hts inw_X4_follow_4 hown hK hP hT 1 rfl rfl 2 (by decide) (hts (.fieldLink RX4 9 "VatHouse$Runner" "result" "I") (by decide +kernel)) (fun _ h9 => h9) rfl dX4_follow_73 (fun v_133 hv_131 hr_132 => ?_)
        obtain ⟨z_134, rfl⟩ := hv_131
        refine vx_ret ?_
        exact K_iZ hx hb hr hlocks hP hD hK hS hT hE ⟨⟨_, rfl⟩, hF⟩ (rfl) (Nat.le_of_ble_eq_true rfl) (Nat.le_of_ble_eq_true rfl) (Nat.le_of_ble_eq_true rfl) dX4_follow_76
    · refine lv_aload_n hx hb dX4_follow_50 rfl (lv_at hl 1 rfl) ?_
      refine lv_iconst (v := 2) hx hb dX4_follow_51 (by decide) ?_
      have hTo := hT
      refine T_put (ci := 4) (v := .int 2) (ty := .int) (t := tI) (C := RX4) (T := TX4) (N := 8) hx hb hts inw_X4_follow_4 tyX4 tyX4_ok nmX4 hown hK hP hD hS hT 1 rfl rfl 2 (by decide) (hts (.fieldLink RX4 9 "VatHouse$Runner" "result" "I") (by decide +kernel)) (fun _ h9 => h9) rfl (by decide +kernel) rfl rfl rfl ⟨_, rfl⟩ dX4_follow_52 (fun f_135 H locs hP hD hS hT hE1 hrd_136 hup_137 => ?_)
      have hF := Fr.put (a := h0) (ci := 4) hF hE ((hE1 h0 (hT.at 1 rfl).1).2.symm.trans (hT.at 1 rfl).2) (by decide) hrd_136 hup_137
      have hE := hE.tr hE1
      have hk_138 : rd f_135 h0 1 = .int lim := ((Fr.put (cs := [(4, 2)]) (a := h0) (ci := 4) Fr.rf Ext.rf (hTo.at 1 rfl).2 (by decide) hrd_136 hup_137).1 h0 (hTo.at 1 rfl).1 4 (hTo.at 1 rfl).2 1 (by decide)).trans hk_113
      have hk_139 : rd f_135 h0 4 = .int cn_104 := ((Fr.put (cs := [(4, 2)]) (a := h0) (ci := 4) Fr.rf Ext.rf (hTo.at 1 rfl).2 (by decide) hrd_136 hup_137).1 h0 (hTo.at 1 rfl).1 4 (hTo.at 1 rfl).2 4 (by decide)).trans hk_114
      refine lv_goto (tgt := 72) hx hb dX4_follow_55 (by decide) ?_
      refine lv_aload_n hx hb dX4_follow_72 rfl (lv_at hl 1 rfl) ?_
      refine T_get (ci := 4) (C := RX4) (T := TX4) (N := 8) (t := tI) hx hb hts inw_X4_follow_4 hown hK hP hT 1 rfl rfl 2 (by decide) (hts (.fieldLink RX4 9 "VatHouse$Runner" "result" "I") (by decide +kernel)) (fun _ h9 => h9) rfl dX4_follow_73 (fun v_142 hv_140 hr_141 => ?_)
      obtain ⟨z_143, rfl⟩ := hv_140
      refine vx_ret ?_
      exact K_iZ hx hb hr hlocks hP hD hK hS hT hE ⟨⟨_, rfl⟩, hF⟩ (rfl) (Nat.le_of_ble_eq_true rfl) (Nat.le_of_ble_eq_true rfl) (Nat.le_of_ble_eq_true rfl) dX4_follow_76

abbrev rm_X9_run : Room := { frames := 59, cells := 2, slots := 12, locals := 1449 }
theorem inw_X9_run_0 : ∀ w ∈ wsX00, w ∈ wsX9_run := by decide +kernel
theorem inw_X9_run_3 : ∀ w ∈ wsX30, w ∈ wsX9_run := by decide +kernel
theorem inw_X9_run_9 : ∀ w ∈ wsX90, w ∈ wsX9_run := by decide +kernel
set_option maxHeartbeats 800000 in
set_option maxRecDepth 100000 in
theorem t_X9_run (l : Launch) (dC : Nat → ClassId) (dI : Nat → Nat → Nat) (sa : Nat → Nat) (hlt : l.stackTraces = false) (g : Nat → Nat) (L : List Nat) (f : Nat → va_E) (h0 : Nat) (a : Int32) (b : Int32) (cq : Int32) (sz : Nat) (hT : TP g L f [(h0, (0, 9, 0))]) : KX l dC dI sa g yX9_run wsX9_run rm_X9_run [.ref h0, .int a, .int b, .int cq] L f sz (fun r L' f' => (∃ z : Int32, r = some (.int z)) ∧ Fr [(0, 0), (0, 1), (0, 2), (0, 3), (0, 4), (0, 5), (0, 6), (0, 7), (7, 0), (7, 1), (7, 2), (7, 3), (7, 4), (7, 5), (7, 6), (7, 7), (8, 0), (8, 1), (8, 2), (4, 0), (4, 1), (4, 2), (4, 3), (4, 4), (4, 5), (4, 6), (4, 7)] L f f') (fun E L' f' => (E = NSE) ∧ Fr [(0, 0), (0, 1), (0, 2), (0, 3), (0, 4), (0, 5), (0, 6), (0, 7), (7, 0), (7, 1), (7, 2), (7, 3), (7, 4), (7, 5), (7, 6), (7, 7), (8, 0), (8, 1), (8, 2), (4, 0), (4, 1), (4, 2), (4, 3), (4, 4), (4, 5), (4, 6), (4, 7)] L f f') 2 12 := by
  refine KX.start (cc := cX9_run) (maxL := 6) (ret := (some .int)) (by decide) rfl (Nat.le_of_ble_eq_true rfl) ?_
  intro p e s m below meth c ls hst hno hP hK hD hev hS hl
  obtain ⟨hx, hb, hr, hml, hts, hown, hlocks, hin⟩ := hst
  have hown : s.vm.findClass RX9 = some m.cls := hown
  have hin : meth.name = yX9_run.name := hin
  have hA : ∀ q : Nat, s.heap.size ≤ q → va_A (va_pl L f) s.heap.size q := fun _ h => Or.inr h
  have hE : Ext L f L f := Ext.rf
  have hF : Fr [(0, 0), (0, 1), (0, 2), (0, 3), (0, 4), (0, 5), (0, 6), (0, 7), (7, 0), (7, 1), (7, 2), (7, 3), (7, 4), (7, 5), (7, 6), (7, 7), (8, 0), (8, 1), (8, 2), (4, 0), (4, 1), (4, 2), (4, 3), (4, 4), (4, 5), (4, 6), (4, 7)] L f f := Fr.rf
  have hl : lv_has ls 6 [(0, .ref h0), (1, .int a), (2, .int b), (3, .int cq)] := hl
  refine lv_aload_n hx hb dX9_run_0 rfl (lv_at hl 0 rfl) ?_
  refine lv_iload_n hx hb dX9_run_1 rfl (lv_at hl 2 rfl) ?_
  refine K_VX ⟨hx, hb, hml, hown, hts⟩ (t_X9_clothAt l dC dI sa hlt g _ _ h0 b _ (hT.sub [0] rfl)  ) (cwV 1 hts gX9_run_X9_clothAt rfl rfl rfl (by decide +kernel) ⟨Nat.le_of_ble_eq_true rfl, Nat.le_of_ble_eq_true rfl⟩) hP hD hK hS hA hev hT 0 9 rfl rfl rfl rfl hl.1 rfl (Nat.le_of_ble_eq_true rfl) dX9_run_2 ⟨Nat.le_of_ble_eq_true rfl, Nat.le_of_ble_eq_true rfl⟩ (fun E ce q9 L9 f9 H locs hpx hP hD hS hT hE1 hce hcv hcl => ?_) (fun r L_1 f_2 H locs hw_3 hP hD hS hT hE1 => ?_)
  · have hF := Fr.call hF hE hpx.2 (by decide)
    have hE := hE.tr hE1
    exact K_out hno hlocks ⟨hpx.1, hF⟩ hP hD hK hS hT hE hce hcv hcl (Nat.le_of_ble_eq_true rfl) (Nat.le_of_ble_eq_true rfl)
  have hF := Fr.call hF hE hw_3.2 (by decide)
  have hE := hE.tr hE1
  obtain ⟨⟨v_4, rfl, hv9⟩, hw_3⟩ := hw_3
  obtain ⟨b_5, rfl, hb9⟩ := hv9
  have hT := hT.add hb9
  refine W.eq (g2 := F0 m 5 ls [.ref b_5]) rfl ?_
  refine lv_astore (lv' := [(4, .ref b_5), (0, .ref h0), (1, .int a), (2, .int b), (3, .int cq)]) hx hb dX9_run_5 hl (by decide) rfl (fun ls hl => ?_)
  refine lv_iload_n hx hb dX9_run_7 rfl (lv_at hl 2 rfl) ?_
  refine lv_if_lt (tgt := 32) hx hb dX9_run_8 (by decide) (fun c_6 => ?_) (fun c_6 => ?_)
  · refine lv_iconst (v := (-1)) hx hb dX9_run_32 (by decide) ?_
    refine vx_ret ?_
    exact K_i hx hb hr hlocks hP hD hK hS hT hE ⟨⟨_, rfl⟩, hF⟩ (Nat.le_of_ble_eq_true rfl) (Nat.le_of_ble_eq_true rfl) dX9_run_33
  · refine lv_iload_n hx hb dX9_run_11 rfl (lv_at hl 2 rfl) ?_
    refine lv_aload_n hx hb dX9_run_12 rfl (lv_at hl 1 rfl) ?_
    refine T_get (ci := 9) (C := RX9) (T := TX9) (N := 11) (t := (1, 2, g 4, 8)) hx hb hts inw_X9_run_9 hown hK hP hT 1 rfl rfl 7 (by decide) (hts (.fieldLink RX9 37 "VatHouse" "recipes" "[LVatHouse$Recipe;") (by decide +kernel)) (fun _ h9 => h9) rfl dX9_run_13 (fun v_9 hv_7 hr_8 => ?_)
    obtain ⟨b_10, rfl, hb9⟩ := hv_7
    have hT := hT.add hb9
    refine T_alen hx hb hK hP hT 0 4 rfl rfl (v := 8) rfl dX9_run_16 ?_
    refine lv_icmp_ge (tgt := 32) hx hb dX9_run_17 (by decide) (fun c_11 => ?_) (fun c_11 => ?_)
    · refine lv_iconst (v := (-1)) hx hb dX9_run_32 (by decide) ?_
      refine vx_ret ?_
      exact K_i hx hb hr hlocks hP hD hK hS hT hE ⟨⟨_, rfl⟩, hF⟩ (Nat.le_of_ble_eq_true rfl) (Nat.le_of_ble_eq_true rfl) dX9_run_33
    · refine lv_iload_n hx hb dX9_run_20 rfl (lv_at hl 4 rfl) ?_
      refine lv_iconst (v := 1) hx hb dX9_run_21 (by decide) ?_
      refine lv_icmp_lt (tgt := 32) hx hb dX9_run_22 (by decide) (fun c_12 => ?_) (fun c_12 => ?_)
      · refine lv_iconst (v := (-1)) hx hb dX9_run_32 (by decide) ?_
        refine vx_ret ?_
        exact K_i hx hb hr hlocks hP hD hK hS hT hE ⟨⟨_, rfl⟩, hF⟩ (Nat.le_of_ble_eq_true rfl) (Nat.le_of_ble_eq_true rfl) dX9_run_33
      · refine lv_iload_n hx hb dX9_run_25 rfl (lv_at hl 4 rfl) ?_
        refine lv_sipush (v := 5000) hx hb dX9_run_26 (by decide) ?_
        refine lv_icmp_le (tgt := 34) hx hb dX9_run_29 (by decide) (fun c_13 => ?_) (fun c_13 => ?_)
        · refine lv_aload_n hx hb dX9_run_34 rfl (lv_at hl 1 rfl) ?_
          refine T_get (ci := 9) (C := RX9) (T := TX9) (N := 11) (t := (1, 2, g 4, 8)) hx hb hts inw_X9_run_9 hown hK hP hT 2 rfl rfl 7 (by decide) (hts (.fieldLink RX9 37 "VatHouse" "recipes" "[LVatHouse$Recipe;") (by decide +kernel)) (fun _ h9 => h9) rfl dX9_run_35 (fun v_16 hv_14 hr_15 => ?_)
          obtain rfl : v_16 = .ref b_10 := hr_15.symm.trans hr_8
          refine lv_iload_n hx hb dX9_run_38 rfl (lv_at hl 2 rfl) ?_
          refine T_rald hx hb hK hP hT 0 4 rfl rfl (vin 8 (by decide) rfl (by assumption) (by assumption)) dX9_run_39 (fun hra => ?_) (fun b_17 hb9 hra => ?_)
          · refine lv_astoreN (lv' := [(5, .null), (4, .ref b_5), (0, .ref h0), (1, .int a), (2, .int b), (3, .int cq)]) hx hb dX9_run_40 hl (by decide) rfl (fun ls hl => ?_)
            refine lv_aloadN hx hb dX9_run_42 (lv_at hl 0 rfl) ?_
            refine lv_ifnullN (tgt := 55) hx hb dX9_run_44 (by decide) ?_
            refine lv_iconst (v := (-1)) hx hb dX9_run_55 (by decide) ?_
            refine vx_ret ?_
            exact K_i hx hb hr hlocks hP hD hK hS hT hE ⟨⟨_, rfl⟩, hF⟩ (Nat.le_of_ble_eq_true rfl) (Nat.le_of_ble_eq_true rfl) dX9_run_56
          · have hT := hT.add hb9
            refine lv_astore (lv' := [(5, .ref b_17), (4, .ref b_5), (0, .ref h0), (1, .int a), (2, .int b), (3, .int cq)]) hx hb dX9_run_40 hl (by decide) rfl (fun ls hl => ?_)
            refine lv_aload hx hb dX9_run_42 (lv_at hl 0 rfl) ?_
            refine lv_ifnull hx hb dX9_run_44 ?_
            refine lv_aload hx hb dX9_run_47 (lv_at hl 1 rfl) ?_
            refine T_get (ci := 0) (C := RX0) (T := TX0) (N := 8) (t := tI) hx hb hts inw_X9_run_0 hown hK hP hT 2 rfl rfl 4 (by decide) (hts (.fieldLink RX9 102 "VatHouse$Cloth" "dry" "Z") (by decide +kernel)) (fun _ h9 => h9) rfl dX9_run_49 (fun v_20 hv_18 hr_19 => ?_)
            obtain ⟨z_21, rfl⟩ := hv_18
            refine lv_if_eq (tgt := 57) hx hb dX9_run_52 (by decide) (fun c_22 => ?_) (fun c_22 => ?_)
            · refine lv_aload_n hx hb dX9_run_57 rfl (lv_at hl 2 rfl) ?_
              refine T_get (ci := 9) (C := RX9) (T := TX9) (N := 11) (t := (1, 0, 4, 0)) hx hb hts inw_X9_run_9 hown hK hP hT 3 rfl rfl 9 (by decide) (hts (.fieldLink RX9 46 "VatHouse" "runner" "LVatHouse$Runner;") (by decide +kernel)) (fun _ h9 => h9) rfl dX9_run_58 (fun v_25 hv_23 hr_24 => ?_)
              obtain ⟨b_26, rfl, hb9⟩ := hv_23
              have hT := hT.add hb9
              refine lv_aload hx hb dX9_run_61 (lv_at hl 0 rfl) ?_
              refine T_get (ci := 3) (C := RX3) (T := TX3) (N := 1) (t := (2, 0, 5, 0)) hx hb hts inw_X9_run_3 hown hK hP hT 1 rfl rfl 0 (by decide) (hts (.fieldLink RX9 156 "VatHouse$Recipe" "first" "LVatHouse$Step;") (by decide +kernel)) (fun _ h9 => h9) rfl dX9_run_63 (fun v_29 hv_27 hr_28 => ?_)
              rcases hv_27 with rfl | ⟨b_30, rfl, hb9⟩
              · refine lv_aload hx hb dX9_run_66 (lv_at hl 1 rfl) ?_
                refine lv_iload_n hx hb dX9_run_68 rfl (lv_at hl 5 rfl) ?_
                refine K_VY ⟨hx, hb, hml, hown, hts⟩ (t_X4_follow l dC dI sa hlt g _ _ b_26 .null b_5 cq _ (hT.sub [0, 3] rfl) (Or.inl rfl) ) (cwV 3 hts gX9_run_X4_follow rfl rfl rfl (by decide +kernel) ⟨Nat.le_of_ble_eq_true rfl, Nat.le_of_ble_eq_true rfl⟩) hP hD hK hS hA hev hT 0 4 rfl rfl rfl rfl hl.1 rfl (Nat.le_of_ble_eq_true rfl) dX9_run_69 ⟨Nat.le_of_ble_eq_true rfl, Nat.le_of_ble_eq_true rfl⟩ (fun E ce q9 L9 f9 H locs hpx hP hD hS hT hE1 hce hcv hcl => ?_) (fun r L_31 f_32 n_34 H locs hw_33 hn_35 hP hD hS hT hE1 => ?_)
                · have hF := Fr.call hF hE hpx.2 (by decide)
                  have hE := hE.tr hE1
                  exact K_out hno hlocks ⟨hpx.1, hF⟩ hP hD hK hS hT hE hce hcv hcl (Nat.le_of_ble_eq_true rfl) (Nat.le_of_ble_eq_true rfl)
                have hF := Fr.call hF hE hw_33.2 (by decide)
                have hE := hE.tr hE1
                obtain rfl : n_34 = 0 := hn_35
                obtain ⟨⟨z_36, rfl⟩, hw_33⟩ := hw_33
                refine W.eq (g2 := F0 m 72 ls [.int z_36]) rfl ?_
                refine vx_ret ?_
                exact K_i hx hb hr hlocks hP hD hK hS hT hE ⟨⟨_, rfl⟩, hF⟩ (Nat.le_of_ble_eq_true rfl) (Nat.le_of_ble_eq_true rfl) dX9_run_72
              · have hT := hT.add hb9
                refine lv_aload hx hb dX9_run_66 (lv_at hl 1 rfl) ?_
                refine lv_iload_n hx hb dX9_run_68 rfl (lv_at hl 5 rfl) ?_
                refine K_VY ⟨hx, hb, hml, hown, hts⟩ (t_X4_follow l dC dI sa hlt g _ _ b_26 (.ref b_30) b_5 cq _ (hT.sub [1, 4] rfl) (Or.inr ⟨_, rfl, hT.at 0 rfl⟩) ) (cwV 3 hts gX9_run_X4_follow rfl rfl rfl (by decide +kernel) ⟨Nat.le_of_ble_eq_true rfl, Nat.le_of_ble_eq_true rfl⟩) hP hD hK hS hA hev hT 1 4 rfl rfl rfl rfl hl.1 rfl (Nat.le_of_ble_eq_true rfl) dX9_run_69 ⟨Nat.le_of_ble_eq_true rfl, Nat.le_of_ble_eq_true rfl⟩ (fun E ce q9 L9 f9 H locs hpx hP hD hS hT hE1 hce hcv hcl => ?_) (fun r L_37 f_38 n_40 H locs hw_39 hn_41 hP hD hS hT hE1 => ?_)
                · have hF := Fr.call hF hE hpx.2 (by decide)
                  have hE := hE.tr hE1
                  exact K_out hno hlocks ⟨hpx.1, hF⟩ hP hD hK hS hT hE hce hcv hcl (Nat.le_of_ble_eq_true rfl) (Nat.le_of_ble_eq_true rfl)
                have hF := Fr.call hF hE hw_39.2 (by decide)
                have hE := hE.tr hE1
                obtain rfl : n_40 = 0 := hn_41
                obtain ⟨⟨z_42, rfl⟩, hw_39⟩ := hw_39
                refine W.eq (g2 := F0 m 72 ls [.int z_42]) rfl ?_
                refine vx_ret ?_
                exact K_i hx hb hr hlocks hP hD hK hS hT hE ⟨⟨_, rfl⟩, hF⟩ (Nat.le_of_ble_eq_true rfl) (Nat.le_of_ble_eq_true rfl) dX9_run_72
            · refine lv_iconst (v := (-1)) hx hb dX9_run_55 (by decide) ?_
              refine vx_ret ?_
              exact K_i hx hb hr hlocks hP hD hK hS hT hE ⟨⟨_, rfl⟩, hF⟩ (Nat.le_of_ble_eq_true rfl) (Nat.le_of_ble_eq_true rfl) dX9_run_56
        · refine lv_iconst (v := (-1)) hx hb dX9_run_32 (by decide) ?_
          refine vx_ret ?_
          exact K_i hx hb hr hlocks hP hD hK hS hT hE ⟨⟨_, rfl⟩, hF⟩ (Nat.le_of_ble_eq_true rfl) (Nat.le_of_ble_eq_true rfl) dX9_run_33
