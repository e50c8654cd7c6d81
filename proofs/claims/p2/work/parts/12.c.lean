theorem tab_out3 {x : Int32} (h0 : ¬ x = 0) (h1 : ¬ x = 1) (h2 : ¬ x = 2) : x.toInt < 0 ∨ 2 < x.toInt := by
  have e0 : x.toInt ≠ 0 := fun h => h0 (Int32.toInt_inj.mp h)
  have e1 : x.toInt ≠ 1 := fun h => h1 (Int32.toInt_inj.mp h)
  have e2 : x.toInt ≠ 2 := fun h => h2 (Int32.toInt_inj.mp h)
  omega

theorem tab_out6 {x : Int32} (h0 : ¬ x = 0) (h1 : ¬ x = 1) (h2 : ¬ x = 2) (h3 : ¬ x = 3) (h4 : ¬ x = 4) (h5 : ¬ x = 5) : x.toInt < 0 ∨ 5 < x.toInt := by
  have e0 : x.toInt ≠ 0 := fun h => h0 (Int32.toInt_inj.mp h)
  have e1 : x.toInt ≠ 1 := fun h => h1 (Int32.toInt_inj.mp h)
  have e2 : x.toInt ≠ 2 := fun h => h2 (Int32.toInt_inj.mp h)
  have e3 : x.toInt ≠ 3 := fun h => h3 (Int32.toInt_inj.mp h)
  have e4 : x.toInt ≠ 4 := fun h => h4 (Int32.toInt_inj.mp h)
  have e5 : x.toInt ≠ 5 := fun h => h5 (Int32.toInt_inj.mp h)
  omega

theorem tab_out8 {x : Int32} (h0 : ¬ x = 0) (h1 : ¬ x = 1) (h2 : ¬ x = 2) (h3 : ¬ x = 3) (h4 : ¬ x = 4) (h5 : ¬ x = 5) (h6 : ¬ x = 6) (h7 : ¬ x = 7) : x.toInt < 0 ∨ 7 < x.toInt := by
  have e0 : x.toInt ≠ 0 := fun h => h0 (Int32.toInt_inj.mp h)
  have e1 : x.toInt ≠ 1 := fun h => h1 (Int32.toInt_inj.mp h)
  have e2 : x.toInt ≠ 2 := fun h => h2 (Int32.toInt_inj.mp h)
  have e3 : x.toInt ≠ 3 := fun h => h3 (Int32.toInt_inj.mp h)
  have e4 : x.toInt ≠ 4 := fun h => h4 (Int32.toInt_inj.mp h)
  have e5 : x.toInt ≠ 5 := fun h => h5 (Int32.toInt_inj.mp h)
  have e6 : x.toInt ≠ 6 := fun h => h6 (Int32.toInt_inj.mp h)
  have e7 : x.toInt ≠ 7 := fun h => h7 (Int32.toInt_inj.mp h)
  omega

theorem tab_out19 {x : Int32} (h0 : ¬ x = 0) (h1 : ¬ x = 1) (h2 : ¬ x = 2) (h3 : ¬ x = 3) (h4 : ¬ x = 4) (h5 : ¬ x = 5) (h6 : ¬ x = 6) (h7 : ¬ x = 7) (h8 : ¬ x = 8) (h9 : ¬ x = 9) (h10 : ¬ x = 10) (h11 : ¬ x = 11) (h12 : ¬ x = 12) (h13 : ¬ x = 13) (h14 : ¬ x = 14) (h15 : ¬ x = 15) (h16 : ¬ x = 16) (h17 : ¬ x = 17) (h18 : ¬ x = 18) : x.toInt < 0 ∨ 18 < x.toInt := by
  have e0 : x.toInt ≠ 0 := fun h => h0 (Int32.toInt_inj.mp h)
  have e1 : x.toInt ≠ 1 := fun h => h1 (Int32.toInt_inj.mp h)
  have e2 : x.toInt ≠ 2 := fun h => h2 (Int32.toInt_inj.mp h)
  have e3 : x.toInt ≠ 3 := fun h => h3 (Int32.toInt_inj.mp h)
  have e4 : x.toInt ≠ 4 := fun h => h4 (Int32.toInt_inj.mp h)
  have e5 : x.toInt ≠ 5 := fun h => h5 (Int32.toInt_inj.mp h)
  have e6 : x.toInt ≠ 6 := fun h => h6 (Int32.toInt_inj.mp h)
  have e7 : x.toInt ≠ 7 := fun h => h7 (Int32.toInt_inj.mp h)
  have e8 : x.toInt ≠ 8 := fun h => h8 (Int32.toInt_inj.mp h)
  have e9 : x.toInt ≠ 9 := fun h => h9 (Int32.toInt_inj.mp h)
  have e10 : x.toInt ≠ 10 := fun h => h10 (Int32.toInt_inj.mp h)
  have e11 : x.toInt ≠ 11 := fun h => h11 (Int32.toInt_inj.mp h)
  have e12 : x.toInt ≠ 12 := fun h => h12 (Int32.toInt_inj.mp h)
  have e13 : x.toInt ≠ 13 := fun h => h13 (Int32.toInt_inj.mp h)
  have e14 : x.toInt ≠ 14 := fun h => h14 (Int32.toInt_inj.mp h)
  have e15 : x.toInt ≠ 15 := fun h => h15 (Int32.toInt_inj.mp h)
  have e16 : x.toInt ≠ 16 := fun h => h16 (Int32.toInt_inj.mp h)
  have e17 : x.toInt ≠ 17 := fun h => h17 (Int32.toInt_inj.mp h)
  have e18 : x.toInt ≠ 18 := fun h => h18 (Int32.toInt_inj.mp h)
  omega

theorem look_out2 {x : Int32} {a b d : Int} (h0 : ¬ x = 0) (h1 : ¬ x = 1) : Op.lookupswitch.offset [(0, a), (1, b)] d x.toInt = d := by
  have e0 : x.toInt ≠ 0 := fun h => h0 (Int32.toInt_inj.mp h)
  have e1 : x.toInt ≠ 1 := fun h => h1 (Int32.toInt_inj.mp h)
  simp [Op.lookupswitch.offset, e0.symm, e1.symm]

abbrev rm_X0_init : Room := { frames := 1, cells := 0, slots := 0, locals := 12 }
theorem inw_X0_init_0 : ∀ w ∈ wsX00, w ∈ wsX0_init := by decide +kernel
set_option maxHeartbeats 800000 in
set_option maxRecDepth 100000 in
theorem t_X0_init (l : Launch) (dC : Nat → ClassId) (dI : Nat → Nat → Nat) (sa : Nat → Nat) (hlt : l.stackTraces = false) (g : Nat → Nat) (L : List Nat) (f : Nat → va_E) (h0 : Nat) (nu : Int32) (we : Int32) (sz : Nat) (hT : TP g L f [(h0, (0, 0, 0))]) : KC l dC dI sa g yX0_init wsX0_init rm_X0_init [.ref h0, .int nu, .int we] L f sz (fun r L' f' => (r = none) ∧ Fr [(0, 0), (0, 1), (0, 2), (0, 3), (0, 4), (0, 5), (0, 6), (0, 7)] L f f') 0 0 := by
  refine CT.start (cc := cX0_init) (maxL := 3) (ret := none) (by decide) rfl (Nat.le_of_ble_eq_true rfl) ?_
  intro p e s m below meth c ls hst hP hK hD hev hS hl
  obtain ⟨hx, hb, hr, hml, hts, hown, hlocks, hin⟩ := hst
  have hown : s.vm.findClass RX0 = some m.cls := hown
  have hin : meth.name = yX0_init.name := hin
  have hA : ∀ q : Nat, s.heap.size ≤ q → va_A (va_pl L f) s.heap.size q := fun _ h => Or.inr h
  have hE : Ext L f L f := Ext.rf
  have hF : Fr [(0, 0), (0, 1), (0, 2), (0, 3), (0, 4), (0, 5), (0, 6), (0, 7)] L f f := Fr.rf
  have hl : lv_has ls 3 [(0, .ref h0), (1, .int nu), (2, .int we)] := hl
  refine lv_aload_n hx hb dX0_init_0 rfl (lv_at hl 0 rfl) ?_
  refine W.objInit hx hb hown (hts (.methodLink RX0 3 objectInit) (by decide +kernel)) (hts (.instanceMethod objectInit) (by decide +kernel)) (hts (.code objectInit ⟨#[0xb1]⟩ 1 none) (by decide +kernel)) rfl (by rw [hml]; exact hl.1) rfl dX0_init_1 (Nat.le_of_ble_eq_true rfl) (Nat.le_of_ble_eq_true rfl) ?_
  refine W.eq (g2 := F0 m 4 ls []) rfl ?_
  refine lv_aload_n hx hb dX0_init_4 rfl (lv_at hl 0 rfl) ?_
  refine lv_iconst (v := (-1)) hx hb dX0_init_5 (by decide) ?_
  refine T_put (ci := 0) (v := .int (-1)) (ty := .int) (t := tI) (C := RX0) (T := TX0) (N := 8) hx hb hts inw_X0_init_0 tyX0 tyX0_ok nmX0 hown hK hP hD hS hT 0 rfl rfl 5 (by decide) (hts (.fieldLink RX0 9 "VatHouse$Cloth" "day" "I") (by decide +kernel)) (fun _ h9 => h9) rfl (by decide +kernel) rfl rfl rfl ⟨_, rfl⟩ dX0_init_6 (fun f_1 H locs hP hD hS hT hE1 hrd_2 hup_3 => ?_)
  have hF := Fr.put (a := h0) (ci := 0) hF hE ((hE1 h0 (hT.at 0 rfl).1).2.symm.trans (hT.at 0 rfl).2) (by decide) hrd_2 hup_3
  have hE := hE.tr hE1
  refine lv_aload_n hx hb dX0_init_9 rfl (lv_at hl 0 rfl) ?_
  refine lv_iload_n hx hb dX0_init_10 rfl (lv_at hl 1 rfl) ?_
  refine T_putF (ci := 0) (v := .int nu) (ty := .int) (t := tI) (C := RX0) (T := TX0) (N := 8) hx hb hts inw_X0_init_0 tyX0 tyX0_ok nmX0 hown hK hP hD hS hT 0 rfl rfl 0 (by decide) (hts (.fieldLink RX0 15 "VatHouse$Cloth" "number" "I") (by decide +kernel)) (fun _ h9 => h9) rfl hin rfl (by decide +kernel) rfl rfl rfl ⟨_, rfl⟩ dX0_init_11 (fun f_4 H locs hP hD hS hT hE1 hrd_5 hup_6 => ?_)
  have hF := Fr.put (a := h0) (ci := 0) hF hE ((hE1 h0 (hT.at 0 rfl).1).2.symm.trans (hT.at 0 rfl).2) (by decide) hrd_5 hup_6
  have hE := hE.tr hE1
  refine lv_aload_n hx hb dX0_init_14 rfl (lv_at hl 0 rfl) ?_
  refine lv_iload_n hx hb dX0_init_15 rfl (lv_at hl 2 rfl) ?_
  refine T_put (ci := 0) (v := .int we) (ty := .int) (t := tI) (C := RX0) (T := TX0) (N := 8) hx hb hts inw_X0_init_0 tyX0 tyX0_ok nmX0 hown hK hP hD hS hT 0 rfl rfl 1 (by decide) (hts (.fieldLink RX0 18 "VatHouse$Cloth" "weight" "I") (by decide +kernel)) (fun _ h9 => h9) rfl (by decide +kernel) rfl rfl rfl ⟨_, rfl⟩ dX0_init_16 (fun f_7 H locs hP hD hS hT hE1 hrd_8 hup_9 => ?_)
  have hF := Fr.put (a := h0) (ci := 0) hF hE ((hE1 h0 (hT.at 0 rfl).1).2.symm.trans (hT.at 0 rfl).2) (by decide) hrd_8 hup_9
  have hE := hE.tr hE1
  exact K_v hx hb hr hlocks hP hD hK hS hT hE ⟨rfl, hF⟩ (Nat.le_of_ble_eq_true rfl) (Nat.le_of_ble_eq_true rfl) dX0_init_19

abbrev rm_X3_init : Room := { frames := 1, cells := 0, slots := 0, locals := 12 }
theorem inw_X3_init_3 : ∀ w ∈ wsX30, w ∈ wsX3_init := by decide +kernel
set_option maxHeartbeats 800000 in
set_option maxRecDepth 100000 in
theorem t_X3_init (l : Launch) (dC : Nat → ClassId) (dI : Nat → Nat → Nat) (sa : Nat → Nat) (hlt : l.stackTraces = false) (g : Nat → Nat) (L : List Nat) (f : Nat → va_E) (h0 : Nat) (st : Value) (sz : Nat) (hT : TP g L f [(h0, (0, 3, 0))]) (hn_st : okv L f (2, 0, 5, 0) st) : KC l dC dI sa g yX3_init wsX3_init rm_X3_init [.ref h0, st] L f sz (fun r L' f' => (r = none) ∧ Fr [(3, 0)] L f f') 0 0 := by
  rcases hn_st with rfl | ⟨b_1, rfl, hb9⟩
  · refine CT.start (cc := cX3_init) (maxL := 2) (ret := none) (by decide) rfl (Nat.le_of_ble_eq_true rfl) ?_
    intro p e s m below meth c ls hst hP hK hD hev hS hl
    obtain ⟨hx, hb, hr, hml, hts, hown, hlocks, hin⟩ := hst
    have hown : s.vm.findClass RX3 = some m.cls := hown
    have hin : meth.name = yX3_init.name := hin
    have hA : ∀ q : Nat, s.heap.size ≤ q → va_A (va_pl L f) s.heap.size q := fun _ h => Or.inr h
    have hE : Ext L f L f := Ext.rf
    have hF : Fr [(3, 0)] L f f := Fr.rf
    have hl : lv_has ls 2 [(0, .ref h0), (1, .null)] := hl
    refine lv_aload_n hx hb dX3_init_0 rfl (lv_at hl 0 rfl) ?_
    refine W.objInit hx hb hown (hts (.methodLink RX3 1 objectInit) (by decide +kernel)) (hts (.instanceMethod objectInit) (by decide +kernel)) (hts (.code objectInit ⟨#[0xb1]⟩ 1 none) (by decide +kernel)) rfl (by rw [hml]; exact hl.1) rfl dX3_init_1 (Nat.le_of_ble_eq_true rfl) (Nat.le_of_ble_eq_true rfl) ?_
    refine W.eq (g2 := F0 m 4 ls []) rfl ?_
    refine lv_aload_n hx hb dX3_init_4 rfl (lv_at hl 0 rfl) ?_
    refine lv_aload_nN hx hb dX3_init_5 rfl (lv_at hl 1 rfl) ?_
    refine T_putF (ci := 3) (v := .null) (ty := .object "VatHouse$Step") (t := (2, 0, 5, 0)) (C := RX3) (T := TX3) (N := 1) hx hb hts inw_X3_init_3 tyX3 tyX3_ok nmX3 hown hK hP hD hS hT 0 rfl rfl 0 (by decide) (hts (.fieldLink RX3 7 "VatHouse$Recipe" "first" "LVatHouse$Step;") (by decide +kernel)) (fun _ h9 => h9) rfl hin rfl (by decide +kernel) rfl rfl rfl (Or.inl rfl) dX3_init_6 (fun f_2 H locs hP hD hS hT hE1 hrd_3 hup_4 => ?_)
    have hF := Fr.put (a := h0) (ci := 3) hF hE ((hE1 h0 (hT.at 0 rfl).1).2.symm.trans (hT.at 0 rfl).2) (by decide) hrd_3 hup_4
    have hE := hE.tr hE1
    exact K_v hx hb hr hlocks hP hD hK hS hT hE ⟨rfl, hF⟩ (Nat.le_of_ble_eq_true rfl) (Nat.le_of_ble_eq_true rfl) dX3_init_9
  · have hT := hT.add hb9
    refine CT.start (cc := cX3_init) (maxL := 2) (ret := none) (by decide) rfl (Nat.le_of_ble_eq_true rfl) ?_
    intro p e s m below meth c ls hst hP hK hD hev hS hl
    obtain ⟨hx, hb, hr, hml, hts, hown, hlocks, hin⟩ := hst
    have hown : s.vm.findClass RX3 = some m.cls := hown
    have hin : meth.name = yX3_init.name := hin
    have hA : ∀ q : Nat, s.heap.size ≤ q → va_A (va_pl L f) s.heap.size q := fun _ h => Or.inr h
    have hE : Ext L f L f := Ext.rf
    have hF : Fr [(3, 0)] L f f := Fr.rf
    have hl : lv_has ls 2 [(0, .ref h0), (1, .ref b_1)] := hl
    refine lv_aload_n hx hb dX3_init_0 rfl (lv_at hl 0 rfl) ?_
    refine W.objInit hx hb hown (hts (.methodLink RX3 1 objectInit) (by decide +kernel)) (hts (.instanceMethod objectInit) (by decide +kernel)) (hts (.code objectInit ⟨#[0xb1]⟩ 1 none) (by decide +kernel)) rfl (by rw [hml]; exact hl.1) rfl dX3_init_1 (Nat.le_of_ble_eq_true rfl) (Nat.le_of_ble_eq_true rfl) ?_
    refine W.eq (g2 := F0 m 4 ls []) rfl ?_
    refine lv_aload_n hx hb dX3_init_4 rfl (lv_at hl 0 rfl) ?_
    refine lv_aload_n hx hb dX3_init_5 rfl (lv_at hl 1 rfl) ?_
    refine T_putF (ci := 3) (v := .ref b_1) (ty := .object "VatHouse$Step") (t := (2, 0, 5, 0)) (C := RX3) (T := TX3) (N := 1) hx hb hts inw_X3_init_3 tyX3 tyX3_ok nmX3 hown hK hP hD hS hT 1 rfl rfl 0 (by decide) (hts (.fieldLink RX3 7 "VatHouse$Recipe" "first" "LVatHouse$Step;") (by decide +kernel)) (fun _ h9 => h9) rfl hin rfl (by decide +kernel) rfl rfl rfl (Or.inr ⟨_, rfl, hT.at 0 rfl⟩) dX3_init_6 (fun f_5 H locs hP hD hS hT hE1 hrd_6 hup_7 => ?_)
    have hF := Fr.put (a := h0) (ci := 3) hF hE ((hE1 h0 (hT.at 1 rfl).1).2.symm.trans (hT.at 1 rfl).2) (by decide) hrd_6 hup_7
    have hE := hE.tr hE1
    exact K_v hx hb hr hlocks hP hD hK hS hT hE ⟨rfl, hF⟩ (Nat.le_of_ble_eq_true rfl) (Nat.le_of_ble_eq_true rfl) dX3_init_9

abbrev rm_X5_init : Room := { frames := 1, cells := 0, slots := 0, locals := 12 }
theorem inw_X5_init_5 : ∀ w ∈ wsX50, w ∈ wsX5_init := by decide +kernel
set_option maxHeartbeats 800000 in
set_option maxRecDepth 100000 in
theorem t_X5_init (l : Launch) (dC : Nat → ClassId) (dI : Nat → Nat → Nat) (sa : Nat → Nat) (hlt : l.stackTraces = false) (g : Nat → Nat) (L : List Nat) (f : Nat → va_E) (h0 : Nat) (wo : Int32) (sz : Nat) (hT : TP g L f [(h0, (0, 5, 0))]) : KC l dC dI sa g yX5_init wsX5_init rm_X5_init [.ref h0, .int wo] L f sz (fun r L' f' => (r = none) ∧ Fr [(5, 0), (5, 1), (5, 2), (5, 3), (5, 4), (5, 5), (5, 6), (5, 7)] L f f') 0 0 := by
  refine CT.start (cc := cX5_init) (maxL := 2) (ret := none) (by decide) rfl (Nat.le_of_ble_eq_true rfl) ?_
  intro p e s m below meth c ls hst hP hK hD hev hS hl
  obtain ⟨hx, hb, hr, hml, hts, hown, hlocks, hin⟩ := hst
  have hown : s.vm.findClass RX5 = some m.cls := hown
  have hin : meth.name = yX5_init.name := hin
  have hA : ∀ q : Nat, s.heap.size ≤ q → va_A (va_pl L f) s.heap.size q := fun _ h => Or.inr h
  have hE : Ext L f L f := Ext.rf
  have hF : Fr [(5, 0), (5, 1), (5, 2), (5, 3), (5, 4), (5, 5), (5, 6), (5, 7)] L f f := Fr.rf
  have hl : lv_has ls 2 [(0, .ref h0), (1, .int wo)] := hl
  refine lv_aload_n hx hb dX5_init_0 rfl (lv_at hl 0 rfl) ?_
  refine W.objInit hx hb hown (hts (.methodLink RX5 1 objectInit) (by decide +kernel)) (hts (.instanceMethod objectInit) (by decide +kernel)) (hts (.code objectInit ⟨#[0xb1]⟩ 1 none) (by decide +kernel)) rfl (by rw [hml]; exact hl.1) rfl dX5_init_1 (Nat.le_of_ble_eq_true rfl) (Nat.le_of_ble_eq_true rfl) ?_
  refine W.eq (g2 := F0 m 4 ls []) rfl ?_
  refine lv_aload_n hx hb dX5_init_4 rfl (lv_at hl 0 rfl) ?_
  refine lv_iload_n hx hb dX5_init_5 rfl (lv_at hl 1 rfl) ?_
  refine T_putF (ci := 5) (v := .int wo) (ty := .int) (t := tI) (C := RX5) (T := TX5) (N := 8) hx hb hts inw_X5_init_5 tyX5 tyX5_ok nmX5 hown hK hP hD hS hT 0 rfl rfl 0 (by decide) (hts (.fieldLink RX5 7 "VatHouse$Step" "word" "I") (by decide +kernel)) (fun _ h9 => h9) rfl hin rfl (by decide +kernel) rfl rfl rfl ⟨_, rfl⟩ dX5_init_6 (fun f_1 H locs hP hD hS hT hE1 hrd_2 hup_3 => ?_)
  have hF := Fr.put (a := h0) (ci := 5) hF hE ((hE1 h0 (hT.at 0 rfl).1).2.symm.trans (hT.at 0 rfl).2) (by decide) hrd_2 hup_3
  have hE := hE.tr hE1
  exact K_v hx hb hr hlocks hP hD hK hS hT hE ⟨rfl, hF⟩ (Nat.le_of_ble_eq_true rfl) (Nat.le_of_ble_eq_true rfl) dX5_init_9

abbrev rm_X9_charge : Room := { frames := 7, cells := 1, slots := 6, locals := 103 }
theorem inw_X9_charge_7 : ∀ w ∈ wsX70, w ∈ wsX9_charge := by decide +kernel
theorem inw_X9_charge_9 : ∀ w ∈ wsX90, w ∈ wsX9_charge := by decide +kernel
set_option maxHeartbeats 800000 in
set_option maxRecDepth 100000 in
theorem t_X9_charge (l : Launch) (dC : Nat → ClassId) (dI : Nat → Nat → Nat) (sa : Nat → Nat) (hlt : l.stackTraces = false) (g : Nat → Nat) (L : List Nat) (f : Nat → va_E) (h0 : Nat) (a : Int32) (b : Int32) (sz : Nat) (hT : TP g L f [(h0, (0, 9, 0))]) : KX l dC dI sa g yX9_charge wsX9_charge rm_X9_charge [.ref h0, .int a, .int b] L f sz (fun r L' f' => (∃ z : Int32, r = some (.int z)) ∧ Fr [(7, 0), (7, 1), (7, 2), (7, 3), (7, 4), (7, 5), (7, 6), (7, 7), (9, 3)] L f f') (fun E L' f' => (E = NSE) ∧ Fr [(7, 0), (7, 1), (7, 2), (7, 3), (7, 4), (7, 5), (7, 6), (7, 7), (9, 3)] L f f') 1 6 := by
  refine KX.start (cc := cX9_charge) (maxL := 4) (ret := (some .int)) (by decide) rfl (Nat.le_of_ble_eq_true rfl) ?_
  intro p e s m below meth c ls hst hno hP hK hD hev hS hl
  obtain ⟨hx, hb, hr, hml, hts, hown, hlocks, hin⟩ := hst
  have hown : s.vm.findClass RX9 = some m.cls := hown
  have hin : meth.name = yX9_charge.name := hin
  have hA : ∀ q : Nat, s.heap.size ≤ q → va_A (va_pl L f) s.heap.size q := fun _ h => Or.inr h
  have hE : Ext L f L f := Ext.rf
  have hF : Fr [(7, 0), (7, 1), (7, 2), (7, 3), (7, 4), (7, 5), (7, 6), (7, 7), (9, 3)] L f f := Fr.rf
  have hl : lv_has ls 4 [(0, .ref h0), (1, .int a), (2, .int b)] := hl
  refine lv_aload_n hx hb dX9_charge_0 rfl (lv_at hl 0 rfl) ?_
  refine T_get (ci := 9) (C := RX9) (T := TX9) (N := 11) (t := (1, 0, 8, 0)) hx hb hts inw_X9_charge_9 hown hK hP hT 0 rfl rfl 0 (by decide) (hts (.fieldLink RX9 10 "VatHouse" "works" "LVatHouse$Works;") (by decide +kernel)) (fun _ h9 => h9) rfl dX9_charge_1 (fun v_3 hv_1 hr_2 => ?_)
  obtain ⟨b_4, rfl, hb9⟩ := hv_1
  have hT := hT.add hb9
  refine lv_iload_n hx hb dX9_charge_4 rfl (lv_at hl 1 rfl) ?_
  refine K_VX ⟨hx, hb, hml, hown, hts⟩ (t_X8_vatAt l dC dI sa hlt g _ _ b_4 a _ (hT.sub [0] rfl)  ) (cwV 1 hts gX9_charge_X8_vatAt rfl rfl rfl (by decide +kernel) ⟨Nat.le_of_ble_eq_true rfl, Nat.le_of_ble_eq_true rfl⟩) hP hD hK hS hA hev hT 0 8 rfl rfl rfl rfl hl.1 rfl (Nat.le_of_ble_eq_true rfl) dX9_charge_5 ⟨Nat.le_of_ble_eq_true rfl, Nat.le_of_ble_eq_true rfl⟩ (fun E ce q9 L9 f9 H locs hpx hP hD hS hT hE1 hce hcv hcl => ?_) (fun r L_5 f_6 H locs hw_7 hP hD hS hT hE1 => ?_)
  · have hF := Fr.call hF hE hpx.2 (by decide)
    have hE := hE.tr hE1
    exact K_out hno hlocks ⟨hpx.1, hF⟩ hP hD hK hS hT hE hce hcv hcl (Nat.le_of_ble_eq_true rfl) (Nat.le_of_ble_eq_true rfl)
  have hF := Fr.call hF hE hw_7.2 (by decide)
  have hE := hE.tr hE1
  obtain ⟨⟨v_8, rfl, hv9⟩, hw_7⟩ := hw_7
  obtain ⟨b_9, rfl, hb9⟩ := hv9
  have hT := hT.add hb9
  refine W.eq (g2 := F0 m 8 ls [.ref b_9]) rfl ?_
  refine lv_astore_n (lv' := [(3, .ref b_9), (0, .ref h0), (1, .int a), (2, .int b)]) hx hb dX9_charge_8 rfl hl (by decide) rfl (fun ls hl => ?_)
  refine lv_iload_n hx hb dX9_charge_9 rfl (lv_at hl 3 rfl) ?_
  refine lv_iconst (v := 1) hx hb dX9_charge_10 (by decide) ?_
  refine lv_icmp_lt (tgt := 25) hx hb dX9_charge_11 (by decide) (fun c_10 => ?_) (fun c_10 => ?_)
  · refine lv_iconst (v := (-1)) hx hb dX9_charge_25 (by decide) ?_
    refine vx_ret ?_
    exact K_i hx hb hr hlocks hP hD hK hS hT hE ⟨⟨_, rfl⟩, hF⟩ (Nat.le_of_ble_eq_true rfl) (Nat.le_of_ble_eq_true rfl) dX9_charge_26
  · refine lv_iload_n hx hb dX9_charge_14 rfl (lv_at hl 3 rfl) ?_
    refine lv_ldc (v := 1000000) hx hb hown (hts (.constant RX9 61 (1000000)) (by decide +kernel)) dX9_charge_15 ?_
    refine lv_aload_n hx hb dX9_charge_17 rfl (lv_at hl 0 rfl) ?_
    refine T_get (ci := 7) (C := RX7) (T := TX7) (N := 8) (t := tI) hx hb hts inw_X9_charge_7 hown hK hP hT 0 rfl rfl 1 (by decide) (hts (.fieldLink RX9 62 "VatHouse$Vat" "grains" "I") (by decide +kernel)) (fun _ h9 => h9) rfl dX9_charge_18 (fun v_13 hv_11 hr_12 => ?_)
    obtain ⟨z_14, rfl⟩ := hv_11
    refine lv_isub hx hb dX9_charge_21 ?_
    refine lv_topi (fun z_15 ez_15 => ?_)
    refine lv_icmp_le (tgt := 27) hx hb dX9_charge_22 (by decide) (fun c_16 => ?_) (fun c_16 => ?_)
    · refine lv_aload_n hx hb dX9_charge_27 rfl (lv_at hl 0 rfl) ?_
      refine lv_dup hx hb dX9_charge_28 rfl ?_
      refine T_get (ci := 7) (C := RX7) (T := TX7) (N := 8) (t := tI) hx hb hts inw_X9_charge_7 hown hK hP hT 0 rfl rfl 1 (by decide) (hts (.fieldLink RX9 62 "VatHouse$Vat" "grains" "I") (by decide +kernel)) (fun _ h9 => h9) rfl dX9_charge_29 (fun v_19 hv_17 hr_18 => ?_)
      obtain rfl : v_19 = .int z_14 := hr_18.symm.trans hr_12
      refine lv_iload_n hx hb dX9_charge_32 rfl (lv_at hl 3 rfl) ?_
      refine lv_iadd hx hb dX9_charge_33 ?_
      refine lv_topi (fun z_20 ez_20 => ?_)
      refine T_put (ci := 7) (v := .int z_20) (ty := .int) (t := tI) (C := RX7) (T := TX7) (N := 8) hx hb hts inw_X9_charge_7 tyX7 tyX7_ok nmX7 hown hK hP hD hS hT 0 rfl rfl 1 (by decide) (hts (.fieldLink RX9 62 "VatHouse$Vat" "grains" "I") (by decide +kernel)) (fun _ h9 => h9) rfl (by decide +kernel) rfl rfl rfl ⟨_, rfl⟩ dX9_charge_34 (fun f_21 H locs hP hD hS hT hE1 hrd_22 hup_23 => ?_)
      have hF := Fr.put (a := b_9) (ci := 7) hF hE ((hE1 b_9 (hT.at 0 rfl).1).2.symm.trans (hT.at 0 rfl).2) (by decide) hrd_22 hup_23
      have hE := hE.tr hE1
      refine lv_aload_n hx hb dX9_charge_37 rfl (lv_at hl 1 rfl) ?_
      refine lv_dup hx hb dX9_charge_38 rfl ?_
      refine T_get (ci := 9) (C := RX9) (T := TX9) (N := 11) (t := tI) hx hb hts inw_X9_charge_9 hown hK hP hT 2 rfl rfl 3 (by decide) (hts (.fieldLink RX9 68 "VatHouse" "grainsPutIn" "I") (by decide +kernel)) (fun _ h9 => h9) rfl dX9_charge_39 (fun v_26 hv_24 hr_25 => ?_)
      obtain ⟨z_27, rfl⟩ := hv_24
      refine lv_iload_n hx hb dX9_charge_42 rfl (lv_at hl 3 rfl) ?_
      refine lv_iadd hx hb dX9_charge_43 ?_
      refine lv_topi (fun z_28 ez_28 => ?_)
      refine T_put (ci := 9) (v := .int z_28) (ty := .int) (t := tI) (C := RX9) (T := TX9) (N := 11) hx hb hts inw_X9_charge_9 tyX9 tyX9_ok nmX9 hown hK hP hD hS hT 2 rfl rfl 3 (by decide) (hts (.fieldLink RX9 68 "VatHouse" "grainsPutIn" "I") (by decide +kernel)) (fun _ h9 => h9) rfl (by decide +kernel) rfl rfl rfl ⟨_, rfl⟩ dX9_charge_44 (fun f_29 H locs hP hD hS hT hE1 hrd_30 hup_31 => ?_)
      have hF := Fr.put (a := h0) (ci := 9) hF hE ((hE1 h0 (hT.at 2 rfl).1).2.symm.trans (hT.at 2 rfl).2) (by decide) hrd_30 hup_31
      have hE := hE.tr hE1
      refine lv_aload_n hx hb dX9_charge_47 rfl (lv_at hl 0 rfl) ?_
      refine T_get (ci := 7) (C := RX7) (T := TX7) (N := 8) (t := tI) hx hb hts inw_X9_charge_7 hown hK hP hT 0 rfl rfl 1 (by decide) (hts (.fieldLink RX9 62 "VatHouse$Vat" "grains" "I") (by decide +kernel)) (fun _ h9 => h9) rfl dX9_charge_48 (fun v_34 hv_32 hr_33 => ?_)
      obtain ⟨z_35, rfl⟩ := hv_32
      refine vx_ret ?_
      exact K_i hx hb hr hlocks hP hD hK hS hT hE ⟨⟨_, rfl⟩, hF⟩ (Nat.le_of_ble_eq_true rfl) (Nat.le_of_ble_eq_true rfl) dX9_charge_51
    · refine lv_iconst (v := (-1)) hx hb dX9_charge_25 (by decide) ?_
      refine vx_ret ?_
      exact K_i hx hb hr hlocks hP hD hK hS hT hE ⟨⟨_, rfl⟩, hF⟩ (Nat.le_of_ble_eq_true rfl) (Nat.le_of_ble_eq_true rfl) dX9_charge_26

abbrev rm_X9_feed : Room := { frames := 7, cells := 2, slots := 12, locals := 103 }
theorem inw_X9_feed_7 : ∀ w ∈ wsX70, w ∈ wsX9_feed := by decide +kernel
theorem inw_X9_feed_9 : ∀ w ∈ wsX90, w ∈ wsX9_feed := by decide +kernel
set_option maxHeartbeats 800000 in
set_option maxRecDepth 100000 in
theorem t_X9_feed (l : Launch) (dC : Nat → ClassId) (dI : Nat → Nat → Nat) (sa : Nat → Nat) (hlt : l.stackTraces = false) (g : Nat → Nat) (L : List Nat) (f : Nat → va_E) (h0 : Nat) (a : Int32) (b : Int32) (sz : Nat) (hT : TP g L f [(h0, (0, 9, 0))]) : KX l dC dI sa g yX9_feed wsX9_feed rm_X9_feed [.ref h0, .int a, .int b] L f sz (fun r L' f' => (∃ z : Int32, r = some (.int z)) ∧ Fr [(7, 0), (7, 1), (7, 2), (7, 3), (7, 4), (7, 5), (7, 6), (7, 7)] L f f') (fun E L' f' => (E = NSE ∨ E = IAE) ∧ Fr [(7, 0), (7, 1), (7, 2), (7, 3), (7, 4), (7, 5), (7, 6), (7, 7)] L f f') 2 12 := by
  refine KX.start (cc := cX9_feed) (maxL := 4) (ret := (some .int)) (by decide) rfl (Nat.le_of_ble_eq_true rfl) ?_
  intro p e s m below meth c ls hst hno hP hK hD hev hS hl
  obtain ⟨hx, hb, hr, hml, hts, hown, hlocks, hin⟩ := hst
  have hown : s.vm.findClass RX9 = some m.cls := hown
  have hin : meth.name = yX9_feed.name := hin
  have hA : ∀ q : Nat, s.heap.size ≤ q → va_A (va_pl L f) s.heap.size q := fun _ h => Or.inr h
  have hE : Ext L f L f := Ext.rf
  have hF : Fr [(7, 0), (7, 1), (7, 2), (7, 3), (7, 4), (7, 5), (7, 6), (7, 7)] L f f := Fr.rf
  have hl : lv_has ls 4 [(0, .ref h0), (1, .int a), (2, .int b)] := hl
  refine lv_aload_n hx hb dX9_feed_0 rfl (lv_at hl 0 rfl) ?_
  refine T_get (ci := 9) (C := RX9) (T := TX9) (N := 11) (t := (1, 0, 8, 0)) hx hb hts inw_X9_feed_9 hown hK hP hT 0 rfl rfl 0 (by decide) (hts (.fieldLink RX9 10 "VatHouse" "works" "LVatHouse$Works;") (by decide +kernel)) (fun _ h9 => h9) rfl dX9_feed_1 (fun v_3 hv_1 hr_2 => ?_)
  obtain ⟨b_4, rfl, hb9⟩ := hv_1
  have hT := hT.add hb9
  refine lv_iload_n hx hb dX9_feed_4 rfl (lv_at hl 1 rfl) ?_
  refine K_VX ⟨hx, hb, hml, hown, hts⟩ (t_X8_vatAt l dC dI sa hlt g _ _ b_4 a _ (hT.sub [0] rfl)  ) (cwV 1 hts gX9_feed_X8_vatAt rfl rfl rfl (by decide +kernel) ⟨Nat.le_of_ble_eq_true rfl, Nat.le_of_ble_eq_true rfl⟩) hP hD hK hS hA hev hT 0 8 rfl rfl rfl rfl hl.1 rfl (Nat.le_of_ble_eq_true rfl) dX9_feed_5 ⟨Nat.le_of_ble_eq_true rfl, Nat.le_of_ble_eq_true rfl⟩ (fun E ce q9 L9 f9 H locs hpx hP hD hS hT hE1 hce hcv hcl => ?_) (fun r L_5 f_6 H locs hw_7 hP hD hS hT hE1 => ?_)
  · have hF := Fr.call hF hE hpx.2 (by decide)
    have hE := hE.tr hE1
    exact K_out hno hlocks ⟨Or.inl hpx.1, hF⟩ hP hD hK hS hT hE hce hcv hcl (Nat.le_of_ble_eq_true rfl) (Nat.le_of_ble_eq_true rfl)
  have hF := Fr.call hF hE hw_7.2 (by decide)
  have hE := hE.tr hE1
  obtain ⟨⟨v_8, rfl, hv9⟩, hw_7⟩ := hw_7
  obtain ⟨b_9, rfl, hb9⟩ := hv9
  have hT := hT.add hb9
  refine W.eq (g2 := F0 m 8 ls [.ref b_9]) rfl ?_
  refine lv_astore_n (lv' := [(3, .ref b_9), (0, .ref h0), (1, .int a), (2, .int b)]) hx hb dX9_feed_8 rfl hl (by decide) rfl (fun ls hl => ?_)
  refine lv_iload_n hx hb dX9_feed_9 rfl (lv_at hl 3 rfl) ?_
  refine lv_iconst (v := 1) hx hb dX9_feed_10 (by decide) ?_
  refine lv_icmp_lt (tgt := 25) hx hb dX9_feed_11 (by decide) (fun c_10 => ?_) (fun c_10 => ?_)
  · refine lv_iconst (v := 0) hx hb dX9_feed_25 (by decide) ?_
    refine K_SX ⟨hx, hb, hml, hown, hts⟩ (t_X9_demand l dC dI sa hlt g _ _ 0 _ (hT.sub [] rfl)  ) (va_cwS 1 hts gX9_feed_X9_demand rfl rfl rfl (by decide +kernel) ⟨Nat.le_of_ble_eq_true rfl, Nat.le_of_ble_eq_true rfl⟩) hP hD hK hS hA hev hT rfl hl.1 rfl (Nat.le_of_ble_eq_true rfl) dX9_feed_26 ⟨Nat.le_of_ble_eq_true rfl, Nat.le_of_ble_eq_true rfl⟩ (fun E ce q9 L9 f9 H locs hpx hP hD hS hT hE1 hce hcv hcl => ?_) (fun r L_11 f_12 H locs hw_13 hP hD hS hT hE1 => ?_)
    · have hF := Fr.call hF hE hpx.2 (by decide)
      have hE := hE.tr hE1
      exact K_out hno hlocks ⟨Or.inr hpx.1, hF⟩ hP hD hK hS hT hE hce hcv hcl (Nat.le_of_ble_eq_true rfl) (Nat.le_of_ble_eq_true rfl)
    have hF := Fr.call hF hE hw_13.2 (by decide)
    have hE := hE.tr hE1
    obtain ⟨rfl, hw_13⟩ := hw_13
    refine W.eq (g2 := F0 m 29 ls []) rfl ?_
    refine lv_aload_n hx hb dX9_feed_29 rfl (lv_at hl 0 rfl) ?_
    refine lv_iload_n hx hb dX9_feed_30 rfl (lv_at hl 3 rfl) ?_
    refine K_V ⟨hx, hb, hml, hown, hts⟩ (t_X7_takeFood l dC dI sa hlt g _ _ b_9 b _ (hT.sub [0] rfl)  ) (cwV 1 hts gX9_feed_X7_takeFood rfl rfl rfl (by decide +kernel) ⟨Nat.le_of_ble_eq_true rfl, Nat.le_of_ble_eq_true rfl⟩) hP hD hK hS hA hev hT 0 7 rfl rfl rfl rfl hl.1 rfl (Nat.le_of_ble_eq_true rfl) dX9_feed_31 ⟨Nat.le_of_ble_eq_true rfl, Nat.le_of_ble_eq_true rfl⟩ (fun r L_14 f_15 H locs hw_16 hP hD hS hT hE1 => ?_)
    have hF := Fr.call hF hE hw_16.2 (by decide)
    have hE := hE.tr hE1
    obtain ⟨⟨z_17, rfl, hz_z_17⟩, hw_16⟩ := hw_16
    refine W.eq (g2 := F0 m 34 ls [.int z_17]) rfl ?_
    refine lv_pop hx hb dX9_feed_34 rfl ?_
    refine lv_aload_n hx hb dX9_feed_35 rfl (lv_at hl 0 rfl) ?_
    refine T_get (ci := 7) (C := RX7) (T := TX7) (N := 8) (t := tI) hx hb hts inw_X9_feed_7 hown hK hP hT 0 rfl rfl 4 (by decide) (hts (.fieldLink RX9 79 "VatHouse$Vat" "state" "I") (by decide +kernel)) (fun _ h9 => h9) rfl dX9_feed_36 (fun v_20 hv_18 hr_19 => ?_)
    obtain ⟨z_21, rfl⟩ := hv_18
    refine vx_ret ?_
    exact K_i hx hb hr hlocks hP hD hK hS hT hE ⟨⟨_, rfl⟩, hF⟩ (Nat.le_of_ble_eq_true rfl) (Nat.le_of_ble_eq_true rfl) dX9_feed_39
  · refine lv_iload_n hx hb dX9_feed_14 rfl (lv_at hl 3 rfl) ?_
    refine lv_sipush (v := 1000) hx hb dX9_feed_15 (by decide) ?_
    refine lv_icmp_gt (tgt := 25) hx hb dX9_feed_18 (by decide) (fun c_22 => ?_) (fun c_22 => ?_)
    · refine lv_iconst (v := 0) hx hb dX9_feed_25 (by decide) ?_
      refine K_SX ⟨hx, hb, hml, hown, hts⟩ (t_X9_demand l dC dI sa hlt g _ _ 0 _ (hT.sub [] rfl)  ) (va_cwS 1 hts gX9_feed_X9_demand rfl rfl rfl (by decide +kernel) ⟨Nat.le_of_ble_eq_true rfl, Nat.le_of_ble_eq_true rfl⟩) hP hD hK hS hA hev hT rfl hl.1 rfl (Nat.le_of_ble_eq_true rfl) dX9_feed_26 ⟨Nat.le_of_ble_eq_true rfl, Nat.le_of_ble_eq_true rfl⟩ (fun E ce q9 L9 f9 H locs hpx hP hD hS hT hE1 hce hcv hcl => ?_) (fun r L_23 f_24 H locs hw_25 hP hD hS hT hE1 => ?_)
      · have hF := Fr.call hF hE hpx.2 (by decide)
        have hE := hE.tr hE1
        exact K_out hno hlocks ⟨Or.inr hpx.1, hF⟩ hP hD hK hS hT hE hce hcv hcl (Nat.le_of_ble_eq_true rfl) (Nat.le_of_ble_eq_true rfl)
      have hF := Fr.call hF hE hw_25.2 (by decide)
      have hE := hE.tr hE1
      obtain ⟨rfl, hw_25⟩ := hw_25
      refine W.eq (g2 := F0 m 29 ls []) rfl ?_
      refine lv_aload_n hx hb dX9_feed_29 rfl (lv_at hl 0 rfl) ?_
      refine lv_iload_n hx hb dX9_feed_30 rfl (lv_at hl 3 rfl) ?_
      refine K_V ⟨hx, hb, hml, hown, hts⟩ (t_X7_takeFood l dC dI sa hlt g _ _ b_9 b _ (hT.sub [0] rfl)  ) (cwV 1 hts gX9_feed_X7_takeFood rfl rfl rfl (by decide +kernel) ⟨Nat.le_of_ble_eq_true rfl, Nat.le_of_ble_eq_true rfl⟩) hP hD hK hS hA hev hT 0 7 rfl rfl rfl rfl hl.1 rfl (Nat.le_of_ble_eq_true rfl) dX9_feed_31 ⟨Nat.le_of_ble_eq_true rfl, Nat.le_of_ble_eq_true rfl⟩ (fun r L_26 f_27 H locs hw_28 hP hD hS hT hE1 => ?_)
      have hF := Fr.call hF hE hw_28.2 (by decide)
      have hE := hE.tr hE1
      obtain ⟨⟨z_29, rfl, hz_z_29⟩, hw_28⟩ := hw_28
      refine W.eq (g2 := F0 m 34 ls [.int z_29]) rfl ?_
      refine lv_pop hx hb dX9_feed_34 rfl ?_
      refine lv_aload_n hx hb dX9_feed_35 rfl (lv_at hl 0 rfl) ?_
      refine T_get (ci := 7) (C := RX7) (T := TX7) (N := 8) (t := tI) hx hb hts inw_X9_feed_7 hown hK hP hT 0 rfl rfl 4 (by decide) (hts (.fieldLink RX9 79 "VatHouse$Vat" "state" "I") (by decide +kernel)) (fun _ h9 => h9) rfl dX9_feed_36 (fun v_32 hv_30 hr_31 => ?_)
      obtain ⟨z_33, rfl⟩ := hv_30
      refine vx_ret ?_
      exact K_i hx hb hr hlocks hP hD hK hS hT hE ⟨⟨_, rfl⟩, hF⟩ (Nat.le_of_ble_eq_true rfl) (Nat.le_of_ble_eq_true rfl) dX9_feed_39
    · refine lv_iconst (v := 1) hx hb dX9_feed_21 (by decide) ?_
      refine lv_goto (tgt := 26) hx hb dX9_feed_22 (by decide) ?_
      refine K_SX ⟨hx, hb, hml, hown, hts⟩ (t_X9_demand l dC dI sa hlt g _ _ 1 _ (hT.sub [] rfl)  ) (va_cwS 1 hts gX9_feed_X9_demand rfl rfl rfl (by decide +kernel) ⟨Nat.le_of_ble_eq_true rfl, Nat.le_of_ble_eq_true rfl⟩) hP hD hK hS hA hev hT rfl hl.1 rfl (Nat.le_of_ble_eq_true rfl) dX9_feed_26 ⟨Nat.le_of_ble_eq_true rfl, Nat.le_of_ble_eq_true rfl⟩ (fun E ce q9 L9 f9 H locs hpx hP hD hS hT hE1 hce hcv hcl => ?_) (fun r L_34 f_35 H locs hw_36 hP hD hS hT hE1 => ?_)
      · have hF := Fr.call hF hE hpx.2 (by decide)
        have hE := hE.tr hE1
        exact K_out hno hlocks ⟨Or.inr hpx.1, hF⟩ hP hD hK hS hT hE hce hcv hcl (Nat.le_of_ble_eq_true rfl) (Nat.le_of_ble_eq_true rfl)
      have hF := Fr.call hF hE hw_36.2 (by decide)
      have hE := hE.tr hE1
      obtain ⟨rfl, hw_36⟩ := hw_36
      refine W.eq (g2 := F0 m 29 ls []) rfl ?_
      refine lv_aload_n hx hb dX9_feed_29 rfl (lv_at hl 0 rfl) ?_
      refine lv_iload_n hx hb dX9_feed_30 rfl (lv_at hl 3 rfl) ?_
      refine K_V ⟨hx, hb, hml, hown, hts⟩ (t_X7_takeFood l dC dI sa hlt g _ _ b_9 b _ (hT.sub [0] rfl)  ) (cwV 1 hts gX9_feed_X7_takeFood rfl rfl rfl (by decide +kernel) ⟨Nat.le_of_ble_eq_true rfl, Nat.le_of_ble_eq_true rfl⟩) hP hD hK hS hA hev hT 0 7 rfl rfl rfl rfl hl.1 rfl (Nat.le_of_ble_eq_true rfl) dX9_feed_31 ⟨Nat.le_of_ble_eq_true rfl, Nat.le_of_ble_eq_true rfl⟩ (fun r L_37 f_38 H locs hw_39 hP hD hS hT hE1 => ?_)
      have hF := Fr.call hF hE hw_39.2 (by decide)
      have hE := hE.tr hE1
      obtain ⟨⟨z_40, rfl, hz_z_40⟩, hw_39⟩ := hw_39
      refine W.eq (g2 := F0 m 34 ls [.int z_40]) rfl ?_
      refine lv_pop hx hb dX9_feed_34 rfl ?_
      refine lv_aload_n hx hb dX9_feed_35 rfl (lv_at hl 0 rfl) ?_
      refine T_get (ci := 7) (C := RX7) (T := TX7) (N := 8) (t := tI) hx hb hts inw_X9_feed_7 hown hK hP hT 0 rfl rfl 4 (by decide) (hts (.fieldLink RX9 79 "VatHouse$Vat" "state" "I") (by decide +kernel)) (fun _ h9 => h9) rfl dX9_feed_36 (fun v_43 hv_41 hr_42 => ?_)
      obtain ⟨z_44, rfl⟩ := hv_41
      refine vx_ret ?_
      exact K_i hx hb hr hlocks hP hD hK hS hT hE ⟨⟨_, rfl⟩, hF⟩ (Nat.le_of_ble_eq_true rfl) (Nat.le_of_ble_eq_true rfl) dX9_feed_39

abbrev rm_X9_lime : Room := { frames := 7, cells := 1, slots := 6, locals := 103 }
theorem inw_X9_lime_7 : ∀ w ∈ wsX70, w ∈ wsX9_lime := by decide +kernel
theorem inw_X9_lime_9 : ∀ w ∈ wsX90, w ∈ wsX9_lime := by decide +kernel
set_option maxHeartbeats 800000 in
set_option maxRecDepth 100000 in
theorem t_X9_lime (l : Launch) (dC : Nat → ClassId) (dI : Nat → Nat → Nat) (sa : Nat → Nat) (hlt : l.stackTraces = false) (g : Nat → Nat) (L : List Nat) (f : Nat → va_E) (h0 : Nat) (a : Int32) (sz : Nat) (hT : TP g L f [(h0, (0, 9, 0))]) : KX l dC dI sa g yX9_lime wsX9_lime rm_X9_lime [.ref h0, .int a] L f sz (fun r L' f' => (∃ z : Int32, r = some (.int z)) ∧ Fr [(7, 0), (7, 1), (7, 2), (7, 3), (7, 4), (7, 5), (7, 6), (7, 7)] L f f') (fun E L' f' => (E = NSE) ∧ Fr [(7, 0), (7, 1), (7, 2), (7, 3), (7, 4), (7, 5), (7, 6), (7, 7)] L f f') 1 6 := by
  refine KX.start (cc := cX9_lime) (maxL := 3) (ret := (some .int)) (by decide) rfl (Nat.le_of_ble_eq_true rfl) ?_
  intro p e s m below meth c ls hst hno hP hK hD hev hS hl
  obtain ⟨hx, hb, hr, hml, hts, hown, hlocks, hin⟩ := hst
  have hown : s.vm.findClass RX9 = some m.cls := hown
  have hin : meth.name = yX9_lime.name := hin
  have hA : ∀ q : Nat, s.heap.size ≤ q → va_A (va_pl L f) s.heap.size q := fun _ h => Or.inr h
  have hE : Ext L f L f := Ext.rf
  have hF : Fr [(7, 0), (7, 1), (7, 2), (7, 3), (7, 4), (7, 5), (7, 6), (7, 7)] L f f := Fr.rf
  have hl : lv_has ls 3 [(0, .ref h0), (1, .int a)] := hl
  refine lv_aload_n hx hb dX9_lime_0 rfl (lv_at hl 0 rfl) ?_
  refine T_get (ci := 9) (C := RX9) (T := TX9) (N := 11) (t := (1, 0, 8, 0)) hx hb hts inw_X9_lime_9 hown hK hP hT 0 rfl rfl 0 (by decide) (hts (.fieldLink RX9 10 "VatHouse" "works" "LVatHouse$Works;") (by decide +kernel)) (fun _ h9 => h9) rfl dX9_lime_1 (fun v_3 hv_1 hr_2 => ?_)
  obtain ⟨b_4, rfl, hb9⟩ := hv_1
  have hT := hT.add hb9
  refine lv_iload_n hx hb dX9_lime_4 rfl (lv_at hl 1 rfl) ?_
  refine K_VX ⟨hx, hb, hml, hown, hts⟩ (t_X8_vatAt l dC dI sa hlt g _ _ b_4 a _ (hT.sub [0] rfl)  ) (cwV 1 hts gX9_lime_X8_vatAt rfl rfl rfl (by decide +kernel) ⟨Nat.le_of_ble_eq_true rfl, Nat.le_of_ble_eq_true rfl⟩) hP hD hK hS hA hev hT 0 8 rfl rfl rfl rfl hl.1 rfl (Nat.le_of_ble_eq_true rfl) dX9_lime_5 ⟨Nat.le_of_ble_eq_true rfl, Nat.le_of_ble_eq_true rfl⟩ (fun E ce q9 L9 f9 H locs hpx hP hD hS hT hE1 hce hcv hcl => ?_) (fun r L_5 f_6 H locs hw_7 hP hD hS hT hE1 => ?_)
  · have hF := Fr.call hF hE hpx.2 (by decide)
    have hE := hE.tr hE1
    exact K_out hno hlocks ⟨hpx.1, hF⟩ hP hD hK hS hT hE hce hcv hcl (Nat.le_of_ble_eq_true rfl) (Nat.le_of_ble_eq_true rfl)
  have hF := Fr.call hF hE hw_7.2 (by decide)
  have hE := hE.tr hE1
  obtain ⟨⟨v_8, rfl, hv9⟩, hw_7⟩ := hw_7
  obtain ⟨b_9, rfl, hb9⟩ := hv9
  have hT := hT.add hb9
  refine W.eq (g2 := F0 m 8 ls [.ref b_9]) rfl ?_
  refine lv_astore_n (lv' := [(2, .ref b_9), (0, .ref h0), (1, .int a)]) hx hb dX9_lime_8 rfl hl (by decide) rfl (fun ls hl => ?_)
  refine lv_aload_n hx hb dX9_lime_9 rfl (lv_at hl 0 rfl) ?_
  refine K_V ⟨hx, hb, hml, hown, hts⟩ (t_X7_takeLime l dC dI sa hlt g _ _ b_9 _ (hT.sub [0] rfl)  ) (cwV 0 hts gX9_lime_X7_takeLime rfl rfl rfl (by decide +kernel) ⟨Nat.le_of_ble_eq_true rfl, Nat.le_of_ble_eq_true rfl⟩) hP hD hK hS hA hev hT 0 7 rfl rfl rfl rfl hl.1 rfl (Nat.le_of_ble_eq_true rfl) dX9_lime_10 ⟨Nat.le_of_ble_eq_true rfl, Nat.le_of_ble_eq_true rfl⟩ (fun r L_10 f_11 H locs hw_12 hP hD hS hT hE1 => ?_)
  have hF := Fr.call hF hE hw_12.2 (by decide)
  have hE := hE.tr hE1
  obtain ⟨rfl, hw_12⟩ := hw_12
  refine W.eq (g2 := F0 m 13 ls []) rfl ?_
  refine lv_aload_n hx hb dX9_lime_13 rfl (lv_at hl 0 rfl) ?_
  refine T_get (ci := 7) (C := RX7) (T := TX7) (N := 8) (t := tI) hx hb hts inw_X9_lime_7 hown hK hP hT 0 rfl rfl 4 (by decide) (hts (.fieldLink RX9 79 "VatHouse$Vat" "state" "I") (by decide +kernel)) (fun _ h9 => h9) rfl dX9_lime_14 (fun v_15 hv_13 hr_14 => ?_)
  obtain ⟨z_16, rfl⟩ := hv_13
  refine vx_ret ?_
  exact K_i hx hb hr hlocks hP hD hK hS hT hE ⟨⟨_, rfl⟩, hF⟩ (Nat.le_of_ble_eq_true rfl) (Nat.le_of_ble_eq_true rfl) dX9_lime_17

abbrev rm_X9_dip : Room := { frames := 7, cells := 3, slots := 18, locals := 104 }
theorem inw_X9_dip_0 : ∀ w ∈ wsX00, w ∈ wsX9_dip := by decide +kernel
theorem inw_X9_dip_7 : ∀ w ∈ wsX70, w ∈ wsX9_dip := by decide +kernel
theorem inw_X9_dip_9 : ∀ w ∈ wsX90, w ∈ wsX9_dip := by decide +kernel
set_option maxHeartbeats 800000 in
set_option maxRecDepth 100000 in
theorem t_X9_dip (l : Launch) (dC : Nat → ClassId) (dI : Nat → Nat → Nat) (sa : Nat → Nat) (hlt : l.stackTraces = false) (g : Nat → Nat) (L : List Nat) (f : Nat → va_E) (h0 : Nat) (a : Int32) (b : Int32) (cq : Int32) (sz : Nat) (hT : TP g L f [(h0, (0, 9, 0))]) : KX l dC dI sa g yX9_dip wsX9_dip rm_X9_dip [.ref h0, .int a, .int b, .int cq] L f sz (fun r L' f' => (∃ z : Int32, r = some (.int z)) ∧ Fr [(0, 0), (0, 1), (0, 2), (0, 3), (0, 4), (0, 5), (0, 6), (0, 7), (7, 0), (7, 1), (7, 2), (7, 3), (7, 4), (7, 5), (7, 6), (7, 7)] L f f') (fun E L' f' => (E = NSE ∨ E = IAE) ∧ Fr [(0, 0), (0, 1), (0, 2), (0, 3), (0, 4), (0, 5), (0, 6), (0, 7), (7, 0), (7, 1), (7, 2), (7, 3), (7, 4), (7, 5), (7, 6), (7, 7)] L f f') 3 18 := by
  refine KX.start (cc := cX9_dip) (maxL := 7) (ret := (some .int)) (by decide) rfl (Nat.le_of_ble_eq_true rfl) ?_
  intro p e s m below meth c ls hst hno hP hK hD hev hS hl
  obtain ⟨hx, hb, hr, hml, hts, hown, hlocks, hin⟩ := hst
  have hown : s.vm.findClass RX9 = some m.cls := hown
  have hin : meth.name = yX9_dip.name := hin
  have hA : ∀ q : Nat, s.heap.size ≤ q → va_A (va_pl L f) s.heap.size q := fun _ h => Or.inr h
  have hE : Ext L f L f := Ext.rf
  have hF : Fr [(0, 0), (0, 1), (0, 2), (0, 3), (0, 4), (0, 5), (0, 6), (0, 7), (7, 0), (7, 1), (7, 2), (7, 3), (7, 4), (7, 5), (7, 6), (7, 7)] L f f := Fr.rf
  have hl : lv_has ls 7 [(0, .ref h0), (1, .int a), (2, .int b), (3, .int cq)] := hl
  refine lv_aload_n hx hb dX9_dip_0 rfl (lv_at hl 0 rfl) ?_
  refine lv_iload_n hx hb dX9_dip_1 rfl (lv_at hl 1 rfl) ?_
  refine K_VX ⟨hx, hb, hml, hown, hts⟩ (t_X9_clothAt l dC dI sa hlt g _ _ h0 a _ (hT.sub [0] rfl)  ) (cwV 1 hts gX9_dip_X9_clothAt rfl rfl rfl (by decide +kernel) ⟨Nat.le_of_ble_eq_true rfl, Nat.le_of_ble_eq_true rfl⟩) hP hD hK hS hA hev hT 0 9 rfl rfl rfl rfl hl.1 rfl (Nat.le_of_ble_eq_true rfl) dX9_dip_2 ⟨Nat.le_of_ble_eq_true rfl, Nat.le_of_ble_eq_true rfl⟩ (fun E ce q9 L9 f9 H locs hpx hP hD hS hT hE1 hce hcv hcl => ?_) (fun r L_1 f_2 H locs hw_3 hP hD hS hT hE1 => ?_)
  · have hF := Fr.call hF hE hpx.2 (by decide)
    have hE := hE.tr hE1
    exact K_out hno hlocks ⟨Or.inl hpx.1, hF⟩ hP hD hK hS hT hE hce hcv hcl (Nat.le_of_ble_eq_true rfl) (Nat.le_of_ble_eq_true rfl)
  have hF := Fr.call hF hE hw_3.2 (by decide)
  have hE := hE.tr hE1
  obtain ⟨⟨v_4, rfl, hv9⟩, hw_3⟩ := hw_3
  obtain ⟨b_5, rfl, hb9⟩ := hv9
  have hT := hT.add hb9
  refine W.eq (g2 := F0 m 5 ls [.ref b_5]) rfl ?_
  refine lv_astore (lv' := [(4, .ref b_5), (0, .ref h0), (1, .int a), (2, .int b), (3, .int cq)]) hx hb dX9_dip_5 hl (by decide) rfl (fun ls hl => ?_)
  refine lv_aload_n hx hb dX9_dip_7 rfl (lv_at hl 1 rfl) ?_
  refine T_get (ci := 9) (C := RX9) (T := TX9) (N := 11) (t := (1, 0, 8, 0)) hx hb hts inw_X9_dip_9 hown hK hP hT 1 rfl rfl 0 (by decide) (hts (.fieldLink RX9 10 "VatHouse" "works" "LVatHouse$Works;") (by decide +kernel)) (fun _ h9 => h9) rfl dX9_dip_8 (fun v_8 hv_6 hr_7 => ?_)
  obtain ⟨b_9, rfl, hb9⟩ := hv_6
  have hT := hT.add hb9
  refine lv_iload_n hx hb dX9_dip_11 rfl (lv_at hl 3 rfl) ?_
  refine K_VX ⟨hx, hb, hml, hown, hts⟩ (t_X8_vatAt l dC dI sa hlt g _ _ b_9 b _ (hT.sub [0] rfl)  ) (cwV 1 hts gX9_dip_X8_vatAt rfl rfl rfl (by decide +kernel) ⟨Nat.le_of_ble_eq_true rfl, Nat.le_of_ble_eq_true rfl⟩) hP hD hK hS hA hev hT 0 8 rfl rfl rfl rfl hl.1 rfl (Nat.le_of_ble_eq_true rfl) dX9_dip_12 ⟨Nat.le_of_ble_eq_true rfl, Nat.le_of_ble_eq_true rfl⟩ (fun E ce q9 L9 f9 H locs hpx hP hD hS hT hE1 hce hcv hcl => ?_) (fun r L_10 f_11 H locs hw_12 hP hD hS hT hE1 => ?_)
  · have hF := Fr.call hF hE hpx.2 (by decide)
    have hE := hE.tr hE1
    exact K_out hno hlocks ⟨Or.inl hpx.1, hF⟩ hP hD hK hS hT hE hce hcv hcl (Nat.le_of_ble_eq_true rfl) (Nat.le_of_ble_eq_true rfl)
  have hF := Fr.call hF hE hw_12.2 (by decide)
  have hE := hE.tr hE1
  obtain ⟨⟨v_13, rfl, hv9⟩, hw_12⟩ := hw_12
  obtain ⟨b_14, rfl, hb9⟩ := hv9
  have hT := hT.add hb9
  refine W.eq (g2 := F0 m 15 ls [.ref b_14]) rfl ?_
  refine lv_astore (lv' := [(5, .ref b_14), (4, .ref b_5), (0, .ref h0), (1, .int a), (2, .int b), (3, .int cq)]) hx hb dX9_dip_15 hl (by decide) rfl (fun ls hl => ?_)
  refine lv_iload_n hx hb dX9_dip_17 rfl (lv_at hl 5 rfl) ?_
  refine lv_iconst (v := 1) hx hb dX9_dip_18 (by decide) ?_
  refine lv_icmp_lt (tgt := 32) hx hb dX9_dip_19 (by decide) (fun c_15 => ?_) (fun c_15 => ?_)
  · refine lv_iconst (v := 0) hx hb dX9_dip_32 (by decide) ?_
    refine K_SX ⟨hx, hb, hml, hown, hts⟩ (t_X9_demand l dC dI sa hlt g _ _ 0 _ (hT.sub [] rfl)  ) (va_cwS 1 hts gX9_dip_X9_demand rfl rfl rfl (by decide +kernel) ⟨Nat.le_of_ble_eq_true rfl, Nat.le_of_ble_eq_true rfl⟩) hP hD hK hS hA hev hT rfl hl.1 rfl (Nat.le_of_ble_eq_true rfl) dX9_dip_33 ⟨Nat.le_of_ble_eq_true rfl, Nat.le_of_ble_eq_true rfl⟩ (fun E ce q9 L9 f9 H locs hpx hP hD hS hT hE1 hce hcv hcl => ?_) (fun r L_16 f_17 H locs hw_18 hP hD hS hT hE1 => ?_)
    · have hF := Fr.call hF hE hpx.2 (by decide)
      have hE := hE.tr hE1
      exact K_out hno hlocks ⟨Or.inr hpx.1, hF⟩ hP hD hK hS hT hE hce hcv hcl (Nat.le_of_ble_eq_true rfl) (Nat.le_of_ble_eq_true rfl)
    have hF := Fr.call hF hE hw_18.2 (by decide)
    have hE := hE.tr hE1
    obtain ⟨rfl, hw_18⟩ := hw_18
    refine W.eq (g2 := F0 m 36 ls []) rfl ?_
    refine lv_aload hx hb dX9_dip_36 (lv_at hl 0 rfl) ?_
    refine T_get (ci := 7) (C := RX7) (T := TX7) (N := 8) (t := tI) hx hb hts inw_X9_dip_7 hown hK hP hT 0 rfl rfl 4 (by decide) (hts (.fieldLink RX9 79 "VatHouse$Vat" "state" "I") (by decide +kernel)) (fun _ h9 => h9) rfl dX9_dip_38 (fun v_21 hv_19 hr_20 => ?_)
    obtain ⟨z_22, rfl⟩ := hv_19
    refine lv_iconst (v := 2) hx hb dX9_dip_41 (by decide) ?_
    refine lv_icmp_eq (tgt := 53) hx hb dX9_dip_42 (by decide) (fun c_23 => ?_) (fun c_23 => ?_)
    · refine lv_iconst (v := (-1)) hx hb dX9_dip_53 (by decide) ?_
      refine vx_ret ?_
      exact K_i hx hb hr hlocks hP hD hK hS hT hE ⟨⟨_, rfl⟩, hF⟩ (Nat.le_of_ble_eq_true rfl) (Nat.le_of_ble_eq_true rfl) dX9_dip_54
    · refine lv_aload hx hb dX9_dip_45 (lv_at hl 1 rfl) ?_
      refine T_get (ci := 0) (C := RX0) (T := TX0) (N := 8) (t := tI) hx hb hts inw_X9_dip_0 hown hK hP hT 2 rfl rfl 4 (by decide) (hts (.fieldLink RX9 102 "VatHouse$Cloth" "dry" "Z") (by decide +kernel)) (fun _ h9 => h9) rfl dX9_dip_47 (fun v_26 hv_24 hr_25 => ?_)
      obtain ⟨z_27, rfl⟩ := hv_24
      refine lv_if_eq (tgt := 55) hx hb dX9_dip_50 (by decide) (fun c_28 => ?_) (fun c_28 => ?_)
      · refine lv_aload hx hb dX9_dip_55 (lv_at hl 0 rfl) ?_
        refine lv_aload hx hb dX9_dip_57 (lv_at hl 1 rfl) ?_
        refine lv_iload_n hx hb dX9_dip_59 rfl (lv_at hl 5 rfl) ?_
        refine K_V ⟨hx, hb, hml, hown, hts⟩ (t_X7_givesTo l dC dI sa hlt g _ _ b_14 b_5 cq _ (hT.sub [0, 2] rfl)  ) (cwV 2 hts gX9_dip_X7_givesTo rfl rfl rfl (by decide +kernel) ⟨Nat.le_of_ble_eq_true rfl, Nat.le_of_ble_eq_true rfl⟩) hP hD hK hS hA hev hT 0 7 rfl rfl rfl rfl hl.1 rfl (Nat.le_of_ble_eq_true rfl) dX9_dip_60 ⟨Nat.le_of_ble_eq_true rfl, Nat.le_of_ble_eq_true rfl⟩ (fun r L_29 f_30 H locs hw_31 hP hD hS hT hE1 => ?_)
        have hF := Fr.call hF hE hw_31.2 (by decide)
        have hE := hE.tr hE1
        obtain ⟨⟨z_32, rfl⟩, hw_31⟩ := hw_31
        refine W.eq (g2 := F0 m 63 ls [.int z_32]) rfl ?_
        refine lv_istore (lv' := [(6, .int z_32), (5, .ref b_14), (4, .ref b_5), (0, .ref h0), (1, .int a), (2, .int b), (3, .int cq)]) hx hb dX9_dip_63 hl (by decide) rfl (fun ls hl => ?_)
        refine lv_aload_n hx hb dX9_dip_65 rfl (lv_at hl 3 rfl) ?_
        refine T_get (ci := 9) (C := RX9) (T := TX9) (N := 11) (t := (1, 0, 8, 0)) hx hb hts inw_X9_dip_9 hown hK hP hT 3 rfl rfl 0 (by decide) (hts (.fieldLink RX9 10 "VatHouse" "works" "LVatHouse$Works;") (by decide +kernel)) (fun _ h9 => h9) rfl dX9_dip_66 (fun v_35 hv_33 hr_34 => ?_)
        obtain ⟨b_36, rfl, hb9⟩ := hv_33
        have hT := hT.add hb9
        refine lv_aload hx hb dX9_dip_69 (lv_at hl 1 rfl) ?_
        refine lv_aload hx hb dX9_dip_71 (lv_at hl 2 rfl) ?_
        refine lv_iload_n hx hb dX9_dip_73 rfl (lv_at hl 6 rfl) ?_
        refine lv_iload hx hb dX9_dip_74 (lv_at hl 0 rfl) ?_
        refine K_V ⟨hx, hb, hml, hown, hts⟩ (t_X8_dipInto l dC dI sa hlt g _ _ b_36 b_14 b_5 cq z_32 _ (hT.sub [0, 1, 3] rfl)  ) (cwV 4 hts gX9_dip_X8_dipInto rfl rfl rfl (by decide +kernel) ⟨Nat.le_of_ble_eq_true rfl, Nat.le_of_ble_eq_true rfl⟩) hP hD hK hS hA hev hT 0 8 rfl rfl rfl rfl hl.1 rfl (Nat.le_of_ble_eq_true rfl) dX9_dip_76 ⟨Nat.le_of_ble_eq_true rfl, Nat.le_of_ble_eq_true rfl⟩ (fun r L_37 f_38 H locs hw_39 hP hD hS hT hE1 => ?_)
        have hF := Fr.call hF hE hw_39.2 (by decide)
        have hE := hE.tr hE1
        obtain ⟨rfl, hw_39⟩ := hw_39
        refine W.eq (g2 := F0 m 79 ls []) rfl ?_
        refine lv_iload hx hb dX9_dip_79 (lv_at hl 0 rfl) ?_
        refine vx_ret ?_
        exact K_i hx hb hr hlocks hP hD hK hS hT hE ⟨⟨_, rfl⟩, hF⟩ (Nat.le_of_ble_eq_true rfl) (Nat.le_of_ble_eq_true rfl) dX9_dip_81
      · refine lv_iconst (v := (-1)) hx hb dX9_dip_53 (by decide) ?_
        refine vx_ret ?_
        exact K_i hx hb hr hlocks hP hD hK hS hT hE ⟨⟨_, rfl⟩, hF⟩ (Nat.le_of_ble_eq_true rfl) (Nat.le_of_ble_eq_true rfl) dX9_dip_54
  · refine lv_iload_n hx hb dX9_dip_22 rfl (lv_at hl 5 rfl) ?_
    refine lv_bipush (v := 20) hx hb dX9_dip_23 (by decide) ?_
    refine lv_icmp_gt (tgt := 32) hx hb dX9_dip_25 (by decide) (fun c_40 => ?_) (fun c_40 => ?_)
    · refine lv_iconst (v := 0) hx hb dX9_dip_32 (by decide) ?_
      refine K_SX ⟨hx, hb, hml, hown, hts⟩ (t_X9_demand l dC dI sa hlt g _ _ 0 _ (hT.sub [] rfl)  ) (va_cwS 1 hts gX9_dip_X9_demand rfl rfl rfl (by decide +kernel) ⟨Nat.le_of_ble_eq_true rfl, Nat.le_of_ble_eq_true rfl⟩) hP hD hK hS hA hev hT rfl hl.1 rfl (Nat.le_of_ble_eq_true rfl) dX9_dip_33 ⟨Nat.le_of_ble_eq_true rfl, Nat.le_of_ble_eq_true rfl⟩ (fun E ce q9 L9 f9 H locs hpx hP hD hS hT hE1 hce hcv hcl => ?_) (fun r L_41 f_42 H locs hw_43 hP hD hS hT hE1 => ?_)
      · have hF := Fr.call hF hE hpx.2 (by decide)
        have hE := hE.tr hE1
        exact K_out hno hlocks ⟨Or.inr hpx.1, hF⟩ hP hD hK hS hT hE hce hcv hcl (Nat.le_of_ble_eq_true rfl) (Nat.le_of_ble_eq_true rfl)
      have hF := Fr.call hF hE hw_43.2 (by decide)
      have hE := hE.tr hE1
      obtain ⟨rfl, hw_43⟩ := hw_43
      refine W.eq (g2 := F0 m 36 ls []) rfl ?_
      refine lv_aload hx hb dX9_dip_36 (lv_at hl 0 rfl) ?_
      refine T_get (ci := 7) (C := RX7) (T := TX7) (N := 8) (t := tI) hx hb hts inw_X9_dip_7 hown hK hP hT 0 rfl rfl 4 (by decide) (hts (.fieldLink RX9 79 "VatHouse$Vat" "state" "I") (by decide +kernel)) (fun _ h9 => h9) rfl dX9_dip_38 (fun v_46 hv_44 hr_45 => ?_)
      obtain ⟨z_47, rfl⟩ := hv_44
      refine lv_iconst (v := 2) hx hb dX9_dip_41 (by decide) ?_
      refine lv_icmp_eq (tgt := 53) hx hb dX9_dip_42 (by decide) (fun c_48 => ?_) (fun c_48 => ?_)
      · refine lv_iconst (v := (-1)) hx hb dX9_dip_53 (by decide) ?_
        refine vx_ret ?_
        exact K_i hx hb hr hlocks hP hD hK hS hT hE ⟨⟨_, rfl⟩, hF⟩ (Nat.le_of_ble_eq_true rfl) (Nat.le_of_ble_eq_true rfl) dX9_dip_54
      · refine lv_aload hx hb dX9_dip_45 (lv_at hl 1 rfl) ?_
        refine T_get (ci := 0) (C := RX0) (T := TX0) (N := 8) (t := tI) hx hb hts inw_X9_dip_0 hown hK hP hT 2 rfl rfl 4 (by decide) (hts (.fieldLink RX9 102 "VatHouse$Cloth" "dry" "Z") (by decide +kernel)) (fun _ h9 => h9) rfl dX9_dip_47 (fun v_51 hv_49 hr_50 => ?_)
        obtain ⟨z_52, rfl⟩ := hv_49
        refine lv_if_eq (tgt := 55) hx hb dX9_dip_50 (by decide) (fun c_53 => ?_) (fun c_53 => ?_)
        · refine lv_aload hx hb dX9_dip_55 (lv_at hl 0 rfl) ?_
          refine lv_aload hx hb dX9_dip_57 (lv_at hl 1 rfl) ?_
          refine lv_iload_n hx hb dX9_dip_59 rfl (lv_at hl 5 rfl) ?_
          refine K_V ⟨hx, hb, hml, hown, hts⟩ (t_X7_givesTo l dC dI sa hlt g _ _ b_14 b_5 cq _ (hT.sub [0, 2] rfl)  ) (cwV 2 hts gX9_dip_X7_givesTo rfl rfl rfl (by decide +kernel) ⟨Nat.le_of_ble_eq_true rfl, Nat.le_of_ble_eq_true rfl⟩) hP hD hK hS hA hev hT 0 7 rfl rfl rfl rfl hl.1 rfl (Nat.le_of_ble_eq_true rfl) dX9_dip_60 ⟨Nat.le_of_ble_eq_true rfl, Nat.le_of_ble_eq_true rfl⟩ (fun r L_54 f_55 H locs hw_56 hP hD hS hT hE1 => ?_)
          have hF := Fr.call hF hE hw_56.2 (by decide)
          have hE := hE.tr hE1
          obtain ⟨⟨z_57, rfl⟩, hw_56⟩ := hw_56
          refine W.eq (g2 := F0 m 63 ls [.int z_57]) rfl ?_
          refine lv_istore (lv' := [(6, .int z_57), (5, .ref b_14), (4, .ref b_5), (0, .ref h0), (1, .int a), (2, .int b), (3, .int cq)]) hx hb dX9_dip_63 hl (by decide) rfl (fun ls hl => ?_)
          refine lv_aload_n hx hb dX9_dip_65 rfl (lv_at hl 3 rfl) ?_
          refine T_get (ci := 9) (C := RX9) (T := TX9) (N := 11) (t := (1, 0, 8, 0)) hx hb hts inw_X9_dip_9 hown hK hP hT 3 rfl rfl 0 (by decide) (hts (.fieldLink RX9 10 "VatHouse" "works" "LVatHouse$Works;") (by decide +kernel)) (fun _ h9 => h9) rfl dX9_dip_66 (fun v_60 hv_58 hr_59 => ?_)
          obtain ⟨b_61, rfl, hb9⟩ := hv_58
          have hT := hT.add hb9
          refine lv_aload hx hb dX9_dip_69 (lv_at hl 1 rfl) ?_
          refine lv_aload hx hb dX9_dip_71 (lv_at hl 2 rfl) ?_
          refine lv_iload_n hx hb dX9_dip_73 rfl (lv_at hl 6 rfl) ?_
          refine lv_iload hx hb dX9_dip_74 (lv_at hl 0 rfl) ?_
          refine K_V ⟨hx, hb, hml, hown, hts⟩ (t_X8_dipInto l dC dI sa hlt g _ _ b_61 b_14 b_5 cq z_57 _ (hT.sub [0, 1, 3] rfl)  ) (cwV 4 hts gX9_dip_X8_dipInto rfl rfl rfl (by decide +kernel) ⟨Nat.le_of_ble_eq_true rfl, Nat.le_of_ble_eq_true rfl⟩) hP hD hK hS hA hev hT 0 8 rfl rfl rfl rfl hl.1 rfl (Nat.le_of_ble_eq_true rfl) dX9_dip_76 ⟨Nat.le_of_ble_eq_true rfl, Nat.le_of_ble_eq_true rfl⟩ (fun r L_62 f_63 H locs hw_64 hP hD hS hT hE1 => ?_)
          have hF := Fr.call hF hE hw_64.2 (by decide)
          have hE := hE.tr hE1
          obtain ⟨rfl, hw_64⟩ := hw_64
          refine W.eq (g2 := F0 m 79 ls []) rfl ?_
          refine lv_iload hx hb dX9_dip_79 (lv_at hl 0 rfl) ?_
          refine vx_ret ?_
          exact K_i hx hb hr hlocks hP hD hK hS hT hE ⟨⟨_, rfl⟩, hF⟩ (Nat.le_of_ble_eq_true rfl) (Nat.le_of_ble_eq_true rfl) dX9_dip_81
        · refine lv_iconst (v := (-1)) hx hb dX9_dip_53 (by decide) ?_
          refine vx_ret ?_
          exact K_i hx hb hr hlocks hP hD hK hS hT hE ⟨⟨_, rfl⟩, hF⟩ (Nat.le_of_ble_eq_true rfl) (Nat.le_of_ble_eq_true rfl) dX9_dip_54
    · refine lv_iconst (v := 1) hx hb dX9_dip_28 (by decide) ?_
      refine lv_goto (tgt := 33) hx hb dX9_dip_29 (by decide) ?_
      refine K_SX ⟨hx, hb, hml, hown, hts⟩ (t_X9_demand l dC dI sa hlt g _ _ 1 _ (hT.sub [] rfl)  ) (va_cwS 1 hts gX9_dip_X9_demand rfl rfl rfl (by decide +kernel) ⟨Nat.le_of_ble_eq_true rfl, Nat.le_of_ble_eq_true rfl⟩) hP hD hK hS hA hev hT rfl hl.1 rfl (Nat.le_of_ble_eq_true rfl) dX9_dip_33 ⟨Nat.le_of_ble_eq_true rfl, Nat.le_of_ble_eq_true rfl⟩ (fun E ce q9 L9 f9 H locs hpx hP hD hS hT hE1 hce hcv hcl => ?_) (fun r L_65 f_66 H locs hw_67 hP hD hS hT hE1 => ?_)
      · have hF := Fr.call hF hE hpx.2 (by decide)
        have hE := hE.tr hE1
        exact K_out hno hlocks ⟨Or.inr hpx.1, hF⟩ hP hD hK hS hT hE hce hcv hcl (Nat.le_of_ble_eq_true rfl) (Nat.le_of_ble_eq_true rfl)
      have hF := Fr.call hF hE hw_67.2 (by decide)
      have hE := hE.tr hE1
      obtain ⟨rfl, hw_67⟩ := hw_67
      refine W.eq (g2 := F0 m 36 ls []) rfl ?_
      refine lv_aload hx hb dX9_dip_36 (lv_at hl 0 rfl) ?_
      refine T_get (ci := 7) (C := RX7) (T := TX7) (N := 8) (t := tI) hx hb hts inw_X9_dip_7 hown hK hP hT 0 rfl rfl 4 (by decide) (hts (.fieldLink RX9 79 "VatHouse$Vat" "state" "I") (by decide +kernel)) (fun _ h9 => h9) rfl dX9_dip_38 (fun v_70 hv_68 hr_69 => ?_)
      obtain ⟨z_71, rfl⟩ := hv_68
      refine lv_iconst (v := 2) hx hb dX9_dip_41 (by decide) ?_
      refine lv_icmp_eq (tgt := 53) hx hb dX9_dip_42 (by decide) (fun c_72 => ?_) (fun c_72 => ?_)
      · refine lv_iconst (v := (-1)) hx hb dX9_dip_53 (by decide) ?_
        refine vx_ret ?_
        exact K_i hx hb hr hlocks hP hD hK hS hT hE ⟨⟨_, rfl⟩, hF⟩ (Nat.le_of_ble_eq_true rfl) (Nat.le_of_ble_eq_true rfl) dX9_dip_54
      · refine lv_aload hx hb dX9_dip_45 (lv_at hl 1 rfl) ?_
        refine T_get (ci := 0) (C := RX0) (T := TX0) (N := 8) (t := tI) hx hb hts inw_X9_dip_0 hown hK hP hT 2 rfl rfl 4 (by decide) (hts (.fieldLink RX9 102 "VatHouse$Cloth" "dry" "Z") (by decide +kernel)) (fun _ h9 => h9) rfl dX9_dip_47 (fun v_75 hv_73 hr_74 => ?_)
        obtain ⟨z_76, rfl⟩ := hv_73
        refine lv_if_eq (tgt := 55) hx hb dX9_dip_50 (by decide) (fun c_77 => ?_) (fun c_77 => ?_)
        · refine lv_aload hx hb dX9_dip_55 (lv_at hl 0 rfl) ?_
          refine lv_aload hx hb dX9_dip_57 (lv_at hl 1 rfl) ?_
          refine lv_iload_n hx hb dX9_dip_59 rfl (lv_at hl 5 rfl) ?_
          refine K_V ⟨hx, hb, hml, hown, hts⟩ (t_X7_givesTo l dC dI sa hlt g _ _ b_14 b_5 cq _ (hT.sub [0, 2] rfl)  ) (cwV 2 hts gX9_dip_X7_givesTo rfl rfl rfl (by decide +kernel) ⟨Nat.le_of_ble_eq_true rfl, Nat.le_of_ble_eq_true rfl⟩) hP hD hK hS hA hev hT 0 7 rfl rfl rfl rfl hl.1 rfl (Nat.le_of_ble_eq_true rfl) dX9_dip_60 ⟨Nat.le_of_ble_eq_true rfl, Nat.le_of_ble_eq_true rfl⟩ (fun r L_78 f_79 H locs hw_80 hP hD hS hT hE1 => ?_)
          have hF := Fr.call hF hE hw_80.2 (by decide)
          have hE := hE.tr hE1
          obtain ⟨⟨z_81, rfl⟩, hw_80⟩ := hw_80
          refine W.eq (g2 := F0 m 63 ls [.int z_81]) rfl ?_
          refine lv_istore (lv' := [(6, .int z_81), (5, .ref b_14), (4, .ref b_5), (0, .ref h0), (1, .int a), (2, .int b), (3, .int cq)]) hx hb dX9_dip_63 hl (by decide) rfl (fun ls hl => ?_)
          refine lv_aload_n hx hb dX9_dip_65 rfl (lv_at hl 3 rfl) ?_
          refine T_get (ci := 9) (C := RX9) (T := TX9) (N := 11) (t := (1, 0, 8, 0)) hx hb hts inw_X9_dip_9 hown hK hP hT 3 rfl rfl 0 (by decide) (hts (.fieldLink RX9 10 "VatHouse" "works" "LVatHouse$Works;") (by decide +kernel)) (fun _ h9 => h9) rfl dX9_dip_66 (fun v_84 hv_82 hr_83 => ?_)
          obtain ⟨b_85, rfl, hb9⟩ := hv_82
          have hT := hT.add hb9
          refine lv_aload hx hb dX9_dip_69 (lv_at hl 1 rfl) ?_
          refine lv_aload hx hb dX9_dip_71 (lv_at hl 2 rfl) ?_
          refine lv_iload_n hx hb dX9_dip_73 rfl (lv_at hl 6 rfl) ?_
          refine lv_iload hx hb dX9_dip_74 (lv_at hl 0 rfl) ?_
          refine K_V ⟨hx, hb, hml, hown, hts⟩ (t_X8_dipInto l dC dI sa hlt g _ _ b_85 b_14 b_5 cq z_81 _ (hT.sub [0, 1, 3] rfl)  ) (cwV 4 hts gX9_dip_X8_dipInto rfl rfl rfl (by decide +kernel) ⟨Nat.le_of_ble_eq_true rfl, Nat.le_of_ble_eq_true rfl⟩) hP hD hK hS hA hev hT 0 8 rfl rfl rfl rfl hl.1 rfl (Nat.le_of_ble_eq_true rfl) dX9_dip_76 ⟨Nat.le_of_ble_eq_true rfl, Nat.le_of_ble_eq_true rfl⟩ (fun r L_86 f_87 H locs hw_88 hP hD hS hT hE1 => ?_)
          have hF := Fr.call hF hE hw_88.2 (by decide)
          have hE := hE.tr hE1
          obtain ⟨rfl, hw_88⟩ := hw_88
          refine W.eq (g2 := F0 m 79 ls []) rfl ?_
          refine lv_iload hx hb dX9_dip_79 (lv_at hl 0 rfl) ?_
          refine vx_ret ?_
          exact K_i hx hb hr hlocks hP hD hK hS hT hE ⟨⟨_, rfl⟩, hF⟩ (Nat.le_of_ble_eq_true rfl) (Nat.le_of_ble_eq_true rfl) dX9_dip_81
        · refine lv_iconst (v := (-1)) hx hb dX9_dip_53 (by decide) ?_
          refine vx_ret ?_
          exact K_i hx hb hr hlocks hP hD hK hS hT hE ⟨⟨_, rfl⟩, hF⟩ (Nat.le_of_ble_eq_true rfl) (Nat.le_of_ble_eq_true rfl) dX9_dip_54

abbrev rm_X9_treat : Room := { frames := 7, cells := 2, slots := 12, locals := 104 }
theorem inw_X9_treat_0 : ∀ w ∈ wsX00, w ∈ wsX9_treat := by decide +kernel
theorem inw_X9_treat_9 : ∀ w ∈ wsX90, w ∈ wsX9_treat := by decide +kernel
set_option maxHeartbeats 800000 in
set_option maxRecDepth 100000 in
theorem t_X9_treat (l : Launch) (dC : Nat → ClassId) (dI : Nat → Nat → Nat) (sa : Nat → Nat) (hlt : l.stackTraces = false) (g : Nat → Nat) (L : List Nat) (f : Nat → va_E) (h0 : Nat) (a : Int32) (b : Int32) (sz : Nat) (hT : TP g L f [(h0, (0, 9, 0))]) : KX l dC dI sa g yX9_treat wsX9_treat rm_X9_treat [.ref h0, .int a, .int b] L f sz (fun r L' f' => (∃ z : Int32, r = some (.int z)) ∧ Fr [(0, 0), (0, 1), (0, 2), (0, 3), (0, 4), (0, 5), (0, 6), (0, 7), (8, 0), (8, 1), (8, 2)] L f f') (fun E L' f' => (E = NSE ∨ E = IAE) ∧ Fr [(0, 0), (0, 1), (0, 2), (0, 3), (0, 4), (0, 5), (0, 6), (0, 7), (8, 0), (8, 1), (8, 2)] L f f') 2 12 := by
  refine KX.start (cc := cX9_treat) (maxL := 4) (ret := (some .int)) (by decide) rfl (Nat.le_of_ble_eq_true rfl) ?_
  intro p e s m below meth c ls hst hno hP hK hD hev hS hl
  obtain ⟨hx, hb, hr, hml, hts, hown, hlocks, hin⟩ := hst
  have hown : s.vm.findClass RX9 = some m.cls := hown
  have hin : meth.name = yX9_treat.name := hin
  have hA : ∀ q : Nat, s.heap.size ≤ q → va_A (va_pl L f) s.heap.size q := fun _ h => Or.inr h
  have hE : Ext L f L f := Ext.rf
  have hF : Fr [(0, 0), (0, 1), (0, 2), (0, 3), (0, 4), (0, 5), (0, 6), (0, 7), (8, 0), (8, 1), (8, 2)] L f f := Fr.rf
  have hl : lv_has ls 4 [(0, .ref h0), (1, .int a), (2, .int b)] := hl
  refine lv_aload_n hx hb dX9_treat_0 rfl (lv_at hl 0 rfl) ?_
  refine lv_iload_n hx hb dX9_treat_1 rfl (lv_at hl 1 rfl) ?_
  refine K_VX ⟨hx, hb, hml, hown, hts⟩ (t_X9_clothAt l dC dI sa hlt g _ _ h0 a _ (hT.sub [0] rfl)  ) (cwV 1 hts gX9_treat_X9_clothAt rfl rfl rfl (by decide +kernel) ⟨Nat.le_of_ble_eq_true rfl, Nat.le_of_ble_eq_true rfl⟩) hP hD hK hS hA hev hT 0 9 rfl rfl rfl rfl hl.1 rfl (Nat.le_of_ble_eq_true rfl) dX9_treat_2 ⟨Nat.le_of_ble_eq_true rfl, Nat.le_of_ble_eq_true rfl⟩ (fun E ce q9 L9 f9 H locs hpx hP hD hS hT hE1 hce hcv hcl => ?_) (fun r L_1 f_2 H locs hw_3 hP hD hS hT hE1 => ?_)
  · have hF := Fr.call hF hE hpx.2 (by decide)
    have hE := hE.tr hE1
    exact K_out hno hlocks ⟨Or.inl hpx.1, hF⟩ hP hD hK hS hT hE hce hcv hcl (Nat.le_of_ble_eq_true rfl) (Nat.le_of_ble_eq_true rfl)
  have hF := Fr.call hF hE hw_3.2 (by decide)
  have hE := hE.tr hE1
  obtain ⟨⟨v_4, rfl, hv9⟩, hw_3⟩ := hw_3
  obtain ⟨b_5, rfl, hb9⟩ := hv9
  have hT := hT.add hb9
  refine W.eq (g2 := F0 m 5 ls [.ref b_5]) rfl ?_
  refine lv_astore_n (lv' := [(3, .ref b_5), (0, .ref h0), (1, .int a), (2, .int b)]) hx hb dX9_treat_5 rfl hl (by decide) rfl (fun ls hl => ?_)
  refine lv_iload_n hx hb dX9_treat_6 rfl (lv_at hl 3 rfl) ?_
  refine lv_if_lt (tgt := 19) hx hb dX9_treat_7 (by decide) (fun c_6 => ?_) (fun c_6 => ?_)
  · refine lv_iconst (v := 0) hx hb dX9_treat_19 (by decide) ?_
    refine K_SX ⟨hx, hb, hml, hown, hts⟩ (t_X9_demand l dC dI sa hlt g _ _ 0 _ (hT.sub [] rfl)  ) (va_cwS 1 hts gX9_treat_X9_demand rfl rfl rfl (by decide +kernel) ⟨Nat.le_of_ble_eq_true rfl, Nat.le_of_ble_eq_true rfl⟩) hP hD hK hS hA hev hT rfl hl.1 rfl (Nat.le_of_ble_eq_true rfl) dX9_treat_20 ⟨Nat.le_of_ble_eq_true rfl, Nat.le_of_ble_eq_true rfl⟩ (fun E ce q9 L9 f9 H locs hpx hP hD hS hT hE1 hce hcv hcl => ?_) (fun r L_7 f_8 H locs hw_9 hP hD hS hT hE1 => ?_)
    · have hF := Fr.call hF hE hpx.2 (by decide)
      have hE := hE.tr hE1
      exact K_out hno hlocks ⟨Or.inr hpx.1, hF⟩ hP hD hK hS hT hE hce hcv hcl (Nat.le_of_ble_eq_true rfl) (Nat.le_of_ble_eq_true rfl)
    have hF := Fr.call hF hE hw_9.2 (by decide)
    have hE := hE.tr hE1
    obtain ⟨rfl, hw_9⟩ := hw_9
    refine W.eq (g2 := F0 m 23 ls []) rfl ?_
    refine lv_aload_n hx hb dX9_treat_23 rfl (lv_at hl 0 rfl) ?_
    refine T_get (ci := 0) (C := RX0) (T := TX0) (N := 8) (t := tI) hx hb hts inw_X9_treat_0 hown hK hP hT 0 rfl rfl 4 (by decide) (hts (.fieldLink RX9 102 "VatHouse$Cloth" "dry" "Z") (by decide +kernel)) (fun _ h9 => h9) rfl dX9_treat_24 (fun v_12 hv_10 hr_11 => ?_)
    obtain ⟨z_13, rfl⟩ := hv_10
    refine lv_if_eq (tgt := 32) hx hb dX9_treat_27 (by decide) (fun c_14 => ?_) (fun c_14 => ?_)
    · refine lv_iload_n hx hb dX9_treat_32 rfl (lv_at hl 3 rfl) ?_
      by_cases c_15 : b = 0
      · refine lv_lookup (tgt := 60) hx hb dX9_treat_33 (by decide) (off := 27) (by rw [c_15]; rfl) (by decide) ?_
        refine lv_aload_n hx hb dX9_treat_60 rfl (lv_at hl 1 rfl) ?_
        refine T_get (ci := 9) (C := RX9) (T := TX9) (N := 11) (t := (1, 0, 8, 0)) hx hb hts inw_X9_treat_9 hown hK hP hT 1 rfl rfl 0 (by decide) (hts (.fieldLink RX9 10 "VatHouse" "works" "LVatHouse$Works;") (by decide +kernel)) (fun _ h9 => h9) rfl dX9_treat_61 (fun v_18 hv_16 hr_17 => ?_)
        obtain ⟨b_19, rfl, hb9⟩ := hv_16
        have hT := hT.add hb9
        refine lv_aload_n hx hb dX9_treat_64 rfl (lv_at hl 0 rfl) ?_
        refine K_V ⟨hx, hb, hml, hown, hts⟩ (t_X8_airOut l dC dI sa hlt g _ _ b_19 b_5 _ (hT.sub [0, 1] rfl)  ) (cwV 1 hts gX9_treat_X8_airOut rfl rfl rfl (by decide +kernel) ⟨Nat.le_of_ble_eq_true rfl, Nat.le_of_ble_eq_true rfl⟩) hP hD hK hS hA hev hT 0 8 rfl rfl rfl rfl hl.1 rfl (Nat.le_of_ble_eq_true rfl) dX9_treat_65 ⟨Nat.le_of_ble_eq_true rfl, Nat.le_of_ble_eq_true rfl⟩ (fun r L_20 f_21 H locs hw_22 hP hD hS hT hE1 => ?_)
        have hF := Fr.call hF hE hw_22.2 (by decide)
        have hE := hE.tr hE1
        obtain ⟨⟨z_23, rfl⟩, hw_22⟩ := hw_22
        refine W.eq (g2 := F0 m 68 ls [.int z_23]) rfl ?_
        refine vx_ret ?_
        exact K_i hx hb hr hlocks hP hD hK hS hT hE ⟨⟨_, rfl⟩, hF⟩ (Nat.le_of_ble_eq_true rfl) (Nat.le_of_ble_eq_true rfl) dX9_treat_68
      by_cases c_24 : b = 1
      · refine lv_lookup (tgt := 69) hx hb dX9_treat_33 (by decide) (off := 36) (by rw [c_24]; rfl) (by decide) ?_
        refine lv_aload_n hx hb dX9_treat_69 rfl (lv_at hl 1 rfl) ?_
        refine T_get (ci := 9) (C := RX9) (T := TX9) (N := 11) (t := (1, 0, 8, 0)) hx hb hts inw_X9_treat_9 hown hK hP hT 1 rfl rfl 0 (by decide) (hts (.fieldLink RX9 10 "VatHouse" "works" "LVatHouse$Works;") (by decide +kernel)) (fun _ h9 => h9) rfl dX9_treat_70 (fun v_27 hv_25 hr_26 => ?_)
        obtain ⟨b_28, rfl, hb9⟩ := hv_25
        have hT := hT.add hb9
        refine lv_aload_n hx hb dX9_treat_73 rfl (lv_at hl 0 rfl) ?_
        refine K_V ⟨hx, hb, hml, hown, hts⟩ (t_X8_washOut l dC dI sa hlt g _ _ b_28 b_5 _ (hT.sub [0, 1] rfl)  ) (cwV 1 hts gX9_treat_X8_washOut rfl rfl rfl (by decide +kernel) ⟨Nat.le_of_ble_eq_true rfl, Nat.le_of_ble_eq_true rfl⟩) hP hD hK hS hA hev hT 0 8 rfl rfl rfl rfl hl.1 rfl (Nat.le_of_ble_eq_true rfl) dX9_treat_74 ⟨Nat.le_of_ble_eq_true rfl, Nat.le_of_ble_eq_true rfl⟩ (fun r L_29 f_30 H locs hw_31 hP hD hS hT hE1 => ?_)
        have hF := Fr.call hF hE hw_31.2 (by decide)
        have hE := hE.tr hE1
        obtain ⟨⟨z_32, rfl⟩, hw_31⟩ := hw_31
        refine W.eq (g2 := F0 m 77 ls [.int z_32]) rfl ?_
        refine vx_ret ?_
        exact K_i hx hb hr hlocks hP hD hK hS hT hE ⟨⟨_, rfl⟩, hF⟩ (Nat.le_of_ble_eq_true rfl) (Nat.le_of_ble_eq_true rfl) dX9_treat_77
      refine lv_lookup (tgt := 78) hx hb dX9_treat_33 (by decide) (off := 45) (look_out2 c_15 c_24) (by decide) ?_
      refine lv_aload_n hx hb dX9_treat_78 rfl (lv_at hl 1 rfl) ?_
      refine T_get (ci := 9) (C := RX9) (T := TX9) (N := 11) (t := (1, 0, 8, 0)) hx hb hts inw_X9_treat_9 hown hK hP hT 1 rfl rfl 0 (by decide) (hts (.fieldLink RX9 10 "VatHouse" "works" "LVatHouse$Works;") (by decide +kernel)) (fun _ h9 => h9) rfl dX9_treat_79 (fun v_35 hv_33 hr_34 => ?_)
      obtain ⟨b_36, rfl, hb9⟩ := hv_33
      have hT := hT.add hb9
      refine lv_aload_n hx hb dX9_treat_82 rfl (lv_at hl 0 rfl) ?_
      refine K_V ⟨hx, hb, hml, hown, hts⟩ (t_X8_dryOut l dC dI sa hlt g _ _ b_36 b_5 _ (hT.sub [0, 1] rfl)  ) (cwV 1 hts gX9_treat_X8_dryOut rfl rfl rfl (by decide +kernel) ⟨Nat.le_of_ble_eq_true rfl, Nat.le_of_ble_eq_true rfl⟩) hP hD hK hS hA hev hT 0 8 rfl rfl rfl rfl hl.1 rfl (Nat.le_of_ble_eq_true rfl) dX9_treat_83 ⟨Nat.le_of_ble_eq_true rfl, Nat.le_of_ble_eq_true rfl⟩ (fun r L_37 f_38 H locs hw_39 hP hD hS hT hE1 => ?_)
      have hF := Fr.call hF hE hw_39.2 (by decide)
      have hE := hE.tr hE1
      obtain ⟨⟨z_40, rfl⟩, hw_39⟩ := hw_39
      refine W.eq (g2 := F0 m 86 ls [.int z_40]) rfl ?_
      refine vx_ret ?_
      exact K_i hx hb hr hlocks hP hD hK hS hT hE ⟨⟨_, rfl⟩, hF⟩ (Nat.le_of_ble_eq_true rfl) (Nat.le_of_ble_eq_true rfl) dX9_treat_86
    · refine lv_iconst (v := (-1)) hx hb dX9_treat_30 (by decide) ?_
      refine vx_ret ?_
      exact K_i hx hb hr hlocks hP hD hK hS hT hE ⟨⟨_, rfl⟩, hF⟩ (Nat.le_of_ble_eq_true rfl) (Nat.le_of_ble_eq_true rfl) dX9_treat_31
  · refine lv_iload_n hx hb dX9_treat_10 rfl (lv_at hl 3 rfl) ?_
    refine lv_iconst (v := 2) hx hb dX9_treat_11 (by decide) ?_
    refine lv_icmp_gt (tgt := 19) hx hb dX9_treat_12 (by decide) (fun c_41 => ?_) (fun c_41 => ?_)
    · refine lv_iconst (v := 0) hx hb dX9_treat_19 (by decide) ?_
      refine K_SX ⟨hx, hb, hml, hown, hts⟩ (t_X9_demand l dC dI sa hlt g _ _ 0 _ (hT.sub [] rfl)  ) (va_cwS 1 hts gX9_treat_X9_demand rfl rfl rfl (by decide +kernel) ⟨Nat.le_of_ble_eq_true rfl, Nat.le_of_ble_eq_true rfl⟩) hP hD hK hS hA hev hT rfl hl.1 rfl (Nat.le_of_ble_eq_true rfl) dX9_treat_20 ⟨Nat.le_of_ble_eq_true rfl, Nat.le_of_ble_eq_true rfl⟩ (fun E ce q9 L9 f9 H locs hpx hP hD hS hT hE1 hce hcv hcl => ?_) (fun r L_42 f_43 H locs hw_44 hP hD hS hT hE1 => ?_)
      · have hF := Fr.call hF hE hpx.2 (by decide)
        have hE := hE.tr hE1
        exact K_out hno hlocks ⟨Or.inr hpx.1, hF⟩ hP hD hK hS hT hE hce hcv hcl (Nat.le_of_ble_eq_true rfl) (Nat.le_of_ble_eq_true rfl)
      have hF := Fr.call hF hE hw_44.2 (by decide)
      have hE := hE.tr hE1
      obtain ⟨rfl, hw_44⟩ := hw_44
      refine W.eq (g2 := F0 m 23 ls []) rfl ?_
      refine lv_aload_n hx hb dX9_treat_23 rfl (lv_at hl 0 rfl) ?_
      refine T_get (ci := 0) (C := RX0) (T := TX0) (N := 8) (t := tI) hx hb hts inw_X9_treat_0 hown hK hP hT 0 rfl rfl 4 (by decide) (hts (.fieldLink RX9 102 "VatHouse$Cloth" "dry" "Z") (by decide +kernel)) (fun _ h9 => h9) rfl dX9_treat_24 (fun v_47 hv_45 hr_46 => ?_)
      obtain ⟨z_48, rfl⟩ := hv_45
      refine lv_if_eq (tgt := 32) hx hb dX9_treat_27 (by decide) (fun c_49 => ?_) (fun c_49 => ?_)
      · refine lv_iload_n hx hb dX9_treat_32 rfl (lv_at hl 3 rfl) ?_
        by_cases c_50 : b = 0
        · refine lv_lookup (tgt := 60) hx hb dX9_treat_33 (by decide) (off := 27) (by rw [c_50]; rfl) (by decide) ?_
          refine lv_aload_n hx hb dX9_treat_60 rfl (lv_at hl 1 rfl) ?_
          refine T_get (ci := 9) (C := RX9) (T := TX9) (N := 11) (t := (1, 0, 8, 0)) hx hb hts inw_X9_treat_9 hown hK hP hT 1 rfl rfl 0 (by decide) (hts (.fieldLink RX9 10 "VatHouse" "works" "LVatHouse$Works;") (by decide +kernel)) (fun _ h9 => h9) rfl dX9_treat_61 (fun v_53 hv_51 hr_52 => ?_)
          obtain ⟨b_54, rfl, hb9⟩ := hv_51
          have hT := hT.add hb9
          refine lv_aload_n hx hb dX9_treat_64 rfl (lv_at hl 0 rfl) ?_
          refine K_V ⟨hx, hb, hml, hown, hts⟩ (t_X8_airOut l dC dI sa hlt g _ _ b_54 b_5 _ (hT.sub [0, 1] rfl)  ) (cwV 1 hts gX9_treat_X8_airOut rfl rfl rfl (by decide +kernel) ⟨Nat.le_of_ble_eq_true rfl, Nat.le_of_ble_eq_true rfl⟩) hP hD hK hS hA hev hT 0 8 rfl rfl rfl rfl hl.1 rfl (Nat.le_of_ble_eq_true rfl) dX9_treat_65 ⟨Nat.le_of_ble_eq_true rfl, Nat.le_of_ble_eq_true rfl⟩ (fun r L_55 f_56 H locs hw_57 hP hD hS hT hE1 => ?_)
          have hF := Fr.call hF hE hw_57.2 (by decide)
          have hE := hE.tr hE1
          obtain ⟨⟨z_58, rfl⟩, hw_57⟩ := hw_57
          refine W.eq (g2 := F0 m 68 ls [.int z_58]) rfl ?_
          refine vx_ret ?_
          exact K_i hx hb hr hlocks hP hD hK hS hT hE ⟨⟨_, rfl⟩, hF⟩ (Nat.le_of_ble_eq_true rfl) (Nat.le_of_ble_eq_true rfl) dX9_treat_68
        by_cases c_59 : b = 1
        · refine lv_lookup (tgt := 69) hx hb dX9_treat_33 (by decide) (off := 36) (by rw [c_59]; rfl) (by decide) ?_
          refine lv_aload_n hx hb dX9_treat_69 rfl (lv_at hl 1 rfl) ?_
          refine T_get (ci := 9) (C := RX9) (T := TX9) (N := 11) (t := (1, 0, 8, 0)) hx hb hts inw_X9_treat_9 hown hK hP hT 1 rfl rfl 0 (by decide) (hts (.fieldLink RX9 10 "VatHouse" "works" "LVatHouse$Works;") (by decide +kernel)) (fun _ h9 => h9) rfl dX9_treat_70 (fun v_62 hv_60 hr_61 => ?_)
          obtain ⟨b_63, rfl, hb9⟩ := hv_60
          have hT := hT.add hb9
          refine lv_aload_n hx hb dX9_treat_73 rfl (lv_at hl 0 rfl) ?_
          refine K_V ⟨hx, hb, hml, hown, hts⟩ (t_X8_washOut l dC dI sa hlt g _ _ b_63 b_5 _ (hT.sub [0, 1] rfl)  ) (cwV 1 hts gX9_treat_X8_washOut rfl rfl rfl (by decide +kernel) ⟨Nat.le_of_ble_eq_true rfl, Nat.le_of_ble_eq_true rfl⟩) hP hD hK hS hA hev hT 0 8 rfl rfl rfl rfl hl.1 rfl (Nat.le_of_ble_eq_true rfl) dX9_treat_74 ⟨Nat.le_of_ble_eq_true rfl, Nat.le_of_ble_eq_true rfl⟩ (fun r L_64 f_65 H locs hw_66 hP hD hS hT hE1 => ?_)
          have hF := Fr.call hF hE hw_66.2 (by decide)
          have hE := hE.tr hE1
          obtain ⟨⟨z_67, rfl⟩, hw_66⟩ := hw_66
          refine W.eq (g2 := F0 m 77 ls [.int z_67]) rfl ?_
          refine vx_ret ?_
          exact K_i hx hb hr hlocks hP hD hK hS hT hE ⟨⟨_, rfl⟩, hF⟩ (Nat.le_of_ble_eq_true rfl) (Nat.le_of_ble_eq_true rfl) dX9_treat_77
        refine lv_lookup (tgt := 78) hx hb dX9_treat_33 (by decide) (off := 45) (look_out2 c_50 c_59) (by decide) ?_
        refine lv_aload_n hx hb dX9_treat_78 rfl (lv_at hl 1 rfl) ?_
        refine T_get (ci := 9) (C := RX9) (T := TX9) (N := 11) (t := (1, 0, 8, 0)) hx hb hts inw_X9_treat_9 hown hK hP hT 1 rfl rfl 0 (by decide) (hts (.fieldLink RX9 10 "VatHouse" "works" "LVatHouse$Works;") (by decide +kernel)) (fun _ h9 => h9) rfl dX9_treat_79 (fun v_70 hv_68 hr_69 => ?_)
        obtain ⟨b_71, rfl, hb9⟩ := hv_68
        have hT := hT.add hb9
        refine lv_aload_n hx hb dX9_treat_82 rfl (lv_at hl 0 rfl) ?_
        refine K_V ⟨hx, hb, hml, hown, hts⟩ (t_X8_dryOut l dC dI sa hlt g _ _ b_71 b_5 _ (hT.sub [0, 1] rfl)  ) (cwV 1 hts gX9_treat_X8_dryOut rfl rfl rfl (by decide +kernel) ⟨Nat.le_of_ble_eq_true rfl, Nat.le_of_ble_eq_true rfl⟩) hP hD hK hS hA hev hT 0 8 rfl rfl rfl rfl hl.1 rfl (Nat.le_of_ble_eq_true rfl) dX9_treat_83 ⟨Nat.le_of_ble_eq_true rfl, Nat.le_of_ble_eq_true rfl⟩ (fun r L_72 f_73 H locs hw_74 hP hD hS hT hE1 => ?_)
        have hF := Fr.call hF hE hw_74.2 (by decide)
        have hE := hE.tr hE1
        obtain ⟨⟨z_75, rfl⟩, hw_74⟩ := hw_74
        refine W.eq (g2 := F0 m 86 ls [.int z_75]) rfl ?_
        refine vx_ret ?_
        exact K_i hx hb hr hlocks hP hD hK hS hT hE ⟨⟨_, rfl⟩, hF⟩ (Nat.le_of_ble_eq_true rfl) (Nat.le_of_ble_eq_true rfl) dX9_treat_86
      · refine lv_iconst (v := (-1)) hx hb dX9_treat_30 (by decide) ?_
        refine vx_ret ?_
        exact K_i hx hb hr hlocks hP hD hK hS hT hE ⟨⟨_, rfl⟩, hF⟩ (Nat.le_of_ble_eq_true rfl) (Nat.le_of_ble_eq_true rfl) dX9_treat_31
    · refine lv_iconst (v := 1) hx hb dX9_treat_15 (by decide) ?_
      refine lv_goto (tgt := 20) hx hb dX9_treat_16 (by decide) ?_
      refine K_SX ⟨hx, hb, hml, hown, hts⟩ (t_X9_demand l dC dI sa hlt g _ _ 1 _ (hT.sub [] rfl)  ) (va_cwS 1 hts gX9_treat_X9_demand rfl rfl rfl (by decide +kernel) ⟨Nat.le_of_ble_eq_true rfl, Nat.le_of_ble_eq_true rfl⟩) hP hD hK hS hA hev hT rfl hl.1 rfl (Nat.le_of_ble_eq_true rfl) dX9_treat_20 ⟨Nat.le_of_ble_eq_true rfl, Nat.le_of_ble_eq_true rfl⟩ (fun E ce q9 L9 f9 H locs hpx hP hD hS hT hE1 hce hcv hcl => ?_) (fun r L_76 f_77 H locs hw_78 hP hD hS hT hE1 => ?_)
      · have hF := Fr.call hF hE hpx.2 (by decide)
        have hE := hE.tr hE1
        exact K_out hno hlocks ⟨Or.inr hpx.1, hF⟩ hP hD hK hS hT hE hce hcv hcl (Nat.le_of_ble_eq_true rfl) (Nat.le_of_ble_eq_true rfl)
      have hF := Fr.call hF hE hw_78.2 (by decide)
      have hE := hE.tr hE1
      obtain ⟨rfl, hw_78⟩ := hw_78
      refine W.eq (g2 := F0 m 23 ls []) rfl ?_
      refine lv_aload_n hx hb dX9_treat_23 rfl (lv_at hl 0 rfl) ?_
      refine T_get (ci := 0) (C := RX0) (T := TX0) (N := 8) (t := tI) hx hb hts inw_X9_treat_0 hown hK hP hT 0 rfl rfl 4 (by decide) (hts (.fieldLink RX9 102 "VatHouse$Cloth" "dry" "Z") (by decide +kernel)) (fun _ h9 => h9) rfl dX9_treat_24 (fun v_81 hv_79 hr_80 => ?_)
      obtain ⟨z_82, rfl⟩ := hv_79
      refine lv_if_eq (tgt := 32) hx hb dX9_treat_27 (by decide) (fun c_83 => ?_) (fun c_83 => ?_)
      · refine lv_iload_n hx hb dX9_treat_32 rfl (lv_at hl 3 rfl) ?_
        by_cases c_84 : b = 0
        · refine lv_lookup (tgt := 60) hx hb dX9_treat_33 (by decide) (off := 27) (by rw [c_84]; rfl) (by decide) ?_
          refine lv_aload_n hx hb dX9_treat_60 rfl (lv_at hl 1 rfl) ?_
          refine T_get (ci := 9) (C := RX9) (T := TX9) (N := 11) (t := (1, 0, 8, 0)) hx hb hts inw_X9_treat_9 hown hK hP hT 1 rfl rfl 0 (by decide) (hts (.fieldLink RX9 10 "VatHouse" "works" "LVatHouse$Works;") (by decide +kernel)) (fun _ h9 => h9) rfl dX9_treat_61 (fun v_87 hv_85 hr_86 => ?_)
          obtain ⟨b_88, rfl, hb9⟩ := hv_85
          have hT := hT.add hb9
          refine lv_aload_n hx hb dX9_treat_64 rfl (lv_at hl 0 rfl) ?_
          refine K_V ⟨hx, hb, hml, hown, hts⟩ (t_X8_airOut l dC dI sa hlt g _ _ b_88 b_5 _ (hT.sub [0, 1] rfl)  ) (cwV 1 hts gX9_treat_X8_airOut rfl rfl rfl (by decide +kernel) ⟨Nat.le_of_ble_eq_true rfl, Nat.le_of_ble_eq_true rfl⟩) hP hD hK hS hA hev hT 0 8 rfl rfl rfl rfl hl.1 rfl (Nat.le_of_ble_eq_true rfl) dX9_treat_65 ⟨Nat.le_of_ble_eq_true rfl, Nat.le_of_ble_eq_true rfl⟩ (fun r L_89 f_90 H locs hw_91 hP hD hS hT hE1 => ?_)
          have hF := Fr.call hF hE hw_91.2 (by decide)
          have hE := hE.tr hE1
          obtain ⟨⟨z_92, rfl⟩, hw_91⟩ := hw_91
          refine W.eq (g2 := F0 m 68 ls [.int z_92]) rfl ?_
          refine vx_ret ?_
          exact K_i hx hb hr hlocks hP hD hK hS hT hE ⟨⟨_, rfl⟩, hF⟩ (Nat.le_of_ble_eq_true rfl) (Nat.le_of_ble_eq_true rfl) dX9_treat_68
        by_cases c_93 : b = 1
        · refine lv_lookup (tgt := 69) hx hb dX9_treat_33 (by decide) (off := 36) (by rw [c_93]; rfl) (by decide) ?_
          refine lv_aload_n hx hb dX9_treat_69 rfl (lv_at hl 1 rfl) ?_
          refine T_get (ci := 9) (C := RX9) (T := TX9) (N := 11) (t := (1, 0, 8, 0)) hx hb hts inw_X9_treat_9 hown hK hP hT 1 rfl rfl 0 (by decide) (hts (.fieldLink RX9 10 "VatHouse" "works" "LVatHouse$Works;") (by decide +kernel)) (fun _ h9 => h9) rfl dX9_treat_70 (fun v_96 hv_94 hr_95 => ?_)
          obtain ⟨b_97, rfl, hb9⟩ := hv_94
          have hT := hT.add hb9
          refine lv_aload_n hx hb dX9_treat_73 rfl (lv_at hl 0 rfl) ?_
          refine K_V ⟨hx, hb, hml, hown, hts⟩ (t_X8_washOut l dC dI sa hlt g _ _ b_97 b_5 _ (hT.sub [0, 1] rfl)  ) (cwV 1 hts gX9_treat_X8_washOut rfl rfl rfl (by decide +kernel) ⟨Nat.le_of_ble_eq_true rfl, Nat.le_of_ble_eq_true rfl⟩) hP hD hK hS hA hev hT 0 8 rfl rfl rfl rfl hl.1 rfl (Nat.le_of_ble_eq_true rfl) dX9_treat_74 ⟨Nat.le_of_ble_eq_true rfl, Nat.le_of_ble_eq_true rfl⟩ (fun r L_98 f_99 H locs hw_100 hP hD hS hT hE1 => ?_)
          have hF := Fr.call hF hE hw_100.2 (by decide)
          have hE := hE.tr hE1
          obtain ⟨⟨z_101, rfl⟩, hw_100⟩ := hw_100
          refine W.eq (g2 := F0 m 77 ls [.int z_101]) rfl ?_
          refine vx_ret ?_
          exact K_i hx hb hr hlocks hP hD hK hS hT hE ⟨⟨_, rfl⟩, hF⟩ (Nat.le_of_ble_eq_true rfl) (Nat.le_of_ble_eq_true rfl) dX9_treat_77
        refine lv_lookup (tgt := 78) hx hb dX9_treat_33 (by decide) (off := 45) (look_out2 c_84 c_93) (by decide) ?_
        refine lv_aload_n hx hb dX9_treat_78 rfl (lv_at hl 1 rfl) ?_
        refine T_get (ci := 9) (C := RX9) (T := TX9) (N := 11) (t := (1, 0, 8, 0)) hx hb hts inw_X9_treat_9 hown hK hP hT 1 rfl rfl 0 (by decide) (hts (.fieldLink RX9 10 "VatHouse" "works" "LVatHouse$Works;") (by decide +kernel)) (fun _ h9 => h9) rfl dX9_treat_79 (fun v_104 hv_102 hr_103 => ?_)
        obtain ⟨b_105, rfl, hb9⟩ := hv_102
        have hT := hT.add hb9
        refine lv_aload_n hx hb dX9_treat_82 rfl (lv_at hl 0 rfl) ?_
        refine K_V ⟨hx, hb, hml, hown, hts⟩ (t_X8_dryOut l dC dI sa hlt g _ _ b_105 b_5 _ (hT.sub [0, 1] rfl)  ) (cwV 1 hts gX9_treat_X8_dryOut rfl rfl rfl (by decide +kernel) ⟨Nat.le_of_ble_eq_true rfl, Nat.le_of_ble_eq_true rfl⟩) hP hD hK hS hA hev hT 0 8 rfl rfl rfl rfl hl.1 rfl (Nat.le_of_ble_eq_true rfl) dX9_treat_83 ⟨Nat.le_of_ble_eq_true rfl, Nat.le_of_ble_eq_true rfl⟩ (fun r L_106 f_107 H locs hw_108 hP hD hS hT hE1 => ?_)
        have hF := Fr.call hF hE hw_108.2 (by decide)
        have hE := hE.tr hE1
        obtain ⟨⟨z_109, rfl⟩, hw_108⟩ := hw_108
        refine W.eq (g2 := F0 m 86 ls [.int z_109]) rfl ?_
        refine vx_ret ?_
        exact K_i hx hb hr hlocks hP hD hK hS hT hE ⟨⟨_, rfl⟩, hF⟩ (Nat.le_of_ble_eq_true rfl) (Nat.le_of_ble_eq_true rfl) dX9_treat_86
      · refine lv_iconst (v := (-1)) hx hb dX9_treat_30 (by decide) ?_
        refine vx_ret ?_
        exact K_i hx hb hr hlocks hP hD hK hS hT hE ⟨⟨_, rfl⟩, hF⟩ (Nat.le_of_ble_eq_true rfl) (Nat.le_of_ble_eq_true rfl) dX9_treat_31

abbrev rm_X9_fault : Room := { frames := 6, cells := 1, slots := 6, locals := 82 }
theorem inw_X9_fault_2 : ∀ w ∈ wsX20, w ∈ wsX9_fault := by decide +kernel
theorem inw_X9_fault_9 : ∀ w ∈ wsX90, w ∈ wsX9_fault := by decide +kernel
theorem inx_X9_fault_9 : ∀ w ∈ (xN RX9 153).filter goodWord, w ∈ wsX9_fault := fun _ h => List.mem_cons_of_mem _ (List.mem_append_right _ h)
set_option maxHeartbeats 800000 in
set_option maxRecDepth 100000 in
theorem t_X9_fault (l : Launch) (dC : Nat → ClassId) (dI : Nat → Nat → Nat) (sa : Nat → Nat) (hlt : l.stackTraces = false) (g : Nat → Nat) (L : List Nat) (f : Nat → va_E) (h0 : Nat) (a : Int32) (sz : Nat) (hT : TP g L f [(h0, (0, 9, 0))]) : KX l dC dI sa g yX9_fault wsX9_fault rm_X9_fault [.ref h0, .int a] L f sz (fun r L' f' => (∃ z : Int32, r = some (.int z)) ∧ Fr [] L f f') (fun E L' f' => (E = NSE) ∧ Fr [] L f f') 1 6 := by
  refine KX.start (cc := cX9_fault) (maxL := 2) (ret := (some .int)) (by decide) rfl (Nat.le_of_ble_eq_true rfl) ?_
  intro p e s m below meth c ls hst hno hP hK hD hev hS hl
  obtain ⟨hx, hb, hr, hml, hts, hown, hlocks, hin⟩ := hst
  have hown : s.vm.findClass RX9 = some m.cls := hown
  have hin : meth.name = yX9_fault.name := hin
  have hA : ∀ q : Nat, s.heap.size ≤ q → va_A (va_pl L f) s.heap.size q := fun _ h => Or.inr h
  have hE : Ext L f L f := Ext.rf
  have hF : Fr [] L f f := Fr.rf
  have hl : lv_has ls 2 [(0, .ref h0), (1, .int a)] := hl
  refine lv_iload_n hx hb dX9_fault_0 rfl (lv_at hl 1 rfl) ?_
  by_cases c_1 : a = 0
  · refine lv_lookup (tgt := 28) hx hb dX9_fault_1 (by decide) (off := 27) (by rw [c_1]; rfl) (by decide) ?_
    refine lv_aload_n hx hb dX9_fault_28 rfl (lv_at hl 0 rfl) ?_
    refine T_get (ci := 9) (C := RX9) (T := TX9) (N := 11) (t := (1, 0, 2, 0)) hx hb hts inw_X9_fault_9 hown hK hP hT 0 rfl rfl 6 (by decide) (hts (.fieldLink RX9 31 "VatHouse" "reader" "LVatHouse$Reader;") (by decide +kernel)) (fun _ h9 => h9) rfl dX9_fault_29 (fun v_4 hv_2 hr_3 => ?_)
    obtain ⟨b_5, rfl, hb9⟩ := hv_2
    have hT := hT.add hb9
    refine T_get (ci := 2) (C := RX2) (T := TX2) (N := 6) (t := tI) hx hb hts inw_X9_fault_2 hown hK hP hT 0 rfl rfl 3 (by decide) (hts (.fieldLink RX9 134 "VatHouse$Reader" "fault" "I") (by decide +kernel)) (fun _ h9 => h9) rfl dX9_fault_32 (fun v_8 hv_6 hr_7 => ?_)
    obtain ⟨z_9, rfl⟩ := hv_6
    refine vx_ret ?_
    exact K_i hx hb hr hlocks hP hD hK hS hT hE ⟨⟨_, rfl⟩, hF⟩ (Nat.le_of_ble_eq_true rfl) (Nat.le_of_ble_eq_true rfl) dX9_fault_35
  by_cases c_10 : a = 1
  · refine lv_lookup (tgt := 36) hx hb dX9_fault_1 (by decide) (off := 35) (by rw [c_10]; rfl) (by decide) ?_
    refine lv_aload_n hx hb dX9_fault_36 rfl (lv_at hl 0 rfl) ?_
    refine T_get (ci := 9) (C := RX9) (T := TX9) (N := 11) (t := (1, 0, 2, 0)) hx hb hts inw_X9_fault_9 hown hK hP hT 0 rfl rfl 6 (by decide) (hts (.fieldLink RX9 31 "VatHouse" "reader" "LVatHouse$Reader;") (by decide +kernel)) (fun _ h9 => h9) rfl dX9_fault_37 (fun v_13 hv_11 hr_12 => ?_)
    obtain ⟨b_14, rfl, hb9⟩ := hv_11
    have hT := hT.add hb9
    refine T_get (ci := 2) (C := RX2) (T := TX2) (N := 6) (t := tI) hx hb hts inw_X9_fault_2 hown hK hP hT 0 rfl rfl 4 (by decide) (hts (.fieldLink RX9 146 "VatHouse$Reader" "place" "I") (by decide +kernel)) (fun _ h9 => h9) rfl dX9_fault_40 (fun v_17 hv_15 hr_16 => ?_)
    obtain ⟨z_18, rfl⟩ := hv_15
    refine vx_ret ?_
    exact K_i hx hb hr hlocks hP hD hK hS hT hE ⟨⟨_, rfl⟩, hF⟩ (Nat.le_of_ble_eq_true rfl) (Nat.le_of_ble_eq_true rfl) dX9_fault_43
  refine lv_lookup (tgt := 44) hx hb dX9_fault_1 (by decide) (off := 43) (look_out2 c_1 c_10) (by decide) ?_
  exact K_x (cls := NSE) hno hx hb hlt hlocks hown hts xg_0 xg_1 xg_2 xg_5 (by decide +kernel) (hts (.classLink RX9 149 NSE) (by decide +kernel)) (hts (.initialized NSE) (by decide +kernel)) hev.2.1.2.2.2.1 (inx_X9_fault_9) xb_9 hev.2.2.1.1 xo_9 hev (hl.1.trans hml.symm) dX9_fault_44 dX9_fault_47 dX9_fault_48 dX9_fault_50 dX9_fault_53 (Nat.le_of_ble_eq_true rfl) (Nat.le_of_ble_eq_true rfl) (Nat.le_of_ble_eq_true rfl) (Nat.le_of_ble_eq_true rfl) ⟨rfl, hF⟩ hP hD hK hS hT hE (Nat.le_of_ble_eq_true rfl) (Nat.le_of_ble_eq_true rfl)

abbrev rm_X9_ran : Room := { frames := 6, cells := 1, slots := 6, locals := 82 }
theorem inw_X9_ran_4 : ∀ w ∈ wsX40, w ∈ wsX9_ran := by decide +kernel
theorem inw_X9_ran_9 : ∀ w ∈ wsX90, w ∈ wsX9_ran := by decide +kernel
theorem inx_X9_ran_9 : ∀ w ∈ (xN RX9 153).filter goodWord, w ∈ wsX9_ran := fun _ h => List.mem_cons_of_mem _ (List.mem_append_right _ h)
set_option maxHeartbeats 800000 in
set_option maxRecDepth 100000 in
theorem t_X9_ran (l : Launch) (dC : Nat → ClassId) (dI : Nat → Nat → Nat) (sa : Nat → Nat) (hlt : l.stackTraces = false) (g : Nat → Nat) (L : List Nat) (f : Nat → va_E) (h0 : Nat) (a : Int32) (sz : Nat) (hT : TP g L f [(h0, (0, 9, 0))]) : KX l dC dI sa g yX9_ran wsX9_ran rm_X9_ran [.ref h0, .int a] L f sz (fun r L' f' => (∃ z : Int32, r = some (.int z)) ∧ Fr [] L f f') (fun E L' f' => (E = NSE) ∧ Fr [] L f f') 1 6 := by
  refine KX.start (cc := cX9_ran) (maxL := 2) (ret := (some .int)) (by decide) rfl (Nat.le_of_ble_eq_true rfl) ?_
  intro p e s m below meth c ls hst hno hP hK hD hev hS hl
  obtain ⟨hx, hb, hr, hml, hts, hown, hlocks, hin⟩ := hst
  have hown : s.vm.findClass RX9 = some m.cls := hown
  have hin : meth.name = yX9_ran.name := hin
  have hA : ∀ q : Nat, s.heap.size ≤ q → va_A (va_pl L f) s.heap.size q := fun _ h => Or.inr h
  have hE : Ext L f L f := Ext.rf
  have hF : Fr [] L f f := Fr.rf
  have hl : lv_has ls 2 [(0, .ref h0), (1, .int a)] := hl
  refine lv_iload_n hx hb dX9_ran_0 rfl (lv_at hl 1 rfl) ?_
  by_cases c_1 : a = 0
  · refine lv_tableIn (tgt := 40) hx hb dX9_ran_1 (by rw [c_1]; decide) (by rw [c_1]; decide) (by rw [c_1]; rfl) (by decide) ?_
    refine lv_aload_n hx hb dX9_ran_40 rfl (lv_at hl 0 rfl) ?_
    refine T_get (ci := 9) (C := RX9) (T := TX9) (N := 11) (t := (1, 0, 4, 0)) hx hb hts inw_X9_ran_9 hown hK hP hT 0 rfl rfl 9 (by decide) (hts (.fieldLink RX9 46 "VatHouse" "runner" "LVatHouse$Runner;") (by decide +kernel)) (fun _ h9 => h9) rfl dX9_ran_41 (fun v_4 hv_2 hr_3 => ?_)
    obtain ⟨b_5, rfl, hb9⟩ := hv_2
    have hT := hT.add hb9
    refine T_get (ci := 4) (C := RX4) (T := TX4) (N := 8) (t := tI) hx hb hts inw_X9_ran_4 hown hK hP hT 0 rfl rfl 2 (by decide) (hts (.fieldLink RX9 164 "VatHouse$Runner" "result" "I") (by decide +kernel)) (fun _ h9 => h9) rfl dX9_ran_44 (fun v_8 hv_6 hr_7 => ?_)
    obtain ⟨z_9, rfl⟩ := hv_6
    refine vx_ret ?_
    exact K_i hx hb hr hlocks hP hD hK hS hT hE ⟨⟨_, rfl⟩, hF⟩ (Nat.le_of_ble_eq_true rfl) (Nat.le_of_ble_eq_true rfl) dX9_ran_47
  by_cases c_10 : a = 1
  · refine lv_tableIn (tgt := 48) hx hb dX9_ran_1 (by rw [c_10]; decide) (by rw [c_10]; decide) (by rw [c_10]; rfl) (by decide) ?_
    refine lv_aload_n hx hb dX9_ran_48 rfl (lv_at hl 0 rfl) ?_
    refine T_get (ci := 9) (C := RX9) (T := TX9) (N := 11) (t := (1, 0, 4, 0)) hx hb hts inw_X9_ran_9 hown hK hP hT 0 rfl rfl 9 (by decide) (hts (.fieldLink RX9 46 "VatHouse" "runner" "LVatHouse$Runner;") (by decide +kernel)) (fun _ h9 => h9) rfl dX9_ran_49 (fun v_13 hv_11 hr_12 => ?_)
    obtain ⟨b_14, rfl, hb9⟩ := hv_11
    have hT := hT.add hb9
    refine T_get (ci := 4) (C := RX4) (T := TX4) (N := 8) (t := tI) hx hb hts inw_X9_ran_4 hown hK hP hT 0 rfl rfl 3 (by decide) (hts (.fieldLink RX9 167 "VatHouse$Runner" "failure" "I") (by decide +kernel)) (fun _ h9 => h9) rfl dX9_ran_52 (fun v_17 hv_15 hr_16 => ?_)
    obtain ⟨z_18, rfl⟩ := hv_15
    refine vx_ret ?_
    exact K_i hx hb hr hlocks hP hD hK hS hT hE ⟨⟨_, rfl⟩, hF⟩ (Nat.le_of_ble_eq_true rfl) (Nat.le_of_ble_eq_true rfl) dX9_ran_55
  by_cases c_19 : a = 2
  · refine lv_tableIn (tgt := 56) hx hb dX9_ran_1 (by rw [c_19]; decide) (by rw [c_19]; decide) (by rw [c_19]; rfl) (by decide) ?_
    refine lv_aload_n hx hb dX9_ran_56 rfl (lv_at hl 0 rfl) ?_
    refine T_get (ci := 9) (C := RX9) (T := TX9) (N := 11) (t := (1, 0, 4, 0)) hx hb hts inw_X9_ran_9 hown hK hP hT 0 rfl rfl 9 (by decide) (hts (.fieldLink RX9 46 "VatHouse" "runner" "LVatHouse$Runner;") (by decide +kernel)) (fun _ h9 => h9) rfl dX9_ran_57 (fun v_22 hv_20 hr_21 => ?_)
    obtain ⟨b_23, rfl, hb9⟩ := hv_20
    have hT := hT.add hb9
    refine T_get (ci := 4) (C := RX4) (T := TX4) (N := 8) (t := tI) hx hb hts inw_X9_ran_4 hown hK hP hT 0 rfl rfl 4 (by decide) (hts (.fieldLink RX9 170 "VatHouse$Runner" "counted" "I") (by decide +kernel)) (fun _ h9 => h9) rfl dX9_ran_60 (fun v_26 hv_24 hr_25 => ?_)
    obtain ⟨z_27, rfl⟩ := hv_24
    refine vx_ret ?_
    exact K_i hx hb hr hlocks hP hD hK hS hT hE ⟨⟨_, rfl⟩, hF⟩ (Nat.le_of_ble_eq_true rfl) (Nat.le_of_ble_eq_true rfl) dX9_ran_63
  by_cases c_28 : a = 3
  · refine lv_tableIn (tgt := 64) hx hb dX9_ran_1 (by rw [c_28]; decide) (by rw [c_28]; decide) (by rw [c_28]; rfl) (by decide) ?_
    refine lv_aload_n hx hb dX9_ran_64 rfl (lv_at hl 0 rfl) ?_
    refine T_get (ci := 9) (C := RX9) (T := TX9) (N := 11) (t := (1, 0, 4, 0)) hx hb hts inw_X9_ran_9 hown hK hP hT 0 rfl rfl 9 (by decide) (hts (.fieldLink RX9 46 "VatHouse" "runner" "LVatHouse$Runner;") (by decide +kernel)) (fun _ h9 => h9) rfl dX9_ran_65 (fun v_31 hv_29 hr_30 => ?_)
    obtain ⟨b_32, rfl, hb9⟩ := hv_29
    have hT := hT.add hb9
    refine T_get (ci := 4) (C := RX4) (T := TX4) (N := 8) (t := tI) hx hb hts inw_X9_ran_4 hown hK hP hT 0 rfl rfl 5 (by decide) (hts (.fieldLink RX9 173 "VatHouse$Runner" "dipsDone" "I") (by decide +kernel)) (fun _ h9 => h9) rfl dX9_ran_68 (fun v_35 hv_33 hr_34 => ?_)
    obtain ⟨z_36, rfl⟩ := hv_33
    refine vx_ret ?_
    exact K_i hx hb hr hlocks hP hD hK hS hT hE ⟨⟨_, rfl⟩, hF⟩ (Nat.le_of_ble_eq_true rfl) (Nat.le_of_ble_eq_true rfl) dX9_ran_71
  by_cases c_37 : a = 4
  · refine lv_tableIn (tgt := 72) hx hb dX9_ran_1 (by rw [c_37]; decide) (by rw [c_37]; decide) (by rw [c_37]; rfl) (by decide) ?_
    refine lv_aload_n hx hb dX9_ran_72 rfl (lv_at hl 0 rfl) ?_
    refine T_get (ci := 9) (C := RX9) (T := TX9) (N := 11) (t := (1, 0, 4, 0)) hx hb hts inw_X9_ran_9 hown hK hP hT 0 rfl rfl 9 (by decide) (hts (.fieldLink RX9 46 "VatHouse" "runner" "LVatHouse$Runner;") (by decide +kernel)) (fun _ h9 => h9) rfl dX9_ran_73 (fun v_40 hv_38 hr_39 => ?_)
    obtain ⟨b_41, rfl, hb9⟩ := hv_38
    have hT := hT.add hb9
    refine T_get (ci := 4) (C := RX4) (T := TX4) (N := 8) (t := tI) hx hb hts inw_X9_ran_4 hown hK hP hT 0 rfl rfl 6 (by decide) (hts (.fieldLink RX9 176 "VatHouse$Runner" "grainsMoved" "I") (by decide +kernel)) (fun _ h9 => h9) rfl dX9_ran_76 (fun v_44 hv_42 hr_43 => ?_)
    obtain ⟨z_45, rfl⟩ := hv_42
    refine vx_ret ?_
    exact K_i hx hb hr hlocks hP hD hK hS hT hE ⟨⟨_, rfl⟩, hF⟩ (Nat.le_of_ble_eq_true rfl) (Nat.le_of_ble_eq_true rfl) dX9_ran_79
  by_cases c_46 : a = 5
  · refine lv_tableIn (tgt := 80) hx hb dX9_ran_1 (by rw [c_46]; decide) (by rw [c_46]; decide) (by rw [c_46]; rfl) (by decide) ?_
    refine lv_aload_n hx hb dX9_ran_80 rfl (lv_at hl 0 rfl) ?_
    refine T_get (ci := 9) (C := RX9) (T := TX9) (N := 11) (t := (1, 0, 4, 0)) hx hb hts inw_X9_ran_9 hown hK hP hT 0 rfl rfl 9 (by decide) (hts (.fieldLink RX9 46 "VatHouse" "runner" "LVatHouse$Runner;") (by decide +kernel)) (fun _ h9 => h9) rfl dX9_ran_81 (fun v_49 hv_47 hr_48 => ?_)
    obtain ⟨b_50, rfl, hb9⟩ := hv_47
    have hT := hT.add hb9
    refine T_get (ci := 4) (C := RX4) (T := TX4) (N := 8) (t := tI) hx hb hts inw_X9_ran_4 hown hK hP hT 0 rfl rfl 7 (by decide) (hts (.fieldLink RX9 179 "VatHouse$Runner" "hoursRested" "I") (by decide +kernel)) (fun _ h9 => h9) rfl dX9_ran_84 (fun v_53 hv_51 hr_52 => ?_)
    obtain ⟨z_54, rfl⟩ := hv_51
    refine vx_ret ?_
    exact K_i hx hb hr hlocks hP hD hK hS hT hE ⟨⟨_, rfl⟩, hF⟩ (Nat.le_of_ble_eq_true rfl) (Nat.le_of_ble_eq_true rfl) dX9_ran_87
  refine lv_tableOut (tgt := 88) hx hb dX9_ran_1 (tab_out6 c_1 c_10 c_19 c_28 c_37 c_46) (by decide) ?_
  exact K_x (cls := NSE) hno hx hb hlt hlocks hown hts xg_0 xg_1 xg_2 xg_5 (by decide +kernel) (hts (.classLink RX9 149 NSE) (by decide +kernel)) (hts (.initialized NSE) (by decide +kernel)) hev.2.1.2.2.2.1 (inx_X9_ran_9) xb_9 hev.2.2.1.1 xo_9 hev (hl.1.trans hml.symm) dX9_ran_88 dX9_ran_91 dX9_ran_92 dX9_ran_94 dX9_ran_97 (Nat.le_of_ble_eq_true rfl) (Nat.le_of_ble_eq_true rfl) (Nat.le_of_ble_eq_true rfl) (Nat.le_of_ble_eq_true rfl) ⟨rfl, hF⟩ hP hD hK hS hT hE (Nat.le_of_ble_eq_true rfl) (Nat.le_of_ble_eq_true rfl)

abbrev rm_X9_vat : Room := { frames := 7, cells := 2, slots := 12, locals := 103 }
theorem inw_X9_vat_7 : ∀ w ∈ wsX70, w ∈ wsX9_vat := by decide +kernel
theorem inw_X9_vat_9 : ∀ w ∈ wsX90, w ∈ wsX9_vat := by decide +kernel
theorem inx_X9_vat_9 : ∀ w ∈ (xN RX9 153).filter goodWord, w ∈ wsX9_vat := fun _ h => List.mem_cons_of_mem _ (List.mem_append_left _ (List.mem_append_right _ h))
set_option maxHeartbeats 800000 in
set_option maxRecDepth 100000 in
theorem t_X9_vat (l : Launch) (dC : Nat → ClassId) (dI : Nat → Nat → Nat) (sa : Nat → Nat) (hlt : l.stackTraces = false) (g : Nat → Nat) (L : List Nat) (f : Nat → va_E) (h0 : Nat) (a : Int32) (b : Int32) (sz : Nat) (hT : TP g L f [(h0, (0, 9, 0))]) : KX l dC dI sa g yX9_vat wsX9_vat rm_X9_vat [.ref h0, .int a, .int b] L f sz (fun r L' f' => (∃ z : Int32, r = some (.int z)) ∧ Fr [] L f f') (fun E L' f' => (E = NSE) ∧ Fr [] L f f') 2 12 := by
  refine KX.start (cc := cX9_vat) (maxL := 4) (ret := (some .int)) (by decide) rfl (Nat.le_of_ble_eq_true rfl) ?_
  intro p e s m below meth c ls hst hno hP hK hD hev hS hl
  obtain ⟨hx, hb, hr, hml, hts, hown, hlocks, hin⟩ := hst
  have hown : s.vm.findClass RX9 = some m.cls := hown
  have hin : meth.name = yX9_vat.name := hin
  have hA : ∀ q : Nat, s.heap.size ≤ q → va_A (va_pl L f) s.heap.size q := fun _ h => Or.inr h
  have hE : Ext L f L f := Ext.rf
  have hF : Fr [] L f f := Fr.rf
  have hl : lv_has ls 4 [(0, .ref h0), (1, .int a), (2, .int b)] := hl
  refine lv_aload_n hx hb dX9_vat_0 rfl (lv_at hl 0 rfl) ?_
  refine T_get (ci := 9) (C := RX9) (T := TX9) (N := 11) (t := (1, 0, 8, 0)) hx hb hts inw_X9_vat_9 hown hK hP hT 0 rfl rfl 0 (by decide) (hts (.fieldLink RX9 10 "VatHouse" "works" "LVatHouse$Works;") (by decide +kernel)) (fun _ h9 => h9) rfl dX9_vat_1 (fun v_3 hv_1 hr_2 => ?_)
  obtain ⟨b_4, rfl, hb9⟩ := hv_1
  have hT := hT.add hb9
  refine lv_iload_n hx hb dX9_vat_4 rfl (lv_at hl 1 rfl) ?_
  refine K_VX ⟨hx, hb, hml, hown, hts⟩ (t_X8_vatAt l dC dI sa hlt g _ _ b_4 a _ (hT.sub [0] rfl)  ) (cwV 1 hts gX9_vat_X8_vatAt rfl rfl rfl (by decide +kernel) ⟨Nat.le_of_ble_eq_true rfl, Nat.le_of_ble_eq_true rfl⟩) hP hD hK hS hA hev hT 0 8 rfl rfl rfl rfl hl.1 rfl (Nat.le_of_ble_eq_true rfl) dX9_vat_5 ⟨Nat.le_of_ble_eq_true rfl, Nat.le_of_ble_eq_true rfl⟩ (fun E ce q9 L9 f9 H locs hpx hP hD hS hT hE1 hce hcv hcl => ?_) (fun r L_5 f_6 H locs hw_7 hP hD hS hT hE1 => ?_)
  · have hF := Fr.call hF hE hpx.2 (by decide)
    have hE := hE.tr hE1
    exact K_out hno hlocks ⟨hpx.1, hF⟩ hP hD hK hS hT hE hce hcv hcl (Nat.le_of_ble_eq_true rfl) (Nat.le_of_ble_eq_true rfl)
  have hF := Fr.call hF hE hw_7.2 (by decide)
  have hE := hE.tr hE1
  obtain ⟨⟨v_8, rfl, hv9⟩, hw_7⟩ := hw_7
  obtain ⟨b_9, rfl, hb9⟩ := hv9
  have hT := hT.add hb9
  refine W.eq (g2 := F0 m 8 ls [.ref b_9]) rfl ?_
  refine lv_astore_n (lv' := [(3, .ref b_9), (0, .ref h0), (1, .int a), (2, .int b)]) hx hb dX9_vat_8 rfl hl (by decide) rfl (fun ls hl => ?_)
  refine lv_iload_n hx hb dX9_vat_9 rfl (lv_at hl 3 rfl) ?_
  by_cases c_10 : b = 0
  · refine lv_tableIn (tgt := 48) hx hb dX9_vat_10 (by rw [c_10]; decide) (by rw [c_10]; decide) (by rw [c_10]; rfl) (by decide) ?_
    refine lv_aload_n hx hb dX9_vat_48 rfl (lv_at hl 0 rfl) ?_
    refine T_get (ci := 7) (C := RX7) (T := TX7) (N := 8) (t := tI) hx hb hts inw_X9_vat_7 hown hK hP hT 0 rfl rfl 1 (by decide) (hts (.fieldLink RX9 62 "VatHouse$Vat" "grains" "I") (by decide +kernel)) (fun _ h9 => h9) rfl dX9_vat_49 (fun v_13 hv_11 hr_12 => ?_)
    obtain ⟨z_14, rfl⟩ := hv_11
    refine vx_ret ?_
    exact K_i hx hb hr hlocks hP hD hK hS hT hE ⟨⟨_, rfl⟩, hF⟩ (Nat.le_of_ble_eq_true rfl) (Nat.le_of_ble_eq_true rfl) dX9_vat_52
  by_cases c_15 : b = 1
  · refine lv_tableIn (tgt := 53) hx hb dX9_vat_10 (by rw [c_15]; decide) (by rw [c_15]; decide) (by rw [c_15]; rfl) (by decide) ?_
    refine lv_aload_n hx hb dX9_vat_53 rfl (lv_at hl 0 rfl) ?_
    refine T_get (ci := 7) (C := RX7) (T := TX7) (N := 8) (t := tI) hx hb hts inw_X9_vat_7 hown hK hP hT 0 rfl rfl 2 (by decide) (hts (.fieldLink RX9 201 "VatHouse$Vat" "food" "I") (by decide +kernel)) (fun _ h9 => h9) rfl dX9_vat_54 (fun v_18 hv_16 hr_17 => ?_)
    obtain ⟨z_19, rfl⟩ := hv_16
    refine vx_ret ?_
    exact K_i hx hb hr hlocks hP hD hK hS hT hE ⟨⟨_, rfl⟩, hF⟩ (Nat.le_of_ble_eq_true rfl) (Nat.le_of_ble_eq_true rfl) dX9_vat_57
  by_cases c_20 : b = 2
  · refine lv_tableIn (tgt := 58) hx hb dX9_vat_10 (by rw [c_20]; decide) (by rw [c_20]; decide) (by rw [c_20]; rfl) (by decide) ?_
    refine lv_aload_n hx hb dX9_vat_58 rfl (lv_at hl 0 rfl) ?_
    refine T_get (ci := 7) (C := RX7) (T := TX7) (N := 8) (t := tI) hx hb hts inw_X9_vat_7 hown hK hP hT 0 rfl rfl 3 (by decide) (hts (.fieldLink RX9 204 "VatHouse$Vat" "minutes" "I") (by decide +kernel)) (fun _ h9 => h9) rfl dX9_vat_59 (fun v_23 hv_21 hr_22 => ?_)
    obtain ⟨z_24, rfl⟩ := hv_21
    refine vx_ret ?_
    exact K_i hx hb hr hlocks hP hD hK hS hT hE ⟨⟨_, rfl⟩, hF⟩ (Nat.le_of_ble_eq_true rfl) (Nat.le_of_ble_eq_true rfl) dX9_vat_62
  by_cases c_25 : b = 3
  · refine lv_tableIn (tgt := 63) hx hb dX9_vat_10 (by rw [c_25]; decide) (by rw [c_25]; decide) (by rw [c_25]; rfl) (by decide) ?_
    refine lv_aload_n hx hb dX9_vat_63 rfl (lv_at hl 0 rfl) ?_
    refine T_get (ci := 7) (C := RX7) (T := TX7) (N := 8) (t := tI) hx hb hts inw_X9_vat_7 hown hK hP hT 0 rfl rfl 4 (by decide) (hts (.fieldLink RX9 79 "VatHouse$Vat" "state" "I") (by decide +kernel)) (fun _ h9 => h9) rfl dX9_vat_64 (fun v_28 hv_26 hr_27 => ?_)
    obtain ⟨z_29, rfl⟩ := hv_26
    refine vx_ret ?_
    exact K_i hx hb hr hlocks hP hD hK hS hT hE ⟨⟨_, rfl⟩, hF⟩ (Nat.le_of_ble_eq_true rfl) (Nat.le_of_ble_eq_true rfl) dX9_vat_67
  by_cases c_30 : b = 4
  · refine lv_tableIn (tgt := 68) hx hb dX9_vat_10 (by rw [c_30]; decide) (by rw [c_30]; decide) (by rw [c_30]; rfl) (by decide) ?_
    refine lv_aload_n hx hb dX9_vat_68 rfl (lv_at hl 0 rfl) ?_
    refine T_get (ci := 7) (C := RX7) (T := TX7) (N := 8) (t := tI) hx hb hts inw_X9_vat_7 hown hK hP hT 0 rfl rfl 5 (by decide) (hts (.fieldLink RX9 207 "VatHouse$Vat" "dips" "I") (by decide +kernel)) (fun _ h9 => h9) rfl dX9_vat_69 (fun v_33 hv_31 hr_32 => ?_)
    obtain ⟨z_34, rfl⟩ := hv_31
    refine vx_ret ?_
    exact K_i hx hb hr hlocks hP hD hK hS hT hE ⟨⟨_, rfl⟩, hF⟩ (Nat.le_of_ble_eq_true rfl) (Nat.le_of_ble_eq_true rfl) dX9_vat_72
  by_cases c_35 : b = 5
  · refine lv_tableIn (tgt := 73) hx hb dX9_vat_10 (by rw [c_35]; decide) (by rw [c_35]; decide) (by rw [c_35]; rfl) (by decide) ?_
    refine lv_aload_n hx hb dX9_vat_73 rfl (lv_at hl 0 rfl) ?_
    refine T_get (ci := 7) (C := RX7) (T := TX7) (N := 8) (t := tI) hx hb hts inw_X9_vat_7 hown hK hP hT 0 rfl rfl 6 (by decide) (hts (.fieldLink RX9 210 "VatHouse$Vat" "clothBits" "I") (by decide +kernel)) (fun _ h9 => h9) rfl dX9_vat_74 (fun v_38 hv_36 hr_37 => ?_)
    obtain ⟨z_39, rfl⟩ := hv_36
    refine vx_ret ?_
    exact K_i hx hb hr hlocks hP hD hK hS hT hE ⟨⟨_, rfl⟩, hF⟩ (Nat.le_of_ble_eq_true rfl) (Nat.le_of_ble_eq_true rfl) dX9_vat_77
  refine lv_tableOut (tgt := 78) hx hb dX9_vat_10 (tab_out6 c_10 c_15 c_20 c_25 c_30 c_35) (by decide) ?_
  exact K_x (cls := NSE) hno hx hb hlt hlocks hown hts xg_0 xg_1 xg_2 xg_5 (by decide +kernel) (hts (.classLink RX9 149 NSE) (by decide +kernel)) (hts (.initialized NSE) (by decide +kernel)) hev.2.1.2.2.2.1 (inx_X9_vat_9) xb_9 hev.2.2.1.1 xo_9 hev (hl.1.trans hml.symm) dX9_vat_78 dX9_vat_81 dX9_vat_82 dX9_vat_84 dX9_vat_87 (Nat.le_of_ble_eq_true rfl) (Nat.le_of_ble_eq_true rfl) (Nat.le_of_ble_eq_true rfl) (Nat.le_of_ble_eq_true rfl) ⟨rfl, hF⟩ hP hD hK hS hT hE (Nat.le_of_ble_eq_true rfl) (Nat.le_of_ble_eq_true rfl)

abbrev rm_X9_about : Room := { frames := 7, cells := 2, slots := 12, locals := 104 }
theorem inw_X9_about_0 : ∀ w ∈ wsX00, w ∈ wsX9_about := by decide +kernel
theorem inx_X9_about_9 : ∀ w ∈ (xN RX9 153).filter goodWord, w ∈ wsX9_about := fun _ h => List.mem_cons_of_mem _ (List.mem_append_right _ h)
set_option maxHeartbeats 800000 in
set_option maxRecDepth 100000 in
theorem t_X9_about (l : Launch) (dC : Nat → ClassId) (dI : Nat → Nat → Nat) (sa : Nat → Nat) (hlt : l.stackTraces = false) (g : Nat → Nat) (L : List Nat) (f : Nat → va_E) (h0 : Nat) (a : Int32) (b : Int32) (sz : Nat) (hT : TP g L f [(h0, (0, 9, 0))]) : KX l dC dI sa g yX9_about wsX9_about rm_X9_about [.ref h0, .int a, .int b] L f sz (fun r L' f' => (∃ z : Int32, r = some (.int z)) ∧ Fr [] L f f') (fun E L' f' => (E = NSE) ∧ Fr [] L f f') 2 12 := by
  refine KX.start (cc := cX9_about) (maxL := 4) (ret := (some .int)) (by decide) rfl (Nat.le_of_ble_eq_true rfl) ?_
  intro p e s m below meth c ls hst hno hP hK hD hev hS hl
  obtain ⟨hx, hb, hr, hml, hts, hown, hlocks, hin⟩ := hst
  have hown : s.vm.findClass RX9 = some m.cls := hown
  have hin : meth.name = yX9_about.name := hin
  have hA : ∀ q : Nat, s.heap.size ≤ q → va_A (va_pl L f) s.heap.size q := fun _ h => Or.inr h
  have hE : Ext L f L f := Ext.rf
  have hF : Fr [] L f f := Fr.rf
  have hl : lv_has ls 4 [(0, .ref h0), (1, .int a), (2, .int b)] := hl
  refine lv_aload_n hx hb dX9_about_0 rfl (lv_at hl 0 rfl) ?_
  refine lv_iload_n hx hb dX9_about_1 rfl (lv_at hl 1 rfl) ?_
  refine K_VX ⟨hx, hb, hml, hown, hts⟩ (t_X9_clothAt l dC dI sa hlt g _ _ h0 a _ (hT.sub [0] rfl)  ) (cwV 1 hts gX9_about_X9_clothAt rfl rfl rfl (by decide +kernel) ⟨Nat.le_of_ble_eq_true rfl, Nat.le_of_ble_eq_true rfl⟩) hP hD hK hS hA hev hT 0 9 rfl rfl rfl rfl hl.1 rfl (Nat.le_of_ble_eq_true rfl) dX9_about_2 ⟨Nat.le_of_ble_eq_true rfl, Nat.le_of_ble_eq_true rfl⟩ (fun E ce q9 L9 f9 H locs hpx hP hD hS hT hE1 hce hcv hcl => ?_) (fun r L_1 f_2 H locs hw_3 hP hD hS hT hE1 => ?_)
  · have hF := Fr.call hF hE hpx.2 (by decide)
    have hE := hE.tr hE1
    exact K_out hno hlocks ⟨hpx.1, hF⟩ hP hD hK hS hT hE hce hcv hcl (Nat.le_of_ble_eq_true rfl) (Nat.le_of_ble_eq_true rfl)
  have hF := Fr.call hF hE hw_3.2 (by decide)
  have hE := hE.tr hE1
  obtain ⟨⟨v_4, rfl, hv9⟩, hw_3⟩ := hw_3
  obtain ⟨b_5, rfl, hb9⟩ := hv9
  have hT := hT.add hb9
  refine W.eq (g2 := F0 m 5 ls [.ref b_5]) rfl ?_
  refine lv_astore_n (lv' := [(3, .ref b_5), (0, .ref h0), (1, .int a), (2, .int b)]) hx hb dX9_about_5 rfl hl (by decide) rfl (fun ls hl => ?_)
  refine lv_iload_n hx hb dX9_about_6 rfl (lv_at hl 3 rfl) ?_
  by_cases c_6 : b = 0
  · refine lv_tableIn (tgt := 52) hx hb dX9_about_7 (by rw [c_6]; decide) (by rw [c_6]; decide) (by rw [c_6]; rfl) (by decide) ?_
    refine lv_aload_n hx hb dX9_about_52 rfl (lv_at hl 0 rfl) ?_
    refine T_get (ci := 0) (C := RX0) (T := TX0) (N := 8) (t := tI) hx hb hts inw_X9_about_0 hown hK hP hT 0 rfl rfl 1 (by decide) (hts (.fieldLink RX9 213 "VatHouse$Cloth" "weight" "I") (by decide +kernel)) (fun _ h9 => h9) rfl dX9_about_53 (fun v_9 hv_7 hr_8 => ?_)
    obtain ⟨z_10, rfl⟩ := hv_7
    refine vx_ret ?_
    exact K_i hx hb hr hlocks hP hD hK hS hT hE ⟨⟨_, rfl⟩, hF⟩ (Nat.le_of_ble_eq_true rfl) (Nat.le_of_ble_eq_true rfl) dX9_about_56
  by_cases c_11 : b = 1
  · refine lv_tableIn (tgt := 57) hx hb dX9_about_7 (by rw [c_11]; decide) (by rw [c_11]; decide) (by rw [c_11]; rfl) (by decide) ?_
    refine lv_aload_n hx hb dX9_about_57 rfl (lv_at hl 0 rfl) ?_
    refine T_get (ci := 0) (C := RX0) (T := TX0) (N := 8) (t := tI) hx hb hts inw_X9_about_0 hown hK hP hT 0 rfl rfl 2 (by decide) (hts (.fieldLink RX9 216 "VatHouse$Cloth" "loose" "I") (by decide +kernel)) (fun _ h9 => h9) rfl dX9_about_58 (fun v_14 hv_12 hr_13 => ?_)
    obtain ⟨z_15, rfl⟩ := hv_12
    refine vx_ret ?_
    exact K_i hx hb hr hlocks hP hD hK hS hT hE ⟨⟨_, rfl⟩, hF⟩ (Nat.le_of_ble_eq_true rfl) (Nat.le_of_ble_eq_true rfl) dX9_about_61
  by_cases c_16 : b = 2
  · refine lv_tableIn (tgt := 62) hx hb dX9_about_7 (by rw [c_16]; decide) (by rw [c_16]; decide) (by rw [c_16]; rfl) (by decide) ?_
    refine lv_aload_n hx hb dX9_about_62 rfl (lv_at hl 0 rfl) ?_
    refine T_get (ci := 0) (C := RX0) (T := TX0) (N := 8) (t := tI) hx hb hts inw_X9_about_0 hown hK hP hT 0 rfl rfl 3 (by decide) (hts (.fieldLink RX9 219 "VatHouse$Cloth" "fast" "I") (by decide +kernel)) (fun _ h9 => h9) rfl dX9_about_63 (fun v_19 hv_17 hr_18 => ?_)
    obtain ⟨z_20, rfl⟩ := hv_17
    refine vx_ret ?_
    exact K_i hx hb hr hlocks hP hD hK hS hT hE ⟨⟨_, rfl⟩, hF⟩ (Nat.le_of_ble_eq_true rfl) (Nat.le_of_ble_eq_true rfl) dX9_about_66
  by_cases c_21 : b = 3
  · refine lv_tableIn (tgt := 67) hx hb dX9_about_7 (by rw [c_21]; decide) (by rw [c_21]; decide) (by rw [c_21]; rfl) (by decide) ?_
    refine lv_aload_n hx hb dX9_about_67 rfl (lv_at hl 0 rfl) ?_
    refine K_V ⟨hx, hb, hml, hown, hts⟩ (t_X0_shade l dC dI sa hlt g _ _ b_5 _ (hT.sub [0] rfl)  ) (cwV 0 hts gX9_about_X0_shade rfl rfl rfl (by decide +kernel) ⟨Nat.le_of_ble_eq_true rfl, Nat.le_of_ble_eq_true rfl⟩) hP hD hK hS hA hev hT 0 0 rfl rfl rfl rfl hl.1 rfl (Nat.le_of_ble_eq_true rfl) dX9_about_68 ⟨Nat.le_of_ble_eq_true rfl, Nat.le_of_ble_eq_true rfl⟩ (fun r L_22 f_23 H locs hw_24 hP hD hS hT hE1 => ?_)
    have hF := Fr.call hF hE hw_24.2 (by decide)
    have hE := hE.tr hE1
    obtain ⟨⟨z_25, rfl⟩, hw_24⟩ := hw_24
    refine W.eq (g2 := F0 m 71 ls [.int z_25]) rfl ?_
    refine vx_ret ?_
    exact K_i hx hb hr hlocks hP hD hK hS hT hE ⟨⟨_, rfl⟩, hF⟩ (Nat.le_of_ble_eq_true rfl) (Nat.le_of_ble_eq_true rfl) dX9_about_71
  by_cases c_26 : b = 4
  · refine lv_tableIn (tgt := 72) hx hb dX9_about_7 (by rw [c_26]; decide) (by rw [c_26]; decide) (by rw [c_26]; rfl) (by decide) ?_
    refine lv_aload_n hx hb dX9_about_72 rfl (lv_at hl 0 rfl) ?_
    refine T_get (ci := 0) (C := RX0) (T := TX0) (N := 8) (t := tI) hx hb hts inw_X9_about_0 hown hK hP hT 0 rfl rfl 4 (by decide) (hts (.fieldLink RX9 102 "VatHouse$Cloth" "dry" "Z") (by decide +kernel)) (fun _ h9 => h9) rfl dX9_about_73 (fun v_29 hv_27 hr_28 => ?_)
    obtain ⟨z_30, rfl⟩ := hv_27
    refine lv_if_eq (tgt := 83) hx hb dX9_about_76 (by decide) (fun c_31 => ?_) (fun c_31 => ?_)
    · refine lv_iconst (v := 0) hx hb dX9_about_83 (by decide) ?_
      refine vx_ret ?_
      exact K_i hx hb hr hlocks hP hD hK hS hT hE ⟨⟨_, rfl⟩, hF⟩ (Nat.le_of_ble_eq_true rfl) (Nat.le_of_ble_eq_true rfl) dX9_about_84
    · refine lv_iconst (v := 1) hx hb dX9_about_79 (by decide) ?_
      refine lv_goto (tgt := 84) hx hb dX9_about_80 (by decide) ?_
      refine vx_ret ?_
      exact K_i hx hb hr hlocks hP hD hK hS hT hE ⟨⟨_, rfl⟩, hF⟩ (Nat.le_of_ble_eq_true rfl) (Nat.le_of_ble_eq_true rfl) dX9_about_84
  by_cases c_32 : b = 5
  · refine lv_tableIn (tgt := 85) hx hb dX9_about_7 (by rw [c_32]; decide) (by rw [c_32]; decide) (by rw [c_32]; rfl) (by decide) ?_
    refine lv_aload_n hx hb dX9_about_85 rfl (lv_at hl 0 rfl) ?_
    refine T_get (ci := 0) (C := RX0) (T := TX0) (N := 8) (t := tI) hx hb hts inw_X9_about_0 hown hK hP hT 0 rfl rfl 5 (by decide) (hts (.fieldLink RX9 226 "VatHouse$Cloth" "day" "I") (by decide +kernel)) (fun _ h9 => h9) rfl dX9_about_86 (fun v_35 hv_33 hr_34 => ?_)
    obtain ⟨z_36, rfl⟩ := hv_33
    refine vx_ret ?_
    exact K_i hx hb hr hlocks hP hD hK hS hT hE ⟨⟨_, rfl⟩, hF⟩ (Nat.le_of_ble_eq_true rfl) (Nat.le_of_ble_eq_true rfl) dX9_about_89
  by_cases c_37 : b = 6
  · refine lv_tableIn (tgt := 90) hx hb dX9_about_7 (by rw [c_37]; decide) (by rw [c_37]; decide) (by rw [c_37]; rfl) (by decide) ?_
    refine lv_aload_n hx hb dX9_about_90 rfl (lv_at hl 0 rfl) ?_
    refine T_get (ci := 0) (C := RX0) (T := TX0) (N := 8) (t := tI) hx hb hts inw_X9_about_0 hown hK hP hT 0 rfl rfl 6 (by decide) (hts (.fieldLink RX9 229 "VatHouse$Cloth" "vatBits" "I") (by decide +kernel)) (fun _ h9 => h9) rfl dX9_about_91 (fun v_40 hv_38 hr_39 => ?_)
    obtain ⟨z_41, rfl⟩ := hv_38
    refine vx_ret ?_
    exact K_i hx hb hr hlocks hP hD hK hS hT hE ⟨⟨_, rfl⟩, hF⟩ (Nat.le_of_ble_eq_true rfl) (Nat.le_of_ble_eq_true rfl) dX9_about_94
  by_cases c_42 : b = 7
  · refine lv_tableIn (tgt := 95) hx hb dX9_about_7 (by rw [c_42]; decide) (by rw [c_42]; decide) (by rw [c_42]; rfl) (by decide) ?_
    refine lv_aload_n hx hb dX9_about_95 rfl (lv_at hl 0 rfl) ?_
    refine T_get (ci := 0) (C := RX0) (T := TX0) (N := 8) (t := tI) hx hb hts inw_X9_about_0 hown hK hP hT 0 rfl rfl 7 (by decide) (hts (.fieldLink RX9 232 "VatHouse$Cloth" "dips" "I") (by decide +kernel)) (fun _ h9 => h9) rfl dX9_about_96 (fun v_45 hv_43 hr_44 => ?_)
    obtain ⟨z_46, rfl⟩ := hv_43
    refine vx_ret ?_
    exact K_i hx hb hr hlocks hP hD hK hS hT hE ⟨⟨_, rfl⟩, hF⟩ (Nat.le_of_ble_eq_true rfl) (Nat.le_of_ble_eq_true rfl) dX9_about_99
  refine lv_tableOut (tgt := 100) hx hb dX9_about_7 (tab_out8 c_6 c_11 c_16 c_21 c_26 c_32 c_37 c_42) (by decide) ?_
  exact K_x (cls := NSE) hno hx hb hlt hlocks hown hts xg_0 xg_1 xg_2 xg_5 (by decide +kernel) (hts (.classLink RX9 149 NSE) (by decide +kernel)) (hts (.initialized NSE) (by decide +kernel)) hev.2.1.2.2.2.1 (inx_X9_about_9) xb_9 hev.2.2.1.1 xo_9 hev (hl.1.trans hml.symm) dX9_about_100 dX9_about_103 dX9_about_104 dX9_about_106 dX9_about_109 (Nat.le_of_ble_eq_true rfl) (Nat.le_of_ble_eq_true rfl) (Nat.le_of_ble_eq_true rfl) (Nat.le_of_ble_eq_true rfl) ⟨rfl, hF⟩ hP hD hK hS hT hE (Nat.le_of_ble_eq_true rfl) (Nat.le_of_ble_eq_true rfl)

abbrev rm_X9_count : Room := { frames := 6, cells := 1, slots := 6, locals := 82 }
theorem inw_X9_count_8 : ∀ w ∈ wsX80, w ∈ wsX9_count := by decide +kernel
theorem inw_X9_count_9 : ∀ w ∈ wsX90, w ∈ wsX9_count := by decide +kernel
theorem inx_X9_count_9 : ∀ w ∈ (xN RX9 153).filter goodWord, w ∈ wsX9_count := fun _ h => List.mem_cons_of_mem _ (List.mem_append_right _ h)
set_option maxHeartbeats 800000 in
set_option maxRecDepth 100000 in
theorem t_X9_count (l : Launch) (dC : Nat → ClassId) (dI : Nat → Nat → Nat) (sa : Nat → Nat) (hlt : l.stackTraces = false) (g : Nat → Nat) (L : List Nat) (f : Nat → va_E) (h0 : Nat) (a : Int32) (sz : Nat) (hT : TP g L f [(h0, (0, 9, 0))]) : KX l dC dI sa g yX9_count wsX9_count rm_X9_count [.ref h0, .int a] L f sz (fun r L' f' => (∃ z : Int32, r = some (.int z)) ∧ Fr [] L f f') (fun E L' f' => (E = NSE) ∧ Fr [] L f f') 1 6 := by
  refine KX.start (cc := cX9_count) (maxL := 2) (ret := (some .int)) (by decide) rfl (Nat.le_of_ble_eq_true rfl) ?_
  intro p e s m below meth c ls hst hno hP hK hD hev hS hl
  obtain ⟨hx, hb, hr, hml, hts, hown, hlocks, hin⟩ := hst
  have hown : s.vm.findClass RX9 = some m.cls := hown
  have hin : meth.name = yX9_count.name := hin
  have hA : ∀ q : Nat, s.heap.size ≤ q → va_A (va_pl L f) s.heap.size q := fun _ h => Or.inr h
  have hE : Ext L f L f := Ext.rf
  have hF : Fr [] L f f := Fr.rf
  have hl : lv_has ls 2 [(0, .ref h0), (1, .int a)] := hl
  refine lv_iload_n hx hb dX9_count_0 rfl (lv_at hl 1 rfl) ?_
  by_cases c_1 : a = 0
  · refine lv_tableIn (tgt := 40) hx hb dX9_count_1 (by rw [c_1]; decide) (by rw [c_1]; decide) (by rw [c_1]; rfl) (by decide) ?_
    refine lv_aload_n hx hb dX9_count_40 rfl (lv_at hl 0 rfl) ?_
    refine T_get (ci := 9) (C := RX9) (T := TX9) (N := 11) (t := (1, 0, 8, 0)) hx hb hts inw_X9_count_9 hown hK hP hT 0 rfl rfl 0 (by decide) (hts (.fieldLink RX9 10 "VatHouse" "works" "LVatHouse$Works;") (by decide +kernel)) (fun _ h9 => h9) rfl dX9_count_41 (fun v_4 hv_2 hr_3 => ?_)
    obtain ⟨b_5, rfl, hb9⟩ := hv_2
    have hT := hT.add hb9
    refine T_get (ci := 8) (C := RX8) (T := TX8) (N := 3) (t := tI) hx hb hts inw_X9_count_8 hown hK hP hT 0 rfl rfl 1 (by decide) (hts (.fieldLink RX9 89 "VatHouse$Works" "hours" "I") (by decide +kernel)) (fun _ h9 => h9) rfl dX9_count_44 (fun v_8 hv_6 hr_7 => ?_)
    obtain ⟨z_9, rfl⟩ := hv_6
    refine vx_ret ?_
    exact K_i hx hb hr hlocks hP hD hK hS hT hE ⟨⟨_, rfl⟩, hF⟩ (Nat.le_of_ble_eq_true rfl) (Nat.le_of_ble_eq_true rfl) dX9_count_47
  by_cases c_10 : a = 1
  · refine lv_tableIn (tgt := 48) hx hb dX9_count_1 (by rw [c_10]; decide) (by rw [c_10]; decide) (by rw [c_10]; rfl) (by decide) ?_
    refine lv_aload_n hx hb dX9_count_48 rfl (lv_at hl 0 rfl) ?_
    refine T_get (ci := 9) (C := RX9) (T := TX9) (N := 11) (t := (1, 0, 8, 0)) hx hb hts inw_X9_count_9 hown hK hP hT 0 rfl rfl 0 (by decide) (hts (.fieldLink RX9 10 "VatHouse" "works" "LVatHouse$Works;") (by decide +kernel)) (fun _ h9 => h9) rfl dX9_count_49 (fun v_13 hv_11 hr_12 => ?_)
    obtain ⟨b_14, rfl, hb9⟩ := hv_11
    have hT := hT.add hb9
    refine T_get (ci := 8) (C := RX8) (T := TX8) (N := 3) (t := tI) hx hb hts inw_X9_count_8 hown hK hP hT 0 rfl rfl 2 (by decide) (hts (.fieldLink RX9 233 "VatHouse$Works" "drain" "I") (by decide +kernel)) (fun _ h9 => h9) rfl dX9_count_52 (fun v_17 hv_15 hr_16 => ?_)
    obtain ⟨z_18, rfl⟩ := hv_15
    refine vx_ret ?_
    exact K_i hx hb hr hlocks hP hD hK hS hT hE ⟨⟨_, rfl⟩, hF⟩ (Nat.le_of_ble_eq_true rfl) (Nat.le_of_ble_eq_true rfl) dX9_count_55
  by_cases c_19 : a = 2
  · refine lv_tableIn (tgt := 56) hx hb dX9_count_1 (by rw [c_19]; decide) (by rw [c_19]; decide) (by rw [c_19]; rfl) (by decide) ?_
    refine lv_aload_n hx hb dX9_count_56 rfl (lv_at hl 0 rfl) ?_
    refine T_get (ci := 9) (C := RX9) (T := TX9) (N := 11) (t := tI) hx hb hts inw_X9_count_9 hown hK hP hT 0 rfl rfl 2 (by decide) (hts (.fieldLink RX9 92 "VatHouse" "clothsMade" "I") (by decide +kernel)) (fun _ h9 => h9) rfl dX9_count_57 (fun v_22 hv_20 hr_21 => ?_)
    obtain ⟨z_23, rfl⟩ := hv_20
    refine vx_ret ?_
    exact K_i hx hb hr hlocks hP hD hK hS hT hE ⟨⟨_, rfl⟩, hF⟩ (Nat.le_of_ble_eq_true rfl) (Nat.le_of_ble_eq_true rfl) dX9_count_60
  by_cases c_24 : a = 3
  · refine lv_tableIn (tgt := 61) hx hb dX9_count_1 (by rw [c_24]; decide) (by rw [c_24]; decide) (by rw [c_24]; rfl) (by decide) ?_
    refine lv_aload_n hx hb dX9_count_61 rfl (lv_at hl 0 rfl) ?_
    refine T_get (ci := 9) (C := RX9) (T := TX9) (N := 11) (t := tI) hx hb hts inw_X9_count_9 hown hK hP hT 0 rfl rfl 3 (by decide) (hts (.fieldLink RX9 68 "VatHouse" "grainsPutIn" "I") (by decide +kernel)) (fun _ h9 => h9) rfl dX9_count_62 (fun v_27 hv_25 hr_26 => ?_)
    obtain ⟨z_28, rfl⟩ := hv_25
    refine vx_ret ?_
    exact K_i hx hb hr hlocks hP hD hK hS hT hE ⟨⟨_, rfl⟩, hF⟩ (Nat.le_of_ble_eq_true rfl) (Nat.le_of_ble_eq_true rfl) dX9_count_65
  by_cases c_29 : a = 4
  · refine lv_tableIn (tgt := 66) hx hb dX9_count_1 (by rw [c_29]; decide) (by rw [c_29]; decide) (by rw [c_29]; rfl) (by decide) ?_
    refine lv_aload_n hx hb dX9_count_66 rfl (lv_at hl 0 rfl) ?_
    refine T_get (ci := 9) (C := RX9) (T := TX9) (N := 11) (t := tI) hx hb hts inw_X9_count_9 hown hK hP hT 0 rfl rfl 5 (by decide) (hts (.fieldLink RX9 124 "VatHouse" "tapeLength" "I") (by decide +kernel)) (fun _ h9 => h9) rfl dX9_count_67 (fun v_32 hv_30 hr_31 => ?_)
    obtain ⟨z_33, rfl⟩ := hv_30
    refine vx_ret ?_
    exact K_i hx hb hr hlocks hP hD hK hS hT hE ⟨⟨_, rfl⟩, hF⟩ (Nat.le_of_ble_eq_true rfl) (Nat.le_of_ble_eq_true rfl) dX9_count_70
  by_cases c_34 : a = 5
  · refine lv_tableIn (tgt := 71) hx hb dX9_count_1 (by rw [c_34]; decide) (by rw [c_34]; decide) (by rw [c_34]; rfl) (by decide) ?_
    refine lv_aload_n hx hb dX9_count_71 rfl (lv_at hl 0 rfl) ?_
    refine T_get (ci := 9) (C := RX9) (T := TX9) (N := 11) (t := tI) hx hb hts inw_X9_count_9 hown hK hP hT 0 rfl rfl 8 (by decide) (hts (.fieldLink RX9 143 "VatHouse" "stepsRead" "I") (by decide +kernel)) (fun _ h9 => h9) rfl dX9_count_72 (fun v_37 hv_35 hr_36 => ?_)
    obtain ⟨z_38, rfl⟩ := hv_35
    refine vx_ret ?_
    exact K_i hx hb hr hlocks hP hD hK hS hT hE ⟨⟨_, rfl⟩, hF⟩ (Nat.le_of_ble_eq_true rfl) (Nat.le_of_ble_eq_true rfl) dX9_count_75
  refine lv_tableOut (tgt := 76) hx hb dX9_count_1 (tab_out6 c_1 c_10 c_19 c_24 c_29 c_34) (by decide) ?_
  exact K_x (cls := NSE) hno hx hb hlt hlocks hown hts xg_0 xg_1 xg_2 xg_5 (by decide +kernel) (hts (.classLink RX9 149 NSE) (by decide +kernel)) (hts (.initialized NSE) (by decide +kernel)) hev.2.1.2.2.2.1 (inx_X9_count_9) xb_9 hev.2.2.1.1 xo_9 hev (hl.1.trans hml.symm) dX9_count_76 dX9_count_79 dX9_count_80 dX9_count_82 dX9_count_85 (Nat.le_of_ble_eq_true rfl) (Nat.le_of_ble_eq_true rfl) (Nat.le_of_ble_eq_true rfl) (Nat.le_of_ble_eq_true rfl) ⟨rfl, hF⟩ hP hD hK hS hT hE (Nat.le_of_ble_eq_true rfl) (Nat.le_of_ble_eq_true rfl)

abbrev rm_X9_faded : Room := { frames := 7, cells := 2, slots := 12, locals := 104 }
set_option maxHeartbeats 800000 in
set_option maxRecDepth 100000 in
theorem t_X9_faded (l : Launch) (dC : Nat → ClassId) (dI : Nat → Nat → Nat) (sa : Nat → Nat) (hlt : l.stackTraces = false) (g : Nat → Nat) (L : List Nat) (f : Nat → va_E) (h0 : Nat) (a : Int32) (b : Int32) (cq : Int32) (sz : Nat) (hT : TP g L f [(h0, (0, 9, 0))]) : KX l dC dI sa g yX9_faded wsX9_faded rm_X9_faded [.ref h0, .int a, .int b, .int cq] L f sz (fun r L' f' => (∃ z : Int32, r = some (.int z)) ∧ Fr [] L f f') (fun E L' f' => (E = NSE ∨ E = IAE) ∧ Fr [] L f f') 2 12 := by
  refine KX.start (cc := cX9_faded) (maxL := 5) (ret := (some .int)) (by decide) rfl (Nat.le_of_ble_eq_true rfl) ?_
  intro p e s m below meth c ls hst hno hP hK hD hev hS hl
  obtain ⟨hx, hb, hr, hml, hts, hown, hlocks, hin⟩ := hst
  have hown : s.vm.findClass RX9 = some m.cls := hown
  have hin : meth.name = yX9_faded.name := hin
  have hA : ∀ q : Nat, s.heap.size ≤ q → va_A (va_pl L f) s.heap.size q := fun _ h => Or.inr h
  have hE : Ext L f L f := Ext.rf
  have hF : Fr [] L f f := Fr.rf
  have hl : lv_has ls 5 [(0, .ref h0), (1, .int a), (2, .int b), (3, .int cq)] := hl
  refine lv_aload_n hx hb dX9_faded_0 rfl (lv_at hl 0 rfl) ?_
  refine lv_iload_n hx hb dX9_faded_1 rfl (lv_at hl 1 rfl) ?_
  refine K_VX ⟨hx, hb, hml, hown, hts⟩ (t_X9_clothAt l dC dI sa hlt g _ _ h0 a _ (hT.sub [0] rfl)  ) (cwV 1 hts gX9_faded_X9_clothAt rfl rfl rfl (by decide +kernel) ⟨Nat.le_of_ble_eq_true rfl, Nat.le_of_ble_eq_true rfl⟩) hP hD hK hS hA hev hT 0 9 rfl rfl rfl rfl hl.1 rfl (Nat.le_of_ble_eq_true rfl) dX9_faded_2 ⟨Nat.le_of_ble_eq_true rfl, Nat.le_of_ble_eq_true rfl⟩ (fun E ce q9 L9 f9 H locs hpx hP hD hS hT hE1 hce hcv hcl => ?_) (fun r L_1 f_2 H locs hw_3 hP hD hS hT hE1 => ?_)
  · have hF := Fr.call hF hE hpx.2 (by decide)
    have hE := hE.tr hE1
    exact K_out hno hlocks ⟨Or.inl hpx.1, hF⟩ hP hD hK hS hT hE hce hcv hcl (Nat.le_of_ble_eq_true rfl) (Nat.le_of_ble_eq_true rfl)
  have hF := Fr.call hF hE hw_3.2 (by decide)
  have hE := hE.tr hE1
  obtain ⟨⟨v_4, rfl, hv9⟩, hw_3⟩ := hw_3
  obtain ⟨b_5, rfl, hb9⟩ := hv9
  have hT := hT.add hb9
  refine W.eq (g2 := F0 m 5 ls [.ref b_5]) rfl ?_
  refine lv_astore (lv' := [(4, .ref b_5), (0, .ref h0), (1, .int a), (2, .int b), (3, .int cq)]) hx hb dX9_faded_5 hl (by decide) rfl (fun ls hl => ?_)
  refine lv_iload_n hx hb dX9_faded_7 rfl (lv_at hl 4 rfl) ?_
  refine lv_if_lt (tgt := 30) hx hb dX9_faded_8 (by decide) (fun c_6 => ?_) (fun c_6 => ?_)
  · refine lv_iconst (v := 0) hx hb dX9_faded_30 (by decide) ?_
    refine K_SX ⟨hx, hb, hml, hown, hts⟩ (t_X9_demand l dC dI sa hlt g _ _ 0 _ (hT.sub [] rfl)  ) (va_cwS 1 hts gX9_faded_X9_demand rfl rfl rfl (by decide +kernel) ⟨Nat.le_of_ble_eq_true rfl, Nat.le_of_ble_eq_true rfl⟩) hP hD hK hS hA hev hT rfl hl.1 rfl (Nat.le_of_ble_eq_true rfl) dX9_faded_31 ⟨Nat.le_of_ble_eq_true rfl, Nat.le_of_ble_eq_true rfl⟩ (fun E ce q9 L9 f9 H locs hpx hP hD hS hT hE1 hce hcv hcl => ?_) (fun r L_7 f_8 H locs hw_9 hP hD hS hT hE1 => ?_)
    · have hF := Fr.call hF hE hpx.2 (by decide)
      have hE := hE.tr hE1
      exact K_out hno hlocks ⟨Or.inr hpx.1, hF⟩ hP hD hK hS hT hE hce hcv hcl (Nat.le_of_ble_eq_true rfl) (Nat.le_of_ble_eq_true rfl)
    have hF := Fr.call hF hE hw_9.2 (by decide)
    have hE := hE.tr hE1
    obtain ⟨rfl, hw_9⟩ := hw_9
    refine W.eq (g2 := F0 m 34 ls []) rfl ?_
    refine lv_aload hx hb dX9_faded_34 (lv_at hl 0 rfl) ?_
    refine lv_iload_n hx hb dX9_faded_36 rfl (lv_at hl 3 rfl) ?_
    refine K_V ⟨hx, hb, hml, hown, hts⟩ (t_X0_hasSpan l dC dI sa hlt g _ _ b_5 b _ (hT.sub [0] rfl)  ) (cwV 1 hts gX9_faded_X0_hasSpan rfl rfl rfl (by decide +kernel) ⟨Nat.le_of_ble_eq_true rfl, Nat.le_of_ble_eq_true rfl⟩) hP hD hK hS hA hev hT 0 0 rfl rfl rfl rfl hl.1 rfl (Nat.le_of_ble_eq_true rfl) dX9_faded_37 ⟨Nat.le_of_ble_eq_true rfl, Nat.le_of_ble_eq_true rfl⟩ (fun r L_10 f_11 H locs hw_12 hP hD hS hT hE1 => ?_)
    have hF := Fr.call hF hE hw_12.2 (by decide)
    have hE := hE.tr hE1
    obtain ⟨⟨z_13, rfl, hz_z_13⟩, hw_12⟩ := hw_12
    refine W.eq (g2 := F0 m 40 ls [.int z_13]) rfl ?_
    refine lv_if_ne (tgt := 45) hx hb dX9_faded_40 (by decide) (fun c_14 => ?_) (fun c_14 => ?_)
    · refine lv_iload_n hx hb dX9_faded_45 rfl (lv_at hl 4 rfl) ?_
      refine lv_if_ne (tgt := 58) hx hb dX9_faded_46 (by decide) (fun c_15 => ?_) (fun c_15 => ?_)
      · refine lv_aload hx hb dX9_faded_58 (lv_at hl 0 rfl) ?_
        refine lv_iload_n hx hb dX9_faded_60 rfl (lv_at hl 3 rfl) ?_
        refine K_V ⟨hx, hb, hml, hown, hts⟩ (t_X0_greatestShade l dC dI sa hlt g _ _ b_5 b _ (hT.sub [0] rfl)  ) (cwV 1 hts gX9_faded_X0_greatestShade rfl rfl rfl (by decide +kernel) ⟨Nat.le_of_ble_eq_true rfl, Nat.le_of_ble_eq_true rfl⟩) hP hD hK hS hA hev hT 0 0 rfl rfl rfl rfl hl.1 rfl (Nat.le_of_ble_eq_true rfl) dX9_faded_61 ⟨Nat.le_of_ble_eq_true rfl, Nat.le_of_ble_eq_true rfl⟩ (fun r L_16 f_17 H locs hw_18 hP hD hS hT hE1 => ?_)
        have hF := Fr.call hF hE hw_18.2 (by decide)
        have hE := hE.tr hE1
        obtain ⟨⟨z_19, rfl⟩, hw_18⟩ := hw_18
        refine W.eq (g2 := F0 m 64 ls [.int z_19]) rfl ?_
        refine vx_ret ?_
        exact K_i hx hb hr hlocks hP hD hK hS hT hE ⟨⟨_, rfl⟩, hF⟩ (Nat.le_of_ble_eq_true rfl) (Nat.le_of_ble_eq_true rfl) dX9_faded_64
      · refine lv_aload hx hb dX9_faded_49 (lv_at hl 0 rfl) ?_
        refine lv_iload_n hx hb dX9_faded_51 rfl (lv_at hl 3 rfl) ?_
        refine K_V ⟨hx, hb, hml, hown, hts⟩ (t_X0_leastShade l dC dI sa hlt g _ _ b_5 b _ (hT.sub [0] rfl)  ) (cwV 1 hts gX9_faded_X0_leastShade rfl rfl rfl (by decide +kernel) ⟨Nat.le_of_ble_eq_true rfl, Nat.le_of_ble_eq_true rfl⟩) hP hD hK hS hA hev hT 0 0 rfl rfl rfl rfl hl.1 rfl (Nat.le_of_ble_eq_true rfl) dX9_faded_52 ⟨Nat.le_of_ble_eq_true rfl, Nat.le_of_ble_eq_true rfl⟩ (fun r L_20 f_21 H locs hw_22 hP hD hS hT hE1 => ?_)
        have hF := Fr.call hF hE hw_22.2 (by decide)
        have hE := hE.tr hE1
        obtain ⟨⟨z_23, rfl⟩, hw_22⟩ := hw_22
        refine W.eq (g2 := F0 m 55 ls [.int z_23]) rfl ?_
        refine lv_goto (tgt := 64) hx hb dX9_faded_55 (by decide) ?_
        refine vx_ret ?_
        exact K_i hx hb hr hlocks hP hD hK hS hT hE ⟨⟨_, rfl⟩, hF⟩ (Nat.le_of_ble_eq_true rfl) (Nat.le_of_ble_eq_true rfl) dX9_faded_64
    · refine lv_iconst (v := (-1)) hx hb dX9_faded_43 (by decide) ?_
      refine vx_ret ?_
      exact K_i hx hb hr hlocks hP hD hK hS hT hE ⟨⟨_, rfl⟩, hF⟩ (Nat.le_of_ble_eq_true rfl) (Nat.le_of_ble_eq_true rfl) dX9_faded_44
  · refine lv_iload_n hx hb dX9_faded_11 rfl (lv_at hl 4 rfl) ?_
    refine lv_iconst (v := 1) hx hb dX9_faded_12 (by decide) ?_
    refine lv_icmp_gt (tgt := 30) hx hb dX9_faded_13 (by decide) (fun c_24 => ?_) (fun c_24 => ?_)
    · refine lv_iconst (v := 0) hx hb dX9_faded_30 (by decide) ?_
      refine K_SX ⟨hx, hb, hml, hown, hts⟩ (t_X9_demand l dC dI sa hlt g _ _ 0 _ (hT.sub [] rfl)  ) (va_cwS 1 hts gX9_faded_X9_demand rfl rfl rfl (by decide +kernel) ⟨Nat.le_of_ble_eq_true rfl, Nat.le_of_ble_eq_true rfl⟩) hP hD hK hS hA hev hT rfl hl.1 rfl (Nat.le_of_ble_eq_true rfl) dX9_faded_31 ⟨Nat.le_of_ble_eq_true rfl, Nat.le_of_ble_eq_true rfl⟩ (fun E ce q9 L9 f9 H locs hpx hP hD hS hT hE1 hce hcv hcl => ?_) (fun r L_25 f_26 H locs hw_27 hP hD hS hT hE1 => ?_)
      · have hF := Fr.call hF hE hpx.2 (by decide)
        have hE := hE.tr hE1
        exact K_out hno hlocks ⟨Or.inr hpx.1, hF⟩ hP hD hK hS hT hE hce hcv hcl (Nat.le_of_ble_eq_true rfl) (Nat.le_of_ble_eq_true rfl)
      have hF := Fr.call hF hE hw_27.2 (by decide)
      have hE := hE.tr hE1
      obtain ⟨rfl, hw_27⟩ := hw_27
      refine W.eq (g2 := F0 m 34 ls []) rfl ?_
      refine lv_aload hx hb dX9_faded_34 (lv_at hl 0 rfl) ?_
      refine lv_iload_n hx hb dX9_faded_36 rfl (lv_at hl 3 rfl) ?_
      refine K_V ⟨hx, hb, hml, hown, hts⟩ (t_X0_hasSpan l dC dI sa hlt g _ _ b_5 b _ (hT.sub [0] rfl)  ) (cwV 1 hts gX9_faded_X0_hasSpan rfl rfl rfl (by decide +kernel) ⟨Nat.le_of_ble_eq_true rfl, Nat.le_of_ble_eq_true rfl⟩) hP hD hK hS hA hev hT 0 0 rfl rfl rfl rfl hl.1 rfl (Nat.le_of_ble_eq_true rfl) dX9_faded_37 ⟨Nat.le_of_ble_eq_true rfl, Nat.le_of_ble_eq_true rfl⟩ (fun r L_28 f_29 H locs hw_30 hP hD hS hT hE1 => ?_)
      have hF := Fr.call hF hE hw_30.2 (by decide)
      have hE := hE.tr hE1
      obtain ⟨⟨z_31, rfl, hz_z_31⟩, hw_30⟩ := hw_30
      refine W.eq (g2 := F0 m 40 ls [.int z_31]) rfl ?_
      refine lv_if_ne (tgt := 45) hx hb dX9_faded_40 (by decide) (fun c_32 => ?_) (fun c_32 => ?_)
      · refine lv_iload_n hx hb dX9_faded_45 rfl (lv_at hl 4 rfl) ?_
        refine lv_if_ne (tgt := 58) hx hb dX9_faded_46 (by decide) (fun c_33 => ?_) (fun c_33 => ?_)
        · refine lv_aload hx hb dX9_faded_58 (lv_at hl 0 rfl) ?_
          refine lv_iload_n hx hb dX9_faded_60 rfl (lv_at hl 3 rfl) ?_
          refine K_V ⟨hx, hb, hml, hown, hts⟩ (t_X0_greatestShade l dC dI sa hlt g _ _ b_5 b _ (hT.sub [0] rfl)  ) (cwV 1 hts gX9_faded_X0_greatestShade rfl rfl rfl (by decide +kernel) ⟨Nat.le_of_ble_eq_true rfl, Nat.le_of_ble_eq_true rfl⟩) hP hD hK hS hA hev hT 0 0 rfl rfl rfl rfl hl.1 rfl (Nat.le_of_ble_eq_true rfl) dX9_faded_61 ⟨Nat.le_of_ble_eq_true rfl, Nat.le_of_ble_eq_true rfl⟩ (fun r L_34 f_35 H locs hw_36 hP hD hS hT hE1 => ?_)
          have hF := Fr.call hF hE hw_36.2 (by decide)
          have hE := hE.tr hE1
          obtain ⟨⟨z_37, rfl⟩, hw_36⟩ := hw_36
          refine W.eq (g2 := F0 m 64 ls [.int z_37]) rfl ?_
          refine vx_ret ?_
          exact K_i hx hb hr hlocks hP hD hK hS hT hE ⟨⟨_, rfl⟩, hF⟩ (Nat.le_of_ble_eq_true rfl) (Nat.le_of_ble_eq_true rfl) dX9_faded_64
        · refine lv_aload hx hb dX9_faded_49 (lv_at hl 0 rfl) ?_
          refine lv_iload_n hx hb dX9_faded_51 rfl (lv_at hl 3 rfl) ?_
          refine K_V ⟨hx, hb, hml, hown, hts⟩ (t_X0_leastShade l dC dI sa hlt g _ _ b_5 b _ (hT.sub [0] rfl)  ) (cwV 1 hts gX9_faded_X0_leastShade rfl rfl rfl (by decide +kernel) ⟨Nat.le_of_ble_eq_true rfl, Nat.le_of_ble_eq_true rfl⟩) hP hD hK hS hA hev hT 0 0 rfl rfl rfl rfl hl.1 rfl (Nat.le_of_ble_eq_true rfl) dX9_faded_52 ⟨Nat.le_of_ble_eq_true rfl, Nat.le_of_ble_eq_true rfl⟩ (fun r L_38 f_39 H locs hw_40 hP hD hS hT hE1 => ?_)
          have hF := Fr.call hF hE hw_40.2 (by decide)
          have hE := hE.tr hE1
          obtain ⟨⟨z_41, rfl⟩, hw_40⟩ := hw_40
          refine W.eq (g2 := F0 m 55 ls [.int z_41]) rfl ?_
          refine lv_goto (tgt := 64) hx hb dX9_faded_55 (by decide) ?_
          refine vx_ret ?_
          exact K_i hx hb hr hlocks hP hD hK hS hT hE ⟨⟨_, rfl⟩, hF⟩ (Nat.le_of_ble_eq_true rfl) (Nat.le_of_ble_eq_true rfl) dX9_faded_64
      · refine lv_iconst (v := (-1)) hx hb dX9_faded_43 (by decide) ?_
        refine vx_ret ?_
        exact K_i hx hb hr hlocks hP hD hK hS hT hE ⟨⟨_, rfl⟩, hF⟩ (Nat.le_of_ble_eq_true rfl) (Nat.le_of_ble_eq_true rfl) dX9_faded_44
    · refine lv_iload_n hx hb dX9_faded_16 rfl (lv_at hl 3 rfl) ?_
      refine lv_if_lt (tgt := 30) hx hb dX9_faded_17 (by decide) (fun c_42 => ?_) (fun c_42 => ?_)
      · refine lv_iconst (v := 0) hx hb dX9_faded_30 (by decide) ?_
        refine K_SX ⟨hx, hb, hml, hown, hts⟩ (t_X9_demand l dC dI sa hlt g _ _ 0 _ (hT.sub [] rfl)  ) (va_cwS 1 hts gX9_faded_X9_demand rfl rfl rfl (by decide +kernel) ⟨Nat.le_of_ble_eq_true rfl, Nat.le_of_ble_eq_true rfl⟩) hP hD hK hS hA hev hT rfl hl.1 rfl (Nat.le_of_ble_eq_true rfl) dX9_faded_31 ⟨Nat.le_of_ble_eq_true rfl, Nat.le_of_ble_eq_true rfl⟩ (fun E ce q9 L9 f9 H locs hpx hP hD hS hT hE1 hce hcv hcl => ?_) (fun r L_43 f_44 H locs hw_45 hP hD hS hT hE1 => ?_)
        · have hF := Fr.call hF hE hpx.2 (by decide)
          have hE := hE.tr hE1
          exact K_out hno hlocks ⟨Or.inr hpx.1, hF⟩ hP hD hK hS hT hE hce hcv hcl (Nat.le_of_ble_eq_true rfl) (Nat.le_of_ble_eq_true rfl)
        have hF := Fr.call hF hE hw_45.2 (by decide)
        have hE := hE.tr hE1
        obtain ⟨rfl, hw_45⟩ := hw_45
        refine W.eq (g2 := F0 m 34 ls []) rfl ?_
        refine lv_aload hx hb dX9_faded_34 (lv_at hl 0 rfl) ?_
        refine lv_iload_n hx hb dX9_faded_36 rfl (lv_at hl 3 rfl) ?_
        refine K_V ⟨hx, hb, hml, hown, hts⟩ (t_X0_hasSpan l dC dI sa hlt g _ _ b_5 b _ (hT.sub [0] rfl)  ) (cwV 1 hts gX9_faded_X0_hasSpan rfl rfl rfl (by decide +kernel) ⟨Nat.le_of_ble_eq_true rfl, Nat.le_of_ble_eq_true rfl⟩) hP hD hK hS hA hev hT 0 0 rfl rfl rfl rfl hl.1 rfl (Nat.le_of_ble_eq_true rfl) dX9_faded_37 ⟨Nat.le_of_ble_eq_true rfl, Nat.le_of_ble_eq_true rfl⟩ (fun r L_46 f_47 H locs hw_48 hP hD hS hT hE1 => ?_)
        have hF := Fr.call hF hE hw_48.2 (by decide)
        have hE := hE.tr hE1
        obtain ⟨⟨z_49, rfl, hz_z_49⟩, hw_48⟩ := hw_48
        refine W.eq (g2 := F0 m 40 ls [.int z_49]) rfl ?_
        refine lv_if_ne (tgt := 45) hx hb dX9_faded_40 (by decide) (fun c_50 => ?_) (fun c_50 => ?_)
        · refine lv_iload_n hx hb dX9_faded_45 rfl (lv_at hl 4 rfl) ?_
          refine lv_if_ne (tgt := 58) hx hb dX9_faded_46 (by decide) (fun c_51 => ?_) (fun c_51 => ?_)
          · refine lv_aload hx hb dX9_faded_58 (lv_at hl 0 rfl) ?_
            refine lv_iload_n hx hb dX9_faded_60 rfl (lv_at hl 3 rfl) ?_
            refine K_V ⟨hx, hb, hml, hown, hts⟩ (t_X0_greatestShade l dC dI sa hlt g _ _ b_5 b _ (hT.sub [0] rfl)  ) (cwV 1 hts gX9_faded_X0_greatestShade rfl rfl rfl (by decide +kernel) ⟨Nat.le_of_ble_eq_true rfl, Nat.le_of_ble_eq_true rfl⟩) hP hD hK hS hA hev hT 0 0 rfl rfl rfl rfl hl.1 rfl (Nat.le_of_ble_eq_true rfl) dX9_faded_61 ⟨Nat.le_of_ble_eq_true rfl, Nat.le_of_ble_eq_true rfl⟩ (fun r L_52 f_53 H locs hw_54 hP hD hS hT hE1 => ?_)
            have hF := Fr.call hF hE hw_54.2 (by decide)
            have hE := hE.tr hE1
            obtain ⟨⟨z_55, rfl⟩, hw_54⟩ := hw_54
            refine W.eq (g2 := F0 m 64 ls [.int z_55]) rfl ?_
            refine vx_ret ?_
            exact K_i hx hb hr hlocks hP hD hK hS hT hE ⟨⟨_, rfl⟩, hF⟩ (Nat.le_of_ble_eq_true rfl) (Nat.le_of_ble_eq_true rfl) dX9_faded_64
          · refine lv_aload hx hb dX9_faded_49 (lv_at hl 0 rfl) ?_
            refine lv_iload_n hx hb dX9_faded_51 rfl (lv_at hl 3 rfl) ?_
            refine K_V ⟨hx, hb, hml, hown, hts⟩ (t_X0_leastShade l dC dI sa hlt g _ _ b_5 b _ (hT.sub [0] rfl)  ) (cwV 1 hts gX9_faded_X0_leastShade rfl rfl rfl (by decide +kernel) ⟨Nat.le_of_ble_eq_true rfl, Nat.le_of_ble_eq_true rfl⟩) hP hD hK hS hA hev hT 0 0 rfl rfl rfl rfl hl.1 rfl (Nat.le_of_ble_eq_true rfl) dX9_faded_52 ⟨Nat.le_of_ble_eq_true rfl, Nat.le_of_ble_eq_true rfl⟩ (fun r L_56 f_57 H locs hw_58 hP hD hS hT hE1 => ?_)
            have hF := Fr.call hF hE hw_58.2 (by decide)
            have hE := hE.tr hE1
            obtain ⟨⟨z_59, rfl⟩, hw_58⟩ := hw_58
            refine W.eq (g2 := F0 m 55 ls [.int z_59]) rfl ?_
            refine lv_goto (tgt := 64) hx hb dX9_faded_55 (by decide) ?_
            refine vx_ret ?_
            exact K_i hx hb hr hlocks hP hD hK hS hT hE ⟨⟨_, rfl⟩, hF⟩ (Nat.le_of_ble_eq_true rfl) (Nat.le_of_ble_eq_true rfl) dX9_faded_64
        · refine lv_iconst (v := (-1)) hx hb dX9_faded_43 (by decide) ?_
          refine vx_ret ?_
          exact K_i hx hb hr hlocks hP hD hK hS hT hE ⟨⟨_, rfl⟩, hF⟩ (Nat.le_of_ble_eq_true rfl) (Nat.le_of_ble_eq_true rfl) dX9_faded_44
      · refine lv_iload_n hx hb dX9_faded_20 rfl (lv_at hl 3 rfl) ?_
        refine lv_ldc (v := 1000000) hx hb hown (hts (.constant RX9 61 (1000000)) (by decide +kernel)) dX9_faded_21 ?_
        refine lv_icmp_gt (tgt := 30) hx hb dX9_faded_23 (by decide) (fun c_60 => ?_) (fun c_60 => ?_)
        · refine lv_iconst (v := 0) hx hb dX9_faded_30 (by decide) ?_
          refine K_SX ⟨hx, hb, hml, hown, hts⟩ (t_X9_demand l dC dI sa hlt g _ _ 0 _ (hT.sub [] rfl)  ) (va_cwS 1 hts gX9_faded_X9_demand rfl rfl rfl (by decide +kernel) ⟨Nat.le_of_ble_eq_true rfl, Nat.le_of_ble_eq_true rfl⟩) hP hD hK hS hA hev hT rfl hl.1 rfl (Nat.le_of_ble_eq_true rfl) dX9_faded_31 ⟨Nat.le_of_ble_eq_true rfl, Nat.le_of_ble_eq_true rfl⟩ (fun E ce q9 L9 f9 H locs hpx hP hD hS hT hE1 hce hcv hcl => ?_) (fun r L_61 f_62 H locs hw_63 hP hD hS hT hE1 => ?_)
          · have hF := Fr.call hF hE hpx.2 (by decide)
            have hE := hE.tr hE1
            exact K_out hno hlocks ⟨Or.inr hpx.1, hF⟩ hP hD hK hS hT hE hce hcv hcl (Nat.le_of_ble_eq_true rfl) (Nat.le_of_ble_eq_true rfl)
          have hF := Fr.call hF hE hw_63.2 (by decide)
          have hE := hE.tr hE1
          obtain ⟨rfl, hw_63⟩ := hw_63
          refine W.eq (g2 := F0 m 34 ls []) rfl ?_
          refine lv_aload hx hb dX9_faded_34 (lv_at hl 0 rfl) ?_
          refine lv_iload_n hx hb dX9_faded_36 rfl (lv_at hl 3 rfl) ?_
          refine K_V ⟨hx, hb, hml, hown, hts⟩ (t_X0_hasSpan l dC dI sa hlt g _ _ b_5 b _ (hT.sub [0] rfl)  ) (cwV 1 hts gX9_faded_X0_hasSpan rfl rfl rfl (by decide +kernel) ⟨Nat.le_of_ble_eq_true rfl, Nat.le_of_ble_eq_true rfl⟩) hP hD hK hS hA hev hT 0 0 rfl rfl rfl rfl hl.1 rfl (Nat.le_of_ble_eq_true rfl) dX9_faded_37 ⟨Nat.le_of_ble_eq_true rfl, Nat.le_of_ble_eq_true rfl⟩ (fun r L_64 f_65 H locs hw_66 hP hD hS hT hE1 => ?_)
          have hF := Fr.call hF hE hw_66.2 (by decide)
          have hE := hE.tr hE1
          obtain ⟨⟨z_67, rfl, hz_z_67⟩, hw_66⟩ := hw_66
          refine W.eq (g2 := F0 m 40 ls [.int z_67]) rfl ?_
          refine lv_if_ne (tgt := 45) hx hb dX9_faded_40 (by decide) (fun c_68 => ?_) (fun c_68 => ?_)
          · refine lv_iload_n hx hb dX9_faded_45 rfl (lv_at hl 4 rfl) ?_
            refine lv_if_ne (tgt := 58) hx hb dX9_faded_46 (by decide) (fun c_69 => ?_) (fun c_69 => ?_)
            · refine lv_aload hx hb dX9_faded_58 (lv_at hl 0 rfl) ?_
              refine lv_iload_n hx hb dX9_faded_60 rfl (lv_at hl 3 rfl) ?_
              refine K_V ⟨hx, hb, hml, hown, hts⟩ (t_X0_greatestShade l dC dI sa hlt g _ _ b_5 b _ (hT.sub [0] rfl)  ) (cwV 1 hts gX9_faded_X0_greatestShade rfl rfl rfl (by decide +kernel) ⟨Nat.le_of_ble_eq_true rfl, Nat.le_of_ble_eq_true rfl⟩) hP hD hK hS hA hev hT 0 0 rfl rfl rfl rfl hl.1 rfl (Nat.le_of_ble_eq_true rfl) dX9_faded_61 ⟨Nat.le_of_ble_eq_true rfl, Nat.le_of_ble_eq_true rfl⟩ (fun r L_70 f_71 H locs hw_72 hP hD hS hT hE1 => ?_)
              have hF := Fr.call hF hE hw_72.2 (by decide)
              have hE := hE.tr hE1
              obtain ⟨⟨z_73, rfl⟩, hw_72⟩ := hw_72
              refine W.eq (g2 := F0 m 64 ls [.int z_73]) rfl ?_
              refine vx_ret ?_
              exact K_i hx hb hr hlocks hP hD hK hS hT hE ⟨⟨_, rfl⟩, hF⟩ (Nat.le_of_ble_eq_true rfl) (Nat.le_of_ble_eq_true rfl) dX9_faded_64
            · refine lv_aload hx hb dX9_faded_49 (lv_at hl 0 rfl) ?_
              refine lv_iload_n hx hb dX9_faded_51 rfl (lv_at hl 3 rfl) ?_
              refine K_V ⟨hx, hb, hml, hown, hts⟩ (t_X0_leastShade l dC dI sa hlt g _ _ b_5 b _ (hT.sub [0] rfl)  ) (cwV 1 hts gX9_faded_X0_leastShade rfl rfl rfl (by decide +kernel) ⟨Nat.le_of_ble_eq_true rfl, Nat.le_of_ble_eq_true rfl⟩) hP hD hK hS hA hev hT 0 0 rfl rfl rfl rfl hl.1 rfl (Nat.le_of_ble_eq_true rfl) dX9_faded_52 ⟨Nat.le_of_ble_eq_true rfl, Nat.le_of_ble_eq_true rfl⟩ (fun r L_74 f_75 H locs hw_76 hP hD hS hT hE1 => ?_)
              have hF := Fr.call hF hE hw_76.2 (by decide)
              have hE := hE.tr hE1
              obtain ⟨⟨z_77, rfl⟩, hw_76⟩ := hw_76
              refine W.eq (g2 := F0 m 55 ls [.int z_77]) rfl ?_
              refine lv_goto (tgt := 64) hx hb dX9_faded_55 (by decide) ?_
              refine vx_ret ?_
              exact K_i hx hb hr hlocks hP hD hK hS hT hE ⟨⟨_, rfl⟩, hF⟩ (Nat.le_of_ble_eq_true rfl) (Nat.le_of_ble_eq_true rfl) dX9_faded_64
          · refine lv_iconst (v := (-1)) hx hb dX9_faded_43 (by decide) ?_
            refine vx_ret ?_
            exact K_i hx hb hr hlocks hP hD hK hS hT hE ⟨⟨_, rfl⟩, hF⟩ (Nat.le_of_ble_eq_true rfl) (Nat.le_of_ble_eq_true rfl) dX9_faded_44
        · refine lv_iconst (v := 1) hx hb dX9_faded_26 (by decide) ?_
          refine lv_goto (tgt := 31) hx hb dX9_faded_27 (by decide) ?_
          refine K_SX ⟨hx, hb, hml, hown, hts⟩ (t_X9_demand l dC dI sa hlt g _ _ 1 _ (hT.sub [] rfl)  ) (va_cwS 1 hts gX9_faded_X9_demand rfl rfl rfl (by decide +kernel) ⟨Nat.le_of_ble_eq_true rfl, Nat.le_of_ble_eq_true rfl⟩) hP hD hK hS hA hev hT rfl hl.1 rfl (Nat.le_of_ble_eq_true rfl) dX9_faded_31 ⟨Nat.le_of_ble_eq_true rfl, Nat.le_of_ble_eq_true rfl⟩ (fun E ce q9 L9 f9 H locs hpx hP hD hS hT hE1 hce hcv hcl => ?_) (fun r L_78 f_79 H locs hw_80 hP hD hS hT hE1 => ?_)
          · have hF := Fr.call hF hE hpx.2 (by decide)
            have hE := hE.tr hE1
            exact K_out hno hlocks ⟨Or.inr hpx.1, hF⟩ hP hD hK hS hT hE hce hcv hcl (Nat.le_of_ble_eq_true rfl) (Nat.le_of_ble_eq_true rfl)
          have hF := Fr.call hF hE hw_80.2 (by decide)
          have hE := hE.tr hE1
          obtain ⟨rfl, hw_80⟩ := hw_80
          refine W.eq (g2 := F0 m 34 ls []) rfl ?_
          refine lv_aload hx hb dX9_faded_34 (lv_at hl 0 rfl) ?_
          refine lv_iload_n hx hb dX9_faded_36 rfl (lv_at hl 3 rfl) ?_
          refine K_V ⟨hx, hb, hml, hown, hts⟩ (t_X0_hasSpan l dC dI sa hlt g _ _ b_5 b _ (hT.sub [0] rfl)  ) (cwV 1 hts gX9_faded_X0_hasSpan rfl rfl rfl (by decide +kernel) ⟨Nat.le_of_ble_eq_true rfl, Nat.le_of_ble_eq_true rfl⟩) hP hD hK hS hA hev hT 0 0 rfl rfl rfl rfl hl.1 rfl (Nat.le_of_ble_eq_true rfl) dX9_faded_37 ⟨Nat.le_of_ble_eq_true rfl, Nat.le_of_ble_eq_true rfl⟩ (fun r L_81 f_82 H locs hw_83 hP hD hS hT hE1 => ?_)
          have hF := Fr.call hF hE hw_83.2 (by decide)
          have hE := hE.tr hE1
          obtain ⟨⟨z_84, rfl, hz_z_84⟩, hw_83⟩ := hw_83
          refine W.eq (g2 := F0 m 40 ls [.int z_84]) rfl ?_
          refine lv_if_ne (tgt := 45) hx hb dX9_faded_40 (by decide) (fun c_85 => ?_) (fun c_85 => ?_)
          · refine lv_iload_n hx hb dX9_faded_45 rfl (lv_at hl 4 rfl) ?_
            refine lv_if_ne (tgt := 58) hx hb dX9_faded_46 (by decide) (fun c_86 => ?_) (fun c_86 => ?_)
            · refine lv_aload hx hb dX9_faded_58 (lv_at hl 0 rfl) ?_
              refine lv_iload_n hx hb dX9_faded_60 rfl (lv_at hl 3 rfl) ?_
              refine K_V ⟨hx, hb, hml, hown, hts⟩ (t_X0_greatestShade l dC dI sa hlt g _ _ b_5 b _ (hT.sub [0] rfl)  ) (cwV 1 hts gX9_faded_X0_greatestShade rfl rfl rfl (by decide +kernel) ⟨Nat.le_of_ble_eq_true rfl, Nat.le_of_ble_eq_true rfl⟩) hP hD hK hS hA hev hT 0 0 rfl rfl rfl rfl hl.1 rfl (Nat.le_of_ble_eq_true rfl) dX9_faded_61 ⟨Nat.le_of_ble_eq_true rfl, Nat.le_of_ble_eq_true rfl⟩ (fun r L_87 f_88 H locs hw_89 hP hD hS hT hE1 => ?_)
              have hF := Fr.call hF hE hw_89.2 (by decide)
              have hE := hE.tr hE1
              obtain ⟨⟨z_90, rfl⟩, hw_89⟩ := hw_89
              refine W.eq (g2 := F0 m 64 ls [.int z_90]) rfl ?_
              refine vx_ret ?_
              exact K_i hx hb hr hlocks hP hD hK hS hT hE ⟨⟨_, rfl⟩, hF⟩ (Nat.le_of_ble_eq_true rfl) (Nat.le_of_ble_eq_true rfl) dX9_faded_64
            · refine lv_aload hx hb dX9_faded_49 (lv_at hl 0 rfl) ?_
              refine lv_iload_n hx hb dX9_faded_51 rfl (lv_at hl 3 rfl) ?_
              refine K_V ⟨hx, hb, hml, hown, hts⟩ (t_X0_leastShade l dC dI sa hlt g _ _ b_5 b _ (hT.sub [0] rfl)  ) (cwV 1 hts gX9_faded_X0_leastShade rfl rfl rfl (by decide +kernel) ⟨Nat.le_of_ble_eq_true rfl, Nat.le_of_ble_eq_true rfl⟩) hP hD hK hS hA hev hT 0 0 rfl rfl rfl rfl hl.1 rfl (Nat.le_of_ble_eq_true rfl) dX9_faded_52 ⟨Nat.le_of_ble_eq_true rfl, Nat.le_of_ble_eq_true rfl⟩ (fun r L_91 f_92 H locs hw_93 hP hD hS hT hE1 => ?_)
              have hF := Fr.call hF hE hw_93.2 (by decide)
              have hE := hE.tr hE1
              obtain ⟨⟨z_94, rfl⟩, hw_93⟩ := hw_93
              refine W.eq (g2 := F0 m 55 ls [.int z_94]) rfl ?_
              refine lv_goto (tgt := 64) hx hb dX9_faded_55 (by decide) ?_
              refine vx_ret ?_
              exact K_i hx hb hr hlocks hP hD hK hS hT hE ⟨⟨_, rfl⟩, hF⟩ (Nat.le_of_ble_eq_true rfl) (Nat.le_of_ble_eq_true rfl) dX9_faded_64
          · refine lv_iconst (v := (-1)) hx hb dX9_faded_43 (by decide) ?_
            refine vx_ret ?_
            exact K_i hx hb hr hlocks hP hD hK hS hT hE ⟨⟨_, rfl⟩, hF⟩ (Nat.le_of_ble_eq_true rfl) (Nat.le_of_ble_eq_true rfl) dX9_faded_44
