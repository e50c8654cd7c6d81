theorem inV_lt {v : Int32} (h : v < 0) : ¬ inV v := fun g => by
  rw [Int32.lt_iff_toInt_lt] at h
  have : (0 : Int32).toInt = 0 := by decide
  omega
theorem inV_ge {v : Int32} (h : ¬ v < 6) : ¬ inV v := fun g => by
  rw [Int32.lt_iff_toInt_lt] at h
  have : (6 : Int32).toInt = 6 := by decide
  omega
theorem inV_of {v : Int32} (h0 : ¬ v < 0) (h : v < 6) : inV v := by
  rw [Int32.lt_iff_toInt_lt] at h h0
  have : (6 : Int32).toInt = 6 := by decide
  have : (0 : Int32).toInt = 0 := by decide
  exact ⟨by omega, by omega⟩
theorem inC_lt {s : AS} {v : Int32} (h : v < 0) : ¬ inC s v := fun g => by
  rw [Int32.lt_iff_toInt_lt] at h
  have : (0 : Int32).toInt = 0 := by decide
  omega
theorem inC_ge {s : AS} {v : Int32} (h : s.1 12 ≤ v) : ¬ inC s v := fun g => by
  rw [Int32.le_iff_toInt_le] at h
  omega
theorem inC_30 {s : AS} {v : Int32} (hn : (s.1 12).toInt ≤ 30) (h : ¬ v < 30) : ¬ inC s v := fun g => by
  rw [Int32.lt_iff_toInt_lt] at h
  have : (30 : Int32).toInt = 30 := by decide
  omega
theorem inC_of {s : AS} {v : Int32} (h0 : ¬ v < 0) (h : ¬ s.1 12 ≤ v) : inC s v := by
  rw [Int32.lt_iff_toInt_lt] at h0
  rw [Int32.le_iff_toInt_le] at h
  have : (0 : Int32).toInt = 0 := by decide
  exact ⟨by omega, by omega⟩

noncomputable abbrev rm_X8_vatAtX : Room := { frames := 6, cells := 1, slots := 6, locals := 82 }
set_option maxHeartbeats 800000 in
set_option maxRecDepth 100000 in
theorem t_X8_vatAtX (l : Launch) (dC : Nat → ClassId) (dI : Nat → Nat → Nat) (sa : Nat → Nat) (hlt : l.stackTraces = false) (g : Nat → Nat) (L : List Nat) (f : Nat → va_E) (va : Nat → Nat) (h0 : Nat) (num : Int32) (vs : Nat) (sz : Nat) (hT : TP g L f [(h0, (0, 8, 0)), (vs, (2, g 2, 6))]) (h_vs : rd f h0 0 = .ref vs) (hva : ∀ k : Nat, k < 6 → ra f vs k = some (va k)) : KX l dC dI sa g yX8_vatAt wsX8_vatAt rm_X8_vatAtX [.ref h0, .int num] L f sz (fun r L' f' => (∃ v : Value, r = some v ∧ okv L' f' (1, 0, 7, 0) v) ∧ Fr [] L f f' ∧ (inV num ∧ r = some (.ref (va num.toNatClampNeg)))) (fun E L' f' => (E = NSE ∧ ¬ inV num) ∧ Fr [] L f f') 1 6 := by
  refine KX.start (cc := cX8_vatAt) (maxL := 2) (ret := (some (.object "VatHouse$Vat"))) (by decide) rfl (Nat.le_of_ble_eq_true rfl) ?_
  intro p e s m below meth c ls hst hno hP hK hD hev hS hl
  obtain ⟨hx, hb, hr, hml, hts, hown, hlocks, hin⟩ := hst
  have hown : s.vm.findClass RX8 = some m.cls := hown
  have hin : meth.name = yX8_vatAt.name := hin
  have hA : ∀ q : Nat, s.heap.size ≤ q → va_A (va_pl L f) s.heap.size q := fun _ h => Or.inr h
  have hE : Ext L f L f := Ext.rf
  have hF : Fr [] L f f := Fr.rf
  have hF0 : Fr [] L f f := Fr.rf
  have hl : lv_has ls 2 [(0, .ref h0), (1, .int num)] := hl
  have hT0 := hT
  refine lv_iload_n hx hb dX8_vatAt_0 rfl (lv_at hl 1 rfl) ?_
  refine lv_if_lt (tgt := 13) hx hb dX8_vatAt_1 (by decide) (fun c_1 => ?_) (fun c_1 => ?_)
  · exact K_x (cls := NSE) hno hx hb hlt hlocks hown hts xg_0 xg_1 xg_2 xg_5 (by decide +kernel) (hts (.classLink RX8 20 NSE) (List.mem_of_getElem? (i := 1) (by exact rfl))) (hts (.initialized NSE) (List.mem_of_getElem? (i := 2) (by exact rfl))) hev.2.1.1 (inx_X8_vatAt_8) xb_8 hev.2.2.1.1 xo_8 hev (hl.1.trans hml.symm) dX8_vatAt_13 dX8_vatAt_16 dX8_vatAt_17 dX8_vatAt_19 dX8_vatAt_22 (Nat.le_of_ble_eq_true rfl) (Nat.le_of_ble_eq_true rfl) (Nat.le_of_ble_eq_true rfl) (Nat.le_of_ble_eq_true rfl) ⟨⟨rfl, inV_lt c_1⟩, hF0⟩ hP hD hK hS hT hE (Nat.le_of_ble_eq_true rfl) (Nat.le_of_ble_eq_true rfl)
  · refine lv_iload_n hx hb dX8_vatAt_4 rfl (lv_at hl 1 rfl) ?_
    refine lv_aload_n hx hb dX8_vatAt_5 rfl (lv_at hl 0 rfl) ?_
    refine T_get (ci := 8) (C := RX8) (T := TX8) (N := 3) (t := (1, 2, g 2, 6)) hx hb hts inw_X8_vatAt_8 hown hK hP hT 0 rfl rfl 0 (by decide) (hts (.fieldLink RX8 11 "VatHouse$Works" "vats" "[LVatHouse$Vat;") (List.mem_of_getElem? (i := 3) (by exact rfl))) (fun _ h9 => h9) rfl dX8_vatAt_6 (fun v_4 hv_2 hr_3 => ?_)
    obtain rfl : v_4 = .ref vs := hr_3.symm.trans ((hF.1 h0 (hT0.at 0 rfl).1 8 (hT0.at 0 rfl).2 0 (by decide)).trans h_vs)
    refine T_alen hx hb hK hP hT 1 2 rfl rfl (v := 6) rfl dX8_vatAt_9 ?_
    refine lv_icmp_lt (tgt := 23) hx hb dX8_vatAt_10 (by decide) (fun c_5 => ?_) (fun c_5 => ?_)
    · refine lv_aload_n hx hb dX8_vatAt_23 rfl (lv_at hl 0 rfl) ?_
      refine T_get (ci := 8) (C := RX8) (T := TX8) (N := 3) (t := (1, 2, g 2, 6)) hx hb hts inw_X8_vatAt_8 hown hK hP hT 0 rfl rfl 0 (by decide) (hts (.fieldLink RX8 11 "VatHouse$Works" "vats" "[LVatHouse$Vat;") (List.mem_of_getElem? (i := 3) (by exact rfl))) (fun _ h9 => h9) rfl dX8_vatAt_24 (fun v_8 hv_6 hr_7 => ?_)
      obtain rfl : v_8 = .ref vs := hr_7.symm.trans ((hF.1 h0 (hT0.at 0 rfl).1 8 (hT0.at 0 rfl).2 0 (by decide)).trans h_vs)
      refine lv_iload_n hx hb dX8_vatAt_27 rfl (lv_at hl 1 rfl) ?_
      refine T_vald hx hb hK hP hT 1 2 (Or.inl rfl) rfl rfl (vin 6 (by decide) rfl (by assumption) (lt_nle (by assumption))) dX8_vatAt_28 (fun b_9 hb9 hra => ?_)
      have hT := hT.add hb9
      refine vx_ret ?_
      exact K_a hx hb hr (Or.inl ⟨_, rfl⟩) (Or.inr ⟨_, rfl⟩) hlocks hP hD hK hS hT hE ⟨⟨_, rfl, _, rfl, hT.at 0 rfl⟩, hF, ⟨inV_of c_1 c_5, by rw [Option.some.inj (hra.symm.trans (hva _ (nI_inj6 (inV_of c_1 c_5)).2))]⟩⟩ (Nat.le_of_ble_eq_true rfl) (Nat.le_of_ble_eq_true rfl) dX8_vatAt_29
    · exact K_x (cls := NSE) hno hx hb hlt hlocks hown hts xg_0 xg_1 xg_2 xg_5 (by decide +kernel) (hts (.classLink RX8 20 NSE) (List.mem_of_getElem? (i := 1) (by exact rfl))) (hts (.initialized NSE) (List.mem_of_getElem? (i := 2) (by exact rfl))) hev.2.1.1 (inx_X8_vatAt_8) xb_8 hev.2.2.1.1 xo_8 hev (hl.1.trans hml.symm) dX8_vatAt_13 dX8_vatAt_16 dX8_vatAt_17 dX8_vatAt_19 dX8_vatAt_22 (Nat.le_of_ble_eq_true rfl) (Nat.le_of_ble_eq_true rfl) (Nat.le_of_ble_eq_true rfl) (Nat.le_of_ble_eq_true rfl) ⟨⟨rfl, inV_ge c_5⟩, hF0⟩ hP hD hK hS hT hE (Nat.le_of_ble_eq_true rfl) (Nat.le_of_ble_eq_true rfl)

noncomputable abbrev rm_X9_clothAtX : Room := { frames := 6, cells := 1, slots := 6, locals := 82 }
set_option maxHeartbeats 800000 in
set_option maxRecDepth 100000 in
theorem t_X9_clothAtX (l : Launch) (dC : Nat → ClassId) (dI : Nat → Nat → Nat) (sa : Nat → Nat) (hlt : l.stackTraces = false) (g : Nat → Nat) (L : List Nat) (f : Nat → va_E) (wk : Nat) (vs : Nat) (ru : Nat) (va : Nat → Nat) (sA : AS) (h0 : Nat) (num : Int32) (cl : Nat) (sz : Nat) (hT : TP g L f [(h0, (0, 9, 0)), (cl, (2, g 3, 30))]) (h_cl : rd f h0 1 = .ref cl) (hSR : SR g L f (h0, wk, vs, cl, ru, va) sA) (hn : (sA.1 12).toInt ≤ 30) : KX l dC dI sa g yX9_clothAt wsX9_clothAt rm_X9_clothAtX [.ref h0, .int num] L f sz (fun r L' f' => (∃ v : Value, r = some v ∧ okv L' f' (1, 0, 0, 0) v) ∧ Fr [] L f f' ∧ (inC sA num ∧ ∃ b : Nat, r = some (.ref b) ∧ ra f cl num.toNatClampNeg = some b)) (fun E L' f' => (E = NSE ∧ ¬ inC sA num) ∧ Fr [] L f f') 1 6 := by
  refine KX.start (cc := cX9_clothAt) (maxL := 3) (ret := (some (.object "VatHouse$Cloth"))) (by decide) rfl (Nat.le_of_ble_eq_true rfl) ?_
  intro p e s m below meth c ls hst hno hP hK hD hev hS hl
  obtain ⟨hx, hb, hr, hml, hts, hown, hlocks, hin⟩ := hst
  have hown : s.vm.findClass RX9 = some m.cls := hown
  have hin : meth.name = yX9_clothAt.name := hin
  have hA : ∀ q : Nat, s.heap.size ≤ q → va_A (va_pl L f) s.heap.size q := fun _ h => Or.inr h
  have hE : Ext L f L f := Ext.rf
  have hF : Fr [] L f f := Fr.rf
  have hF0 : Fr [] L f f := Fr.rf
  have hl : lv_has ls 3 [(0, .ref h0), (1, .int num)] := hl
  have hT0 := hT
  refine lv_iload_n hx hb dX9_clothAt_0 rfl (lv_at hl 1 rfl) ?_
  refine lv_if_lt (tgt := 21) hx hb dX9_clothAt_1 (by decide) (fun c_1 => ?_) (fun c_1 => ?_)
  · exact K_x (cls := NSE) hno hx hb hlt hlocks hown hts xg_0 xg_1 xg_2 xg_5 (by decide +kernel) (hts (.classLink RX9 149 NSE) (List.mem_of_getElem? (i := 1) (by exact rfl))) (hts (.initialized NSE) (List.mem_of_getElem? (i := 2) (by exact rfl))) hev.2.1.2.2.1 (inx_X9_clothAt_9) xb_9 hev.2.2.1.1 xo_9 hev (hl.1.trans hml.symm) dX9_clothAt_21 dX9_clothAt_24 dX9_clothAt_25 dX9_clothAt_27 dX9_clothAt_30 (Nat.le_of_ble_eq_true rfl) (Nat.le_of_ble_eq_true rfl) (Nat.le_of_ble_eq_true rfl) (Nat.le_of_ble_eq_true rfl) ⟨⟨rfl, inC_lt c_1⟩, hF0⟩ hP hD hK hS hT hE (Nat.le_of_ble_eq_true rfl) (Nat.le_of_ble_eq_true rfl)
  · refine lv_iload_n hx hb dX9_clothAt_4 rfl (lv_at hl 1 rfl) ?_
    refine lv_aload_n hx hb dX9_clothAt_5 rfl (lv_at hl 0 rfl) ?_
    refine T_get (ci := 9) (C := RX9) (T := TX9) (N := 11) (t := tI) hx hb hts inw_X9_clothAt_9 hown hK hP hT 0 rfl rfl 2 (by decide) (hts (.fieldLink RX9 92 "VatHouse" "clothsMade" "I") (List.mem_of_getElem? (i := 3) (by exact rfl))) (fun _ h9 => h9) rfl dX9_clothAt_6 (fun v_4 hv_2 hr_3 => ?_)
    obtain rfl : v_4 = .int (sA.1 12) := hr_3.symm.trans hSR.2.2.2.2.1.1
    refine lv_icmp_ge (tgt := 21) hx hb dX9_clothAt_9 (by decide) (fun c_5 => ?_) (fun c_5 => ?_)
    · exact K_x (cls := NSE) hno hx hb hlt hlocks hown hts xg_0 xg_1 xg_2 xg_5 (by decide +kernel) (hts (.classLink RX9 149 NSE) (List.mem_of_getElem? (i := 1) (by exact rfl))) (hts (.initialized NSE) (List.mem_of_getElem? (i := 2) (by exact rfl))) hev.2.1.2.2.1 (inx_X9_clothAt_9) xb_9 hev.2.2.1.1 xo_9 hev (hl.1.trans hml.symm) dX9_clothAt_21 dX9_clothAt_24 dX9_clothAt_25 dX9_clothAt_27 dX9_clothAt_30 (Nat.le_of_ble_eq_true rfl) (Nat.le_of_ble_eq_true rfl) (Nat.le_of_ble_eq_true rfl) (Nat.le_of_ble_eq_true rfl) ⟨⟨rfl, inC_ge c_5⟩, hF0⟩ hP hD hK hS hT hE (Nat.le_of_ble_eq_true rfl) (Nat.le_of_ble_eq_true rfl)
    · refine lv_iload_n hx hb dX9_clothAt_12 rfl (lv_at hl 1 rfl) ?_
      refine lv_aload_n hx hb dX9_clothAt_13 rfl (lv_at hl 0 rfl) ?_
      refine T_get (ci := 9) (C := RX9) (T := TX9) (N := 11) (t := (1, 2, g 3, 30)) hx hb hts inw_X9_clothAt_9 hown hK hP hT 0 rfl rfl 1 (by decide) (hts (.fieldLink RX9 18 "VatHouse" "cloths" "[LVatHouse$Cloth;") (List.mem_of_getElem? (i := 4) (by exact rfl))) (fun _ h9 => h9) rfl dX9_clothAt_14 (fun v_8 hv_6 hr_7 => ?_)
      obtain rfl : v_8 = .ref cl := hr_7.symm.trans ((hF.1 h0 (hT0.at 0 rfl).1 9 (hT0.at 0 rfl).2 1 (by decide)).trans h_cl)
      refine T_alen hx hb hK hP hT 1 3 rfl rfl (v := 30) rfl dX9_clothAt_17 ?_
      refine lv_icmp_lt (tgt := 31) hx hb dX9_clothAt_18 (by decide) (fun c_9 => ?_) (fun c_9 => ?_)
      · refine lv_aload_n hx hb dX9_clothAt_31 rfl (lv_at hl 0 rfl) ?_
        refine T_get (ci := 9) (C := RX9) (T := TX9) (N := 11) (t := (1, 2, g 3, 30)) hx hb hts inw_X9_clothAt_9 hown hK hP hT 0 rfl rfl 1 (by decide) (hts (.fieldLink RX9 18 "VatHouse" "cloths" "[LVatHouse$Cloth;") (List.mem_of_getElem? (i := 4) (by exact rfl))) (fun _ h9 => h9) rfl dX9_clothAt_32 (fun v_12 hv_10 hr_11 => ?_)
        obtain rfl : v_12 = .ref cl := hr_11.symm.trans ((hF.1 h0 (hT0.at 0 rfl).1 9 (hT0.at 0 rfl).2 1 (by decide)).trans h_cl)
        refine lv_iload_n hx hb dX9_clothAt_35 rfl (lv_at hl 1 rfl) ?_
        refine T_cald hx hb hK hP hT 1 3 rfl rfl (vin 30 (by decide) rfl (by assumption) (lt_nle (by assumption))) dX9_clothAt_36 (fun hra => ?_) (fun b_13 hb9 hra => ?_)
        · exact absurd hra (by obtain ⟨b9, h9, -⟩ := hSR.2.2.1 _ (inC_c (inC_of c_1 c_5)).2; have h8 : ra f cl num.toNatClampNeg = some b9 := h9; rw [h8]; exact fun g9 => by cases g9)
        · have hT := hT.add hb9
          refine lv_astore_n (lv' := [(2, .ref b_13), (0, .ref h0), (1, .int num)]) hx hb dX9_clothAt_37 rfl hl (by decide) rfl (fun ls hl => ?_)
          refine lv_aload_n hx hb dX9_clothAt_38 rfl (lv_at hl 0 rfl) ?_
          refine lv_ifnonnull (tgt := 52) hx hb dX9_clothAt_39 (by decide) ?_
          refine lv_aload_n hx hb dX9_clothAt_52 rfl (lv_at hl 0 rfl) ?_
          refine vx_ret ?_
          exact K_a hx hb hr (Or.inl ⟨_, rfl⟩) (Or.inr ⟨_, rfl⟩) hlocks hP hD hK hS hT hE ⟨⟨_, rfl, _, rfl, hT.at 0 rfl⟩, hF, ⟨inC_of c_1 c_5, _, rfl, hra⟩⟩ (Nat.le_of_ble_eq_true rfl) (Nat.le_of_ble_eq_true rfl) dX9_clothAt_53
      · exact K_x (cls := NSE) hno hx hb hlt hlocks hown hts xg_0 xg_1 xg_2 xg_5 (by decide +kernel) (hts (.classLink RX9 149 NSE) (List.mem_of_getElem? (i := 1) (by exact rfl))) (hts (.initialized NSE) (List.mem_of_getElem? (i := 2) (by exact rfl))) hev.2.1.2.2.1 (inx_X9_clothAt_9) xb_9 hev.2.2.1.1 xo_9 hev (hl.1.trans hml.symm) dX9_clothAt_21 dX9_clothAt_24 dX9_clothAt_25 dX9_clothAt_27 dX9_clothAt_30 (Nat.le_of_ble_eq_true rfl) (Nat.le_of_ble_eq_true rfl) (Nat.le_of_ble_eq_true rfl) (Nat.le_of_ble_eq_true rfl) ⟨⟨rfl, inC_30 hn c_9⟩, hF0⟩ hP hD hK hS hT hE (Nat.le_of_ble_eq_true rfl) (Nat.le_of_ble_eq_true rfl)

noncomputable abbrev rm_X9_demandX : Room := { frames := 6, cells := 1, slots := 6, locals := 82 }
set_option maxHeartbeats 800000 in
set_option maxRecDepth 100000 in
theorem t_X9_demandX (l : Launch) (dC : Nat → ClassId) (dI : Nat → Nat → Nat) (sa : Nat → Nat) (hlt : l.stackTraces = false) (g : Nat → Nat) (L : List Nat) (f : Nat → va_E) (b : Int32) (sz : Nat) (hT : TP g L f []) : KX l dC dI sa g yX9_demand wsX9_demand rm_X9_demandX [.int b] L f sz (fun r L' f' => (r = none) ∧ Fr [] L f f' ∧ (¬ b = 0)) (fun E L' f' => (E = IAE ∧ b = 0) ∧ Fr [] L f f') 1 6 := by
  refine KX.start (cc := cX9_demand) (maxL := 1) (ret := none) (by decide) rfl (Nat.le_of_ble_eq_true rfl) ?_
  intro p e s m below meth c ls hst hno hP hK hD hev hS hl
  obtain ⟨hx, hb, hr, hml, hts, hown, hlocks, hin⟩ := hst
  have hown : s.vm.findClass RX9 = some m.cls := hown
  have hin : meth.name = yX9_demand.name := hin
  have hA : ∀ q : Nat, s.heap.size ≤ q → va_A (va_pl L f) s.heap.size q := fun _ h => Or.inr h
  have hE : Ext L f L f := Ext.rf
  have hF : Fr [] L f f := Fr.rf
  have hF0 : Fr [] L f f := Fr.rf
  have hl : lv_has ls 1 [(0, .int b)] := hl
  refine lv_iload_n hx hb dX9_demand_0 rfl (lv_at hl 0 rfl) ?_
  refine lv_if_ne (tgt := 14) hx hb dX9_demand_1 (by decide) (fun c_1 => ?_) (fun c_1 => ?_)
  · refine vx_ret ?_
    exact K_v hx hb hr hlocks hP hD hK hS hT hE ⟨rfl, hF, c_1⟩ (Nat.le_of_ble_eq_true rfl) (Nat.le_of_ble_eq_true rfl) dX9_demand_14
  · exact K_x (cls := IAE) hno hx hb hlt hlocks hown hts Bundle.six_0 Bundle.six_1 Bundle.six_2 Bundle.six_5 (by decide +kernel) (hts (.classLink RX9 252 IAE) (List.mem_of_getElem? (i := 1) (by exact rfl))) (hts (.initialized IAE) (List.mem_of_getElem? (i := 2) (by exact rfl))) hev.2.1.2.1 (inx_X9_demand_i) xb_i hev.2.2.1.2.1 xo_i hev (hl.1.trans hml.symm) dX9_demand_4 dX9_demand_7 dX9_demand_8 dX9_demand_10 dX9_demand_13 (Nat.le_of_ble_eq_true rfl) (Nat.le_of_ble_eq_true rfl) (Nat.le_of_ble_eq_true rfl) (Nat.le_of_ble_eq_true rfl) ⟨⟨rfl, c_1⟩, hF0⟩ hP hD hK hS hT hE (Nat.le_of_ble_eq_true rfl) (Nat.le_of_ble_eq_true rfl)

noncomputable abbrev rm_X9_chargeS : Room := { frames := 7, cells := 1, slots := 6, locals := 103 }
set_option maxHeartbeats 800000 in
set_option maxRecDepth 100000 in
theorem t_X9_chargeS (l : Launch) (dC : Nat → ClassId) (dI : Nat → Nat → Nat) (sa : Nat → Nat) (hlt : l.stackTraces = false) (g : Nat → Nat) (L : List Nat) (f : Nat → va_E) (va : Nat → Nat) (sA : AS) (h0 : Nat) (a : Int32) (b : Int32) (wk : Nat) (vs : Nat) (cl : Nat) (ru : Nat) (sz : Nat) (hT : TP g L f [(h0, (0, 9, 0)), (wk, (0, 8, 0)), (vs, (2, g 2, 6)), (cl, (2, g 3, 30)), (ru, (0, 4, 0))]) (h_wk : rd f h0 0 = .ref wk) (h_vs : rd f wk 0 = .ref vs) (h_cl : rd f h0 1 = .ref cl) (h_ru : rd f h0 9 = .ref ru) (hSR : SR g L f (h0, wk, vs, cl, ru, va) sA) (hRG : RV sA ∧ RC sA ∧ 0 ≤ (sA.1 1).toInt ∧ (sA.1 1).toInt ≤ 9000000) : KX l dC dI sa g yX9_charge wsX9_charge rm_X9_chargeS [.ref h0, .int a, .int b] L f sz (fun r L' f' => (∃ z : Int32, r = some (.int z)) ∧ Fr [(7, 1), (9, 3)] L f f' ∧ (∃ (v : Int32) (s2 : AS), chG a b sA = (0, v, s2) ∧ r = some (.int v) ∧ SR g L' f' (h0, wk, vs, cl, ru, va) s2)) (fun E L' f' => (E = NSE ∧ chG a b sA = (1, 0, sA)) ∧ Fr [] L f f') 1 6 := by
  refine KX.start (cc := cX9_charge) (maxL := 4) (ret := (some .int)) (by decide) rfl (Nat.le_of_ble_eq_true rfl) ?_
  intro p e s m below meth c ls hst hno hP hK hD hev hS hl
  obtain ⟨hx, hb, hr, hml, hts, hown, hlocks, hin⟩ := hst
  have hown : s.vm.findClass RX9 = some m.cls := hown
  have hin : meth.name = yX9_charge.name := hin
  have hA : ∀ q : Nat, s.heap.size ≤ q → va_A (va_pl L f) s.heap.size q := fun _ h => Or.inr h
  have hE : Ext L f L f := Ext.rf
  have hF : Fr [(7, 1), (9, 3)] L f f := Fr.rf
  have hF0 : Fr [] L f f := Fr.rf
  have hl : lv_has ls 4 [(0, .ref h0), (1, .int a), (2, .int b)] := hl
  have hT0 := hT
  refine lv_aload_n hx hb dX9_charge_0 rfl (lv_at hl 0 rfl) ?_
  refine T_get (ci := 9) (C := RX9) (T := TX9) (N := 11) (t := (1, 0, 8, 0)) hx hb hts inw_X9_charge_9 hown hK hP hT 0 rfl rfl 0 (by decide) (hts (.fieldLink RX9 10 "VatHouse" "works" "LVatHouse$Works;") (List.mem_of_getElem? (i := 1) (by exact rfl))) (fun _ h9 => h9) rfl dX9_charge_1 (fun v_3 hv_1 hr_2 => ?_)
  obtain rfl : v_3 = .ref wk := hr_2.symm.trans ((hF.1 h0 (hT0.at 0 rfl).1 9 (hT0.at 0 rfl).2 0 (by decide)).trans h_wk)
  refine lv_iload_n hx hb dX9_charge_4 rfl (lv_at hl 1 rfl) ?_
  refine K_VX ⟨hx, hb, hml, hown, hts⟩ (t_X8_vatAtX l dC dI sa hlt g _ _ va wk a vs _ (hT.sub [1, 2] rfl)  ((hF.1 wk (hT0.at 1 rfl).1 8 (hT0.at 1 rfl).2 0 (by decide)).trans h_vs) (fun k9 h9 => (hSR.2.1 k9 h9).1)) (cwV 1 hts gX9_charge_X8_vatAt rfl rfl rfl (by decide +kernel) ⟨Nat.le_of_ble_eq_true rfl, Nat.le_of_ble_eq_true rfl⟩) hP hD hK hS hA hev hT 1 8 rfl rfl rfl rfl hl.1 rfl (Nat.le_of_ble_eq_true rfl) dX9_charge_5 ⟨Nat.le_of_ble_eq_true rfl, Nat.le_of_ble_eq_true rfl⟩ (fun E ce q9 L9 f9 H locs hpx hP hD hS hT hE1 hce hcv hcl => ?_) (fun r L_4 f_5 H locs hw_6 hP hD hS hT hE1 => ?_)
  · have hF := Fr.call hF0 hE hpx.2 (by decide)
    have hE := hE.tr hE1
    exact K_out hno hlocks ⟨⟨hpx.1.1, if_neg hpx.1.2⟩, hF⟩ hP hD hK hS hT hE hce hcv hcl (Nat.le_of_ble_eq_true rfl) (Nat.le_of_ble_eq_true rfl)
  have hF0 := Fr.call hF0 hE hw_6.2.1 (by decide)
  have hF := Fr.call hF hE hw_6.2.1 (by decide)
  have hE := hE.tr hE1
  obtain ⟨⟨v_7, rfl, hv9⟩, hw_6⟩ := hw_6
  obtain ⟨b_8, rfl, hb9⟩ := hv9
  have hT := hT.add hb9
  obtain ⟨hfr_9, hex_10⟩ := hw_6
  obtain ⟨hV_11, hg_12⟩ := hex_10
  have hbv_13 : b_8 = va a.toNatClampNeg := by have h9 := hg_12; injection h9 with h9; injection h9
  have hk6 := (nI_inj6 hV_11).2
  have hs_14 := SR.still hSR hE1 hfr_9 (by decide)
  refine W.eq (g2 := F0 m 8 ls [.ref b_8]) rfl ?_
  refine lv_astore_n (lv' := [(3, .ref b_8), (0, .ref h0), (1, .int a), (2, .int b)]) hx hb dX9_charge_8 rfl hl (by decide) rfl (fun ls hl => ?_)
  refine lv_iload_n hx hb dX9_charge_9 rfl (lv_at hl 3 rfl) ?_
  refine lv_iconst (v := 1) hx hb dX9_charge_10 (by decide) ?_
  refine lv_icmp_lt (tgt := 25) hx hb dX9_charge_11 (by decide) (fun c_15 => ?_) (fun c_15 => ?_)
  · refine lv_iconst (v := (-1)) hx hb dX9_charge_25 (by decide) ?_
    refine vx_ret ?_
    exact K_i hx hb hr hlocks hP hD hK hS hT hE ⟨⟨_, rfl⟩, hF, ⟨-1, sA, (if_pos hV_11).trans (if_pos (Or.inl c_15)), rfl, hs_14⟩⟩ (Nat.le_of_ble_eq_true rfl) (Nat.le_of_ble_eq_true rfl) dX9_charge_26
  · refine lv_iload_n hx hb dX9_charge_14 rfl (lv_at hl 3 rfl) ?_
    refine lv_ldc (v := 1000000) hx hb hown (hts (.constant RX9 61 (1000000)) (List.mem_of_getElem? (i := 2) (by exact rfl))) dX9_charge_15 ?_
    refine lv_aload_n hx hb dX9_charge_17 rfl (lv_at hl 0 rfl) ?_
    refine T_get (ci := 7) (C := RX7) (T := TX7) (N := 8) (t := tI) hx hb hts inw_X9_charge_7 hown hK hP hT 0 rfl rfl 1 (by decide) (hts (.fieldLink RX9 62 "VatHouse$Vat" "grains" "I") (List.mem_of_getElem? (i := 3) (by exact rfl))) (fun _ h9 => h9) rfl dX9_charge_18 (fun v_18 hv_16 hr_17 => ?_)
    obtain rfl : v_18 = .int (sA.2 4 a.toNatClampNeg) := hr_17.symm.trans (by rw [hbv_13]; exact (hs_14.2.1 a.toNatClampNeg hk6).2.2.2.1)
    refine lv_isub hx hb dX9_charge_21 ?_
    refine lv_topi (fun z_19 ez_19 => ?_)
    refine lv_icmp_le (tgt := 27) hx hb dX9_charge_22 (by decide) (fun c_20 => ?_) (fun c_20 => ?_)
    · refine lv_aload_n hx hb dX9_charge_27 rfl (lv_at hl 0 rfl) ?_
      refine lv_dup hx hb dX9_charge_28 rfl ?_
      refine T_get (ci := 7) (C := RX7) (T := TX7) (N := 8) (t := tI) hx hb hts inw_X9_charge_7 hown hK hP hT 0 rfl rfl 1 (by decide) (hts (.fieldLink RX9 62 "VatHouse$Vat" "grains" "I") (List.mem_of_getElem? (i := 3) (by exact rfl))) (fun _ h9 => h9) rfl dX9_charge_29 (fun v_23 hv_21 hr_22 => ?_)
      obtain rfl : v_23 = .int (sA.2 4 a.toNatClampNeg) := hr_22.symm.trans (by rw [hbv_13]; exact (hs_14.2.1 a.toNatClampNeg hk6).2.2.2.1)
      refine lv_iload_n hx hb dX9_charge_32 rfl (lv_at hl 3 rfl) ?_
      refine lv_iadd hx hb dX9_charge_33 ?_
      refine lv_topi (fun z_24 ez_24 => ?_)
      refine T_put (ci := 7) (v := .int z_24) (ty := .int) (t := tI) (C := RX7) (T := TX7) (N := 8) hx hb hts inw_X9_charge_7 tyX7 tyX7_ok nmX7 hown hK hP hD hS hT 0 rfl rfl 1 (by decide) (hts (.fieldLink RX9 62 "VatHouse$Vat" "grains" "I") (List.mem_of_getElem? (i := 3) (by exact rfl))) (fun _ h9 => h9) rfl (tyX7_ok 1 (by decide)) rfl rfl rfl ⟨_, rfl⟩ dX9_charge_34 (fun f_25 H locs hP hD hS hT hE1 hrd_26 hup_27 => ?_)
      have hF := Fr.put (a := b_8) (ci := 7) hF hE ((hE1 b_8 (hT.at 0 rfl).1).2.symm.trans (hT.at 0 rfl).2) (by decide) hrd_26 hup_27
      have hE := hE.tr hE1
      have hs_28 := SR.ch hs_14 hk6 hbv_13 hE1 hrd_26 hup_27
      refine lv_aload_n hx hb dX9_charge_37 rfl (lv_at hl 1 rfl) ?_
      refine lv_dup hx hb dX9_charge_38 rfl ?_
      refine T_get (ci := 9) (C := RX9) (T := TX9) (N := 11) (t := tI) hx hb hts inw_X9_charge_9 hown hK hP hT 1 rfl rfl 3 (by decide) (hts (.fieldLink RX9 68 "VatHouse" "grainsPutIn" "I") (List.mem_of_getElem? (i := 4) (by exact rfl))) (fun _ h9 => h9) rfl dX9_charge_39 (fun v_31 hv_29 hr_30 => ?_)
      obtain rfl : v_31 = .int ((sA.1, va_up sA.2 4 (upd (sA.2 4) a.toNatClampNeg z_24)).1 3) := hr_30.symm.trans hs_28.2.2.2.2.1.2.1
      refine lv_iload_n hx hb dX9_charge_42 rfl (lv_at hl 3 rfl) ?_
      refine lv_iadd hx hb dX9_charge_43 ?_
      refine lv_topi (fun z_32 ez_32 => ?_)
      refine T_put (ci := 9) (v := .int z_32) (ty := .int) (t := tI) (C := RX9) (T := TX9) (N := 11) hx hb hts inw_X9_charge_9 tyX9 tyX9_ok nmX9 hown hK hP hD hS hT 1 rfl rfl 3 (by decide) (hts (.fieldLink RX9 68 "VatHouse" "grainsPutIn" "I") (List.mem_of_getElem? (i := 4) (by exact rfl))) (fun _ h9 => h9) rfl (tyX9_ok 3 (by decide)) rfl rfl rfl ⟨_, rfl⟩ dX9_charge_44 (fun f_33 H locs hP hD hS hT hE1 hrd_34 hup_35 => ?_)
      have hF := Fr.put (a := h0) (ci := 9) hF hE ((hE1 h0 (hT.at 1 rfl).1).2.symm.trans (hT.at 1 rfl).2) (by decide) hrd_34 hup_35
      have hE := hE.tr hE1
      have hs_36 := SR.ph (k := 3) (i := 3) hs_28 (by decide) hE1 hrd_34 hup_35
      refine lv_aload_n hx hb dX9_charge_47 rfl (lv_at hl 0 rfl) ?_
      refine T_get (ci := 7) (C := RX7) (T := TX7) (N := 8) (t := tI) hx hb hts inw_X9_charge_7 hown hK hP hT 0 rfl rfl 1 (by decide) (hts (.fieldLink RX9 62 "VatHouse$Vat" "grains" "I") (List.mem_of_getElem? (i := 3) (by exact rfl))) (fun _ h9 => h9) rfl dX9_charge_48 (fun v_39 hv_37 hr_38 => ?_)
      obtain rfl : v_39 = .int ((va_up (sA.1, va_up sA.2 4 (upd (sA.2 4) a.toNatClampNeg z_24)).1 3 z_32, (sA.1, va_up sA.2 4 (upd (sA.2 4) a.toNatClampNeg z_24)).2).2 4 a.toNatClampNeg) := hr_38.symm.trans (by rw [hbv_13]; exact (hs_36.2.1 a.toNatClampNeg hk6).2.2.2.1)
      refine vx_ret ?_
      exact K_i hx hb hr hlocks hP hD hK hS hT hE ⟨⟨_, rfl⟩, hF, ⟨_, _, (if_pos hV_11).trans (if_neg (by rintro (h9 | h9); exact c_15 h9; exact le_nlt (by rw [← ez_19]; exact c_20) h9)), by show some (Value.int (upd (sA.2 4) a.toNatClampNeg _ a.toNatClampNeg)) = _; rw [show upd (sA.2 4) a.toNatClampNeg z_24 a.toNatClampNeg = z_24 from if_pos rfl, ez_24], by have h9 := hs_36; rw [ez_32, ez_24] at h9; exact h9⟩⟩ (Nat.le_of_ble_eq_true rfl) (Nat.le_of_ble_eq_true rfl) dX9_charge_51
    · refine lv_iconst (v := (-1)) hx hb dX9_charge_25 (by decide) ?_
      refine vx_ret ?_
      exact K_i hx hb hr hlocks hP hD hK hS hT hE ⟨⟨_, rfl⟩, hF, ⟨-1, sA, (if_pos hV_11).trans (if_pos (Or.inr (by rw [← ez_19]; exact nle_lt c_20))), rfl, hs_14⟩⟩ (Nat.le_of_ble_eq_true rfl) (Nat.le_of_ble_eq_true rfl) dX9_charge_26

noncomputable abbrev rm_X9_feedS : Room := { frames := 7, cells := 2, slots := 12, locals := 103 }
set_option maxHeartbeats 800000 in
set_option maxRecDepth 100000 in
theorem t_X9_feedS (l : Launch) (dC : Nat → ClassId) (dI : Nat → Nat → Nat) (sa : Nat → Nat) (hlt : l.stackTraces = false) (g : Nat → Nat) (L : List Nat) (f : Nat → va_E) (va : Nat → Nat) (sA : AS) (h0 : Nat) (a : Int32) (b : Int32) (wk : Nat) (vs : Nat) (cl : Nat) (ru : Nat) (sz : Nat) (hT : TP g L f [(h0, (0, 9, 0)), (wk, (0, 8, 0)), (vs, (2, g 2, 6)), (cl, (2, g 3, 30)), (ru, (0, 4, 0))]) (h_wk : rd f h0 0 = .ref wk) (h_vs : rd f wk 0 = .ref vs) (h_cl : rd f h0 1 = .ref cl) (h_ru : rd f h0 9 = .ref ru) (hSR : SR g L f (h0, wk, vs, cl, ru, va) sA) (hRG : RV sA ∧ RC sA ∧ 0 ≤ (sA.1 1).toInt ∧ (sA.1 1).toInt ≤ 9000000) : KX l dC dI sa g yX9_feed wsX9_feed rm_X9_feedS [.ref h0, .int a, .int b] L f sz (fun r L' f' => (∃ z : Int32, r = some (.int z)) ∧ Fr [(7, 2), (7, 4)] L f f' ∧ (∃ (v : Int32) (s2 : AS), fdS a b sA = (0, v, s2) ∧ r = some (.int v) ∧ SR g L' f' (h0, wk, vs, cl, ru, va) s2)) (fun E L' f' => ((E = NSE ∧ fdS a b sA = (1, 0, sA)) ∨ (E = IAE ∧ fdS a b sA = (2, 0, sA))) ∧ Fr [] L f f') 2 12 := by
  refine KX.start (cc := cX9_feed) (maxL := 4) (ret := (some .int)) (by decide) rfl (Nat.le_of_ble_eq_true rfl) ?_
  intro p e s m below meth c ls hst hno hP hK hD hev hS hl
  obtain ⟨hx, hb, hr, hml, hts, hown, hlocks, hin⟩ := hst
  have hown : s.vm.findClass RX9 = some m.cls := hown
  have hin : meth.name = yX9_feed.name := hin
  have hA : ∀ q : Nat, s.heap.size ≤ q → va_A (va_pl L f) s.heap.size q := fun _ h => Or.inr h
  have hE : Ext L f L f := Ext.rf
  have hF : Fr [(7, 2), (7, 4)] L f f := Fr.rf
  have hF0 : Fr [] L f f := Fr.rf
  have hl : lv_has ls 4 [(0, .ref h0), (1, .int a), (2, .int b)] := hl
  have hT0 := hT
  refine lv_aload_n hx hb dX9_feed_0 rfl (lv_at hl 0 rfl) ?_
  refine T_get (ci := 9) (C := RX9) (T := TX9) (N := 11) (t := (1, 0, 8, 0)) hx hb hts inw_X9_feed_9 hown hK hP hT 0 rfl rfl 0 (by decide) (hts (.fieldLink RX9 10 "VatHouse" "works" "LVatHouse$Works;") (List.mem_of_getElem? (i := 1) (by exact rfl))) (fun _ h9 => h9) rfl dX9_feed_1 (fun v_3 hv_1 hr_2 => ?_)
  obtain rfl : v_3 = .ref wk := hr_2.symm.trans ((hF.1 h0 (hT0.at 0 rfl).1 9 (hT0.at 0 rfl).2 0 (by decide)).trans h_wk)
  refine lv_iload_n hx hb dX9_feed_4 rfl (lv_at hl 1 rfl) ?_
  refine K_VX ⟨hx, hb, hml, hown, hts⟩ (t_X8_vatAtX l dC dI sa hlt g _ _ va wk a vs _ (hT.sub [1, 2] rfl)  ((hF.1 wk (hT0.at 1 rfl).1 8 (hT0.at 1 rfl).2 0 (by decide)).trans h_vs) (fun k9 h9 => (hSR.2.1 k9 h9).1)) (cwV 1 hts gX9_feed_X8_vatAt rfl rfl rfl (by decide +kernel) ⟨Nat.le_of_ble_eq_true rfl, Nat.le_of_ble_eq_true rfl⟩) hP hD hK hS hA hev hT 1 8 rfl rfl rfl rfl hl.1 rfl (Nat.le_of_ble_eq_true rfl) dX9_feed_5 ⟨Nat.le_of_ble_eq_true rfl, Nat.le_of_ble_eq_true rfl⟩ (fun E ce q9 L9 f9 H locs hpx hP hD hS hT hE1 hce hcv hcl => ?_) (fun r L_4 f_5 H locs hw_6 hP hD hS hT hE1 => ?_)
  · have hF := Fr.call hF0 hE hpx.2 (by decide)
    have hE := hE.tr hE1
    exact K_out hno hlocks ⟨Or.inl ⟨hpx.1.1, if_neg hpx.1.2⟩, hF⟩ hP hD hK hS hT hE hce hcv hcl (Nat.le_of_ble_eq_true rfl) (Nat.le_of_ble_eq_true rfl)
  have hF0 := Fr.call hF0 hE hw_6.2.1 (by decide)
  have hF := Fr.call hF hE hw_6.2.1 (by decide)
  have hE := hE.tr hE1
  obtain ⟨⟨v_7, rfl, hv9⟩, hw_6⟩ := hw_6
  obtain ⟨b_8, rfl, hb9⟩ := hv9
  have hT := hT.add hb9
  obtain ⟨hfr_9, hex_10⟩ := hw_6
  obtain ⟨hV_11, hg_12⟩ := hex_10
  have hbv_13 : b_8 = va a.toNatClampNeg := by have h9 := hg_12; injection h9 with h9; injection h9
  have hk6 := (nI_inj6 hV_11).2
  have hs_14 := SR.still hSR hE1 hfr_9 (by decide)
  refine W.eq (g2 := F0 m 8 ls [.ref b_8]) rfl ?_
  refine lv_astore_n (lv' := [(3, .ref b_8), (0, .ref h0), (1, .int a), (2, .int b)]) hx hb dX9_feed_8 rfl hl (by decide) rfl (fun ls hl => ?_)
  refine lv_iload_n hx hb dX9_feed_9 rfl (lv_at hl 3 rfl) ?_
  refine lv_iconst (v := 1) hx hb dX9_feed_10 (by decide) ?_
  refine lv_icmp_lt (tgt := 25) hx hb dX9_feed_11 (by decide) (fun c_15 => ?_) (fun c_15 => ?_)
  · refine lv_iconst (v := 0) hx hb dX9_feed_25 (by decide) ?_
    refine K_SX ⟨hx, hb, hml, hown, hts⟩ (t_X9_demandX l dC dI sa hlt g _ _ 0 _ (hT.sub [] rfl)  ) (va_cwS 1 hts gX9_feed_X9_demand rfl rfl rfl (by decide +kernel) ⟨Nat.le_of_ble_eq_true rfl, Nat.le_of_ble_eq_true rfl⟩) hP hD hK hS hA hev hT rfl hl.1 rfl (Nat.le_of_ble_eq_true rfl) dX9_feed_26 ⟨Nat.le_of_ble_eq_true rfl, Nat.le_of_ble_eq_true rfl⟩ (fun E ce q9 L9 f9 H locs hpx hP hD hS hT hE1 hce hcv hcl => ?_) (fun r L_16 f_17 H locs hw_18 hP hD hS hT hE1 => ?_)
    · have hF := Fr.call hF0 hE hpx.2 (by decide)
      have hE := hE.tr hE1
      exact K_out hno hlocks ⟨Or.inr ⟨hpx.1.1, (if_pos hV_11).trans (if_neg (fun h9 => le_nlt h9.1 c_15))⟩, hF⟩ hP hD hK hS hT hE hce hcv hcl (Nat.le_of_ble_eq_true rfl) (Nat.le_of_ble_eq_true rfl)
    have hF0 := Fr.call hF0 hE hw_18.2.1 (by decide)
    have hF := Fr.call hF hE hw_18.2.1 (by decide)
    have hE := hE.tr hE1
    obtain ⟨rfl, hw_18⟩ := hw_18
    obtain ⟨hfr_19, hex_20⟩ := hw_18
    have hs_21 := SR.still hs_14 hE1 hfr_19 (by decide)
    refine W.eq (g2 := F0 m 29 ls []) rfl ?_
    exact absurd rfl hex_20
  · refine lv_iload_n hx hb dX9_feed_14 rfl (lv_at hl 3 rfl) ?_
    refine lv_sipush (v := 1000) hx hb dX9_feed_15 (by decide) ?_
    refine lv_icmp_gt (tgt := 25) hx hb dX9_feed_18 (by decide) (fun c_22 => ?_) (fun c_22 => ?_)
    · refine lv_iconst (v := 0) hx hb dX9_feed_25 (by decide) ?_
      refine K_SX ⟨hx, hb, hml, hown, hts⟩ (t_X9_demandX l dC dI sa hlt g _ _ 0 _ (hT.sub [] rfl)  ) (va_cwS 1 hts gX9_feed_X9_demand rfl rfl rfl (by decide +kernel) ⟨Nat.le_of_ble_eq_true rfl, Nat.le_of_ble_eq_true rfl⟩) hP hD hK hS hA hev hT rfl hl.1 rfl (Nat.le_of_ble_eq_true rfl) dX9_feed_26 ⟨Nat.le_of_ble_eq_true rfl, Nat.le_of_ble_eq_true rfl⟩ (fun E ce q9 L9 f9 H locs hpx hP hD hS hT hE1 hce hcv hcl => ?_) (fun r L_23 f_24 H locs hw_25 hP hD hS hT hE1 => ?_)
      · have hF := Fr.call hF0 hE hpx.2 (by decide)
        have hE := hE.tr hE1
        exact K_out hno hlocks ⟨Or.inr ⟨hpx.1.1, (if_pos hV_11).trans (if_neg (fun h9 => le_nlt h9.2 c_22))⟩, hF⟩ hP hD hK hS hT hE hce hcv hcl (Nat.le_of_ble_eq_true rfl) (Nat.le_of_ble_eq_true rfl)
      have hF0 := Fr.call hF0 hE hw_25.2.1 (by decide)
      have hF := Fr.call hF hE hw_25.2.1 (by decide)
      have hE := hE.tr hE1
      obtain ⟨rfl, hw_25⟩ := hw_25
      obtain ⟨hfr_26, hex_27⟩ := hw_25
      have hs_28 := SR.still hs_14 hE1 hfr_26 (by decide)
      refine W.eq (g2 := F0 m 29 ls []) rfl ?_
      exact absurd rfl hex_27
    · refine lv_iconst (v := 1) hx hb dX9_feed_21 (by decide) ?_
      refine lv_goto (tgt := 26) hx hb dX9_feed_22 (by decide) ?_
      refine K_SX ⟨hx, hb, hml, hown, hts⟩ (t_X9_demandX l dC dI sa hlt g _ _ 1 _ (hT.sub [] rfl)  ) (va_cwS 1 hts gX9_feed_X9_demand rfl rfl rfl (by decide +kernel) ⟨Nat.le_of_ble_eq_true rfl, Nat.le_of_ble_eq_true rfl⟩) hP hD hK hS hA hev hT rfl hl.1 rfl (Nat.le_of_ble_eq_true rfl) dX9_feed_26 ⟨Nat.le_of_ble_eq_true rfl, Nat.le_of_ble_eq_true rfl⟩ (fun E ce q9 L9 f9 H locs hpx hP hD hS hT hE1 hce hcv hcl => ?_) (fun r L_29 f_30 H locs hw_31 hP hD hS hT hE1 => ?_)
      · have hF := Fr.call hF0 hE hpx.2 (by decide)
        have hE := hE.tr hE1
        exact absurd hpx.1.2 (by decide)
      have hF0 := Fr.call hF0 hE hw_31.2.1 (by decide)
      have hF := Fr.call hF hE hw_31.2.1 (by decide)
      have hE := hE.tr hE1
      obtain ⟨rfl, hw_31⟩ := hw_31
      obtain ⟨hfr_32, hex_33⟩ := hw_31
      have hs_34 := SR.still hs_14 hE1 hfr_32 (by decide)
      refine W.eq (g2 := F0 m 29 ls []) rfl ?_
      refine lv_aload_n hx hb dX9_feed_29 rfl (lv_at hl 0 rfl) ?_
      refine lv_iload_n hx hb dX9_feed_30 rfl (lv_at hl 3 rfl) ?_
      refine K_V ⟨hx, hb, hml, hown, hts⟩ (t_X7_takeFoodS l dC dI sa hlt g _ _ h0 wk vs cl ru va sA a.toNatClampNeg b_8 b _ (hT.sub [0] rfl)  hs_34 hk6 hbv_13) (cwV 1 hts gX9_feed_X7_takeFood rfl rfl rfl (by decide +kernel) ⟨Nat.le_of_ble_eq_true rfl, Nat.le_of_ble_eq_true rfl⟩) hP hD hK hS hA hev hT 0 7 rfl rfl rfl rfl hl.1 rfl (Nat.le_of_ble_eq_true rfl) dX9_feed_31 ⟨Nat.le_of_ble_eq_true rfl, Nat.le_of_ble_eq_true rfl⟩ (fun r L_35 f_36 H locs hw_37 hP hD hS hT hE1 => ?_)
      have hF := Fr.call hF hE hw_37.2.1 (by decide)
      have hE := hE.tr hE1
      obtain ⟨⟨rfl, hz2_38⟩ | ⟨rfl, hz2_38⟩, hw_37⟩ := hw_37
      · obtain ⟨hfr_39, hex_40⟩ := hw_37
        have hs_41 := hex_40
        refine W.eq (g2 := F0 m 34 ls [.int 0]) rfl ?_
        refine lv_pop hx hb dX9_feed_34 rfl ?_
        refine lv_aload_n hx hb dX9_feed_35 rfl (lv_at hl 0 rfl) ?_
        refine T_get (ci := 7) (C := RX7) (T := TX7) (N := 8) (t := tI) hx hb hts inw_X9_feed_7 hown hK hP hT 0 rfl rfl 4 (by decide) (hts (.fieldLink RX9 79 "VatHouse$Vat" "state" "I") (List.mem_of_getElem? (i := 2) (by exact rfl))) (fun _ h9 => h9) rfl dX9_feed_36 (fun v_44 hv_42 hr_43 => ?_)
        obtain rfl : v_44 = .int ((feA sA a.toNatClampNeg b).2 7 a.toNatClampNeg) := hr_43.symm.trans (by rw [hbv_13]; exact (hs_41.2.1 a.toNatClampNeg hk6).2.2.2.2.2.2.1)
        refine vx_ret ?_
        exact K_i hx hb hr hlocks hP hD hK hS hT hE ⟨⟨_, rfl⟩, hF, ⟨_, _, (if_pos hV_11).trans (if_pos ⟨nlt_le c_15, nlt_le c_22⟩), by show some (Value.int (upd (sA.2 7) a.toNatClampNeg _ a.toNatClampNeg)) = _; rw [show upd (sA.2 7) a.toNatClampNeg _ a.toNatClampNeg = _ from if_pos rfl], hs_41⟩⟩ (Nat.le_of_ble_eq_true rfl) (Nat.le_of_ble_eq_true rfl) dX9_feed_39
      · obtain ⟨hfr_45, hex_46⟩ := hw_37
        have hs_47 := hex_46
        refine W.eq (g2 := F0 m 34 ls [.int 1]) rfl ?_
        refine lv_pop hx hb dX9_feed_34 rfl ?_
        refine lv_aload_n hx hb dX9_feed_35 rfl (lv_at hl 0 rfl) ?_
        refine T_get (ci := 7) (C := RX7) (T := TX7) (N := 8) (t := tI) hx hb hts inw_X9_feed_7 hown hK hP hT 0 rfl rfl 4 (by decide) (hts (.fieldLink RX9 79 "VatHouse$Vat" "state" "I") (List.mem_of_getElem? (i := 2) (by exact rfl))) (fun _ h9 => h9) rfl dX9_feed_36 (fun v_50 hv_48 hr_49 => ?_)
        obtain rfl : v_50 = .int ((feA sA a.toNatClampNeg b).2 7 a.toNatClampNeg) := hr_49.symm.trans (by rw [hbv_13]; exact (hs_47.2.1 a.toNatClampNeg hk6).2.2.2.2.2.2.1)
        refine vx_ret ?_
        exact K_i hx hb hr hlocks hP hD hK hS hT hE ⟨⟨_, rfl⟩, hF, ⟨_, _, (if_pos hV_11).trans (if_pos ⟨nlt_le c_15, nlt_le c_22⟩), by show some (Value.int (upd (sA.2 7) a.toNatClampNeg _ a.toNatClampNeg)) = _; rw [show upd (sA.2 7) a.toNatClampNeg _ a.toNatClampNeg = _ from if_pos rfl], hs_47⟩⟩ (Nat.le_of_ble_eq_true rfl) (Nat.le_of_ble_eq_true rfl) dX9_feed_39

noncomputable abbrev rm_X9_limeS : Room := { frames := 7, cells := 1, slots := 6, locals := 103 }
set_option maxHeartbeats 800000 in
set_option maxRecDepth 100000 in
theorem t_X9_limeS (l : Launch) (dC : Nat → ClassId) (dI : Nat → Nat → Nat) (sa : Nat → Nat) (hlt : l.stackTraces = false) (g : Nat → Nat) (L : List Nat) (f : Nat → va_E) (va : Nat → Nat) (sA : AS) (h0 : Nat) (a : Int32) (wk : Nat) (vs : Nat) (cl : Nat) (ru : Nat) (sz : Nat) (hT : TP g L f [(h0, (0, 9, 0)), (wk, (0, 8, 0)), (vs, (2, g 2, 6)), (cl, (2, g 3, 30)), (ru, (0, 4, 0))]) (h_wk : rd f h0 0 = .ref wk) (h_vs : rd f wk 0 = .ref vs) (h_cl : rd f h0 1 = .ref cl) (h_ru : rd f h0 9 = .ref ru) (hSR : SR g L f (h0, wk, vs, cl, ru, va) sA) (hRG : RV sA ∧ RC sA ∧ 0 ≤ (sA.1 1).toInt ∧ (sA.1 1).toInt ≤ 9000000) : KX l dC dI sa g yX9_lime wsX9_lime rm_X9_limeS [.ref h0, .int a] L f sz (fun r L' f' => (∃ z : Int32, r = some (.int z)) ∧ Fr [(7, 2), (7, 3), (7, 4)] L f f' ∧ (∃ (v : Int32) (s2 : AS), lmS a sA = (0, v, s2) ∧ r = some (.int v) ∧ SR g L' f' (h0, wk, vs, cl, ru, va) s2)) (fun E L' f' => (E = NSE ∧ lmS a sA = (1, 0, sA)) ∧ Fr [] L f f') 1 6 := by
  refine KX.start (cc := cX9_lime) (maxL := 3) (ret := (some .int)) (by decide) rfl (Nat.le_of_ble_eq_true rfl) ?_
  intro p e s m below meth c ls hst hno hP hK hD hev hS hl
  obtain ⟨hx, hb, hr, hml, hts, hown, hlocks, hin⟩ := hst
  have hown : s.vm.findClass RX9 = some m.cls := hown
  have hin : meth.name = yX9_lime.name := hin
  have hA : ∀ q : Nat, s.heap.size ≤ q → va_A (va_pl L f) s.heap.size q := fun _ h => Or.inr h
  have hE : Ext L f L f := Ext.rf
  have hF : Fr [(7, 2), (7, 3), (7, 4)] L f f := Fr.rf
  have hF0 : Fr [] L f f := Fr.rf
  have hl : lv_has ls 3 [(0, .ref h0), (1, .int a)] := hl
  have hT0 := hT
  refine lv_aload_n hx hb dX9_lime_0 rfl (lv_at hl 0 rfl) ?_
  refine T_get (ci := 9) (C := RX9) (T := TX9) (N := 11) (t := (1, 0, 8, 0)) hx hb hts inw_X9_lime_9 hown hK hP hT 0 rfl rfl 0 (by decide) (hts (.fieldLink RX9 10 "VatHouse" "works" "LVatHouse$Works;") (List.mem_of_getElem? (i := 1) (by exact rfl))) (fun _ h9 => h9) rfl dX9_lime_1 (fun v_3 hv_1 hr_2 => ?_)
  obtain rfl : v_3 = .ref wk := hr_2.symm.trans ((hF.1 h0 (hT0.at 0 rfl).1 9 (hT0.at 0 rfl).2 0 (by decide)).trans h_wk)
  refine lv_iload_n hx hb dX9_lime_4 rfl (lv_at hl 1 rfl) ?_
  refine K_VX ⟨hx, hb, hml, hown, hts⟩ (t_X8_vatAtX l dC dI sa hlt g _ _ va wk a vs _ (hT.sub [1, 2] rfl)  ((hF.1 wk (hT0.at 1 rfl).1 8 (hT0.at 1 rfl).2 0 (by decide)).trans h_vs) (fun k9 h9 => (hSR.2.1 k9 h9).1)) (cwV 1 hts gX9_lime_X8_vatAt rfl rfl rfl (by decide +kernel) ⟨Nat.le_of_ble_eq_true rfl, Nat.le_of_ble_eq_true rfl⟩) hP hD hK hS hA hev hT 1 8 rfl rfl rfl rfl hl.1 rfl (Nat.le_of_ble_eq_true rfl) dX9_lime_5 ⟨Nat.le_of_ble_eq_true rfl, Nat.le_of_ble_eq_true rfl⟩ (fun E ce q9 L9 f9 H locs hpx hP hD hS hT hE1 hce hcv hcl => ?_) (fun r L_4 f_5 H locs hw_6 hP hD hS hT hE1 => ?_)
  · have hF := Fr.call hF0 hE hpx.2 (by decide)
    have hE := hE.tr hE1
    exact K_out hno hlocks ⟨⟨hpx.1.1, if_neg hpx.1.2⟩, hF⟩ hP hD hK hS hT hE hce hcv hcl (Nat.le_of_ble_eq_true rfl) (Nat.le_of_ble_eq_true rfl)
  have hF0 := Fr.call hF0 hE hw_6.2.1 (by decide)
  have hF := Fr.call hF hE hw_6.2.1 (by decide)
  have hE := hE.tr hE1
  obtain ⟨⟨v_7, rfl, hv9⟩, hw_6⟩ := hw_6
  obtain ⟨b_8, rfl, hb9⟩ := hv9
  have hT := hT.add hb9
  obtain ⟨hfr_9, hex_10⟩ := hw_6
  obtain ⟨hV_11, hg_12⟩ := hex_10
  have hbv_13 : b_8 = va a.toNatClampNeg := by have h9 := hg_12; injection h9 with h9; injection h9
  have hk6 := (nI_inj6 hV_11).2
  have hs_14 := SR.still hSR hE1 hfr_9 (by decide)
  refine W.eq (g2 := F0 m 8 ls [.ref b_8]) rfl ?_
  refine lv_astore_n (lv' := [(2, .ref b_8), (0, .ref h0), (1, .int a)]) hx hb dX9_lime_8 rfl hl (by decide) rfl (fun ls hl => ?_)
  refine lv_aload_n hx hb dX9_lime_9 rfl (lv_at hl 0 rfl) ?_
  refine K_V ⟨hx, hb, hml, hown, hts⟩ (t_X7_takeLimeS l dC dI sa hlt g _ _ h0 wk vs cl ru va sA a.toNatClampNeg b_8 _ (hT.sub [0] rfl)  hs_14 hk6 hbv_13) (cwV 0 hts gX9_lime_X7_takeLime rfl rfl rfl (by decide +kernel) ⟨Nat.le_of_ble_eq_true rfl, Nat.le_of_ble_eq_true rfl⟩) hP hD hK hS hA hev hT 0 7 rfl rfl rfl rfl hl.1 rfl (Nat.le_of_ble_eq_true rfl) dX9_lime_10 ⟨Nat.le_of_ble_eq_true rfl, Nat.le_of_ble_eq_true rfl⟩ (fun r L_15 f_16 H locs hw_17 hP hD hS hT hE1 => ?_)
  have hF := Fr.call hF hE hw_17.2.1 (by decide)
  have hE := hE.tr hE1
  obtain ⟨rfl, hw_17⟩ := hw_17
  obtain ⟨hfr_18, hex_19⟩ := hw_17
  have hs_20 := hex_19
  refine W.eq (g2 := F0 m 13 ls []) rfl ?_
  refine lv_aload_n hx hb dX9_lime_13 rfl (lv_at hl 0 rfl) ?_
  refine T_get (ci := 7) (C := RX7) (T := TX7) (N := 8) (t := tI) hx hb hts inw_X9_lime_7 hown hK hP hT 0 rfl rfl 4 (by decide) (hts (.fieldLink RX9 79 "VatHouse$Vat" "state" "I") (List.mem_of_getElem? (i := 2) (by exact rfl))) (fun _ h9 => h9) rfl dX9_lime_14 (fun v_23 hv_21 hr_22 => ?_)
  obtain rfl : v_23 = .int ((lmA sA a.toNatClampNeg).2 7 a.toNatClampNeg) := hr_22.symm.trans (by rw [hbv_13]; exact (hs_20.2.1 a.toNatClampNeg hk6).2.2.2.2.2.2.1)
  refine vx_ret ?_
  exact K_i hx hb hr hlocks hP hD hK hS hT hE ⟨⟨_, rfl⟩, hF, ⟨_, _, if_pos hV_11, by show some (Value.int (upd (sA.2 7) a.toNatClampNeg _ a.toNatClampNeg)) = _; rw [show upd (sA.2 7) a.toNatClampNeg _ a.toNatClampNeg = _ from if_pos rfl], hs_20⟩⟩ (Nat.le_of_ble_eq_true rfl) (Nat.le_of_ble_eq_true rfl) dX9_lime_17
