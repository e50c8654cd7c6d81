noncomputable abbrev rm_X4_mayCountS : Room := { frames := 0, cells := 0, slots := 0, locals := 0 }
set_option maxHeartbeats 800000 in
set_option maxRecDepth 100000 in
theorem t_X4_mayCountS (l : Launch) (dC : Nat → ClassId) (dI : Nat → Nat → Nat) (sa : Nat → Nat) (hlt : l.stackTraces = false) (g : Nat → Nat) (L : List Nat) (f : Nat → va_E) (x0 : Nat) (cl : Nat) (va : Nat → Nat) (sA : AS) (h0 : Nat) (wk : Nat) (vs : Nat) (sz : Nat) (hT : TP g L f [(h0, (0, 4, 0)), (wk, (0, 8, 0)), (vs, (2, g 2, 6))]) (h_wk : rd f h0 0 = .ref wk) (h_vs : rd f wk 0 = .ref vs) (hSR : SR g L f (x0, wk, vs, cl, h0, va) sA) (hle : (sA.1 40).toInt ≤ (sA.1 39).toInt) : KC l dC dI sa g yX4_mayCount wsX4_mayCount rm_X4_mayCountS [.ref h0] L f sz (fun r L' f' => ((r = some (.int 0) ∧ (sA.1 40 = sA.1 39 ∧ SR g L' f' (x0, wk, vs, cl, h0, va) sA)) ∨ (r = some (.int 1) ∧ (¬ sA.1 40 = sA.1 39 ∧ SR g L' f' (x0, wk, vs, cl, h0, va) (coA sA)))) ∧ Fr [(4, 4)] L f f') 0 0 := by
  refine CT.start (cc := cX4_mayCount) (maxL := 1) (ret := (some .boolean)) (by decide) rfl (Nat.le_of_ble_eq_true rfl) ?_
  intro p e s m below meth c ls hst hP hK hD hev hS hl
  obtain ⟨hx, hb, hr, hml, hts, hown, hlocks, hin⟩ := hst
  have hown : s.vm.findClass RX4 = some m.cls := hown
  have hin : meth.name = yX4_mayCount.name := hin
  have hA : ∀ q : Nat, s.heap.size ≤ q → va_A (va_pl L f) s.heap.size q := fun _ h => Or.inr h
  have hE : Ext L f L f := Ext.rf
  have hF : Fr [(4, 4)] L f f := Fr.rf
  have hl : lv_has ls 1 [(0, .ref h0)] := hl
  have hT0 := hT
  refine lv_aload_n hx hb dX4_mayCount_0 rfl (lv_at hl 0 rfl) ?_
  refine T_get (ci := 4) (C := RX4) (T := TX4) (N := 8) (t := tI) hx hb hts inw_X4_mayCount_4 hown hK hP hT 0 rfl rfl 4 (by decide) (hts (.fieldLink RX4 22 "VatHouse$Runner" "counted" "I") (List.mem_of_getElem? (i := 1) (by exact rfl))) (fun _ h9 => h9) rfl dX4_mayCount_1 (fun v_3 hv_1 hr_2 => ?_)
  obtain rfl : v_3 = .int (sA.1 40) := hr_2.symm.trans hSR.2.2.2.2.2.2.2.2.1
  refine lv_aload_n hx hb dX4_mayCount_4 rfl (lv_at hl 0 rfl) ?_
  refine T_get (ci := 4) (C := RX4) (T := TX4) (N := 8) (t := tI) hx hb hts inw_X4_mayCount_4 hown hK hP hT 0 rfl rfl 1 (by decide) (hts (.fieldLink RX4 19 "VatHouse$Runner" "limit" "I") (List.mem_of_getElem? (i := 2) (by exact rfl))) (fun _ h9 => h9) rfl dX4_mayCount_5 (fun v_6 hv_4 hr_5 => ?_)
  obtain rfl : v_6 = .int (sA.1 39) := hr_5.symm.trans hSR.2.2.2.2.2.1
  refine lv_icmp_lt (tgt := 13) hx hb dX4_mayCount_8 (by decide) (fun c_7 => ?_) (fun c_7 => ?_)
  · refine lv_aload_n hx hb dX4_mayCount_13 rfl (lv_at hl 0 rfl) ?_
    refine lv_dup hx hb dX4_mayCount_14 rfl ?_
    refine T_get (ci := 4) (C := RX4) (T := TX4) (N := 8) (t := tI) hx hb hts inw_X4_mayCount_4 hown hK hP hT 0 rfl rfl 4 (by decide) (hts (.fieldLink RX4 22 "VatHouse$Runner" "counted" "I") (List.mem_of_getElem? (i := 1) (by exact rfl))) (fun _ h9 => h9) rfl dX4_mayCount_15 (fun v_10 hv_8 hr_9 => ?_)
    obtain rfl : v_10 = .int (sA.1 40) := hr_9.symm.trans hSR.2.2.2.2.2.2.2.2.1
    refine lv_iconst (v := 1) hx hb dX4_mayCount_18 (by decide) ?_
    refine lv_iadd hx hb dX4_mayCount_19 ?_
    refine lv_topi (fun z_11 ez_11 => ?_)
    refine T_put (ci := 4) (v := .int z_11) (ty := .int) (t := tI) (C := RX4) (T := TX4) (N := 8) hx hb hts inw_X4_mayCount_4 tyX4 tyX4_ok nmX4 hown hK hP hD hS hT 0 rfl rfl 4 (by decide) (hts (.fieldLink RX4 22 "VatHouse$Runner" "counted" "I") (List.mem_of_getElem? (i := 1) (by exact rfl))) (fun _ h9 => h9) rfl (tyX4_ok 4 (by decide)) rfl rfl rfl ⟨_, rfl⟩ dX4_mayCount_20 (fun f_12 H locs hP hD hS hT hE1 hrd_13 hup_14 => ?_)
    have hF := Fr.put (a := h0) (ci := 4) hF hE ((hE1 h0 (hT.at 0 rfl).1).2.symm.trans (hT.at 0 rfl).2) (by decide) hrd_13 hup_14
    have hE := hE.tr hE1
    have hs_15 := SR.pr (k := 4) (i := 40) hSR (by decide) hE1 hrd_13 hup_14
    refine lv_iconst (v := 1) hx hb dX4_mayCount_23 (by decide) ?_
    exact K_z hx hb hr rfl hlocks hP hD hK hS hT hE ⟨Or.inr ⟨rfl, ⟨lt_nee c_7, by subst ez_11; exact hs_15⟩⟩, hF⟩ (Nat.le_of_ble_eq_true rfl) (Nat.le_of_ble_eq_true rfl) dX4_mayCount_24
  · refine lv_iconst (v := 0) hx hb dX4_mayCount_11 (by decide) ?_
    exact K_z hx hb hr rfl hlocks hP hD hK hS hT hE ⟨Or.inl ⟨rfl, ⟨ge_eq hle c_7, hSR⟩⟩, hF⟩ (Nat.le_of_ble_eq_true rfl) (Nat.le_of_ble_eq_true rfl) dX4_mayCount_12

noncomputable abbrev rm_X4_doAirS : Room := { frames := 2, cells := 0, slots := 0, locals := 43 }
set_option maxHeartbeats 800000 in
set_option maxRecDepth 100000 in
theorem t_X4_doAirS (l : Launch) (dC : Nat → ClassId) (dI : Nat → Nat → Nat) (sa : Nat → Nat) (hlt : l.stackTraces = false) (g : Nat → Nat) (L : List Nat) (f : Nat → va_E) (x0 : Nat) (cl : Nat) (va : Nat → Nat) (B : Int) (ck : Nat) (sA : AS) (h0 : Nat) (w : Nat) (wk : Nat) (vs : Nat) (sz : Nat) (hT : TP g L f [(h0, (0, 4, 0)), (w, (0, 0, 0)), (wk, (0, 8, 0)), (vs, (2, g 2, 6))]) (h_wk : rd f h0 0 = .ref wk) (h_vs : rd f wk 0 = .ref vs) (hSR : SR g L f (x0, wk, vs, cl, h0, va) sA) (hIV : IV B sA) (hc : (ck : Int) < (sA.1 12).toInt) (hcl : ra f cl ck = some w) : KC l dC dI sa g yX4_doAir wsX4_doAir rm_X4_doAirS [.ref h0, .ref w] L f sz (fun r L' f' => (∃ z : Int32, r = some (.int z)) ∧ Fr [(0, 2), (0, 3), (8, 2)] L f f' ∧ (r = some (.int (cO (arR sA ck).1)) ∧ SR g L' f' (x0, wk, vs, cl, h0, va) (arR sA ck).2)) 0 0 := by
  refine CT.start (cc := cX4_doAir) (maxL := 2) (ret := (some .int)) (by decide) rfl (Nat.le_of_ble_eq_true rfl) ?_
  intro p e s m below meth c ls hst hP hK hD hev hS hl
  obtain ⟨hx, hb, hr, hml, hts, hown, hlocks, hin⟩ := hst
  have hown : s.vm.findClass RX4 = some m.cls := hown
  have hin : meth.name = yX4_doAir.name := hin
  have hA : ∀ q : Nat, s.heap.size ≤ q → va_A (va_pl L f) s.heap.size q := fun _ h => Or.inr h
  have hE : Ext L f L f := Ext.rf
  have hF : Fr [(0, 2), (0, 3), (8, 2)] L f f := Fr.rf
  have hl : lv_has ls 2 [(0, .ref h0), (1, .ref w)] := hl
  have hT0 := hT
  refine lv_aload_n hx hb dX4_doAir_0 rfl (lv_at hl 1 rfl) ?_
  refine T_get (ci := 0) (C := RX0) (T := TX0) (N := 8) (t := tI) hx hb hts inw_X4_doAir_0 hown hK hP hT 1 rfl rfl 2 (by decide) (hts (.fieldLink RX4 137 "VatHouse$Cloth" "loose" "I") (List.mem_of_getElem? (i := 1) (by exact rfl))) (fun _ h9 => h9) rfl dX4_doAir_1 (fun v_3 hv_1 hr_2 => ?_)
  obtain rfl : v_3 = .int (sA.2 14 ck) := hr_2.symm.trans (SR.cf2 hSR hc (by rw [ra_eq (hF.2 cl hSR.1.1.2.2.2.1.1 1 _ _ hSR.1.1.2.2.2.1.2 (by decide))]; exact hcl))
  refine lv_iconst (v := 1) hx hb dX4_doAir_4 (by decide) ?_
  refine lv_icmp_ge (tgt := 10) hx hb dX4_doAir_5 (by decide) (fun c_4 => ?_) (fun c_4 => ?_)
  · refine lv_aload_n hx hb dX4_doAir_10 rfl (lv_at hl 0 rfl) ?_
    refine T_get (ci := 4) (C := RX4) (T := TX4) (N := 8) (t := (1, 0, 8, 0)) hx hb hts inw_X4_doAir_4 hown hK hP hT 0 rfl rfl 0 (by decide) (hts (.fieldLink RX4 15 "VatHouse$Runner" "works" "LVatHouse$Works;") (List.mem_of_getElem? (i := 2) (by exact rfl))) (fun _ h9 => h9) rfl dX4_doAir_11 (fun v_7 hv_5 hr_6 => ?_)
    obtain rfl : v_7 = .ref wk := hr_6.symm.trans ((hF.1 h0 (hT0.at 0 rfl).1 4 (hT0.at 0 rfl).2 0 (by decide)).trans h_wk)
    refine lv_aload_n hx hb dX4_doAir_14 rfl (lv_at hl 1 rfl) ?_
    refine K_V ⟨hx, hb, hml, hown, hts⟩ (t_X8_airOutS l dC dI sa hlt g _ _ x0 vs cl h0 va sA ck wk w _ (hT.sub [2, 1] rfl)  hSR hIV.2.1.1.2 hc (by rw [ra_eq (hF.2 cl hSR.1.1.2.2.2.1.1 1 _ _ hSR.1.1.2.2.2.1.2 (by decide))]; exact hcl)) (cwV 1 hts gX4_doAir_X8_airOut rfl rfl rfl (by decide +kernel) ⟨Nat.le_of_ble_eq_true rfl, Nat.le_of_ble_eq_true rfl⟩) hP hD hK hS hA hev hT 2 8 rfl rfl rfl rfl hl.1 rfl (Nat.le_of_ble_eq_true rfl) dX4_doAir_15 ⟨Nat.le_of_ble_eq_true rfl, Nat.le_of_ble_eq_true rfl⟩ (fun r L_8 f_9 H locs hw_10 hP hD hS hT hE1 => ?_)
    have hF := Fr.call hF hE hw_10.2.1 (by decide)
    have hE := hE.tr hE1
    obtain ⟨⟨z_11, rfl⟩, hw_10⟩ := hw_10
    obtain ⟨hfr_12, hex_13⟩ := hw_10
    have hs_14 := hex_13.2
    refine W.eq (g2 := F0 m 18 ls [.int z_11]) rfl ?_
    refine lv_pop hx hb dX4_doAir_18 rfl ?_
    refine lv_iconst (v := 0) hx hb dX4_doAir_19 (by decide) ?_
    exact K_i hx hb hr hlocks hP hD hK hS hT hE ⟨⟨_, rfl⟩, hF, (by rw [show arR sA ck = (0, aiA sA ck) from if_neg (ge1_n c_4)]; exact ⟨congrArg (fun z => some (Value.int z)) cO_0.symm, hs_14⟩)⟩ (Nat.le_of_ble_eq_true rfl) (Nat.le_of_ble_eq_true rfl) dX4_doAir_20
  · refine lv_iconst (v := 3) hx hb dX4_doAir_8 (by decide) ?_
    exact K_i hx hb hr hlocks hP hD hK hS hT hE ⟨⟨_, rfl⟩, hF, (by rw [show arR sA ck = (3, sA) from if_pos (lt1_0 (hIV.2.1.2 ck hc).2.1 c_4)]; exact ⟨congrArg (fun z => some (Value.int z)) cO_3.symm, hSR⟩)⟩ (Nat.le_of_ble_eq_true rfl) (Nat.le_of_ble_eq_true rfl) dX4_doAir_9

noncomputable abbrev rm_X4_doLimeS : Room := { frames := 1, cells := 0, slots := 0, locals := 20 }
set_option maxHeartbeats 800000 in
set_option maxRecDepth 100000 in
theorem t_X4_doLimeS (l : Launch) (dC : Nat → ClassId) (dI : Nat → Nat → Nat) (sa : Nat → Nat) (hlt : l.stackTraces = false) (g : Nat → Nat) (L : List Nat) (f : Nat → va_E) (x0 : Nat) (cl : Nat) (va : Nat → Nat) (sA : AS) (kv : Nat) (h0 : Nat) (v : Nat) (wk : Nat) (vs : Nat) (sz : Nat) (hT : TP g L f [(h0, (0, 4, 0)), (v, (0, 7, 0)), (wk, (0, 8, 0)), (vs, (2, g 2, 6))]) (h_wk : rd f h0 0 = .ref wk) (h_vs : rd f wk 0 = .ref vs) (hSR : SR g L f (x0, wk, vs, cl, h0, va) sA) (hkv : kv < 6) (hv : v = va kv) : KC l dC dI sa g yX4_doLime wsX4_doLime rm_X4_doLimeS [.ref h0, .ref v] L f sz (fun r L' f' => (∃ z : Int32, r = some (.int z)) ∧ Fr [(7, 2), (7, 3), (7, 4)] L f f' ∧ (r = some (.int (cO (lmR sA kv).1)) ∧ SR g L' f' (x0, wk, vs, cl, h0, va) (lmR sA kv).2)) 0 0 := by
  refine CT.start (cc := cX4_doLime) (maxL := 2) (ret := (some .int)) (by decide) rfl (Nat.le_of_ble_eq_true rfl) ?_
  intro p e s m below meth c ls hst hP hK hD hev hS hl
  obtain ⟨hx, hb, hr, hml, hts, hown, hlocks, hin⟩ := hst
  have hown : s.vm.findClass RX4 = some m.cls := hown
  have hin : meth.name = yX4_doLime.name := hin
  have hA : ∀ q : Nat, s.heap.size ≤ q → va_A (va_pl L f) s.heap.size q := fun _ h => Or.inr h
  have hE : Ext L f L f := Ext.rf
  have hF : Fr [(7, 2), (7, 3), (7, 4)] L f f := Fr.rf
  have hl : lv_has ls 2 [(0, .ref h0), (1, .ref v)] := hl
  have hT0 := hT
  refine lv_aload_n hx hb dX4_doLime_0 rfl (lv_at hl 1 rfl) ?_
  refine T_get (ci := 7) (C := RX7) (T := TX7) (N := 8) (t := tI) hx hb hts inw_X4_doLime_7 hown hK hP hT 1 rfl rfl 4 (by decide) (hts (.fieldLink RX4 126 "VatHouse$Vat" "state" "I") (List.mem_of_getElem? (i := 1) (by exact rfl))) (fun _ h9 => h9) rfl dX4_doLime_1 (fun v_3 hv_1 hr_2 => ?_)
  obtain rfl : v_3 = .int (sA.2 7 kv) := hr_2.symm.trans (by rw [hv]; exact (hSR.2.1 kv hkv).2.2.2.2.2.2.1)
  refine lv_iconst (v := 2) hx hb dX4_doLime_4 (by decide) ?_
  refine lv_icmp_eq (tgt := 10) hx hb dX4_doLime_5 (by decide) (fun c_4 => ?_) (fun c_4 => ?_)
  · refine lv_aload_n hx hb dX4_doLime_10 rfl (lv_at hl 1 rfl) ?_
    refine K_V ⟨hx, hb, hml, hown, hts⟩ (t_X7_takeLimeS l dC dI sa hlt g _ _ x0 wk vs cl h0 va sA kv v _ (hT.sub [1] rfl)  hSR hkv hv) (cwV 0 hts gX4_doLime_X7_takeLime rfl rfl rfl (by decide +kernel) ⟨Nat.le_of_ble_eq_true rfl, Nat.le_of_ble_eq_true rfl⟩) hP hD hK hS hA hev hT 1 7 rfl rfl rfl rfl hl.1 rfl (Nat.le_of_ble_eq_true rfl) dX4_doLime_11 ⟨Nat.le_of_ble_eq_true rfl, Nat.le_of_ble_eq_true rfl⟩ (fun r L_5 f_6 H locs hw_7 hP hD hS hT hE1 => ?_)
    have hF := Fr.call hF hE hw_7.2.1 (by decide)
    have hE := hE.tr hE1
    obtain ⟨rfl, hw_7⟩ := hw_7
    obtain ⟨hfr_8, hex_9⟩ := hw_7
    have hs_10 := hex_9
    refine W.eq (g2 := F0 m 14 ls []) rfl ?_
    refine lv_iconst (v := 0) hx hb dX4_doLime_14 (by decide) ?_
    exact K_i hx hb hr hlocks hP hD hK hS hT hE ⟨⟨_, rfl⟩, hF, (by rw [show lmR sA kv = (0, lmA sA kv) from if_pos c_4]; exact ⟨congrArg (fun z => some (Value.int z)) cO_0.symm, hs_10⟩)⟩ (Nat.le_of_ble_eq_true rfl) (Nat.le_of_ble_eq_true rfl) dX4_doLime_15
  · refine lv_iconst (v := 4) hx hb dX4_doLime_8 (by decide) ?_
    exact K_i hx hb hr hlocks hP hD hK hS hT hE ⟨⟨_, rfl⟩, hF, (by rw [show lmR sA kv = (4, sA) from if_neg c_4]; exact ⟨congrArg (fun z => some (Value.int z)) cO_4.symm, hSR⟩)⟩ (Nat.le_of_ble_eq_true rfl) (Nat.le_of_ble_eq_true rfl) dX4_doLime_9

noncomputable abbrev rm_X4_doDipS : Room := { frames := 2, cells := 0, slots := 0, locals := 47 }
set_option maxHeartbeats 800000 in
set_option maxRecDepth 100000 in
theorem t_X4_doDipS (l : Launch) (dC : Nat → ClassId) (dI : Nat → Nat → Nat) (sa : Nat → Nat) (hlt : l.stackTraces = false) (g : Nat → Nat) (L : List Nat) (f : Nat → va_E) (x0 : Nat) (cl : Nat) (va : Nat → Nat) (B : Int) (ck : Nat) (sA : AS) (kv : Nat) (h0 : Nat) (v : Nat) (w : Nat) (mm : Int32) (wk : Nat) (vs : Nat) (sz : Nat) (hT : TP g L f [(h0, (0, 4, 0)), (v, (0, 7, 0)), (w, (0, 0, 0)), (wk, (0, 8, 0)), (vs, (2, g 2, 6))]) (h_wk : rd f h0 0 = .ref wk) (h_vs : rd f wk 0 = .ref vs) (hSR : SR g L f (x0, wk, vs, cl, h0, va) sA) (hIV : IV B sA) (hc : (ck : Int) < (sA.1 12).toInt) (hcl : ra f cl ck = some w) (hkv : kv < 6) (hv : v = va kv) (hm20 : 1 ≤ mm.toInt ∧ mm.toInt ≤ 20) : KC l dC dI sa g yX4_doDip wsX4_doDip rm_X4_doDipS [.ref h0, .ref v, .ref w, .int mm] L f sz (fun r L' f' => (∃ z : Int32, r = some (.int z)) ∧ Fr [(7, 1), (7, 2), (7, 3), (7, 4), (7, 5), (7, 6), (7, 7), (0, 2), (0, 6), (0, 7), (4, 5), (4, 6)] L f f' ∧ (r = some (.int (cO (dpA sA ck kv mm).1)) ∧ SR g L' f' (x0, wk, vs, cl, h0, va) (dpA sA ck kv mm).2)) 0 0 := by
  refine CT.start (cc := cX4_doDip) (maxL := 5) (ret := (some .int)) (by decide) rfl (Nat.le_of_ble_eq_true rfl) ?_
  intro p e s m below meth c ls hst hP hK hD hev hS hl
  obtain ⟨hx, hb, hr, hml, hts, hown, hlocks, hin⟩ := hst
  have hown : s.vm.findClass RX4 = some m.cls := hown
  have hin : meth.name = yX4_doDip.name := hin
  have hA : ∀ q : Nat, s.heap.size ≤ q → va_A (va_pl L f) s.heap.size q := fun _ h => Or.inr h
  have hE : Ext L f L f := Ext.rf
  have hF : Fr [(7, 1), (7, 2), (7, 3), (7, 4), (7, 5), (7, 6), (7, 7), (0, 2), (0, 6), (0, 7), (4, 5), (4, 6)] L f f := Fr.rf
  have hl : lv_has ls 5 [(0, .ref h0), (1, .ref v), (2, .ref w), (3, .int mm)] := hl
  have hT0 := hT
  have hmv : 0 ≤ (mvA sA ck kv mm).toInt ∧ _ := mv_i (st := sA.2 7 kv) (hIV.1 kv hkv).1 (hIV.2.1.2 ck hc).1 hm20 (hIV.2.1.2 ck hc).2.1 (hIV.2.1.2 ck hc).2.2.1 (hIV.2.1.2 ck hc).2.2.2.1
  refine lv_aload_n hx hb dX4_doDip_0 rfl (lv_at hl 1 rfl) ?_
  refine T_get (ci := 7) (C := RX7) (T := TX7) (N := 8) (t := tI) hx hb hts inw_X4_doDip_7 hown hK hP hT 1 rfl rfl 4 (by decide) (hts (.fieldLink RX4 126 "VatHouse$Vat" "state" "I") (List.mem_of_getElem? (i := 1) (by exact rfl))) (fun _ h9 => h9) rfl dX4_doDip_1 (fun v_3 hv_1 hr_2 => ?_)
  obtain rfl : v_3 = .int (sA.2 7 kv) := hr_2.symm.trans (by rw [hv]; exact (hSR.2.1 kv hkv).2.2.2.2.2.2.1)
  refine lv_iconst (v := 2) hx hb dX4_doDip_4 (by decide) ?_
  refine lv_icmp_ne (tgt := 10) hx hb dX4_doDip_5 (by decide) (fun c_4 => ?_) (fun c_4 => ?_)
  · refine lv_aload_n hx hb dX4_doDip_10 rfl (lv_at hl 1 rfl) ?_
    refine lv_aload_n hx hb dX4_doDip_11 rfl (lv_at hl 2 rfl) ?_
    refine lv_iload_n hx hb dX4_doDip_12 rfl (lv_at hl 3 rfl) ?_
    refine K_V ⟨hx, hb, hml, hown, hts⟩ (t_X7_givesToS l dC dI sa hlt g _ _ x0 wk vs cl h0 va sA kv ck v w mm _ (hT.sub [1, 2] rfl)  hSR hkv hc (by rw [ra_eq (hF.2 cl hSR.1.1.2.2.2.1.1 1 _ _ hSR.1.1.2.2.2.1.2 (by decide))]; exact hcl) hv (we_of (hIV.2.1.2 ck hc).1).1 c_4) (cwV 2 hts gX4_doDip_X7_givesTo rfl rfl rfl (by decide +kernel) ⟨Nat.le_of_ble_eq_true rfl, Nat.le_of_ble_eq_true rfl⟩) hP hD hK hS hA hev hT 1 7 rfl rfl rfl rfl hl.1 rfl (Nat.le_of_ble_eq_true rfl) dX4_doDip_13 ⟨Nat.le_of_ble_eq_true rfl, Nat.le_of_ble_eq_true rfl⟩ (fun r L_5 f_6 H locs hw_7 hP hD hS hT hE1 => ?_)
    have hF := Fr.call hF hE hw_7.2.1 (by decide)
    have hE := hE.tr hE1
    obtain ⟨⟨z_8, rfl⟩, hw_7⟩ := hw_7
    obtain ⟨hfr_9, hex_10⟩ := hw_7
    obtain ⟨hg_11, hs_12⟩ := hex_10
    have ez_8 : z_8 = mvA sA ck kv mm := sv hg_11
    refine W.eq (g2 := F0 m 16 ls [.int z_8]) rfl ?_
    refine lv_istore (lv' := [(4, .int z_8), (0, .ref h0), (1, .ref v), (2, .ref w), (3, .int mm)]) hx hb dX4_doDip_16 hl (by decide) rfl (fun ls hl => ?_)
    refine lv_iload hx hb dX4_doDip_18 (lv_at hl 0 rfl) ?_
    refine lv_iconst (v := 1) hx hb dX4_doDip_20 (by decide) ?_
    refine lv_icmp_ge (tgt := 26) hx hb dX4_doDip_21 (by decide) (fun c_13 => ?_) (fun c_13 => ?_)
    · refine lv_aload_n hx hb dX4_doDip_26 rfl (lv_at hl 1 rfl) ?_
      refine T_get (ci := 4) (C := RX4) (T := TX4) (N := 8) (t := (1, 0, 8, 0)) hx hb hts inw_X4_doDip_4 hown hK hP hT 0 rfl rfl 0 (by decide) (hts (.fieldLink RX4 15 "VatHouse$Runner" "works" "LVatHouse$Works;") (List.mem_of_getElem? (i := 2) (by exact rfl))) (fun _ h9 => h9) rfl dX4_doDip_27 (fun v_16 hv_14 hr_15 => ?_)
      obtain rfl : v_16 = .ref wk := hr_15.symm.trans ((hF.1 h0 (hT0.at 0 rfl).1 4 (hT0.at 0 rfl).2 0 (by decide)).trans h_wk)
      refine lv_aload_n hx hb dX4_doDip_30 rfl (lv_at hl 2 rfl) ?_
      refine lv_aload_n hx hb dX4_doDip_31 rfl (lv_at hl 3 rfl) ?_
      refine lv_iload_n hx hb dX4_doDip_32 rfl (lv_at hl 4 rfl) ?_
      refine lv_iload hx hb dX4_doDip_33 (lv_at hl 0 rfl) ?_
      refine K_V ⟨hx, hb, hml, hown, hts⟩ (t_X8_dipIntoS l dC dI sa hlt g _ _ x0 vs cl h0 va sA kv ck wk v w mm z_8 _ (hT.sub [3, 1, 2] rfl)  hs_12 hIV.2.1.1.2 hkv hc (by rw [ra_eq (hF.2 cl hSR.1.1.2.2.2.1.1 1 _ _ hSR.1.1.2.2.2.1.2 (by decide))]; exact hcl) hv) (cwV 4 hts gX4_doDip_X8_dipInto rfl rfl rfl (by decide +kernel) ⟨Nat.le_of_ble_eq_true rfl, Nat.le_of_ble_eq_true rfl⟩) hP hD hK hS hA hev hT 3 8 rfl rfl rfl rfl hl.1 rfl (Nat.le_of_ble_eq_true rfl) dX4_doDip_35 ⟨Nat.le_of_ble_eq_true rfl, Nat.le_of_ble_eq_true rfl⟩ (fun r L_17 f_18 H locs hw_19 hP hD hS hT hE1 => ?_)
      have hF := Fr.call hF hE hw_19.2.1 (by decide)
      have hE := hE.tr hE1
      obtain ⟨rfl, hw_19⟩ := hw_19
      obtain ⟨hfr_20, hex_21⟩ := hw_19
      have hs_22 := hex_21
      refine W.eq (g2 := F0 m 38 ls []) rfl ?_
      refine lv_aload_n hx hb dX4_doDip_38 rfl (lv_at hl 1 rfl) ?_
      refine lv_dup hx hb dX4_doDip_39 rfl ?_
      refine T_get (ci := 4) (C := RX4) (T := TX4) (N := 8) (t := tI) hx hb hts inw_X4_doDip_4 hown hK hP hT 0 rfl rfl 6 (by decide) (hts (.fieldLink RX4 28 "VatHouse$Runner" "grainsMoved" "I") (List.mem_of_getElem? (i := 3) (by exact rfl))) (fun _ h9 => h9) rfl dX4_doDip_40 (fun v_25 hv_23 hr_24 => ?_)
      obtain rfl : v_25 = .int ((diA sA ck kv mm z_8).1 42) := hr_24.symm.trans hs_22.2.2.2.2.2.2.2.2.2.2.1
      refine lv_iload hx hb dX4_doDip_43 (lv_at hl 0 rfl) ?_
      refine lv_iadd hx hb dX4_doDip_45 ?_
      refine lv_topi (fun z_26 ez_26 => ?_)
      refine T_put (ci := 4) (v := .int z_26) (ty := .int) (t := tI) (C := RX4) (T := TX4) (N := 8) hx hb hts inw_X4_doDip_4 tyX4 tyX4_ok nmX4 hown hK hP hD hS hT 0 rfl rfl 6 (by decide) (hts (.fieldLink RX4 28 "VatHouse$Runner" "grainsMoved" "I") (List.mem_of_getElem? (i := 3) (by exact rfl))) (fun _ h9 => h9) rfl (tyX4_ok 6 (by decide)) rfl rfl rfl ⟨_, rfl⟩ dX4_doDip_46 (fun f_27 H locs hP hD hS hT hE1 hrd_28 hup_29 => ?_)
      have hF := Fr.put (a := h0) (ci := 4) hF hE ((hE1 h0 (hT.at 0 rfl).1).2.symm.trans (hT.at 0 rfl).2) (by decide) hrd_28 hup_29
      have hE := hE.tr hE1
      have hs_30 := SR.pr (k := 6) (i := 42) hs_22 (by decide) hE1 hrd_28 hup_29
      refine lv_aload_n hx hb dX4_doDip_49 rfl (lv_at hl 1 rfl) ?_
      refine lv_dup hx hb dX4_doDip_50 rfl ?_
      refine T_get (ci := 4) (C := RX4) (T := TX4) (N := 8) (t := tI) hx hb hts inw_X4_doDip_4 hown hK hP hT 0 rfl rfl 5 (by decide) (hts (.fieldLink RX4 25 "VatHouse$Runner" "dipsDone" "I") (List.mem_of_getElem? (i := 4) (by exact rfl))) (fun _ h9 => h9) rfl dX4_doDip_51 (fun v_33 hv_31 hr_32 => ?_)
      obtain rfl : v_33 = .int ((va_up (diA sA ck kv mm z_8).1 42 z_26, (diA sA ck kv mm z_8).2).1 41) := hr_32.symm.trans hs_30.2.2.2.2.2.2.2.2.2.1
      refine lv_iconst (v := 1) hx hb dX4_doDip_54 (by decide) ?_
      refine lv_iadd hx hb dX4_doDip_55 ?_
      refine lv_topi (fun z_34 ez_34 => ?_)
      refine T_put (ci := 4) (v := .int z_34) (ty := .int) (t := tI) (C := RX4) (T := TX4) (N := 8) hx hb hts inw_X4_doDip_4 tyX4 tyX4_ok nmX4 hown hK hP hD hS hT 0 rfl rfl 5 (by decide) (hts (.fieldLink RX4 25 "VatHouse$Runner" "dipsDone" "I") (List.mem_of_getElem? (i := 4) (by exact rfl))) (fun _ h9 => h9) rfl (tyX4_ok 5 (by decide)) rfl rfl rfl ⟨_, rfl⟩ dX4_doDip_56 (fun f_35 H locs hP hD hS hT hE1 hrd_36 hup_37 => ?_)
      have hF := Fr.put (a := h0) (ci := 4) hF hE ((hE1 h0 (hT.at 0 rfl).1).2.symm.trans (hT.at 0 rfl).2) (by decide) hrd_36 hup_37
      have hE := hE.tr hE1
      have hs_38 := SR.pr (k := 5) (i := 41) hs_30 (by decide) hE1 hrd_36 hup_37
      refine lv_iconst (v := 0) hx hb dX4_doDip_59 (by decide) ?_
      exact K_i hx hb hr hlocks hP hD hK hS hT hE ⟨⟨_, rfl⟩, hF, (by rw [show dpA sA ck kv mm = _ from (if_neg c_4).trans (if_neg (by rw [← ez_8]; exact ge1_n c_13))]; refine ⟨congrArg (fun z => some (Value.int z)) cO_0.symm, ?_⟩; have h9 := hs_38; rw [ez_34, ez_26, ez_8] at h9; rw [← va_sw (by decide)]; exact h9)⟩ (Nat.le_of_ble_eq_true rfl) (Nat.le_of_ble_eq_true rfl) dX4_doDip_60
    · refine lv_iconst (v := 2) hx hb dX4_doDip_24 (by decide) ?_
      exact K_i hx hb hr hlocks hP hD hK hS hT hE ⟨⟨_, rfl⟩, hF, (by rw [show dpA sA ck kv mm = (2, sA) from (if_neg c_4).trans (if_pos (by rw [← ez_8]; exact lt1_0 (by rw [ez_8]; exact hmv.1) c_13))]; exact ⟨congrArg (fun z => some (Value.int z)) cO_2.symm, hs_12⟩)⟩ (Nat.le_of_ble_eq_true rfl) (Nat.le_of_ble_eq_true rfl) dX4_doDip_25
  · refine lv_iconst (v := 1) hx hb dX4_doDip_8 (by decide) ?_
    exact K_i hx hb hr hlocks hP hD hK hS hT hE ⟨⟨_, rfl⟩, hF, (by rw [show dpA sA ck kv mm = (1, sA) from if_pos c_4]; exact ⟨congrArg (fun z => some (Value.int z)) cO_1.symm, hSR⟩)⟩ (Nat.le_of_ble_eq_true rfl) (Nat.le_of_ble_eq_true rfl) dX4_doDip_9

noncomputable abbrev rm_X4_doRestS : Room := { frames := 3, cells := 0, slots := 0, locals := 56 }
set_option maxHeartbeats 800000 in
set_option maxRecDepth 100000 in
theorem t_X4_doRestS (l : Launch) (dC : Nat → ClassId) (dI : Nat → Nat → Nat) (sa : Nat → Nat) (hlt : l.stackTraces = false) (g : Nat → Nat) (L : List Nat) (f : Nat → va_E) (x0 : Nat) (cl : Nat) (va : Nat → Nat) (B : Int) (sA : AS) (N : Nat) (h0 : Nat) (nn : Int32) (wk : Nat) (vs : Nat) (sz : Nat) (hT : TP g L f [(h0, (0, 4, 0)), (wk, (0, 8, 0)), (vs, (2, g 2, 6))]) (h_wk : rd f h0 0 = .ref wk) (h_vs : rd f wk 0 = .ref vs) (hSR : SR g L f (x0, wk, vs, cl, h0, va) sA) (hIV : IV B sA) (hB : B ≤ 10000000) (hN : nn = nI N ∧ N ≤ 200) : KC l dC dI sa g yX4_doRest wsX4_doRest rm_X4_doRestS [.ref h0, .int nn] L f sz (fun r L' f' => (∃ z : Int32, r = some (.int z)) ∧ Fr [(7, 2), (7, 3), (7, 4), (8, 1), (4, 4), (4, 7)] L f f' ∧ (r = some (.int (cO (reA N sA).1)) ∧ SR g L' f' (x0, wk, vs, cl, h0, va) (reA N sA).2)) 0 0 := by
  refine CT.start (cc := cX4_doRest) (maxL := 3) (ret := (some .int)) (by decide) rfl (Nat.le_of_ble_eq_true rfl) ?_
  intro p e s m below meth c ls hst hP hK hD hev hS hl
  obtain ⟨hx, hb, hr, hml, hts, hown, hlocks, hin⟩ := hst
  have hown : s.vm.findClass RX4 = some m.cls := hown
  have hin : meth.name = yX4_doRest.name := hin
  have hA : ∀ q : Nat, s.heap.size ≤ q → va_A (va_pl L f) s.heap.size q := fun _ h => Or.inr h
  have hE : Ext L f L f := Ext.rf
  have hF : Fr [(7, 2), (7, 3), (7, 4), (8, 1), (4, 4), (4, 7)] L f f := Fr.rf
  have hl : lv_has ls 3 [(0, .ref h0), (1, .int nn)] := hl
  have hT0 := hT
  refine lv_iconst (v := 0) hx hb dX4_doRest_0 (by decide) ?_
  refine lv_istore_n (lv' := [(2, .int 0), (0, .ref h0), (1, .int nn)]) hx hb dX4_doRest_1 rfl hl (by decide) rfl (fun ls hl => ?_)
  have lp : ∀ (n : Nat) (ii : Int32) (L1 : List Nat) (f1 : Nat → va_E) (H : Heap) (locs : List Loc) (ls : Array Slot), (∃ a : Nat, ii = nI a ∧ a ≤ N ∧ N < a + n) → (∃ (a : Nat) (s1 : AS), ii = nI a ∧ a ≤ N ∧ SR g L1 f1 (x0, wk, vs, cl, h0, va) s1 ∧ IV B s1 ∧ reA (N - a) s1 = reA N sA) → va_P (dC, dI) vwCl (va_pl L1 f1) H → va_D (va_A (va_pl L f) s.heap.size) (va_pl L1 f1) → va_S (va_A (va_pl L f) s.heap.size) s.heap H locs → TP g L1 f1 [(h0, (0, 4, 0)), (wk, (0, 8, 0)), (vs, (2, g 2, 6))] → Ext L f L1 f1 → Fr [(7, 2), (7, 3), (7, 4), (8, 1), (4, 4), (4, 7)] L f f1 → lv_has ls 3 [(2, .int ii), (0, .ref h0), (1, .int nn)] → W p l e rm_X4_doRestS s m [.ref h0, .int nn].toArray below meth c H locs 0 0 (MQ below (Qg (kpost g L f (fun r L' f' => (∃ z : Int32, r = some (.int z)) ∧ Fr [(7, 2), (7, 3), (7, 4), (8, 1), (4, 4), (4, 7)] L f f' ∧ (r = some (.int (cO (reA N sA).1)) ∧ SR g L' f' (x0, wk, vs, cl, h0, va) (reA N sA).2))) (fun (u : PL) t => QW dC dI (va_A (va_pl L f) s.heap.size) (va_pl u.1 u.2) [] t) (va_A (va_pl L f) s.heap.size)) [.ref h0, .int nn].toArray s (0) (0) (va_A (va_pl L f) s.heap.size)) (F0 m 2 ls []) := by
    intro n
    induction n with
    | zero => intro ii L1 f1 H locs ls hm hR hP hD hS hT hE hF hl; exact absurd hm (by rintro ⟨a, -, h1, h2⟩; omega)
    | succ n ih =>
      intro ii L1 f1 H locs ls hm hR hP hD hS hT hE hF hl
      refine lv_iload_n hx hb dX4_doRest_2 rfl (lv_at hl 0 rfl) ?_
      obtain ⟨a, s1, ha, haN, hs1, hi1, hre⟩ := hR
      refine lv_iload_n hx hb dX4_doRest_3 rfl (lv_at hl 2 rfl) ?_
      refine lv_icmp_ge (tgt := 39) hx hb dX4_doRest_4 (by decide) (fun c_1 => ?_) (fun c_1 => ?_)
      · obtain rfl : a = N := (nI_up hN.1 (by omega) ha haN).2 c_1
        refine lv_iconst (v := 0) hx hb dX4_doRest_39 (by decide) ?_
        exact K_i hx hb hr hlocks hP hD hK hS hT hE ⟨⟨_, rfl⟩, hF, (by rw [← hre, Nat.sub_self]; exact ⟨congrArg (fun z => some (Value.int z)) cO_0.symm, hs1⟩)⟩ (Nat.le_of_ble_eq_true rfl) (Nat.le_of_ble_eq_true rfl) dX4_doRest_40
      · have halt : a < N := (nI_up hN.1 (by omega) ha haN).1 c_1
        refine lv_aload_n hx hb dX4_doRest_7 rfl (lv_at hl 1 rfl) ?_
        refine K_V ⟨hx, hb, hml, hown, hts⟩ (t_X4_mayCountS l dC dI sa hlt g _ _ x0 cl va s1 h0 wk vs _ (hT.sub [0, 1, 2] rfl)  ((hF.1 h0 (hT0.at 0 rfl).1 4 (hT0.at 0 rfl).2 0 (by decide)).trans h_wk) ((hF.1 wk (hT0.at 1 rfl).1 8 (hT0.at 1 rfl).2 0 (by decide)).trans h_vs) hs1 hi1.2.2.2.2.2.1) (cwV 0 hts gX4_doRest_X4_mayCount rfl rfl rfl (by decide +kernel) ⟨Nat.le_of_ble_eq_true rfl, Nat.le_of_ble_eq_true rfl⟩) hP hD hK hS hA hev hT 0 4 rfl rfl rfl rfl hl.1 rfl (Nat.le_of_ble_eq_true rfl) dX4_doRest_8 ⟨Nat.le_of_ble_eq_true rfl, Nat.le_of_ble_eq_true rfl⟩ (fun r L_2 f_3 H locs hw_4 hP hD hS hT hE1 => ?_)
        have hF := Fr.call hF hE hw_4.2 (by decide)
        have hE := hE.tr hE1
        obtain ⟨⟨rfl, hz2_5⟩ | ⟨rfl, hz2_5⟩, hw_4⟩ := hw_4
        · obtain ⟨hct_6, hs_7⟩ := hz2_5
          refine W.eq (g2 := F0 m 11 ls [.int 0]) rfl ?_
          refine lv_if_ne (tgt := 16) hx hb dX4_doRest_11 (by decide) (fun c_8 => ?_) (fun c_8 => ?_)
          · exact absurd c_8 (by decide)
          refine lv_iconst (v := (-1)) hx hb dX4_doRest_14 (by decide) ?_
          exact K_i hx hb hr hlocks hP hD hK hS hT hE ⟨⟨_, rfl⟩, hF, (by rw [← hre, re_limn halt hct_6]; exact ⟨congrArg (fun z => some (Value.int z)) cO_m.symm, hs_7⟩)⟩ (Nat.le_of_ble_eq_true rfl) (Nat.le_of_ble_eq_true rfl) dX4_doRest_15
        · obtain ⟨hct_9, hs_10⟩ := hz2_5
          have hiv_11 := IV.co hi1 hct_9
          refine W.eq (g2 := F0 m 11 ls [.int 1]) rfl ?_
          refine lv_if_ne (tgt := 16) hx hb dX4_doRest_11 (by decide) (fun c_12 => ?_) (fun c_12 => ?_)
          rotate_left
          · exact absurd c_12 (by decide)
          refine lv_aload_n hx hb dX4_doRest_16 rfl (lv_at hl 1 rfl) ?_
          refine T_get (ci := 4) (C := RX4) (T := TX4) (N := 8) (t := (1, 0, 8, 0)) hx hb hts inw_X4_doRest_4 hown hK hP hT 0 rfl rfl 0 (by decide) (hts (.fieldLink RX4 15 "VatHouse$Runner" "works" "LVatHouse$Works;") (List.mem_of_getElem? (i := 1) (by exact rfl))) (fun _ h9 => h9) rfl dX4_doRest_17 (fun v_15 hv_13 hr_14 => ?_)
          obtain rfl : v_15 = .ref wk := hr_14.symm.trans ((hF.1 h0 (hT0.at 0 rfl).1 4 (hT0.at 0 rfl).2 0 (by decide)).trans h_wk)
          refine K_V ⟨hx, hb, hml, hown, hts⟩ (t_X8_passHourS l dC dI sa hlt g _ _ x0 cl h0 va (coA s1) wk vs _ (hT.sub [1, 2] rfl)  ((hF.1 wk (hT0.at 1 rfl).1 8 (hT0.at 1 rfl).2 0 (by decide)).trans h_vs) hs_10 hiv_11.1 (⟨hiv_11.2.2.1, by have h1 := hiv_11.2.2.2.1; have h2 := hiv_11.2.2.2.2.2.1; have h3 := hiv_11.2.2.2.2.2.2; omega⟩)) (cwV 0 hts gX4_doRest_X8_passHour rfl rfl rfl (by decide +kernel) ⟨Nat.le_of_ble_eq_true rfl, Nat.le_of_ble_eq_true rfl⟩) hP hD hK hS hA hev hT 1 8 rfl rfl rfl rfl hl.1 rfl (Nat.le_of_ble_eq_true rfl) dX4_doRest_20 ⟨Nat.le_of_ble_eq_true rfl, Nat.le_of_ble_eq_true rfl⟩ (fun r L_16 f_17 H locs hw_18 hP hD hS hT hE1 => ?_)
          have hF := Fr.call hF hE hw_18.2.1 (by decide)
          have hE := hE.tr hE1
          obtain ⟨rfl, hw_18⟩ := hw_18
          obtain ⟨hfr_19, hex_20⟩ := hw_18
          have hs_21 := hex_20
          refine W.eq (g2 := F0 m 23 ls []) rfl ?_
          refine lv_aload_n hx hb dX4_doRest_23 rfl (lv_at hl 1 rfl) ?_
          refine lv_dup hx hb dX4_doRest_24 rfl ?_
          refine T_get (ci := 4) (C := RX4) (T := TX4) (N := 8) (t := tI) hx hb hts inw_X4_doRest_4 hown hK hP hT 0 rfl rfl 7 (by decide) (hts (.fieldLink RX4 31 "VatHouse$Runner" "hoursRested" "I") (List.mem_of_getElem? (i := 2) (by exact rfl))) (fun _ h9 => h9) rfl dX4_doRest_25 (fun v_24 hv_22 hr_23 => ?_)
          obtain rfl : v_24 = .int ((hoA (coA s1)).1 43) := hr_23.symm.trans hs_21.2.2.2.2.2.2.2.2.2.2.2
          refine lv_iconst (v := 1) hx hb dX4_doRest_28 (by decide) ?_
          refine lv_iadd hx hb dX4_doRest_29 ?_
          refine lv_topi (fun z_25 ez_25 => ?_)
          refine T_put (ci := 4) (v := .int z_25) (ty := .int) (t := tI) (C := RX4) (T := TX4) (N := 8) hx hb hts inw_X4_doRest_4 tyX4 tyX4_ok nmX4 hown hK hP hD hS hT 0 rfl rfl 7 (by decide) (hts (.fieldLink RX4 31 "VatHouse$Runner" "hoursRested" "I") (List.mem_of_getElem? (i := 2) (by exact rfl))) (fun _ h9 => h9) rfl (tyX4_ok 7 (by decide)) rfl rfl rfl ⟨_, rfl⟩ dX4_doRest_30 (fun f_26 H locs hP hD hS hT hE1 hrd_27 hup_28 => ?_)
          have hF := Fr.put (a := h0) (ci := 4) hF hE ((hE1 h0 (hT.at 0 rfl).1).2.symm.trans (hT.at 0 rfl).2) (by decide) hrd_27 hup_28
          have hE := hE.tr hE1
          have hs_29 := SR.pr (k := 7) (i := 43) hs_21 (by decide) hE1 hrd_27 hup_28
          refine lv_iinc (v := (ii + 1)) (lv' := [(2, .int (ii + 1)), (0, .ref h0), (1, .int nn)]) hx hb dX4_doRest_33 hl (k := 0) rfl rfl (by decide) rfl (fun ls hl => ?_)
          refine lv_goto (tgt := 2) hx hb dX4_doRest_36 (by decide) ?_
          exact ih (ii + 1) _ _ _ _ _ (up_nx (by omega) hm (by rw [hN.1]; exact Int32.le_iff_toInt_le.mpr (Int.le_refl _)) c_1) (⟨a + 1, h1A s1, by rw [ha]; exact nI_1 a, by omega, (by rw [h1A_eq]; have h9 := hs_29; rw [ez_25] at h9; exact h9), hi1.h1 hct_9 hB, by rw [← hre, re_gon halt hct_9]⟩) hP hD hS (hT.sub [0, 1, 2] rfl) hE hF (lv_sub hl [0, 1, 2] rfl)
  exact lp (N + 1) 0 _ _ _ _ _ (⟨0, nI_0.symm, by omega, by omega⟩) (⟨0, sA, nI_0.symm, by omega, hSR, hIV, rfl⟩) hP hD hS (hT.sub [0, 1, 2] rfl) hE hF (lv_sub hl [0, 1, 2] rfl)

noncomputable abbrev rm_X4_doPlainS : Room := { frames := 4, cells := 0, slots := 0, locals := 78 }
set_option maxHeartbeats 800000 in
set_option maxRecDepth 100000 in
theorem t_X4_doPlainS (l : Launch) (dC : Nat → ClassId) (dI : Nat → Nat → Nat) (sa : Nat → Nat) (hlt : l.stackTraces = false) (g : Nat → Nat) (L : List Nat) (f : Nat → va_E) (x0 : Nat) (cl : Nat) (va : Nat → Nat) (B : Int) (ck : Nat) (sA : AS) (ad : Nat → Nat) (k : Nat) (h0 : Nat) (o : Nat) (w : Nat) (wk : Nat) (vs : Nat) (sz : Nat) (hT : TP g L f [(h0, (0, 4, 0)), (o, (0, 5, 0)), (w, (0, 0, 0)), (wk, (0, 8, 0)), (vs, (2, g 2, 6))]) (h_wk : rd f h0 0 = .ref wk) (h_vs : rd f wk 0 = .ref vs) (hSR : SR g L f (x0, wk, vs, cl, h0, va) sA) (hIV : IV B sA) (hB : B ≤ 10000000) (hc : (ck : Int) < (sA.1 12).toInt) (hcl : ra f cl ck = some w) (hSN : SN f ad sA o k) (hNV : NVk sA k) (h7 : sA.2 26 k < 7) : KC l dC dI sa g yX4_doPlain wsX4_doPlain rm_X4_doPlainS [.ref h0, .ref o, .ref w] L f sz (fun r L' f' => (∃ z : Int32, r = some (.int z)) ∧ Fr [(0, 2), (0, 3), (0, 6), (0, 7), (7, 1), (7, 2), (7, 3), (7, 4), (7, 5), (7, 6), (7, 7), (8, 1), (8, 2), (4, 4), (4, 5), (4, 6), (4, 7)] L f f' ∧ (r = some (.int (cO (plA sA k ck).1)) ∧ SR g L' f' (x0, wk, vs, cl, h0, va) (plA sA k ck).2)) 0 0 := by
  refine CT.start (cc := cX4_doPlain) (maxL := 3) (ret := (some .int)) (by decide) rfl (Nat.le_of_ble_eq_true rfl) ?_
  intro p e s m below meth c ls hst hP hK hD hev hS hl
  obtain ⟨hx, hb, hr, hml, hts, hown, hlocks, hin⟩ := hst
  have hown : s.vm.findClass RX4 = some m.cls := hown
  have hin : meth.name = yX4_doPlain.name := hin
  have hA : ∀ q : Nat, s.heap.size ≤ q → va_A (va_pl L f) s.heap.size q := fun _ h => Or.inr h
  have hE : Ext L f L f := Ext.rf
  have hF : Fr [(0, 2), (0, 3), (0, 6), (0, 7), (7, 1), (7, 2), (7, 3), (7, 4), (7, 5), (7, 6), (7, 7), (8, 1), (8, 2), (4, 4), (4, 5), (4, 6), (4, 7)] L f f := Fr.rf
  have hl : lv_has ls 3 [(0, .ref h0), (1, .ref o), (2, .ref w)] := hl
  have hT0 := hT
  refine lv_aload_n hx hb dX4_doPlain_0 rfl (lv_at hl 1 rfl) ?_
  refine T_get (ci := 5) (C := RX5) (T := TX5) (N := 8) (t := tI) hx hb hts inw_X4_doPlain_5 hown hK hP hT 1 rfl rfl 0 (by decide) (hts (.fieldLink RX4 51 "VatHouse$Step" "word" "I") (List.mem_of_getElem? (i := 1) (by exact rfl))) (fun _ h9 => h9) rfl dX4_doPlain_1 (fun v_3 hv_1 hr_2 => ?_)
  obtain rfl : v_3 = .int (sA.2 26 k + 1) := hr_2.symm.trans ((hF.1 o (hT0.at 1 rfl).1 5 (hT0.at 1 rfl).2 0 (by decide)).trans hSN.1)
  by_cases c_4 : (sA.2 26 k + 1) = 1
  · refine lv_tableIn (tgt := 44) hx hb dX4_doPlain_4 (by rw [c_4]; decide) (by rw [c_4]; decide) (by rw [c_4]; rfl) (by decide) ?_
    have hkd : sA.2 26 k = 0 := (wd_k c_4).trans (by decide)
    have hv5 := hNV.2.1 (Or.inl hkd)
    have hk6 := v6_of hv5
    refine lv_aload_n hx hb dX4_doPlain_44 rfl (lv_at hl 0 rfl) ?_
    refine lv_aload_n hx hb dX4_doPlain_45 rfl (lv_at hl 0 rfl) ?_
    refine T_get (ci := 4) (C := RX4) (T := TX4) (N := 8) (t := (1, 0, 8, 0)) hx hb hts inw_X4_doPlain_4 hown hK hP hT 0 rfl rfl 0 (by decide) (hts (.fieldLink RX4 15 "VatHouse$Runner" "works" "LVatHouse$Works;") (List.mem_of_getElem? (i := 2) (by exact rfl))) (fun _ h9 => h9) rfl dX4_doPlain_46 (fun v_7 hv_5 hr_6 => ?_)
    obtain rfl : v_7 = .ref wk := hr_6.symm.trans ((hF.1 h0 (hT0.at 0 rfl).1 4 (hT0.at 0 rfl).2 0 (by decide)).trans h_wk)
    refine lv_aload_n hx hb dX4_doPlain_49 rfl (lv_at hl 1 rfl) ?_
    refine T_get (ci := 5) (C := RX5) (T := TX5) (N := 8) (t := tI) hx hb hts inw_X4_doPlain_5 hown hK hP hT 1 rfl rfl 1 (by decide) (hts (.fieldLink RX4 67 "VatHouse$Step" "vat" "I") (List.mem_of_getElem? (i := 3) (by exact rfl))) (fun _ h9 => h9) rfl dX4_doPlain_50 (fun v_10 hv_8 hr_9 => ?_)
    obtain rfl : v_10 = .int (sA.2 27 k) := hr_9.symm.trans ((hF.1 o (hT0.at 1 rfl).1 5 (hT0.at 1 rfl).2 1 (by decide)).trans (hSN.2.1 (Or.inl hkd)).1)
    refine K_V ⟨hx, hb, hml, hown, hts⟩ (t_X8_vatAtE l dC dI sa hlt g _ _ (sA.2 27 k).toNatClampNeg (va (sA.2 27 k).toNatClampNeg) wk (sA.2 27 k) vs _ (hT.sub [3, 4] rfl)  ((hF.1 wk (hT0.at 3 rfl).1 8 (hT0.at 3 rfl).2 0 (by decide)).trans h_vs) (nI_cl hv5.1) hk6 (hSR.2.1 _ hk6).1) (cwV 1 hts gX4_doPlain_X8_vatAt rfl rfl rfl (by decide +kernel) ⟨Nat.le_of_ble_eq_true rfl, Nat.le_of_ble_eq_true rfl⟩) hP hD hK hS hA hev hT 3 8 rfl rfl rfl rfl hl.1 rfl (Nat.le_of_ble_eq_true rfl) dX4_doPlain_53 ⟨Nat.le_of_ble_eq_true rfl, Nat.le_of_ble_eq_true rfl⟩ (fun r L_11 f_12 H locs hw_13 hP hD hS hT hE1 => ?_)
    have hF := Fr.call hF hE hw_13.2.1 (by decide)
    have hE := hE.tr hE1
    obtain ⟨⟨v_14, rfl, hv9⟩, hw_13⟩ := hw_13
    obtain ⟨b_15, rfl, hb9⟩ := hv9
    have hT := hT.add hb9
    obtain ⟨hfr_16, hex_17⟩ := hw_13
    have hbv_18 : b_15 = va (sA.2 27 k).toNatClampNeg := by have h9 := hex_17; injection h9 with h9; injection h9
    have hs_19 := SR.still hSR hE1 hfr_16 (by decide)
    refine W.eq (g2 := F0 m 56 ls [.ref b_15, .ref h0]) rfl ?_
    refine lv_aload_n hx hb dX4_doPlain_56 rfl (lv_at hl 2 rfl) ?_
    refine lv_aload_n hx hb dX4_doPlain_57 rfl (lv_at hl 1 rfl) ?_
    refine T_get (ci := 5) (C := RX5) (T := TX5) (N := 8) (t := tI) hx hb hts inw_X4_doPlain_5 hown hK hP hT 2 rfl rfl 2 (by decide) (hts (.fieldLink RX4 76 "VatHouse$Step" "number" "I") (List.mem_of_getElem? (i := 4) (by exact rfl))) (fun _ h9 => h9) rfl dX4_doPlain_58 (fun v_22 hv_20 hr_21 => ?_)
    obtain rfl : v_22 = .int (sA.2 28 k) := hr_21.symm.trans ((hF.1 o (hT0.at 1 rfl).1 5 (hT0.at 1 rfl).2 2 (by decide)).trans (hSN.2.1 (Or.inl hkd)).2)
    refine K_V ⟨hx, hb, hml, hown, hts⟩ (t_X4_doDipS l dC dI sa hlt g _ _ x0 cl va B ck sA (sA.2 27 k).toNatClampNeg h0 b_15 w (sA.2 28 k) wk vs _ (hT.sub [1, 0, 3, 4, 5] rfl)  ((hF.1 h0 (hT0.at 0 rfl).1 4 (hT0.at 0 rfl).2 0 (by decide)).trans h_wk) ((hF.1 wk (hT0.at 3 rfl).1 8 (hT0.at 3 rfl).2 0 (by decide)).trans h_vs) hs_19 hIV hc (by rw [ra_eq (hF.2 cl hSR.1.1.2.2.2.1.1 1 _ _ hSR.1.1.2.2.2.1.2 (by decide))]; exact hcl) hk6 hbv_18 (hNV.2.2.1 hkd)) (cwV 3 hts gX4_doPlain_X4_doDip rfl rfl rfl (by decide +kernel) ⟨Nat.le_of_ble_eq_true rfl, Nat.le_of_ble_eq_true rfl⟩) hP hD hK hS hA hev hT 1 4 rfl rfl rfl rfl hl.1 rfl (Nat.le_of_ble_eq_true rfl) dX4_doPlain_61 ⟨Nat.le_of_ble_eq_true rfl, Nat.le_of_ble_eq_true rfl⟩ (fun r L_23 f_24 H locs hw_25 hP hD hS hT hE1 => ?_)
    have hF := Fr.call hF hE hw_25.2.1 (by decide)
    have hE := hE.tr hE1
    obtain ⟨⟨z_26, rfl⟩, hw_25⟩ := hw_25
    obtain ⟨hfr_27, hex_28⟩ := hw_25
    refine W.eq (g2 := F0 m 64 ls [.int z_26]) rfl ?_
    exact K_i hx hb hr hlocks hP hD hK hS hT hE ⟨⟨_, rfl⟩, hF, (by rw [plA_0 hkd]; exact hex_28)⟩ (Nat.le_of_ble_eq_true rfl) (Nat.le_of_ble_eq_true rfl) dX4_doPlain_64
  by_cases c_29 : (sA.2 26 k + 1) = 2
  · refine lv_tableIn (tgt := 65) hx hb dX4_doPlain_4 (by rw [c_29]; decide) (by rw [c_29]; decide) (by rw [c_29]; rfl) (by decide) ?_
    have hkd : sA.2 26 k = 1 := (wd_k c_29).trans (by decide)
    refine lv_aload_n hx hb dX4_doPlain_65 rfl (lv_at hl 0 rfl) ?_
    refine lv_aload_n hx hb dX4_doPlain_66 rfl (lv_at hl 2 rfl) ?_
    refine K_V ⟨hx, hb, hml, hown, hts⟩ (t_X4_doAirS l dC dI sa hlt g _ _ x0 cl va B ck sA h0 w wk vs _ (hT.sub [0, 2, 3, 4] rfl)  ((hF.1 h0 (hT0.at 0 rfl).1 4 (hT0.at 0 rfl).2 0 (by decide)).trans h_wk) ((hF.1 wk (hT0.at 3 rfl).1 8 (hT0.at 3 rfl).2 0 (by decide)).trans h_vs) hSR hIV hc (by rw [ra_eq (hF.2 cl hSR.1.1.2.2.2.1.1 1 _ _ hSR.1.1.2.2.2.1.2 (by decide))]; exact hcl)) (cwV 1 hts gX4_doPlain_X4_doAir rfl rfl rfl (by decide +kernel) ⟨Nat.le_of_ble_eq_true rfl, Nat.le_of_ble_eq_true rfl⟩) hP hD hK hS hA hev hT 0 4 rfl rfl rfl rfl hl.1 rfl (Nat.le_of_ble_eq_true rfl) dX4_doPlain_67 ⟨Nat.le_of_ble_eq_true rfl, Nat.le_of_ble_eq_true rfl⟩ (fun r L_30 f_31 H locs hw_32 hP hD hS hT hE1 => ?_)
    have hF := Fr.call hF hE hw_32.2.1 (by decide)
    have hE := hE.tr hE1
    obtain ⟨⟨z_33, rfl⟩, hw_32⟩ := hw_32
    obtain ⟨hfr_34, hex_35⟩ := hw_32
    refine W.eq (g2 := F0 m 70 ls [.int z_33]) rfl ?_
    exact K_i hx hb hr hlocks hP hD hK hS hT hE ⟨⟨_, rfl⟩, hF, (by rw [plA_1 hkd]; exact hex_35)⟩ (Nat.le_of_ble_eq_true rfl) (Nat.le_of_ble_eq_true rfl) dX4_doPlain_70
  by_cases c_36 : (sA.2 26 k + 1) = 3
  · refine lv_tableIn (tgt := 71) hx hb dX4_doPlain_4 (by rw [c_36]; decide) (by rw [c_36]; decide) (by rw [c_36]; rfl) (by decide) ?_
    have hkd : sA.2 26 k = 2 := (wd_k c_36).trans (by decide)
    refine lv_aload_n hx hb dX4_doPlain_71 rfl (lv_at hl 0 rfl) ?_
    refine T_get (ci := 4) (C := RX4) (T := TX4) (N := 8) (t := (1, 0, 8, 0)) hx hb hts inw_X4_doPlain_4 hown hK hP hT 0 rfl rfl 0 (by decide) (hts (.fieldLink RX4 15 "VatHouse$Runner" "works" "LVatHouse$Works;") (List.mem_of_getElem? (i := 2) (by exact rfl))) (fun _ h9 => h9) rfl dX4_doPlain_72 (fun v_39 hv_37 hr_38 => ?_)
    obtain rfl : v_39 = .ref wk := hr_38.symm.trans ((hF.1 h0 (hT0.at 0 rfl).1 4 (hT0.at 0 rfl).2 0 (by decide)).trans h_wk)
    refine lv_aload_n hx hb dX4_doPlain_75 rfl (lv_at hl 2 rfl) ?_
    refine K_V ⟨hx, hb, hml, hown, hts⟩ (t_X8_washOutS l dC dI sa hlt g _ _ x0 vs cl h0 va sA ck wk w _ (hT.sub [3, 2] rfl)  hSR hIV.2.1.1.2 hc (by rw [ra_eq (hF.2 cl hSR.1.1.2.2.2.1.1 1 _ _ hSR.1.1.2.2.2.1.2 (by decide))]; exact hcl)) (cwV 1 hts gX4_doPlain_X8_washOut rfl rfl rfl (by decide +kernel) ⟨Nat.le_of_ble_eq_true rfl, Nat.le_of_ble_eq_true rfl⟩) hP hD hK hS hA hev hT 3 8 rfl rfl rfl rfl hl.1 rfl (Nat.le_of_ble_eq_true rfl) dX4_doPlain_76 ⟨Nat.le_of_ble_eq_true rfl, Nat.le_of_ble_eq_true rfl⟩ (fun r L_40 f_41 H locs hw_42 hP hD hS hT hE1 => ?_)
    have hF := Fr.call hF hE hw_42.2.1 (by decide)
    have hE := hE.tr hE1
    obtain ⟨⟨z_43, rfl⟩, hw_42⟩ := hw_42
    obtain ⟨hfr_44, hex_45⟩ := hw_42
    have hs_46 := hex_45.2
    refine W.eq (g2 := F0 m 79 ls [.int z_43]) rfl ?_
    refine lv_pop hx hb dX4_doPlain_79 rfl ?_
    refine lv_iconst (v := 0) hx hb dX4_doPlain_80 (by decide) ?_
    exact K_i hx hb hr hlocks hP hD hK hS hT hE ⟨⟨_, rfl⟩, hF, (by rw [plA_2 hkd]; exact ⟨congrArg (fun z => some (Value.int z)) cO_0.symm, hs_46⟩)⟩ (Nat.le_of_ble_eq_true rfl) (Nat.le_of_ble_eq_true rfl) dX4_doPlain_81
  by_cases c_47 : (sA.2 26 k + 1) = 4
  · refine lv_tableIn (tgt := 82) hx hb dX4_doPlain_4 (by rw [c_47]; decide) (by rw [c_47]; decide) (by rw [c_47]; rfl) (by decide) ?_
    have hkd : sA.2 26 k = 3 := (wd_k c_47).trans (by decide)
    refine lv_aload_n hx hb dX4_doPlain_82 rfl (lv_at hl 0 rfl) ?_
    refine lv_aload_n hx hb dX4_doPlain_83 rfl (lv_at hl 1 rfl) ?_
    refine T_get (ci := 5) (C := RX5) (T := TX5) (N := 8) (t := tI) hx hb hts inw_X4_doPlain_5 hown hK hP hT 1 rfl rfl 2 (by decide) (hts (.fieldLink RX4 76 "VatHouse$Step" "number" "I") (List.mem_of_getElem? (i := 4) (by exact rfl))) (fun _ h9 => h9) rfl dX4_doPlain_84 (fun v_50 hv_48 hr_49 => ?_)
    obtain rfl : v_50 = .int (sA.2 27 k) := hr_49.symm.trans ((hF.1 o (hT0.at 1 rfl).1 5 (hT0.at 1 rfl).2 2 (by decide)).trans (hSN.2.2.1 (Or.inl hkd)))
    refine K_V ⟨hx, hb, hml, hown, hts⟩ (t_X4_doRestS l dC dI sa hlt g _ _ x0 cl va B sA (sA.2 27 k).toNatClampNeg h0 (sA.2 27 k) wk vs _ (hT.sub [0, 3, 4] rfl)  ((hF.1 h0 (hT0.at 0 rfl).1 4 (hT0.at 0 rfl).2 0 (by decide)).trans h_wk) ((hF.1 wk (hT0.at 3 rfl).1 8 (hT0.at 3 rfl).2 0 (by decide)).trans h_vs) hSR hIV hB (let h9 := hNV.2.2.2.2.1 hkd; ⟨nI_cl (by omega), by have h8 := clamp_i (show 0 ≤ (sA.2 27 k).toInt by omega); omega⟩)) (cwV 1 hts gX4_doPlain_X4_doRest rfl rfl rfl (by decide +kernel) ⟨Nat.le_of_ble_eq_true rfl, Nat.le_of_ble_eq_true rfl⟩) hP hD hK hS hA hev hT 0 4 rfl rfl rfl rfl hl.1 rfl (Nat.le_of_ble_eq_true rfl) dX4_doPlain_87 ⟨Nat.le_of_ble_eq_true rfl, Nat.le_of_ble_eq_true rfl⟩ (fun r L_51 f_52 H locs hw_53 hP hD hS hT hE1 => ?_)
    have hF := Fr.call hF hE hw_53.2.1 (by decide)
    have hE := hE.tr hE1
    obtain ⟨⟨z_54, rfl⟩, hw_53⟩ := hw_53
    obtain ⟨hfr_55, hex_56⟩ := hw_53
    refine W.eq (g2 := F0 m 90 ls [.int z_54]) rfl ?_
    exact K_i hx hb hr hlocks hP hD hK hS hT hE ⟨⟨_, rfl⟩, hF, (by rw [plA_3 hkd]; exact hex_56)⟩ (Nat.le_of_ble_eq_true rfl) (Nat.le_of_ble_eq_true rfl) dX4_doPlain_90
  by_cases c_57 : (sA.2 26 k + 1) = 5
  · refine lv_tableIn (tgt := 91) hx hb dX4_doPlain_4 (by rw [c_57]; decide) (by rw [c_57]; decide) (by rw [c_57]; rfl) (by decide) ?_
    have hkd : sA.2 26 k = 4 := (wd_k c_57).trans (by decide)
    have hv5 := hNV.2.1 (Or.inr (Or.inl hkd))
    have hk6 := v6_of hv5
    refine lv_aload_n hx hb dX4_doPlain_91 rfl (lv_at hl 0 rfl) ?_
    refine T_get (ci := 4) (C := RX4) (T := TX4) (N := 8) (t := (1, 0, 8, 0)) hx hb hts inw_X4_doPlain_4 hown hK hP hT 0 rfl rfl 0 (by decide) (hts (.fieldLink RX4 15 "VatHouse$Runner" "works" "LVatHouse$Works;") (List.mem_of_getElem? (i := 2) (by exact rfl))) (fun _ h9 => h9) rfl dX4_doPlain_92 (fun v_60 hv_58 hr_59 => ?_)
    obtain rfl : v_60 = .ref wk := hr_59.symm.trans ((hF.1 h0 (hT0.at 0 rfl).1 4 (hT0.at 0 rfl).2 0 (by decide)).trans h_wk)
    refine lv_aload_n hx hb dX4_doPlain_95 rfl (lv_at hl 1 rfl) ?_
    refine T_get (ci := 5) (C := RX5) (T := TX5) (N := 8) (t := tI) hx hb hts inw_X4_doPlain_5 hown hK hP hT 1 rfl rfl 1 (by decide) (hts (.fieldLink RX4 67 "VatHouse$Step" "vat" "I") (List.mem_of_getElem? (i := 3) (by exact rfl))) (fun _ h9 => h9) rfl dX4_doPlain_96 (fun v_63 hv_61 hr_62 => ?_)
    obtain rfl : v_63 = .int (sA.2 27 k) := hr_62.symm.trans ((hF.1 o (hT0.at 1 rfl).1 5 (hT0.at 1 rfl).2 1 (by decide)).trans (hSN.2.1 (Or.inr hkd)).1)
    refine K_V ⟨hx, hb, hml, hown, hts⟩ (t_X8_vatAtE l dC dI sa hlt g _ _ (sA.2 27 k).toNatClampNeg (va (sA.2 27 k).toNatClampNeg) wk (sA.2 27 k) vs _ (hT.sub [3, 4] rfl)  ((hF.1 wk (hT0.at 3 rfl).1 8 (hT0.at 3 rfl).2 0 (by decide)).trans h_vs) (nI_cl hv5.1) hk6 (hSR.2.1 _ hk6).1) (cwV 1 hts gX4_doPlain_X8_vatAt rfl rfl rfl (by decide +kernel) ⟨Nat.le_of_ble_eq_true rfl, Nat.le_of_ble_eq_true rfl⟩) hP hD hK hS hA hev hT 3 8 rfl rfl rfl rfl hl.1 rfl (Nat.le_of_ble_eq_true rfl) dX4_doPlain_99 ⟨Nat.le_of_ble_eq_true rfl, Nat.le_of_ble_eq_true rfl⟩ (fun r L_64 f_65 H locs hw_66 hP hD hS hT hE1 => ?_)
    have hF := Fr.call hF hE hw_66.2.1 (by decide)
    have hE := hE.tr hE1
    obtain ⟨⟨v_67, rfl, hv9⟩, hw_66⟩ := hw_66
    obtain ⟨b_68, rfl, hb9⟩ := hv9
    have hT := hT.add hb9
    obtain ⟨hfr_69, hex_70⟩ := hw_66
    have hbv_71 : b_68 = va (sA.2 27 k).toNatClampNeg := by have h9 := hex_70; injection h9 with h9; injection h9
    have hs_72 := SR.still hSR hE1 hfr_69 (by decide)
    refine W.eq (g2 := F0 m 102 ls [.ref b_68]) rfl ?_
    refine lv_aload_n hx hb dX4_doPlain_102 rfl (lv_at hl 1 rfl) ?_
    refine T_get (ci := 5) (C := RX5) (T := TX5) (N := 8) (t := tI) hx hb hts inw_X4_doPlain_5 hown hK hP hT 2 rfl rfl 2 (by decide) (hts (.fieldLink RX4 76 "VatHouse$Step" "number" "I") (List.mem_of_getElem? (i := 4) (by exact rfl))) (fun _ h9 => h9) rfl dX4_doPlain_103 (fun v_75 hv_73 hr_74 => ?_)
    obtain rfl : v_75 = .int (sA.2 28 k) := hr_74.symm.trans ((hF.1 o (hT0.at 1 rfl).1 5 (hT0.at 1 rfl).2 2 (by decide)).trans (hSN.2.1 (Or.inr hkd)).2)
    refine K_V ⟨hx, hb, hml, hown, hts⟩ (t_X7_takeFoodS l dC dI sa hlt g _ _ x0 wk vs cl h0 va sA (sA.2 27 k).toNatClampNeg b_68 (sA.2 28 k) _ (hT.sub [0] rfl)  hs_72 hk6 hbv_71) (cwV 1 hts gX4_doPlain_X7_takeFood rfl rfl rfl (by decide +kernel) ⟨Nat.le_of_ble_eq_true rfl, Nat.le_of_ble_eq_true rfl⟩) hP hD hK hS hA hev hT 0 7 rfl rfl rfl rfl hl.1 rfl (Nat.le_of_ble_eq_true rfl) dX4_doPlain_106 ⟨Nat.le_of_ble_eq_true rfl, Nat.le_of_ble_eq_true rfl⟩ (fun r L_76 f_77 H locs hw_78 hP hD hS hT hE1 => ?_)
    have hF := Fr.call hF hE hw_78.2.1 (by decide)
    have hE := hE.tr hE1
    obtain ⟨⟨rfl, hz2_79⟩ | ⟨rfl, hz2_79⟩, hw_78⟩ := hw_78
    · obtain ⟨hfr_80, hex_81⟩ := hw_78
      have hs_82 := hex_81
      refine W.eq (g2 := F0 m 109 ls [.int 0]) rfl ?_
      refine lv_if_eq (tgt := 116) hx hb dX4_doPlain_109 (by decide) (fun c_83 => ?_) (fun c_83 => ?_)
      rotate_left
      · exact absurd c_83 (by decide)
      refine lv_iconst (v := 5) hx hb dX4_doPlain_116 (by decide) ?_
      exact K_i hx hb hr hlocks hP hD hK hS hT hE ⟨⟨_, rfl⟩, hF, (by rw [plA_4 hkd]; unfold feR; rw [if_pos hz2_79]; exact ⟨congrArg (fun z => some (Value.int z)) cO_5.symm, hs_82⟩)⟩ (Nat.le_of_ble_eq_true rfl) (Nat.le_of_ble_eq_true rfl) dX4_doPlain_117
    · obtain ⟨hfr_84, hex_85⟩ := hw_78
      have hs_86 := hex_85
      refine W.eq (g2 := F0 m 109 ls [.int 1]) rfl ?_
      refine lv_if_eq (tgt := 116) hx hb dX4_doPlain_109 (by decide) (fun c_87 => ?_) (fun c_87 => ?_)
      · exact absurd c_87 (by decide)
      refine lv_iconst (v := 0) hx hb dX4_doPlain_112 (by decide) ?_
      refine lv_goto (tgt := 117) hx hb dX4_doPlain_113 (by decide) ?_
      exact K_i hx hb hr hlocks hP hD hK hS hT hE ⟨⟨_, rfl⟩, hF, (by rw [plA_4 hkd]; unfold feR; rw [if_neg hz2_79]; exact ⟨congrArg (fun z => some (Value.int z)) cO_0.symm, hs_86⟩)⟩ (Nat.le_of_ble_eq_true rfl) (Nat.le_of_ble_eq_true rfl) dX4_doPlain_117
  by_cases c_88 : (sA.2 26 k + 1) = 6
  · refine lv_tableIn (tgt := 118) hx hb dX4_doPlain_4 (by rw [c_88]; decide) (by rw [c_88]; decide) (by rw [c_88]; rfl) (by decide) ?_
    have hkd : sA.2 26 k = 5 := (wd_k c_88).trans (by decide)
    have hv5 := hNV.2.1 (Or.inr (Or.inr hkd))
    have hk6 := v6_of hv5
    refine lv_aload_n hx hb dX4_doPlain_118 rfl (lv_at hl 0 rfl) ?_
    refine lv_aload_n hx hb dX4_doPlain_119 rfl (lv_at hl 0 rfl) ?_
    refine T_get (ci := 4) (C := RX4) (T := TX4) (N := 8) (t := (1, 0, 8, 0)) hx hb hts inw_X4_doPlain_4 hown hK hP hT 0 rfl rfl 0 (by decide) (hts (.fieldLink RX4 15 "VatHouse$Runner" "works" "LVatHouse$Works;") (List.mem_of_getElem? (i := 2) (by exact rfl))) (fun _ h9 => h9) rfl dX4_doPlain_120 (fun v_91 hv_89 hr_90 => ?_)
    obtain rfl : v_91 = .ref wk := hr_90.symm.trans ((hF.1 h0 (hT0.at 0 rfl).1 4 (hT0.at 0 rfl).2 0 (by decide)).trans h_wk)
    refine lv_aload_n hx hb dX4_doPlain_123 rfl (lv_at hl 1 rfl) ?_
    refine T_get (ci := 5) (C := RX5) (T := TX5) (N := 8) (t := tI) hx hb hts inw_X4_doPlain_5 hown hK hP hT 1 rfl rfl 1 (by decide) (hts (.fieldLink RX4 67 "VatHouse$Step" "vat" "I") (List.mem_of_getElem? (i := 3) (by exact rfl))) (fun _ h9 => h9) rfl dX4_doPlain_124 (fun v_94 hv_92 hr_93 => ?_)
    obtain rfl : v_94 = .int (sA.2 27 k) := hr_93.symm.trans ((hF.1 o (hT0.at 1 rfl).1 5 (hT0.at 1 rfl).2 1 (by decide)).trans (hSN.2.2.2.1 hkd))
    refine K_V ⟨hx, hb, hml, hown, hts⟩ (t_X8_vatAtE l dC dI sa hlt g _ _ (sA.2 27 k).toNatClampNeg (va (sA.2 27 k).toNatClampNeg) wk (sA.2 27 k) vs _ (hT.sub [3, 4] rfl)  ((hF.1 wk (hT0.at 3 rfl).1 8 (hT0.at 3 rfl).2 0 (by decide)).trans h_vs) (nI_cl hv5.1) hk6 (hSR.2.1 _ hk6).1) (cwV 1 hts gX4_doPlain_X8_vatAt rfl rfl rfl (by decide +kernel) ⟨Nat.le_of_ble_eq_true rfl, Nat.le_of_ble_eq_true rfl⟩) hP hD hK hS hA hev hT 3 8 rfl rfl rfl rfl hl.1 rfl (Nat.le_of_ble_eq_true rfl) dX4_doPlain_127 ⟨Nat.le_of_ble_eq_true rfl, Nat.le_of_ble_eq_true rfl⟩ (fun r L_95 f_96 H locs hw_97 hP hD hS hT hE1 => ?_)
    have hF := Fr.call hF hE hw_97.2.1 (by decide)
    have hE := hE.tr hE1
    obtain ⟨⟨v_98, rfl, hv9⟩, hw_97⟩ := hw_97
    obtain ⟨b_99, rfl, hb9⟩ := hv9
    have hT := hT.add hb9
    obtain ⟨hfr_100, hex_101⟩ := hw_97
    have hbv_102 : b_99 = va (sA.2 27 k).toNatClampNeg := by have h9 := hex_101; injection h9 with h9; injection h9
    have hs_103 := SR.still hSR hE1 hfr_100 (by decide)
    refine W.eq (g2 := F0 m 130 ls [.ref b_99, .ref h0]) rfl ?_
    refine K_V ⟨hx, hb, hml, hown, hts⟩ (t_X4_doLimeS l dC dI sa hlt g _ _ x0 cl va sA (sA.2 27 k).toNatClampNeg h0 b_99 wk vs _ (hT.sub [1, 0, 4, 5] rfl)  ((hF.1 h0 (hT0.at 0 rfl).1 4 (hT0.at 0 rfl).2 0 (by decide)).trans h_wk) ((hF.1 wk (hT0.at 3 rfl).1 8 (hT0.at 3 rfl).2 0 (by decide)).trans h_vs) hs_103 hk6 hbv_102) (cwV 1 hts gX4_doPlain_X4_doLime rfl rfl rfl (by decide +kernel) ⟨Nat.le_of_ble_eq_true rfl, Nat.le_of_ble_eq_true rfl⟩) hP hD hK hS hA hev hT 1 4 rfl rfl rfl rfl hl.1 rfl (Nat.le_of_ble_eq_true rfl) dX4_doPlain_130 ⟨Nat.le_of_ble_eq_true rfl, Nat.le_of_ble_eq_true rfl⟩ (fun r L_104 f_105 H locs hw_106 hP hD hS hT hE1 => ?_)
    have hF := Fr.call hF hE hw_106.2.1 (by decide)
    have hE := hE.tr hE1
    obtain ⟨⟨z_107, rfl⟩, hw_106⟩ := hw_106
    obtain ⟨hfr_108, hex_109⟩ := hw_106
    refine W.eq (g2 := F0 m 133 ls [.int z_107]) rfl ?_
    exact K_i hx hb hr hlocks hP hD hK hS hT hE ⟨⟨_, rfl⟩, hF, (by rw [plA_5 hkd]; exact hex_109)⟩ (Nat.le_of_ble_eq_true rfl) (Nat.le_of_ble_eq_true rfl) dX4_doPlain_133
  refine lv_tableOut (tgt := 134) hx hb dX4_doPlain_4 (tab_out_1_6 c_4 c_29 c_36 c_47 c_57 c_88) (by decide) ?_
  have hkd : sA.2 26 k = 6 := kd_6 hNV.1 h7 ⟨c_4, c_29, c_36, c_47, c_57, c_88⟩
  refine lv_bipush (v := 100) hx hb dX4_doPlain_134 (by decide) ?_
  refine lv_aload_n hx hb dX4_doPlain_136 rfl (lv_at hl 1 rfl) ?_
  refine T_get (ci := 5) (C := RX5) (T := TX5) (N := 8) (t := tI) hx hb hts inw_X4_doPlain_5 hown hK hP hT 1 rfl rfl 2 (by decide) (hts (.fieldLink RX4 76 "VatHouse$Step" "number" "I") (List.mem_of_getElem? (i := 4) (by exact rfl))) (fun _ h9 => h9) rfl dX4_doPlain_137 (fun v_112 hv_110 hr_111 => ?_)
  obtain rfl : v_112 = .int (sA.2 27 k) := hr_111.symm.trans ((hF.1 o (hT0.at 1 rfl).1 5 (hT0.at 1 rfl).2 2 (by decide)).trans (hSN.2.2.1 (Or.inr (Or.inl hkd))))
  refine lv_iadd hx hb dX4_doPlain_140 ?_
  refine lv_topi (fun z_113 ez_113 => ?_)
  exact K_i hx hb hr hlocks hP hD hK hS hT hE ⟨⟨_, rfl⟩, hF, (by rw [plA_6 hkd, ez_113]; exact ⟨congrArg (fun z => some (Value.int z)) (cO_f (hNV.2.2.2.2.2.1 hkd)).symm, hSR⟩)⟩ (Nat.le_of_ble_eq_true rfl) (Nat.le_of_ble_eq_true rfl) dX4_doPlain_141

noncomputable abbrev rm_X4_lookAtS : Room := { frames := 1, cells := 0, slots := 0, locals := 21 }
set_option maxHeartbeats 800000 in
set_option maxRecDepth 100000 in
theorem t_X4_lookAtS (l : Launch) (dC : Nat → ClassId) (dI : Nat → Nat → Nat) (sa : Nat → Nat) (hlt : l.stackTraces = false) (g : Nat → Nat) (L : List Nat) (f : Nat → va_E) (x0 : Nat) (cl : Nat) (va : Nat → Nat) (B : Int) (ck : Nat) (sA : AS) (ad : Nat → Nat) (k : Nat) (h0 : Nat) (o : Nat) (w : Nat) (wk : Nat) (vs : Nat) (sz : Nat) (hT : TP g L f [(h0, (0, 4, 0)), (o, (0, 5, 0)), (w, (0, 0, 0)), (wk, (0, 8, 0)), (vs, (2, g 2, 6))]) (h_wk : rd f h0 0 = .ref wk) (h_vs : rd f wk 0 = .ref vs) (hSR : SR g L f (x0, wk, vs, cl, h0, va) sA) (hIV : IV B sA) (hc : (ck : Int) < (sA.1 12).toInt) (hcl : ra f cl ck = some w) (hSN : SN f ad sA o k) (hNV : NVk sA k) (hkd : sA.2 26 k = 9) : KC l dC dI sa g yX4_lookAt wsX4_lookAt rm_X4_lookAtS [.ref h0, .ref o, .ref w] L f sz (fun r L' f' => (∃ z : Int32, r = some (.int z)) ∧ Fr [] L f f' ∧ (r = some (.int (lkA sA k ck)) ∧ SR g L' f' (x0, wk, vs, cl, h0, va) sA)) 0 0 := by
  refine CT.start (cc := cX4_lookAt) (maxL := 3) (ret := (some .int)) (by decide) rfl (Nat.le_of_ble_eq_true rfl) ?_
  intro p e s m below meth c ls hst hP hK hD hev hS hl
  obtain ⟨hx, hb, hr, hml, hts, hown, hlocks, hin⟩ := hst
  have hown : s.vm.findClass RX4 = some m.cls := hown
  have hin : meth.name = yX4_lookAt.name := hin
  have hA : ∀ q : Nat, s.heap.size ≤ q → va_A (va_pl L f) s.heap.size q := fun _ h => Or.inr h
  have hE : Ext L f L f := Ext.rf
  have hF : Fr [] L f f := Fr.rf
  have hl : lv_has ls 3 [(0, .ref h0), (1, .ref o), (2, .ref w)] := hl
  have hT0 := hT
  refine lv_aload_n hx hb dX4_lookAt_0 rfl (lv_at hl 1 rfl) ?_
  refine T_get (ci := 5) (C := RX5) (T := TX5) (N := 8) (t := tI) hx hb hts inw_X4_lookAt_5 hown hK hP hT 1 rfl rfl 3 (by decide) (hts (.fieldLink RX4 162 "VatHouse$Step" "look" "I") (List.mem_of_getElem? (i := 1) (by exact rfl))) (fun _ h9 => h9) rfl dX4_lookAt_1 (fun v_3 hv_1 hr_2 => ?_)
  obtain rfl : v_3 = .int (lkC (sA.2 29 k)) := hr_2.symm.trans ((hF.1 o (hT0.at 1 rfl).1 5 (hT0.at 1 rfl).2 3 (by decide)).trans (hSN.2.2.2.2.1 hkd).1)
  by_cases c_4 : (lkC (sA.2 29 k)) = 15
  · refine lv_tableIn (tgt := 36) hx hb dX4_lookAt_4 (by rw [c_4]; decide) (by rw [c_4]; decide) (by rw [c_4]; rfl) (by decide) ?_
    have hlk := (lkC_inv (hNV.2.2.2.2.2.2 hkd).1).1 c_4
    refine lv_aload_n hx hb dX4_lookAt_36 rfl (lv_at hl 2 rfl) ?_
    refine K_V ⟨hx, hb, hml, hown, hts⟩ (t_X0_shadeS l dC dI sa hlt g _ _ x0 wk vs cl h0 va sA ck w _ (hT.sub [2] rfl)  hSR hc (by rw [ra_eq (hF.2 cl hSR.1.1.2.2.2.1.1 1 _ _ hSR.1.1.2.2.2.1.2 (by decide))]; exact hcl) (we_of (hIV.2.1.2 ck hc).1).2) (cwV 0 hts gX4_lookAt_X0_shade rfl rfl rfl (by decide +kernel) ⟨Nat.le_of_ble_eq_true rfl, Nat.le_of_ble_eq_true rfl⟩) hP hD hK hS hA hev hT 2 0 rfl rfl rfl rfl hl.1 rfl (Nat.le_of_ble_eq_true rfl) dX4_lookAt_37 ⟨Nat.le_of_ble_eq_true rfl, Nat.le_of_ble_eq_true rfl⟩ (fun r L_5 f_6 H locs hw_7 hP hD hS hT hE1 => ?_)
    have hF := Fr.call hF hE hw_7.2.1 (by decide)
    have hE := hE.tr hE1
    obtain ⟨⟨z_8, rfl⟩, hw_7⟩ := hw_7
    obtain ⟨hfr_9, hex_10⟩ := hw_7
    obtain ⟨hg_11, hs_12⟩ := hex_10
    have ez_8 : z_8 = shA sA ck := sv hg_11
    refine W.eq (g2 := F0 m 40 ls [.int z_8]) rfl ?_
    exact K_i hx hb hr hlocks hP hD hK hS hT hE ⟨⟨_, rfl⟩, hF, (by rw [show lkA sA k ck = _ from if_pos hlk]; exact ⟨(by rw [ez_8]), hs_12⟩)⟩ (Nat.le_of_ble_eq_true rfl) (Nat.le_of_ble_eq_true rfl) dX4_lookAt_40
  by_cases c_13 : (lkC (sA.2 29 k)) = 16
  · refine lv_tableIn (tgt := 41) hx hb dX4_lookAt_4 (by rw [c_13]; decide) (by rw [c_13]; decide) (by rw [c_13]; rfl) (by decide) ?_
    have hlk := (lkC_inv (hNV.2.2.2.2.2.2 hkd).1).2.1 c_13
    refine lv_aload_n hx hb dX4_lookAt_41 rfl (lv_at hl 2 rfl) ?_
    refine T_get (ci := 0) (C := RX0) (T := TX0) (N := 8) (t := tI) hx hb hts inw_X4_lookAt_0 hown hK hP hT 2 rfl rfl 2 (by decide) (hts (.fieldLink RX4 137 "VatHouse$Cloth" "loose" "I") (List.mem_of_getElem? (i := 2) (by exact rfl))) (fun _ h9 => h9) rfl dX4_lookAt_42 (fun v_16 hv_14 hr_15 => ?_)
    obtain rfl : v_16 = .int (sA.2 14 ck) := hr_15.symm.trans (SR.cf2 hSR hc (by rw [ra_eq (hF.2 cl hSR.1.1.2.2.2.1.1 1 _ _ hSR.1.1.2.2.2.1.2 (by decide))]; exact hcl))
    exact K_i hx hb hr hlocks hP hD hK hS hT hE ⟨⟨_, rfl⟩, hF, (by rw [show lkA sA k ck = _ from (if_neg (by rw [hlk]; decide)).trans (if_pos hlk)]; exact ⟨rfl, hSR⟩)⟩ (Nat.le_of_ble_eq_true rfl) (Nat.le_of_ble_eq_true rfl) dX4_lookAt_45
  by_cases c_17 : (lkC (sA.2 29 k)) = 17
  · refine lv_tableIn (tgt := 46) hx hb dX4_lookAt_4 (by rw [c_17]; decide) (by rw [c_17]; decide) (by rw [c_17]; rfl) (by decide) ?_
    have hlk := (lkC_inv (hNV.2.2.2.2.2.2 hkd).1).2.2.1 c_17
    have hv5 := (hNV.2.2.2.2.2.2 hkd).2 (Or.inl hlk)
    have hk6 := v6_of hv5
    refine lv_aload_n hx hb dX4_lookAt_46 rfl (lv_at hl 0 rfl) ?_
    refine T_get (ci := 4) (C := RX4) (T := TX4) (N := 8) (t := (1, 0, 8, 0)) hx hb hts inw_X4_lookAt_4 hown hK hP hT 0 rfl rfl 0 (by decide) (hts (.fieldLink RX4 15 "VatHouse$Runner" "works" "LVatHouse$Works;") (List.mem_of_getElem? (i := 3) (by exact rfl))) (fun _ h9 => h9) rfl dX4_lookAt_47 (fun v_20 hv_18 hr_19 => ?_)
    obtain rfl : v_20 = .ref wk := hr_19.symm.trans ((hF.1 h0 (hT0.at 0 rfl).1 4 (hT0.at 0 rfl).2 0 (by decide)).trans h_wk)
    refine lv_aload_n hx hb dX4_lookAt_50 rfl (lv_at hl 1 rfl) ?_
    refine T_get (ci := 5) (C := RX5) (T := TX5) (N := 8) (t := tI) hx hb hts inw_X4_lookAt_5 hown hK hP hT 1 rfl rfl 1 (by decide) (hts (.fieldLink RX4 67 "VatHouse$Step" "vat" "I") (List.mem_of_getElem? (i := 4) (by exact rfl))) (fun _ h9 => h9) rfl dX4_lookAt_51 (fun v_23 hv_21 hr_22 => ?_)
    obtain rfl : v_23 = .int (sA.2 27 k) := hr_22.symm.trans ((hF.1 o (hT0.at 1 rfl).1 5 (hT0.at 1 rfl).2 1 (by decide)).trans ((hSN.2.2.2.2.1 hkd).2.2.2 (Or.inl hlk)))
    refine K_V ⟨hx, hb, hml, hown, hts⟩ (t_X8_vatAtE l dC dI sa hlt g _ _ (sA.2 27 k).toNatClampNeg (va (sA.2 27 k).toNatClampNeg) wk (sA.2 27 k) vs _ (hT.sub [3, 4] rfl)  ((hF.1 wk (hT0.at 3 rfl).1 8 (hT0.at 3 rfl).2 0 (by decide)).trans h_vs) (nI_cl hv5.1) hk6 (hSR.2.1 _ hk6).1) (cwV 1 hts gX4_lookAt_X8_vatAt rfl rfl rfl (by decide +kernel) ⟨Nat.le_of_ble_eq_true rfl, Nat.le_of_ble_eq_true rfl⟩) hP hD hK hS hA hev hT 3 8 rfl rfl rfl rfl hl.1 rfl (Nat.le_of_ble_eq_true rfl) dX4_lookAt_54 ⟨Nat.le_of_ble_eq_true rfl, Nat.le_of_ble_eq_true rfl⟩ (fun r L_24 f_25 H locs hw_26 hP hD hS hT hE1 => ?_)
    have hF := Fr.call hF hE hw_26.2.1 (by decide)
    have hE := hE.tr hE1
    obtain ⟨⟨v_27, rfl, hv9⟩, hw_26⟩ := hw_26
    obtain ⟨b_28, rfl, hb9⟩ := hv9
    have hT := hT.add hb9
    obtain ⟨hfr_29, hex_30⟩ := hw_26
    have hbv_31 : b_28 = va (sA.2 27 k).toNatClampNeg := by have h9 := hex_30; injection h9 with h9; injection h9
    have hs_32 := SR.still hSR hE1 hfr_29 (by decide)
    refine W.eq (g2 := F0 m 57 ls [.ref b_28]) rfl ?_
    refine T_get (ci := 7) (C := RX7) (T := TX7) (N := 8) (t := tI) hx hb hts inw_X4_lookAt_7 hown hK hP hT 0 rfl rfl 1 (by decide) (hts (.fieldLink RX4 165 "VatHouse$Vat" "grains" "I") (List.mem_of_getElem? (i := 5) (by exact rfl))) (fun _ h9 => h9) rfl dX4_lookAt_57 (fun v_35 hv_33 hr_34 => ?_)
    obtain rfl : v_35 = .int (sA.2 4 (sA.2 27 k).toNatClampNeg) := hr_34.symm.trans (by rw [hbv_31]; exact (hs_32.2.1 (sA.2 27 k).toNatClampNeg hk6).2.2.2.1)
    exact K_i hx hb hr hlocks hP hD hK hS hT hE ⟨⟨_, rfl⟩, hF, (by rw [show lkA sA k ck = _ from (if_neg (by rw [hlk]; decide)).trans ((if_neg (by rw [hlk]; decide)).trans ((if_neg (by rw [hlk]; decide)).trans (if_pos hlk)))]; exact ⟨rfl, hs_32⟩)⟩ (Nat.le_of_ble_eq_true rfl) (Nat.le_of_ble_eq_true rfl) dX4_lookAt_60
  by_cases c_36 : (lkC (sA.2 29 k)) = 18
  · refine lv_tableIn (tgt := 61) hx hb dX4_lookAt_4 (by rw [c_36]; decide) (by rw [c_36]; decide) (by rw [c_36]; rfl) (by decide) ?_
    have hlk := (lkC_inv (hNV.2.2.2.2.2.2 hkd).1).2.2.2.1 c_36
    have hv5 := (hNV.2.2.2.2.2.2 hkd).2 (Or.inr hlk)
    have hk6 := v6_of hv5
    refine lv_aload_n hx hb dX4_lookAt_61 rfl (lv_at hl 0 rfl) ?_
    refine T_get (ci := 4) (C := RX4) (T := TX4) (N := 8) (t := (1, 0, 8, 0)) hx hb hts inw_X4_lookAt_4 hown hK hP hT 0 rfl rfl 0 (by decide) (hts (.fieldLink RX4 15 "VatHouse$Runner" "works" "LVatHouse$Works;") (List.mem_of_getElem? (i := 3) (by exact rfl))) (fun _ h9 => h9) rfl dX4_lookAt_62 (fun v_39 hv_37 hr_38 => ?_)
    obtain rfl : v_39 = .ref wk := hr_38.symm.trans ((hF.1 h0 (hT0.at 0 rfl).1 4 (hT0.at 0 rfl).2 0 (by decide)).trans h_wk)
    refine lv_aload_n hx hb dX4_lookAt_65 rfl (lv_at hl 1 rfl) ?_
    refine T_get (ci := 5) (C := RX5) (T := TX5) (N := 8) (t := tI) hx hb hts inw_X4_lookAt_5 hown hK hP hT 1 rfl rfl 1 (by decide) (hts (.fieldLink RX4 67 "VatHouse$Step" "vat" "I") (List.mem_of_getElem? (i := 4) (by exact rfl))) (fun _ h9 => h9) rfl dX4_lookAt_66 (fun v_42 hv_40 hr_41 => ?_)
    obtain rfl : v_42 = .int (sA.2 27 k) := hr_41.symm.trans ((hF.1 o (hT0.at 1 rfl).1 5 (hT0.at 1 rfl).2 1 (by decide)).trans ((hSN.2.2.2.2.1 hkd).2.2.2 (Or.inr hlk)))
    refine K_V ⟨hx, hb, hml, hown, hts⟩ (t_X8_vatAtE l dC dI sa hlt g _ _ (sA.2 27 k).toNatClampNeg (va (sA.2 27 k).toNatClampNeg) wk (sA.2 27 k) vs _ (hT.sub [3, 4] rfl)  ((hF.1 wk (hT0.at 3 rfl).1 8 (hT0.at 3 rfl).2 0 (by decide)).trans h_vs) (nI_cl hv5.1) hk6 (hSR.2.1 _ hk6).1) (cwV 1 hts gX4_lookAt_X8_vatAt rfl rfl rfl (by decide +kernel) ⟨Nat.le_of_ble_eq_true rfl, Nat.le_of_ble_eq_true rfl⟩) hP hD hK hS hA hev hT 3 8 rfl rfl rfl rfl hl.1 rfl (Nat.le_of_ble_eq_true rfl) dX4_lookAt_69 ⟨Nat.le_of_ble_eq_true rfl, Nat.le_of_ble_eq_true rfl⟩ (fun r L_43 f_44 H locs hw_45 hP hD hS hT hE1 => ?_)
    have hF := Fr.call hF hE hw_45.2.1 (by decide)
    have hE := hE.tr hE1
    obtain ⟨⟨v_46, rfl, hv9⟩, hw_45⟩ := hw_45
    obtain ⟨b_47, rfl, hb9⟩ := hv9
    have hT := hT.add hb9
    obtain ⟨hfr_48, hex_49⟩ := hw_45
    have hbv_50 : b_47 = va (sA.2 27 k).toNatClampNeg := by have h9 := hex_49; injection h9 with h9; injection h9
    have hs_51 := SR.still hSR hE1 hfr_48 (by decide)
    refine W.eq (g2 := F0 m 72 ls [.ref b_47]) rfl ?_
    refine T_get (ci := 7) (C := RX7) (T := TX7) (N := 8) (t := tI) hx hb hts inw_X4_lookAt_7 hown hK hP hT 0 rfl rfl 2 (by decide) (hts (.fieldLink RX4 168 "VatHouse$Vat" "food" "I") (List.mem_of_getElem? (i := 6) (by exact rfl))) (fun _ h9 => h9) rfl dX4_lookAt_72 (fun v_54 hv_52 hr_53 => ?_)
    obtain rfl : v_54 = .int (sA.2 5 (sA.2 27 k).toNatClampNeg) := hr_53.symm.trans (by rw [hbv_50]; exact (hs_51.2.1 (sA.2 27 k).toNatClampNeg hk6).2.2.2.2.1)
    exact K_i hx hb hr hlocks hP hD hK hS hT hE ⟨⟨_, rfl⟩, hF, (by rw [show lkA sA k ck = _ from (if_neg (by rw [hlk]; decide)).trans ((if_neg (by rw [hlk]; decide)).trans ((if_neg (by rw [hlk]; decide)).trans (if_neg (by rw [hlk]; decide))))]; exact ⟨rfl, hs_51⟩)⟩ (Nat.le_of_ble_eq_true rfl) (Nat.le_of_ble_eq_true rfl) dX4_lookAt_75
  refine lv_tableOut (tgt := 76) hx hb dX4_lookAt_4 (tab_out_15_18 c_4 c_13 c_17 c_36) (by decide) ?_
  have hlk := (lkC_inv (hNV.2.2.2.2.2.2 hkd).1).2.2.2.2 c_4 c_13 c_17 c_36
  refine lv_aload_n hx hb dX4_lookAt_76 rfl (lv_at hl 0 rfl) ?_
  refine T_get (ci := 4) (C := RX4) (T := TX4) (N := 8) (t := (1, 0, 8, 0)) hx hb hts inw_X4_lookAt_4 hown hK hP hT 0 rfl rfl 0 (by decide) (hts (.fieldLink RX4 15 "VatHouse$Runner" "works" "LVatHouse$Works;") (List.mem_of_getElem? (i := 3) (by exact rfl))) (fun _ h9 => h9) rfl dX4_lookAt_77 (fun v_57 hv_55 hr_56 => ?_)
  obtain rfl : v_57 = .ref wk := hr_56.symm.trans ((hF.1 h0 (hT0.at 0 rfl).1 4 (hT0.at 0 rfl).2 0 (by decide)).trans h_wk)
  refine T_get (ci := 8) (C := RX8) (T := TX8) (N := 3) (t := tI) hx hb hts inw_X4_lookAt_8 hown hK hP hT 3 rfl rfl 1 (by decide) (hts (.fieldLink RX4 171 "VatHouse$Works" "hours" "I") (List.mem_of_getElem? (i := 7) (by exact rfl))) (fun _ h9 => h9) rfl dX4_lookAt_80 (fun v_60 hv_58 hr_59 => ?_)
  obtain rfl : v_60 = .int (sA.1 1) := hr_59.symm.trans hSR.2.2.2.1.1
  refine lv_bipush (v := 24) hx hb dX4_lookAt_83 (by decide) ?_
  refine lv_irem hx hb dX4_lookAt_85 (by decide) ?_
  refine lv_topi (fun z_61 ez_61 => ?_)
  exact K_i hx hb hr hlocks hP hD hK hS hT hE ⟨⟨_, rfl⟩, hF, (by rw [show lkA sA k ck = _ from (if_neg (by rw [hlk]; decide)).trans ((if_neg (by rw [hlk]; decide)).trans (if_pos hlk))]; exact ⟨(by rw [ez_61]), hSR⟩)⟩ (Nat.le_of_ble_eq_true rfl) (Nat.le_of_ble_eq_true rfl) dX4_lookAt_86

theorem bl_0 {p : Prop} [Decidable p] : ((if p then (1 : Int32) else 0) = 0 ↔ ¬ p) := by
  by_cases h : p
  · rw [if_pos h]; exact ⟨fun e => absurd e (by decide), fun e => absurd h e⟩
  · rw [if_neg h]; exact ⟨fun _ => h, fun _ => rfl⟩
theorem le_nlt {a b : Int32} (h : a ≤ b) : ¬ b < a := by
  rw [Int32.le_iff_toInt_le] at h; rw [Int32.lt_iff_toInt_lt]; omega

noncomputable abbrev rm_X4_holdsS : Room := { frames := 2, cells := 0, slots := 0, locals := 43 }
set_option maxHeartbeats 800000 in
set_option maxRecDepth 100000 in
theorem t_X4_holdsS (l : Launch) (dC : Nat → ClassId) (dI : Nat → Nat → Nat) (sa : Nat → Nat) (hlt : l.stackTraces = false) (g : Nat → Nat) (L : List Nat) (f : Nat → va_E) (x0 : Nat) (cl : Nat) (va : Nat → Nat) (B : Int) (ck : Nat) (sA : AS) (ad : Nat → Nat) (k : Nat) (h0 : Nat) (o : Nat) (w : Nat) (wk : Nat) (vs : Nat) (sz : Nat) (hT : TP g L f [(h0, (0, 4, 0)), (o, (0, 5, 0)), (w, (0, 0, 0)), (wk, (0, 8, 0)), (vs, (2, g 2, 6))]) (h_wk : rd f h0 0 = .ref wk) (h_vs : rd f wk 0 = .ref vs) (hSR : SR g L f (x0, wk, vs, cl, h0, va) sA) (hIV : IV B sA) (hc : (ck : Int) < (sA.1 12).toInt) (hcl : ra f cl ck = some w) (hSN : SN f ad sA o k) (hNV : NVk sA k) (hkd : sA.2 26 k = 9) : KC l dC dI sa g yX4_holds wsX4_holds rm_X4_holdsS [.ref h0, .ref o, .ref w] L f sz (fun r L' f' => ((r = some (.int 0) ∧ (¬ hdA sA k ck ∧ SR g L' f' (x0, wk, vs, cl, h0, va) sA)) ∨ (r = some (.int 1) ∧ (hdA sA k ck ∧ SR g L' f' (x0, wk, vs, cl, h0, va) sA))) ∧ Fr [] L f f') 0 0 := by
  refine CT.start (cc := cX4_holds) (maxL := 4) (ret := (some .boolean)) (by decide) rfl (Nat.le_of_ble_eq_true rfl) ?_
  intro p e s m below meth c ls hst hP hK hD hev hS hl
  obtain ⟨hx, hb, hr, hml, hts, hown, hlocks, hin⟩ := hst
  have hown : s.vm.findClass RX4 = some m.cls := hown
  have hin : meth.name = yX4_holds.name := hin
  have hA : ∀ q : Nat, s.heap.size ≤ q → va_A (va_pl L f) s.heap.size q := fun _ h => Or.inr h
  have hE : Ext L f L f := Ext.rf
  have hF : Fr [] L f f := Fr.rf
  have hl : lv_has ls 4 [(0, .ref h0), (1, .ref o), (2, .ref w)] := hl
  have hT0 := hT
  refine lv_aload_n hx hb dX4_holds_0 rfl (lv_at hl 0 rfl) ?_
  refine lv_aload_n hx hb dX4_holds_1 rfl (lv_at hl 1 rfl) ?_
  refine lv_aload_n hx hb dX4_holds_2 rfl (lv_at hl 2 rfl) ?_
  refine K_V ⟨hx, hb, hml, hown, hts⟩ (t_X4_lookAtS l dC dI sa hlt g _ _ x0 cl va B ck sA ad k h0 o w wk vs _ (hT.sub [0, 1, 2, 3, 4] rfl)  ((hF.1 h0 (hT0.at 0 rfl).1 4 (hT0.at 0 rfl).2 0 (by decide)).trans h_wk) ((hF.1 wk (hT0.at 3 rfl).1 8 (hT0.at 3 rfl).2 0 (by decide)).trans h_vs) hSR hIV hc (by rw [ra_eq (hF.2 cl hSR.1.1.2.2.2.1.1 1 _ _ hSR.1.1.2.2.2.1.2 (by decide))]; exact hcl) hSN hNV hkd) (cwV 2 hts gX4_holds_X4_lookAt rfl rfl rfl (by decide +kernel) ⟨Nat.le_of_ble_eq_true rfl, Nat.le_of_ble_eq_true rfl⟩) hP hD hK hS hA hev hT 0 4 rfl rfl rfl rfl hl.1 rfl (Nat.le_of_ble_eq_true rfl) dX4_holds_3 ⟨Nat.le_of_ble_eq_true rfl, Nat.le_of_ble_eq_true rfl⟩ (fun r L_1 f_2 H locs hw_3 hP hD hS hT hE1 => ?_)
  have hF := Fr.call hF hE hw_3.2.1 (by decide)
  have hE := hE.tr hE1
  obtain ⟨⟨z_4, rfl⟩, hw_3⟩ := hw_3
  obtain ⟨hfr_5, hex_6⟩ := hw_3
  obtain ⟨hg_7, hs_8⟩ := hex_6
  have ez_4 : z_4 = lkA sA k ck := sv hg_7
  refine W.eq (g2 := F0 m 6 ls [.int z_4]) rfl ?_
  refine lv_istore_n (lv' := [(3, .int z_4), (0, .ref h0), (1, .ref o), (2, .ref w)]) hx hb dX4_holds_6 rfl hl (by decide) rfl (fun ls hl => ?_)
  refine lv_aload_n hx hb dX4_holds_7 rfl (lv_at hl 2 rfl) ?_
  refine T_get (ci := 5) (C := RX5) (T := TX5) (N := 8) (t := tI) hx hb hts inw_X4_holds_5 hown hK hP hT 1 rfl rfl 4 (by decide) (hts (.fieldLink RX4 158 "VatHouse$Step" "below" "Z") (List.mem_of_getElem? (i := 1) (by exact rfl))) (fun _ h9 => h9) rfl dX4_holds_8 (fun v_11 hv_9 hr_10 => ?_)
  obtain rfl : v_11 = .int (if sA.2 30 k = 60 then 1 else 0) := hr_10.symm.trans ((hF.1 o (hT0.at 1 rfl).1 5 (hT0.at 1 rfl).2 4 (by decide)).trans (hSN.2.2.2.2.1 hkd).2.1)
  refine lv_if_eq (tgt := 30) hx hb dX4_holds_11 (by decide) (fun c_12 => ?_) (fun c_12 => ?_)
  · refine lv_iload_n hx hb dX4_holds_30 rfl (lv_at hl 0 rfl) ?_
    refine lv_aload_n hx hb dX4_holds_31 rfl (lv_at hl 2 rfl) ?_
    refine T_get (ci := 5) (C := RX5) (T := TX5) (N := 8) (t := tI) hx hb hts inw_X4_holds_5 hown hK hP hT 1 rfl rfl 2 (by decide) (hts (.fieldLink RX4 76 "VatHouse$Step" "number" "I") (List.mem_of_getElem? (i := 2) (by exact rfl))) (fun _ h9 => h9) rfl dX4_holds_32 (fun v_15 hv_13 hr_14 => ?_)
    obtain rfl : v_15 = .int (sA.2 28 k) := hr_14.symm.trans ((hF.1 o (hT0.at 1 rfl).1 5 (hT0.at 1 rfl).2 2 (by decide)).trans (hSN.2.2.2.2.1 hkd).2.2.1)
    refine lv_icmp_ne (tgt := 42) hx hb dX4_holds_35 (by decide) (fun c_16 => ?_) (fun c_16 => ?_)
    · refine lv_iconst (v := 0) hx hb dX4_holds_42 (by decide) ?_
      exact K_z hx hb hr rfl hlocks hP hD hK hS hT hE ⟨Or.inl ⟨rfl, ⟨by rintro (h9 | h9); exact bl_0.mp c_12 h9.1; exact c_16 (ez_4.trans h9.2), hs_8⟩⟩, hF⟩ (Nat.le_of_ble_eq_true rfl) (Nat.le_of_ble_eq_true rfl) dX4_holds_43
    · refine lv_iconst (v := 1) hx hb dX4_holds_38 (by decide) ?_
      refine lv_goto (tgt := 43) hx hb dX4_holds_39 (by decide) ?_
      exact K_z hx hb hr rfl hlocks hP hD hK hS hT hE ⟨Or.inr ⟨rfl, ⟨Or.inr ⟨bl_0.mp c_12, by rw [← ez_4]; exact c_16⟩, hs_8⟩⟩, hF⟩ (Nat.le_of_ble_eq_true rfl) (Nat.le_of_ble_eq_true rfl) dX4_holds_43
  · refine lv_iload_n hx hb dX4_holds_14 rfl (lv_at hl 0 rfl) ?_
    refine lv_aload_n hx hb dX4_holds_15 rfl (lv_at hl 2 rfl) ?_
    refine T_get (ci := 5) (C := RX5) (T := TX5) (N := 8) (t := tI) hx hb hts inw_X4_holds_5 hown hK hP hT 1 rfl rfl 2 (by decide) (hts (.fieldLink RX4 76 "VatHouse$Step" "number" "I") (List.mem_of_getElem? (i := 2) (by exact rfl))) (fun _ h9 => h9) rfl dX4_holds_16 (fun v_19 hv_17 hr_18 => ?_)
    obtain rfl : v_19 = .int (sA.2 28 k) := hr_18.symm.trans ((hF.1 o (hT0.at 1 rfl).1 5 (hT0.at 1 rfl).2 2 (by decide)).trans (hSN.2.2.2.2.1 hkd).2.2.1)
    refine lv_icmp_ge (tgt := 26) hx hb dX4_holds_19 (by decide) (fun c_20 => ?_) (fun c_20 => ?_)
    · refine lv_iconst (v := 0) hx hb dX4_holds_26 (by decide) ?_
      refine lv_goto (tgt := 43) hx hb dX4_holds_27 (by decide) ?_
      exact K_z hx hb hr rfl hlocks hP hD hK hS hT hE ⟨Or.inl ⟨rfl, ⟨by rintro (h9 | h9); exact le_nlt c_20 (by rw [ez_4]; exact h9.2); exact h9.1 (Decidable.not_not.mp (fun g9 => c_12 (bl_0.mpr g9))), hs_8⟩⟩, hF⟩ (Nat.le_of_ble_eq_true rfl) (Nat.le_of_ble_eq_true rfl) dX4_holds_43
    · refine lv_iconst (v := 1) hx hb dX4_holds_22 (by decide) ?_
      refine lv_goto (tgt := 43) hx hb dX4_holds_23 (by decide) ?_
      exact K_z hx hb hr rfl hlocks hP hD hK hS hT hE ⟨Or.inr ⟨rfl, ⟨Or.inl ⟨Decidable.not_not.mp (fun g9 => c_12 (bl_0.mpr g9)), by rw [← ez_4]; exact nle_lt c_20⟩, hs_8⟩⟩, hF⟩ (Nat.le_of_ble_eq_true rfl) (Nat.le_of_ble_eq_true rfl) dX4_holds_43
