noncomputable abbrev rm_X0_hasSpanE : Room := { frames := 0, cells := 0, slots := 0, locals := 0 }
set_option maxHeartbeats 800000 in
set_option maxRecDepth 100000 in
theorem t_X0_hasSpanE (l : Launch) (dC : Nat → ClassId) (dI : Nat → Nat → Nat) (sa : Nat → Nat) (hlt : l.stackTraces = false) (g : Nat → Nat) (L : List Nat) (f : Nat → va_E) (h0 : Nat) (d : Int32) (dy : Int32) (da : Int32) (sz : Nat) (hT : TP g L f [(h0, (0, 0, 0))]) (hm_dy : rd f h0 4 = .int dy) (hm_da : rd f h0 5 = .int da) : KC l dC dI sa g yX0_hasSpan wsX0_hasSpan rm_X0_hasSpanE [.ref h0, .int d] L f sz (fun r L' f' => ((r = some (.int 0) ∧ (¬ (¬ dy = 0 ∧ da ≤ d))) ∨ (r = some (.int 1) ∧ (¬ dy = 0 ∧ da ≤ d))) ∧ Fr [] L f f') 0 0 := by
  refine CT.start (cc := cX0_hasSpan) (maxL := 2) (ret := (some .boolean)) (by decide) rfl (Nat.le_of_ble_eq_true rfl) ?_
  intro p e s m below meth c ls hst hP hK hD hev hS hl
  obtain ⟨hx, hb, hr, hml, hts, hown, hlocks, hin⟩ := hst
  have hown : s.vm.findClass RX0 = some m.cls := hown
  have hin : meth.name = yX0_hasSpan.name := hin
  have hA : ∀ q : Nat, s.heap.size ≤ q → va_A (va_pl L f) s.heap.size q := fun _ h => Or.inr h
  have hE : Ext L f L f := Ext.rf
  have hF : Fr [] L f f := Fr.rf
  have hl : lv_has ls 2 [(0, .ref h0), (1, .int d)] := hl
  refine lv_aload_n hx hb dX0_hasSpan_0 rfl (lv_at hl 0 rfl) ?_
  refine T_get (ci := 0) (C := RX0) (T := TX0) (N := 8) (t := tI) hx hb hts inw_X0_hasSpan_0 hown hK hP hT 0 rfl rfl 4 (by decide) (hts (.fieldLink RX0 27 "VatHouse$Cloth" "dry" "Z") (List.mem_of_getElem? (i := 1) (by exact rfl))) (fun _ h9 => h9) rfl dX0_hasSpan_1 (fun v_3 hv_1 hr_2 => ?_)
  obtain rfl : v_3 = .int dy := hr_2.symm.trans hm_dy
  refine lv_if_eq (tgt := 19) hx hb dX0_hasSpan_4 (by decide) (fun c_4 => ?_) (fun c_4 => ?_)
  · refine lv_iconst (v := 0) hx hb dX0_hasSpan_19 (by decide) ?_
    exact K_z hx hb hr rfl hlocks hP hD hK hS hT hE ⟨Or.inl ⟨rfl, (fun h9 => h9.1 c_4)⟩, hF⟩ (Nat.le_of_ble_eq_true rfl) (Nat.le_of_ble_eq_true rfl) dX0_hasSpan_20
  · refine lv_iload_n hx hb dX0_hasSpan_7 rfl (lv_at hl 1 rfl) ?_
    refine lv_aload_n hx hb dX0_hasSpan_8 rfl (lv_at hl 0 rfl) ?_
    refine T_get (ci := 0) (C := RX0) (T := TX0) (N := 8) (t := tI) hx hb hts inw_X0_hasSpan_0 hown hK hP hT 0 rfl rfl 5 (by decide) (hts (.fieldLink RX0 9 "VatHouse$Cloth" "day" "I") (List.mem_of_getElem? (i := 2) (by exact rfl))) (fun _ h9 => h9) rfl dX0_hasSpan_9 (fun v_7 hv_5 hr_6 => ?_)
    obtain rfl : v_7 = .int da := hr_6.symm.trans hm_da
    refine lv_icmp_lt (tgt := 19) hx hb dX0_hasSpan_12 (by decide) (fun c_8 => ?_) (fun c_8 => ?_)
    · refine lv_iconst (v := 0) hx hb dX0_hasSpan_19 (by decide) ?_
      exact K_z hx hb hr rfl hlocks hP hD hK hS hT hE ⟨Or.inl ⟨rfl, (fun h9 => le_nlt h9.2 c_8)⟩, hF⟩ (Nat.le_of_ble_eq_true rfl) (Nat.le_of_ble_eq_true rfl) dX0_hasSpan_20
    · refine lv_iconst (v := 1) hx hb dX0_hasSpan_15 (by decide) ?_
      refine lv_goto (tgt := 20) hx hb dX0_hasSpan_16 (by decide) ?_
      exact K_z hx hb hr rfl hlocks hP hD hK hS hT hE ⟨Or.inr ⟨rfl, ⟨c_4, nlt_le c_8⟩⟩, hF⟩ (Nat.le_of_ble_eq_true rfl) (Nat.le_of_ble_eq_true rfl) dX0_hasSpan_20

noncomputable abbrev rm_X0_leastShadeE : Room := { frames := 1, cells := 0, slots := 0, locals := 20 }
set_option maxHeartbeats 800000 in
set_option maxRecDepth 100000 in
theorem t_X0_leastShadeE (l : Launch) (dC : Nat → ClassId) (dI : Nat → Nat → Nat) (sa : Nat → Nat) (hlt : l.stackTraces = false) (g : Nat → Nat) (L : List Nat) (f : Nat → va_E) (h0 : Nat) (d : Int32) (we : Int32) (fa : Int32) (da : Int32) (sz : Nat) (hT : TP g L f [(h0, (0, 0, 0))]) (hm_we : rd f h0 1 = .int we) (hm_fa : rd f h0 3 = .int fa) (hm_da : rd f h0 5 = .int da) : KC l dC dI sa g yX0_leastShade wsX0_leastShade rm_X0_leastShadeE [.ref h0, .int d] L f sz (fun r L' f' => (∃ z : Int32, r = some (.int z)) ∧ Fr [] L f f' ∧ (r = some (.int (lsV (shC we fa) da d)))) 0 0 := by
  refine CT.start (cc := cX0_leastShade) (maxL := 2) (ret := (some .int)) (by decide) rfl (Nat.le_of_ble_eq_true rfl) ?_
  intro p e s m below meth c ls hst hP hK hD hev hS hl
  obtain ⟨hx, hb, hr, hml, hts, hown, hlocks, hin⟩ := hst
  have hown : s.vm.findClass RX0 = some m.cls := hown
  have hin : meth.name = yX0_leastShade.name := hin
  have hA : ∀ q : Nat, s.heap.size ≤ q → va_A (va_pl L f) s.heap.size q := fun _ h => Or.inr h
  have hE : Ext L f L f := Ext.rf
  have hF : Fr [] L f f := Fr.rf
  have hl : lv_has ls 2 [(0, .ref h0), (1, .int d)] := hl
  refine lv_iconst (v := 0) hx hb dX0_leastShade_0 (by decide) ?_
  refine lv_aload_n hx hb dX0_leastShade_1 rfl (lv_at hl 0 rfl) ?_
  have hTo := hT
  refine K_V ⟨hx, hb, hml, hown, hts⟩ (t_X0_shadeE l dC dI sa hlt g _ _ h0 we fa _ (hT.sub [0] rfl)  hm_we hm_fa ) (cwV 0 hts gX0_leastShade_X0_shade rfl rfl rfl (by decide +kernel) ⟨Nat.le_of_ble_eq_true rfl, Nat.le_of_ble_eq_true rfl⟩) hP hD hK hS hA hev hT 0 0 rfl rfl rfl rfl hl.1 rfl (Nat.le_of_ble_eq_true rfl) dX0_leastShade_2 ⟨Nat.le_of_ble_eq_true rfl, Nat.le_of_ble_eq_true rfl⟩ (fun r L_1 f_2 H locs hw_3 hP hD hS hT hE1 => ?_)
  have hF := Fr.call hF hE hw_3.2.1 (by decide)
  have hE := hE.tr hE1
  obtain ⟨⟨z_4, rfl⟩, hw_3⟩ := hw_3
  obtain ⟨hfr_5, hex_6⟩ := hw_3
  have hk_7 : rd f_2 h0 1 = .int we := (hfr_5.1 h0 (hTo.at 0 rfl).1 0 (hTo.at 0 rfl).2 1 (by decide)).trans hm_we
  have hk_8 : rd f_2 h0 3 = .int fa := (hfr_5.1 h0 (hTo.at 0 rfl).1 0 (hTo.at 0 rfl).2 3 (by decide)).trans hm_fa
  have hk_9 : rd f_2 h0 5 = .int da := (hfr_5.1 h0 (hTo.at 0 rfl).1 0 (hTo.at 0 rfl).2 5 (by decide)).trans hm_da
  have ez_4 : z_4 = shC we fa := sv hex_6
  refine W.eq (g2 := F0 m 5 ls [.int z_4, .int 0]) rfl ?_
  refine lv_iconst (v := 3) hx hb dX0_leastShade_5 (by decide) ?_
  refine lv_iload_n hx hb dX0_leastShade_6 rfl (lv_at hl 1 rfl) ?_
  refine lv_aload_n hx hb dX0_leastShade_7 rfl (lv_at hl 0 rfl) ?_
  refine T_get (ci := 0) (C := RX0) (T := TX0) (N := 8) (t := tI) hx hb hts inw_X0_leastShade_0 hown hK hP hT 0 rfl rfl 5 (by decide) (hts (.fieldLink RX0 9 "VatHouse$Cloth" "day" "I") (List.mem_of_getElem? (i := 1) (by exact rfl))) (fun _ h9 => h9) rfl dX0_leastShade_8 (fun v_12 hv_10 hr_11 => ?_)
  obtain rfl : v_12 = .int da := hr_11.symm.trans hk_9
  refine lv_isub hx hb dX0_leastShade_11 ?_
  refine lv_topi (fun z_13 ez_13 => ?_)
  refine lv_imul hx hb dX0_leastShade_12 ?_
  refine lv_topi (fun z_14 ez_14 => ?_)
  refine lv_bipush (v := 100) hx hb dX0_leastShade_13 (by decide) ?_
  refine lv_idiv hx hb dX0_leastShade_15 (by decide) ?_
  refine lv_topi (fun z_15 ez_15 => ?_)
  refine lv_isub hx hb dX0_leastShade_16 ?_
  refine lv_topi (fun z_16 ez_16 => ?_)
  refine va_mmax hx hb (hml.trans hl.1.symm) hown (hts (.methodLink RX0 35 Lib.Math.max.name) (List.mem_of_getElem? (i := 2) (by exact rfl))) (hts (.static Lib.Math.max.name) (List.mem_of_getElem? (i := 3) (by exact rfl))) (hts (.initialized "java/lang/Math") (List.mem_of_getElem? (i := 4) (by exact rfl))) (hts (.code Lib.Math.max.name Lib.Math.max.code 2 (some .int)) (List.mem_of_getElem? (i := 5) (by exact rfl))) (Nat.le_of_ble_eq_true rfl) (Nat.le_of_ble_eq_true rfl) (Nat.le_of_ble_eq_true rfl) (Nat.le_of_ble_eq_true rfl) dX0_leastShade_17 ?_
  refine lv_topi (fun z_17 ez_17 => ?_)
  exact K_i hx hb hr hlocks hP hD hK hS hT hE ⟨⟨_, rfl⟩, hF, (by simp only [lsV, ← ez_4, ← ez_13, ← ez_14, ← ez_15, ← ez_16, ← ez_17])⟩ (Nat.le_of_ble_eq_true rfl) (Nat.le_of_ble_eq_true rfl) dX0_leastShade_20

noncomputable abbrev rm_X0_greatestShadeE : Room := { frames := 1, cells := 0, slots := 0, locals := 20 }
set_option maxHeartbeats 800000 in
set_option maxRecDepth 100000 in
theorem t_X0_greatestShadeE (l : Launch) (dC : Nat → ClassId) (dI : Nat → Nat → Nat) (sa : Nat → Nat) (hlt : l.stackTraces = false) (g : Nat → Nat) (L : List Nat) (f : Nat → va_E) (h0 : Nat) (d : Int32) (we : Int32) (fa : Int32) (da : Int32) (sz : Nat) (hT : TP g L f [(h0, (0, 0, 0))]) (hm_we : rd f h0 1 = .int we) (hm_fa : rd f h0 3 = .int fa) (hm_da : rd f h0 5 = .int da) : KC l dC dI sa g yX0_greatestShade wsX0_greatestShade rm_X0_greatestShadeE [.ref h0, .int d] L f sz (fun r L' f' => (∃ z : Int32, r = some (.int z)) ∧ Fr [] L f f' ∧ (r = some (.int (gsV (shC we fa) da d)))) 0 0 := by
  refine CT.start (cc := cX0_greatestShade) (maxL := 2) (ret := (some .int)) (by decide) rfl (Nat.le_of_ble_eq_true rfl) ?_
  intro p e s m below meth c ls hst hP hK hD hev hS hl
  obtain ⟨hx, hb, hr, hml, hts, hown, hlocks, hin⟩ := hst
  have hown : s.vm.findClass RX0 = some m.cls := hown
  have hin : meth.name = yX0_greatestShade.name := hin
  have hA : ∀ q : Nat, s.heap.size ≤ q → va_A (va_pl L f) s.heap.size q := fun _ h => Or.inr h
  have hE : Ext L f L f := Ext.rf
  have hF : Fr [] L f f := Fr.rf
  have hl : lv_has ls 2 [(0, .ref h0), (1, .int d)] := hl
  refine lv_iconst (v := 0) hx hb dX0_greatestShade_0 (by decide) ?_
  refine lv_aload_n hx hb dX0_greatestShade_1 rfl (lv_at hl 0 rfl) ?_
  have hTo := hT
  refine K_V ⟨hx, hb, hml, hown, hts⟩ (t_X0_shadeE l dC dI sa hlt g _ _ h0 we fa _ (hT.sub [0] rfl)  hm_we hm_fa ) (cwV 0 hts gX0_greatestShade_X0_shade rfl rfl rfl (by decide +kernel) ⟨Nat.le_of_ble_eq_true rfl, Nat.le_of_ble_eq_true rfl⟩) hP hD hK hS hA hev hT 0 0 rfl rfl rfl rfl hl.1 rfl (Nat.le_of_ble_eq_true rfl) dX0_greatestShade_2 ⟨Nat.le_of_ble_eq_true rfl, Nat.le_of_ble_eq_true rfl⟩ (fun r L_1 f_2 H locs hw_3 hP hD hS hT hE1 => ?_)
  have hF := Fr.call hF hE hw_3.2.1 (by decide)
  have hE := hE.tr hE1
  obtain ⟨⟨z_4, rfl⟩, hw_3⟩ := hw_3
  obtain ⟨hfr_5, hex_6⟩ := hw_3
  have hk_7 : rd f_2 h0 1 = .int we := (hfr_5.1 h0 (hTo.at 0 rfl).1 0 (hTo.at 0 rfl).2 1 (by decide)).trans hm_we
  have hk_8 : rd f_2 h0 3 = .int fa := (hfr_5.1 h0 (hTo.at 0 rfl).1 0 (hTo.at 0 rfl).2 3 (by decide)).trans hm_fa
  have hk_9 : rd f_2 h0 5 = .int da := (hfr_5.1 h0 (hTo.at 0 rfl).1 0 (hTo.at 0 rfl).2 5 (by decide)).trans hm_da
  have ez_4 : z_4 = shC we fa := sv hex_6
  refine W.eq (g2 := F0 m 5 ls [.int z_4, .int 0]) rfl ?_
  refine lv_iload_n hx hb dX0_greatestShade_5 rfl (lv_at hl 1 rfl) ?_
  refine lv_aload_n hx hb dX0_greatestShade_6 rfl (lv_at hl 0 rfl) ?_
  refine T_get (ci := 0) (C := RX0) (T := TX0) (N := 8) (t := tI) hx hb hts inw_X0_greatestShade_0 hown hK hP hT 0 rfl rfl 5 (by decide) (hts (.fieldLink RX0 9 "VatHouse$Cloth" "day" "I") (List.mem_of_getElem? (i := 1) (by exact rfl))) (fun _ h9 => h9) rfl dX0_greatestShade_7 (fun v_12 hv_10 hr_11 => ?_)
  obtain rfl : v_12 = .int da := hr_11.symm.trans hk_9
  refine lv_isub hx hb dX0_greatestShade_10 ?_
  refine lv_topi (fun z_13 ez_13 => ?_)
  refine lv_bipush (v := 100) hx hb dX0_greatestShade_11 (by decide) ?_
  refine lv_idiv hx hb dX0_greatestShade_13 (by decide) ?_
  refine lv_topi (fun z_14 ez_14 => ?_)
  refine lv_isub hx hb dX0_greatestShade_14 ?_
  refine lv_topi (fun z_15 ez_15 => ?_)
  refine va_mmax hx hb (hml.trans hl.1.symm) hown (hts (.methodLink RX0 35 Lib.Math.max.name) (List.mem_of_getElem? (i := 2) (by exact rfl))) (hts (.static Lib.Math.max.name) (List.mem_of_getElem? (i := 3) (by exact rfl))) (hts (.initialized "java/lang/Math") (List.mem_of_getElem? (i := 4) (by exact rfl))) (hts (.code Lib.Math.max.name Lib.Math.max.code 2 (some .int)) (List.mem_of_getElem? (i := 5) (by exact rfl))) (Nat.le_of_ble_eq_true rfl) (Nat.le_of_ble_eq_true rfl) (Nat.le_of_ble_eq_true rfl) (Nat.le_of_ble_eq_true rfl) dX0_greatestShade_15 ?_
  refine lv_topi (fun z_16 ez_16 => ?_)
  exact K_i hx hb hr hlocks hP hD hK hS hT hE ⟨⟨_, rfl⟩, hF, (by simp only [gsV, ← ez_4, ← ez_13, ← ez_14, ← ez_15, ← ez_16])⟩ (Nat.le_of_ble_eq_true rfl) (Nat.le_of_ble_eq_true rfl) dX0_greatestShade_18

noncomputable abbrev rm_X0_hasSpanS : Room := rm_X0_hasSpanE
theorem t_X0_hasSpanS (l : Launch) (dC : Nat → ClassId) (dI : Nat → Nat → Nat) (sa : Nat → Nat) (hlt : l.stackTraces = false) (g : Nat → Nat) (L : List Nat) (f : Nat → va_E) (x0 : Nat) (wk : Nat) (vs : Nat) (cl : Nat) (ru : Nat) (va : Nat → Nat) (sA : AS) (ck : Nat) (h0 : Nat) (d : Int32) (sz : Nat) (hT : TP g L f [(h0, (0, 0, 0))]) (hSR : SR g L f (x0, wk, vs, cl, ru, va) sA) (hc : (ck : Int) < (sA.1 12).toInt) (hcl : ra f cl ck = some h0) : KC l dC dI sa g yX0_hasSpan wsX0_hasSpan rm_X0_hasSpanS [.ref h0, .int d] L f sz (fun r L' f' => ((r = some (.int 0) ∧ (¬ hsA sA ck d ∧ SR g L' f' (x0, wk, vs, cl, ru, va) sA)) ∨ (r = some (.int 1) ∧ (hsA sA ck d ∧ SR g L' f' (x0, wk, vs, cl, ru, va) sA))) ∧ Fr [] L f f') 0 0 := by
  refine (t_X0_hasSpanE l dC dI sa hlt g L f h0 d (dyA (sA.2 16 ck)) (sA.2 16 ck) sz hT (SR.cf4 hSR hc hcl) (SR.cf5 hSR hc hcl)).mono (fun r L' f' hE h => ?_)
  obtain ⟨hr, hF⟩ := h
  exact ⟨hr.imp (fun h9 => ⟨h9.1, fun g9 => h9.2 ⟨dyA_0.mpr g9.1, g9.2⟩, hSR.still hE hF (by decide)⟩) (fun h9 => ⟨h9.1, ⟨dyA_0.mp h9.2.1, h9.2.2⟩, hSR.still hE hF (by decide)⟩), hF⟩

noncomputable abbrev rm_X0_leastShadeS : Room := rm_X0_leastShadeE
theorem t_X0_leastShadeS (l : Launch) (dC : Nat → ClassId) (dI : Nat → Nat → Nat) (sa : Nat → Nat) (hlt : l.stackTraces = false) (g : Nat → Nat) (L : List Nat) (f : Nat → va_E) (x0 : Nat) (wk : Nat) (vs : Nat) (cl : Nat) (ru : Nat) (va : Nat → Nat) (sA : AS) (ck : Nat) (h0 : Nat) (d : Int32) (sz : Nat) (hT : TP g L f [(h0, (0, 0, 0))]) (hSR : SR g L f (x0, wk, vs, cl, ru, va) sA) (hc : (ck : Int) < (sA.1 12).toInt) (hcl : ra f cl ck = some h0) (hw1 : 1 ≤ sA.2 13 ck) : KC l dC dI sa g yX0_leastShade wsX0_leastShade rm_X0_leastShadeS [.ref h0, .int d] L f sz (fun r L' f' => (∃ z : Int32, r = some (.int z)) ∧ Fr [] L f f' ∧ (r = some (.int (lsA sA ck d)) ∧ SR g L' f' (x0, wk, vs, cl, ru, va) sA)) 0 0 := by
  refine (t_X0_leastShadeE l dC dI sa hlt g L f h0 d (sA.2 13 ck) (sA.2 15 ck) (sA.2 16 ck) sz hT (SR.cf1 hSR hc hcl) (SR.cf3 hSR hc hcl) (SR.cf5 hSR hc hcl)).mono (fun r L' f' hE h => ?_)
  obtain ⟨hr, hF, hx⟩ := h
  exact ⟨hr, hF, by rw [hx]; unfold lsA shA shC; rw [if_pos hw1], hSR.still hE hF (by decide)⟩

noncomputable abbrev rm_X0_greatestShadeS : Room := rm_X0_greatestShadeE
theorem t_X0_greatestShadeS (l : Launch) (dC : Nat → ClassId) (dI : Nat → Nat → Nat) (sa : Nat → Nat) (hlt : l.stackTraces = false) (g : Nat → Nat) (L : List Nat) (f : Nat → va_E) (x0 : Nat) (wk : Nat) (vs : Nat) (cl : Nat) (ru : Nat) (va : Nat → Nat) (sA : AS) (ck : Nat) (h0 : Nat) (d : Int32) (sz : Nat) (hT : TP g L f [(h0, (0, 0, 0))]) (hSR : SR g L f (x0, wk, vs, cl, ru, va) sA) (hc : (ck : Int) < (sA.1 12).toInt) (hcl : ra f cl ck = some h0) (hw1 : 1 ≤ sA.2 13 ck) : KC l dC dI sa g yX0_greatestShade wsX0_greatestShade rm_X0_greatestShadeS [.ref h0, .int d] L f sz (fun r L' f' => (∃ z : Int32, r = some (.int z)) ∧ Fr [] L f f' ∧ (r = some (.int (gsA sA ck d)) ∧ SR g L' f' (x0, wk, vs, cl, ru, va) sA)) 0 0 := by
  refine (t_X0_greatestShadeE l dC dI sa hlt g L f h0 d (sA.2 13 ck) (sA.2 15 ck) (sA.2 16 ck) sz hT (SR.cf1 hSR hc hcl) (SR.cf3 hSR hc hcl) (SR.cf5 hSR hc hcl)).mono (fun r L' f' hE h => ?_)
  obtain ⟨hr, hF, hx⟩ := h
  exact ⟨hr, hF, by rw [hx]; unfold gsA shA shC; rw [if_pos hw1], hSR.still hE hF (by decide)⟩


noncomputable abbrev rm_X0_spanMeetsS : Room := { frames := 2, cells := 0, slots := 0, locals := 41 }
set_option maxHeartbeats 800000 in
set_option maxRecDepth 100000 in
theorem t_X0_spanMeetsS (l : Launch) (dC : Nat → ClassId) (dI : Nat → Nat → Nat) (sa : Nat → Nat) (hlt : l.stackTraces = false) (g : Nat → Nat) (L : List Nat) (f : Nat → va_E) (x0 : Nat) (wk : Nat) (vs : Nat) (cl : Nat) (ru : Nat) (va : Nat → Nat) (sA : AS) (ck : Nat) (cj : Nat) (h0 : Nat) (o : Nat) (d : Int32) (sz : Nat) (hT : TP g L f [(h0, (0, 0, 0)), (o, (0, 0, 0))]) (hSR : SR g L f (x0, wk, vs, cl, ru, va) sA) (hc : (ck : Int) < (sA.1 12).toInt) (hcl : ra f cl ck = some h0) (hw1 : 1 ≤ sA.2 13 ck) (hc2 : (cj : Int) < (sA.1 12).toInt) (hcl2 : ra f cl cj = some o) (hw2 : 1 ≤ sA.2 13 cj) : KC l dC dI sa g yX0_spanMeets wsX0_spanMeets rm_X0_spanMeetsS [.ref h0, .ref o, .int d] L f sz (fun r L' f' => ((r = some (.int 0) ∧ (¬ mtA sA ck cj d ∧ SR g L' f' (x0, wk, vs, cl, ru, va) sA)) ∨ (r = some (.int 1) ∧ (mtA sA ck cj d ∧ SR g L' f' (x0, wk, vs, cl, ru, va) sA))) ∧ Fr [] L f f') 0 0 := by
  refine CT.start (cc := cX0_spanMeets) (maxL := 3) (ret := (some .boolean)) (by decide) rfl (Nat.le_of_ble_eq_true rfl) ?_
  intro p e s m below meth c ls hst hP hK hD hev hS hl
  obtain ⟨hx, hb, hr, hml, hts, hown, hlocks, hin⟩ := hst
  have hown : s.vm.findClass RX0 = some m.cls := hown
  have hin : meth.name = yX0_spanMeets.name := hin
  have hA : ∀ q : Nat, s.heap.size ≤ q → va_A (va_pl L f) s.heap.size q := fun _ h => Or.inr h
  have hE : Ext L f L f := Ext.rf
  have hF : Fr [] L f f := Fr.rf
  have hl : lv_has ls 3 [(0, .ref h0), (1, .ref o), (2, .int d)] := hl
  refine lv_aload_n hx hb dX0_spanMeets_0 rfl (lv_at hl 0 rfl) ?_
  refine lv_iload_n hx hb dX0_spanMeets_1 rfl (lv_at hl 2 rfl) ?_
  refine K_V ⟨hx, hb, hml, hown, hts⟩ (t_X0_hasSpanS l dC dI sa hlt g _ _ x0 wk vs cl ru va sA ck h0 d _ (hT.sub [0] rfl)  hSR hc (by rw [ra_eq (hF.2 cl hSR.1.1.2.2.2.1.1 1 _ _ hSR.1.1.2.2.2.1.2 (by decide))]; exact hcl)) (cwV 1 hts gX0_spanMeets_X0_hasSpan rfl rfl rfl (by decide +kernel) ⟨Nat.le_of_ble_eq_true rfl, Nat.le_of_ble_eq_true rfl⟩) hP hD hK hS hA hev hT 0 0 rfl rfl rfl rfl hl.1 rfl (Nat.le_of_ble_eq_true rfl) dX0_spanMeets_2 ⟨Nat.le_of_ble_eq_true rfl, Nat.le_of_ble_eq_true rfl⟩ (fun r L_1 f_2 H locs hw_3 hP hD hS hT hE1 => ?_)
  have hF := Fr.call hF hE hw_3.2 (by decide)
  have hE := hE.tr hE1
  obtain ⟨⟨rfl, hz2_4⟩ | ⟨rfl, hz2_4⟩, hw_3⟩ := hw_3
  · obtain ⟨hh_5, hs_6⟩ := hz2_4
    refine W.eq (g2 := F0 m 5 ls [.int 0]) rfl ?_
    refine lv_if_eq (tgt := 46) hx hb dX0_spanMeets_5 (by decide) (fun c_7 => ?_) (fun c_7 => ?_)
    rotate_left
    · exact absurd c_7 (by decide)
    refine lv_iconst (v := 0) hx hb dX0_spanMeets_46 (by decide) ?_
    exact K_z hx hb hr rfl hlocks hP hD hK hS hT hE ⟨Or.inl ⟨rfl, ⟨fun h9 => hh_5 h9.1, hs_6⟩⟩, hF⟩ (Nat.le_of_ble_eq_true rfl) (Nat.le_of_ble_eq_true rfl) dX0_spanMeets_47
  · obtain ⟨hh_8, hs_9⟩ := hz2_4
    refine W.eq (g2 := F0 m 5 ls [.int 1]) rfl ?_
    refine lv_if_eq (tgt := 46) hx hb dX0_spanMeets_5 (by decide) (fun c_10 => ?_) (fun c_10 => ?_)
    · exact absurd c_10 (by decide)
    refine lv_aload_n hx hb dX0_spanMeets_8 rfl (lv_at hl 1 rfl) ?_
    refine lv_iload_n hx hb dX0_spanMeets_9 rfl (lv_at hl 2 rfl) ?_
    refine K_V ⟨hx, hb, hml, hown, hts⟩ (t_X0_hasSpanS l dC dI sa hlt g _ _ x0 wk vs cl ru va sA cj o d _ (hT.sub [1] rfl)  hs_9 hc2 (by rw [ra_eq (hF.2 cl hSR.1.1.2.2.2.1.1 1 _ _ hSR.1.1.2.2.2.1.2 (by decide))]; exact hcl2)) (cwV 1 hts gX0_spanMeets_X0_hasSpan rfl rfl rfl (by decide +kernel) ⟨Nat.le_of_ble_eq_true rfl, Nat.le_of_ble_eq_true rfl⟩) hP hD hK hS hA hev hT 1 0 rfl rfl rfl rfl hl.1 rfl (Nat.le_of_ble_eq_true rfl) dX0_spanMeets_10 ⟨Nat.le_of_ble_eq_true rfl, Nat.le_of_ble_eq_true rfl⟩ (fun r L_11 f_12 H locs hw_13 hP hD hS hT hE1 => ?_)
    have hF := Fr.call hF hE hw_13.2 (by decide)
    have hE := hE.tr hE1
    obtain ⟨⟨rfl, hz2_14⟩ | ⟨rfl, hz2_14⟩, hw_13⟩ := hw_13
    · obtain ⟨hh_15, hs_16⟩ := hz2_14
      refine W.eq (g2 := F0 m 13 ls [.int 0]) rfl ?_
      refine lv_if_eq (tgt := 46) hx hb dX0_spanMeets_13 (by decide) (fun c_17 => ?_) (fun c_17 => ?_)
      rotate_left
      · exact absurd c_17 (by decide)
      refine lv_iconst (v := 0) hx hb dX0_spanMeets_46 (by decide) ?_
      exact K_z hx hb hr rfl hlocks hP hD hK hS hT hE ⟨Or.inl ⟨rfl, ⟨fun h9 => hh_15 h9.2.1, hs_16⟩⟩, hF⟩ (Nat.le_of_ble_eq_true rfl) (Nat.le_of_ble_eq_true rfl) dX0_spanMeets_47
    · obtain ⟨hh_18, hs_19⟩ := hz2_14
      refine W.eq (g2 := F0 m 13 ls [.int 1]) rfl ?_
      refine lv_if_eq (tgt := 46) hx hb dX0_spanMeets_13 (by decide) (fun c_20 => ?_) (fun c_20 => ?_)
      · exact absurd c_20 (by decide)
      refine lv_aload_n hx hb dX0_spanMeets_16 rfl (lv_at hl 0 rfl) ?_
      refine lv_iload_n hx hb dX0_spanMeets_17 rfl (lv_at hl 2 rfl) ?_
      refine K_V ⟨hx, hb, hml, hown, hts⟩ (t_X0_leastShadeS l dC dI sa hlt g _ _ x0 wk vs cl ru va sA ck h0 d _ (hT.sub [0] rfl)  hs_19 hc (by rw [ra_eq (hF.2 cl hSR.1.1.2.2.2.1.1 1 _ _ hSR.1.1.2.2.2.1.2 (by decide))]; exact hcl) hw1) (cwV 1 hts gX0_spanMeets_X0_leastShade rfl rfl rfl (by decide +kernel) ⟨Nat.le_of_ble_eq_true rfl, Nat.le_of_ble_eq_true rfl⟩) hP hD hK hS hA hev hT 0 0 rfl rfl rfl rfl hl.1 rfl (Nat.le_of_ble_eq_true rfl) dX0_spanMeets_18 ⟨Nat.le_of_ble_eq_true rfl, Nat.le_of_ble_eq_true rfl⟩ (fun r L_21 f_22 H locs hw_23 hP hD hS hT hE1 => ?_)
      have hF := Fr.call hF hE hw_23.2.1 (by decide)
      have hE := hE.tr hE1
      obtain ⟨⟨z_24, rfl⟩, hw_23⟩ := hw_23
      obtain ⟨hfr_25, hex_26⟩ := hw_23
      obtain ⟨hg_27, hs_28⟩ := hex_26
      have ez_24 : z_24 = lsA sA ck d := sv hg_27
      refine W.eq (g2 := F0 m 21 ls [.int z_24]) rfl ?_
      refine lv_aload_n hx hb dX0_spanMeets_21 rfl (lv_at hl 1 rfl) ?_
      refine lv_iload_n hx hb dX0_spanMeets_22 rfl (lv_at hl 2 rfl) ?_
      refine K_V ⟨hx, hb, hml, hown, hts⟩ (t_X0_greatestShadeS l dC dI sa hlt g _ _ x0 wk vs cl ru va sA cj o d _ (hT.sub [1] rfl)  hs_28 hc2 (by rw [ra_eq (hF.2 cl hSR.1.1.2.2.2.1.1 1 _ _ hSR.1.1.2.2.2.1.2 (by decide))]; exact hcl2) hw2) (cwV 1 hts gX0_spanMeets_X0_greatestShade rfl rfl rfl (by decide +kernel) ⟨Nat.le_of_ble_eq_true rfl, Nat.le_of_ble_eq_true rfl⟩) hP hD hK hS hA hev hT 1 0 rfl rfl rfl rfl hl.1 rfl (Nat.le_of_ble_eq_true rfl) dX0_spanMeets_23 ⟨Nat.le_of_ble_eq_true rfl, Nat.le_of_ble_eq_true rfl⟩ (fun r L_29 f_30 H locs hw_31 hP hD hS hT hE1 => ?_)
      have hF := Fr.call hF hE hw_31.2.1 (by decide)
      have hE := hE.tr hE1
      obtain ⟨⟨z_32, rfl⟩, hw_31⟩ := hw_31
      obtain ⟨hfr_33, hex_34⟩ := hw_31
      obtain ⟨hg_35, hs_36⟩ := hex_34
      have ez_32 : z_32 = gsA sA cj d := sv hg_35
      refine W.eq (g2 := F0 m 26 ls [.int z_32, .int z_24]) rfl ?_
      refine lv_icmp_gt (tgt := 46) hx hb dX0_spanMeets_26 (by decide) (fun c_37 => ?_) (fun c_37 => ?_)
      · refine lv_iconst (v := 0) hx hb dX0_spanMeets_46 (by decide) ?_
        exact K_z hx hb hr rfl hlocks hP hD hK hS hT hE ⟨Or.inl ⟨rfl, ⟨fun h9 => le_nlt h9.2.2.1 (by rw [← ez_24, ← ez_32]; exact c_37), hs_36⟩⟩, hF⟩ (Nat.le_of_ble_eq_true rfl) (Nat.le_of_ble_eq_true rfl) dX0_spanMeets_47
      · refine lv_aload_n hx hb dX0_spanMeets_29 rfl (lv_at hl 1 rfl) ?_
        refine lv_iload_n hx hb dX0_spanMeets_30 rfl (lv_at hl 2 rfl) ?_
        refine K_V ⟨hx, hb, hml, hown, hts⟩ (t_X0_leastShadeS l dC dI sa hlt g _ _ x0 wk vs cl ru va sA cj o d _ (hT.sub [1] rfl)  hs_36 hc2 (by rw [ra_eq (hF.2 cl hSR.1.1.2.2.2.1.1 1 _ _ hSR.1.1.2.2.2.1.2 (by decide))]; exact hcl2) hw2) (cwV 1 hts gX0_spanMeets_X0_leastShade rfl rfl rfl (by decide +kernel) ⟨Nat.le_of_ble_eq_true rfl, Nat.le_of_ble_eq_true rfl⟩) hP hD hK hS hA hev hT 1 0 rfl rfl rfl rfl hl.1 rfl (Nat.le_of_ble_eq_true rfl) dX0_spanMeets_31 ⟨Nat.le_of_ble_eq_true rfl, Nat.le_of_ble_eq_true rfl⟩ (fun r L_38 f_39 H locs hw_40 hP hD hS hT hE1 => ?_)
        have hF := Fr.call hF hE hw_40.2.1 (by decide)
        have hE := hE.tr hE1
        obtain ⟨⟨z_41, rfl⟩, hw_40⟩ := hw_40
        obtain ⟨hfr_42, hex_43⟩ := hw_40
        obtain ⟨hg_44, hs_45⟩ := hex_43
        have ez_41 : z_41 = lsA sA cj d := sv hg_44
        refine W.eq (g2 := F0 m 34 ls [.int z_41]) rfl ?_
        refine lv_aload_n hx hb dX0_spanMeets_34 rfl (lv_at hl 0 rfl) ?_
        refine lv_iload_n hx hb dX0_spanMeets_35 rfl (lv_at hl 2 rfl) ?_
        refine K_V ⟨hx, hb, hml, hown, hts⟩ (t_X0_greatestShadeS l dC dI sa hlt g _ _ x0 wk vs cl ru va sA ck h0 d _ (hT.sub [0] rfl)  hs_45 hc (by rw [ra_eq (hF.2 cl hSR.1.1.2.2.2.1.1 1 _ _ hSR.1.1.2.2.2.1.2 (by decide))]; exact hcl) hw1) (cwV 1 hts gX0_spanMeets_X0_greatestShade rfl rfl rfl (by decide +kernel) ⟨Nat.le_of_ble_eq_true rfl, Nat.le_of_ble_eq_true rfl⟩) hP hD hK hS hA hev hT 0 0 rfl rfl rfl rfl hl.1 rfl (Nat.le_of_ble_eq_true rfl) dX0_spanMeets_36 ⟨Nat.le_of_ble_eq_true rfl, Nat.le_of_ble_eq_true rfl⟩ (fun r L_46 f_47 H locs hw_48 hP hD hS hT hE1 => ?_)
        have hF := Fr.call hF hE hw_48.2.1 (by decide)
        have hE := hE.tr hE1
        obtain ⟨⟨z_49, rfl⟩, hw_48⟩ := hw_48
        obtain ⟨hfr_50, hex_51⟩ := hw_48
        obtain ⟨hg_52, hs_53⟩ := hex_51
        have ez_49 : z_49 = gsA sA ck d := sv hg_52
        refine W.eq (g2 := F0 m 39 ls [.int z_49, .int z_41]) rfl ?_
        refine lv_icmp_gt (tgt := 46) hx hb dX0_spanMeets_39 (by decide) (fun c_54 => ?_) (fun c_54 => ?_)
        · refine lv_iconst (v := 0) hx hb dX0_spanMeets_46 (by decide) ?_
          exact K_z hx hb hr rfl hlocks hP hD hK hS hT hE ⟨Or.inl ⟨rfl, ⟨fun h9 => le_nlt h9.2.2.2 (by rw [← ez_41, ← ez_49]; exact c_54), hs_53⟩⟩, hF⟩ (Nat.le_of_ble_eq_true rfl) (Nat.le_of_ble_eq_true rfl) dX0_spanMeets_47
        · refine lv_iconst (v := 1) hx hb dX0_spanMeets_42 (by decide) ?_
          refine lv_goto (tgt := 47) hx hb dX0_spanMeets_43 (by decide) ?_
          exact K_z hx hb hr rfl hlocks hP hD hK hS hT hE ⟨Or.inr ⟨rfl, ⟨⟨hh_8, hh_18, (by rw [← ez_24, ← ez_32]; exact nlt_le c_37), (by rw [← ez_41, ← ez_49]; exact nlt_le c_54)⟩, hs_53⟩⟩, hF⟩ (Nat.le_of_ble_eq_true rfl) (Nat.le_of_ble_eq_true rfl) dX0_spanMeets_47

noncomputable abbrev rm_X9_ranS : Room := { frames := 6, cells := 1, slots := 6, locals := 82 }
set_option maxHeartbeats 800000 in
set_option maxRecDepth 100000 in
theorem t_X9_ranS (l : Launch) (dC : Nat → ClassId) (dI : Nat → Nat → Nat) (sa : Nat → Nat) (hlt : l.stackTraces = false) (g : Nat → Nat) (L : List Nat) (f : Nat → va_E) (va : Nat → Nat) (sA : AS) (h0 : Nat) (a : Int32) (wk : Nat) (vs : Nat) (cl : Nat) (ru : Nat) (sz : Nat) (hT : TP g L f [(h0, (0, 9, 0)), (wk, (0, 8, 0)), (vs, (2, g 2, 6)), (cl, (2, g 3, 30)), (ru, (0, 4, 0))]) (h_wk : rd f h0 0 = .ref wk) (h_vs : rd f wk 0 = .ref vs) (h_cl : rd f h0 1 = .ref cl) (h_ru : rd f h0 9 = .ref ru) (hSR : SR g L f (h0, wk, vs, cl, ru, va) sA) (hRG : RV sA ∧ RC sA ∧ 0 ≤ (sA.1 1).toInt ∧ (sA.1 1).toInt ≤ 9000000) : KX l dC dI sa g yX9_ran wsX9_ran rm_X9_ranS [.ref h0, .int a] L f sz (fun r L' f' => (∃ z : Int32, r = some (.int z)) ∧ Fr [] L f f' ∧ (∃ (v : Int32) (s2 : AS), raS a sA = (0, v, s2) ∧ r = some (.int v) ∧ SR g L' f' (h0, wk, vs, cl, ru, va) s2)) (fun E L' f' => (E = NSE ∧ raS a sA = (1, 0, sA)) ∧ Fr [] L f f') 1 6 := by
  refine KX.start (cc := cX9_ran) (maxL := 2) (ret := (some .int)) (by decide) rfl (Nat.le_of_ble_eq_true rfl) ?_
  intro p e s m below meth c ls hst hno hP hK hD hev hS hl
  obtain ⟨hx, hb, hr, hml, hts, hown, hlocks, hin⟩ := hst
  have hown : s.vm.findClass RX9 = some m.cls := hown
  have hin : meth.name = yX9_ran.name := hin
  have hA : ∀ q : Nat, s.heap.size ≤ q → va_A (va_pl L f) s.heap.size q := fun _ h => Or.inr h
  have hE : Ext L f L f := Ext.rf
  have hF : Fr [] L f f := Fr.rf
  have hF0 : Fr [] L f f := Fr.rf
  have hl : lv_has ls 2 [(0, .ref h0), (1, .int a)] := hl
  have hT0 := hT
  refine lv_iload_n hx hb dX9_ran_0 rfl (lv_at hl 1 rfl) ?_
  by_cases c_1 : a = 0
  · refine lv_tableIn (tgt := 40) hx hb dX9_ran_1 (by rw [c_1]; decide) (by rw [c_1]; decide) (by rw [c_1]; rfl) (by decide) ?_
    refine lv_aload_n hx hb dX9_ran_40 rfl (lv_at hl 0 rfl) ?_
    refine T_get (ci := 9) (C := RX9) (T := TX9) (N := 11) (t := (1, 0, 4, 0)) hx hb hts inw_X9_ran_9 hown hK hP hT 0 rfl rfl 9 (by decide) (hts (.fieldLink RX9 46 "VatHouse" "runner" "LVatHouse$Runner;") (List.mem_of_getElem? (i := 3) (by exact rfl))) (fun _ h9 => h9) rfl dX9_ran_41 (fun v_4 hv_2 hr_3 => ?_)
    obtain rfl : v_4 = .ref ru := hr_3.symm.trans ((hF.1 h0 (hT0.at 0 rfl).1 9 (hT0.at 0 rfl).2 9 (by decide)).trans h_ru)
    refine T_get (ci := 4) (C := RX4) (T := TX4) (N := 8) (t := tI) hx hb hts inw_X9_ran_4 hown hK hP hT 4 rfl rfl 2 (by decide) (hts (.fieldLink RX9 164 "VatHouse$Runner" "result" "I") (List.mem_of_getElem? (i := 4) (by exact rfl))) (fun _ h9 => h9) rfl dX9_ran_44 (fun v_7 hv_5 hr_6 => ?_)
    obtain rfl : v_7 = .int (sA.1 44) := hr_6.symm.trans hSR.2.2.2.2.2.2.1
    refine vx_ret ?_
    exact K_i hx hb hr hlocks hP hD hK hS hT hE ⟨⟨_, rfl⟩, hF, ⟨_, _, if_pos c_1, rfl, hSR⟩⟩ (Nat.le_of_ble_eq_true rfl) (Nat.le_of_ble_eq_true rfl) dX9_ran_47
  by_cases c_8 : a = 1
  · refine lv_tableIn (tgt := 48) hx hb dX9_ran_1 (by rw [c_8]; decide) (by rw [c_8]; decide) (by rw [c_8]; rfl) (by decide) ?_
    refine lv_aload_n hx hb dX9_ran_48 rfl (lv_at hl 0 rfl) ?_
    refine T_get (ci := 9) (C := RX9) (T := TX9) (N := 11) (t := (1, 0, 4, 0)) hx hb hts inw_X9_ran_9 hown hK hP hT 0 rfl rfl 9 (by decide) (hts (.fieldLink RX9 46 "VatHouse" "runner" "LVatHouse$Runner;") (List.mem_of_getElem? (i := 3) (by exact rfl))) (fun _ h9 => h9) rfl dX9_ran_49 (fun v_11 hv_9 hr_10 => ?_)
    obtain rfl : v_11 = .ref ru := hr_10.symm.trans ((hF.1 h0 (hT0.at 0 rfl).1 9 (hT0.at 0 rfl).2 9 (by decide)).trans h_ru)
    refine T_get (ci := 4) (C := RX4) (T := TX4) (N := 8) (t := tI) hx hb hts inw_X9_ran_4 hown hK hP hT 4 rfl rfl 3 (by decide) (hts (.fieldLink RX9 167 "VatHouse$Runner" "failure" "I") (List.mem_of_getElem? (i := 5) (by exact rfl))) (fun _ h9 => h9) rfl dX9_ran_52 (fun v_14 hv_12 hr_13 => ?_)
    obtain rfl : v_14 = .int (sA.1 45) := hr_13.symm.trans hSR.2.2.2.2.2.2.2.1
    refine vx_ret ?_
    exact K_i hx hb hr hlocks hP hD hK hS hT hE ⟨⟨_, rfl⟩, hF, ⟨_, _, (if_neg c_1).trans (if_pos c_8), rfl, hSR⟩⟩ (Nat.le_of_ble_eq_true rfl) (Nat.le_of_ble_eq_true rfl) dX9_ran_55
  by_cases c_15 : a = 2
  · refine lv_tableIn (tgt := 56) hx hb dX9_ran_1 (by rw [c_15]; decide) (by rw [c_15]; decide) (by rw [c_15]; rfl) (by decide) ?_
    refine lv_aload_n hx hb dX9_ran_56 rfl (lv_at hl 0 rfl) ?_
    refine T_get (ci := 9) (C := RX9) (T := TX9) (N := 11) (t := (1, 0, 4, 0)) hx hb hts inw_X9_ran_9 hown hK hP hT 0 rfl rfl 9 (by decide) (hts (.fieldLink RX9 46 "VatHouse" "runner" "LVatHouse$Runner;") (List.mem_of_getElem? (i := 3) (by exact rfl))) (fun _ h9 => h9) rfl dX9_ran_57 (fun v_18 hv_16 hr_17 => ?_)
    obtain rfl : v_18 = .ref ru := hr_17.symm.trans ((hF.1 h0 (hT0.at 0 rfl).1 9 (hT0.at 0 rfl).2 9 (by decide)).trans h_ru)
    refine T_get (ci := 4) (C := RX4) (T := TX4) (N := 8) (t := tI) hx hb hts inw_X9_ran_4 hown hK hP hT 4 rfl rfl 4 (by decide) (hts (.fieldLink RX9 170 "VatHouse$Runner" "counted" "I") (List.mem_of_getElem? (i := 6) (by exact rfl))) (fun _ h9 => h9) rfl dX9_ran_60 (fun v_21 hv_19 hr_20 => ?_)
    obtain rfl : v_21 = .int (sA.1 40) := hr_20.symm.trans hSR.2.2.2.2.2.2.2.2.1
    refine vx_ret ?_
    exact K_i hx hb hr hlocks hP hD hK hS hT hE ⟨⟨_, rfl⟩, hF, ⟨_, _, (if_neg c_1).trans ((if_neg c_8).trans (if_pos c_15)), rfl, hSR⟩⟩ (Nat.le_of_ble_eq_true rfl) (Nat.le_of_ble_eq_true rfl) dX9_ran_63
  by_cases c_22 : a = 3
  · refine lv_tableIn (tgt := 64) hx hb dX9_ran_1 (by rw [c_22]; decide) (by rw [c_22]; decide) (by rw [c_22]; rfl) (by decide) ?_
    refine lv_aload_n hx hb dX9_ran_64 rfl (lv_at hl 0 rfl) ?_
    refine T_get (ci := 9) (C := RX9) (T := TX9) (N := 11) (t := (1, 0, 4, 0)) hx hb hts inw_X9_ran_9 hown hK hP hT 0 rfl rfl 9 (by decide) (hts (.fieldLink RX9 46 "VatHouse" "runner" "LVatHouse$Runner;") (List.mem_of_getElem? (i := 3) (by exact rfl))) (fun _ h9 => h9) rfl dX9_ran_65 (fun v_25 hv_23 hr_24 => ?_)
    obtain rfl : v_25 = .ref ru := hr_24.symm.trans ((hF.1 h0 (hT0.at 0 rfl).1 9 (hT0.at 0 rfl).2 9 (by decide)).trans h_ru)
    refine T_get (ci := 4) (C := RX4) (T := TX4) (N := 8) (t := tI) hx hb hts inw_X9_ran_4 hown hK hP hT 4 rfl rfl 5 (by decide) (hts (.fieldLink RX9 173 "VatHouse$Runner" "dipsDone" "I") (List.mem_of_getElem? (i := 7) (by exact rfl))) (fun _ h9 => h9) rfl dX9_ran_68 (fun v_28 hv_26 hr_27 => ?_)
    obtain rfl : v_28 = .int (sA.1 41) := hr_27.symm.trans hSR.2.2.2.2.2.2.2.2.2.1
    refine vx_ret ?_
    exact K_i hx hb hr hlocks hP hD hK hS hT hE ⟨⟨_, rfl⟩, hF, ⟨_, _, (if_neg c_1).trans ((if_neg c_8).trans ((if_neg c_15).trans (if_pos c_22))), rfl, hSR⟩⟩ (Nat.le_of_ble_eq_true rfl) (Nat.le_of_ble_eq_true rfl) dX9_ran_71
  by_cases c_29 : a = 4
  · refine lv_tableIn (tgt := 72) hx hb dX9_ran_1 (by rw [c_29]; decide) (by rw [c_29]; decide) (by rw [c_29]; rfl) (by decide) ?_
    refine lv_aload_n hx hb dX9_ran_72 rfl (lv_at hl 0 rfl) ?_
    refine T_get (ci := 9) (C := RX9) (T := TX9) (N := 11) (t := (1, 0, 4, 0)) hx hb hts inw_X9_ran_9 hown hK hP hT 0 rfl rfl 9 (by decide) (hts (.fieldLink RX9 46 "VatHouse" "runner" "LVatHouse$Runner;") (List.mem_of_getElem? (i := 3) (by exact rfl))) (fun _ h9 => h9) rfl dX9_ran_73 (fun v_32 hv_30 hr_31 => ?_)
    obtain rfl : v_32 = .ref ru := hr_31.symm.trans ((hF.1 h0 (hT0.at 0 rfl).1 9 (hT0.at 0 rfl).2 9 (by decide)).trans h_ru)
    refine T_get (ci := 4) (C := RX4) (T := TX4) (N := 8) (t := tI) hx hb hts inw_X9_ran_4 hown hK hP hT 4 rfl rfl 6 (by decide) (hts (.fieldLink RX9 176 "VatHouse$Runner" "grainsMoved" "I") (List.mem_of_getElem? (i := 8) (by exact rfl))) (fun _ h9 => h9) rfl dX9_ran_76 (fun v_35 hv_33 hr_34 => ?_)
    obtain rfl : v_35 = .int (sA.1 42) := hr_34.symm.trans hSR.2.2.2.2.2.2.2.2.2.2.1
    refine vx_ret ?_
    exact K_i hx hb hr hlocks hP hD hK hS hT hE ⟨⟨_, rfl⟩, hF, ⟨_, _, (if_neg c_1).trans ((if_neg c_8).trans ((if_neg c_15).trans ((if_neg c_22).trans (if_pos c_29)))), rfl, hSR⟩⟩ (Nat.le_of_ble_eq_true rfl) (Nat.le_of_ble_eq_true rfl) dX9_ran_79
  by_cases c_36 : a = 5
  · refine lv_tableIn (tgt := 80) hx hb dX9_ran_1 (by rw [c_36]; decide) (by rw [c_36]; decide) (by rw [c_36]; rfl) (by decide) ?_
    refine lv_aload_n hx hb dX9_ran_80 rfl (lv_at hl 0 rfl) ?_
    refine T_get (ci := 9) (C := RX9) (T := TX9) (N := 11) (t := (1, 0, 4, 0)) hx hb hts inw_X9_ran_9 hown hK hP hT 0 rfl rfl 9 (by decide) (hts (.fieldLink RX9 46 "VatHouse" "runner" "LVatHouse$Runner;") (List.mem_of_getElem? (i := 3) (by exact rfl))) (fun _ h9 => h9) rfl dX9_ran_81 (fun v_39 hv_37 hr_38 => ?_)
    obtain rfl : v_39 = .ref ru := hr_38.symm.trans ((hF.1 h0 (hT0.at 0 rfl).1 9 (hT0.at 0 rfl).2 9 (by decide)).trans h_ru)
    refine T_get (ci := 4) (C := RX4) (T := TX4) (N := 8) (t := tI) hx hb hts inw_X9_ran_4 hown hK hP hT 4 rfl rfl 7 (by decide) (hts (.fieldLink RX9 179 "VatHouse$Runner" "hoursRested" "I") (List.mem_of_getElem? (i := 9) (by exact rfl))) (fun _ h9 => h9) rfl dX9_ran_84 (fun v_42 hv_40 hr_41 => ?_)
    obtain rfl : v_42 = .int (sA.1 43) := hr_41.symm.trans hSR.2.2.2.2.2.2.2.2.2.2.2
    refine vx_ret ?_
    exact K_i hx hb hr hlocks hP hD hK hS hT hE ⟨⟨_, rfl⟩, hF, ⟨_, _, (if_neg c_1).trans ((if_neg c_8).trans ((if_neg c_15).trans ((if_neg c_22).trans ((if_neg c_29).trans (if_pos c_36))))), rfl, hSR⟩⟩ (Nat.le_of_ble_eq_true rfl) (Nat.le_of_ble_eq_true rfl) dX9_ran_87
  refine lv_tableOut (tgt := 88) hx hb dX9_ran_1 (tab_out6 c_1 c_8 c_15 c_22 c_29 c_36) (by decide) ?_
  exact K_x (cls := NSE) hno hx hb hlt hlocks hown hts xg_0 xg_1 xg_2 xg_5 (by decide +kernel) (hts (.classLink RX9 149 NSE) (List.mem_of_getElem? (i := 1) (by exact rfl))) (hts (.initialized NSE) (List.mem_of_getElem? (i := 2) (by exact rfl))) hev.2.1.2.2.2.1 (inx_X9_ran_9) xb_9 hev.2.2.1.1 xo_9 hev (hl.1.trans hml.symm) dX9_ran_88 dX9_ran_91 dX9_ran_92 dX9_ran_94 dX9_ran_97 (Nat.le_of_ble_eq_true rfl) (Nat.le_of_ble_eq_true rfl) (Nat.le_of_ble_eq_true rfl) (Nat.le_of_ble_eq_true rfl) ⟨⟨rfl, (if_neg c_1).trans ((if_neg c_8).trans ((if_neg c_15).trans ((if_neg c_22).trans ((if_neg c_29).trans (if_neg c_36)))))⟩, hF0⟩ hP hD hK hS hT hE (Nat.le_of_ble_eq_true rfl) (Nat.le_of_ble_eq_true rfl)

noncomputable abbrev rm_X9_vatS : Room := { frames := 7, cells := 2, slots := 12, locals := 103 }
set_option maxHeartbeats 800000 in
set_option maxRecDepth 100000 in
theorem t_X9_vatS (l : Launch) (dC : Nat → ClassId) (dI : Nat → Nat → Nat) (sa : Nat → Nat) (hlt : l.stackTraces = false) (g : Nat → Nat) (L : List Nat) (f : Nat → va_E) (va : Nat → Nat) (sA : AS) (h0 : Nat) (a : Int32) (b : Int32) (wk : Nat) (vs : Nat) (cl : Nat) (ru : Nat) (sz : Nat) (hT : TP g L f [(h0, (0, 9, 0)), (wk, (0, 8, 0)), (vs, (2, g 2, 6)), (cl, (2, g 3, 30)), (ru, (0, 4, 0))]) (h_wk : rd f h0 0 = .ref wk) (h_vs : rd f wk 0 = .ref vs) (h_cl : rd f h0 1 = .ref cl) (h_ru : rd f h0 9 = .ref ru) (hSR : SR g L f (h0, wk, vs, cl, ru, va) sA) (hRG : RV sA ∧ RC sA ∧ 0 ≤ (sA.1 1).toInt ∧ (sA.1 1).toInt ≤ 9000000) : KX l dC dI sa g yX9_vat wsX9_vat rm_X9_vatS [.ref h0, .int a, .int b] L f sz (fun r L' f' => (∃ z : Int32, r = some (.int z)) ∧ Fr [] L f f' ∧ (∃ (v : Int32) (s2 : AS), vaS a b sA = (0, v, s2) ∧ r = some (.int v) ∧ SR g L' f' (h0, wk, vs, cl, ru, va) s2)) (fun E L' f' => (E = NSE ∧ vaS a b sA = (1, 0, sA)) ∧ Fr [] L f f') 2 12 := by
  refine KX.start (cc := cX9_vat) (maxL := 4) (ret := (some .int)) (by decide) rfl (Nat.le_of_ble_eq_true rfl) ?_
  intro p e s m below meth c ls hst hno hP hK hD hev hS hl
  obtain ⟨hx, hb, hr, hml, hts, hown, hlocks, hin⟩ := hst
  have hown : s.vm.findClass RX9 = some m.cls := hown
  have hin : meth.name = yX9_vat.name := hin
  have hA : ∀ q : Nat, s.heap.size ≤ q → va_A (va_pl L f) s.heap.size q := fun _ h => Or.inr h
  have hE : Ext L f L f := Ext.rf
  have hF : Fr [] L f f := Fr.rf
  have hF0 : Fr [] L f f := Fr.rf
  have hl : lv_has ls 4 [(0, .ref h0), (1, .int a), (2, .int b)] := hl
  have hT0 := hT
  refine lv_aload_n hx hb dX9_vat_0 rfl (lv_at hl 0 rfl) ?_
  refine T_get (ci := 9) (C := RX9) (T := TX9) (N := 11) (t := (1, 0, 8, 0)) hx hb hts inw_X9_vat_9 hown hK hP hT 0 rfl rfl 0 (by decide) (hts (.fieldLink RX9 10 "VatHouse" "works" "LVatHouse$Works;") (List.mem_of_getElem? (i := 3) (by exact rfl))) (fun _ h9 => h9) rfl dX9_vat_1 (fun v_3 hv_1 hr_2 => ?_)
  obtain rfl : v_3 = .ref wk := hr_2.symm.trans ((hF.1 h0 (hT0.at 0 rfl).1 9 (hT0.at 0 rfl).2 0 (by decide)).trans h_wk)
  refine lv_iload_n hx hb dX9_vat_4 rfl (lv_at hl 1 rfl) ?_
  refine K_VX ⟨hx, hb, hml, hown, hts⟩ (t_X8_vatAtX l dC dI sa hlt g _ _ va wk a vs _ (hT.sub [1, 2] rfl)  ((hF.1 wk (hT0.at 1 rfl).1 8 (hT0.at 1 rfl).2 0 (by decide)).trans h_vs) (fun k9 h9 => (hSR.2.1 k9 h9).1)) (cwV 1 hts gX9_vat_X8_vatAt rfl rfl rfl (by decide +kernel) ⟨Nat.le_of_ble_eq_true rfl, Nat.le_of_ble_eq_true rfl⟩) hP hD hK hS hA hev hT 1 8 rfl rfl rfl rfl hl.1 rfl (Nat.le_of_ble_eq_true rfl) dX9_vat_5 ⟨Nat.le_of_ble_eq_true rfl, Nat.le_of_ble_eq_true rfl⟩ (fun E ce q9 L9 f9 H locs hpx hP hD hS hT hE1 hce hcv hcl => ?_) (fun r L_4 f_5 H locs hw_6 hP hD hS hT hE1 => ?_)
  · have hF := Fr.call hF0 hE hpx.2 (by decide)
    have hE := hE.tr hE1
    exact K_out hno hlocks ⟨⟨hpx.1.1, if_neg hpx.1.2⟩, hF⟩ hP hD hK hS hT hE hce hcv hcl (Nat.le_of_ble_eq_true rfl) (Nat.le_of_ble_eq_true rfl)
  have hF0 := Fr.call hF0 hE hw_6.2.1 (by decide)
  have hF := Fr.call hF hE hw_6.2.1 (by decide)
  have hE := hE.tr hE1
  obtain ⟨⟨v_7, rfl, hv9⟩, hw_6⟩ := hw_6
  obtain ⟨b_8, rfl, hb9⟩ := hv9
  have hT := hT.add hb9
  obtain ⟨hfr_9, hex_10⟩ := hw_6
  obtain ⟨hV_11, hg_12⟩ := hex_10
  have hbv_13 : b_8 = va a.toNatClampNeg := by have h9 := hg_12; injection h9 with h9; injection h9
  have hk6 := (nI_inj6 hV_11).2
  have hs_14 := SR.still hSR hE1 hfr_9 (by decide)
  refine W.eq (g2 := F0 m 8 ls [.ref b_8]) rfl ?_
  refine lv_astore_n (lv' := [(3, .ref b_8), (0, .ref h0), (1, .int a), (2, .int b)]) hx hb dX9_vat_8 rfl hl (by decide) rfl (fun ls hl => ?_)
  refine lv_iload_n hx hb dX9_vat_9 rfl (lv_at hl 3 rfl) ?_
  by_cases c_15 : b = 0
  · refine lv_tableIn (tgt := 48) hx hb dX9_vat_10 (by rw [c_15]; decide) (by rw [c_15]; decide) (by rw [c_15]; rfl) (by decide) ?_
    refine lv_aload_n hx hb dX9_vat_48 rfl (lv_at hl 0 rfl) ?_
    refine T_get (ci := 7) (C := RX7) (T := TX7) (N := 8) (t := tI) hx hb hts inw_X9_vat_7 hown hK hP hT 0 rfl rfl 1 (by decide) (hts (.fieldLink RX9 62 "VatHouse$Vat" "grains" "I") (List.mem_of_getElem? (i := 4) (by exact rfl))) (fun _ h9 => h9) rfl dX9_vat_49 (fun v_18 hv_16 hr_17 => ?_)
    obtain rfl : v_18 = .int (sA.2 4 a.toNatClampNeg) := hr_17.symm.trans (by rw [hbv_13]; exact (hs_14.2.1 a.toNatClampNeg hk6).2.2.2.1)
    refine vx_ret ?_
    exact K_i hx hb hr hlocks hP hD hK hS hT hE ⟨⟨_, rfl⟩, hF, ⟨_, _, (if_pos hV_11).trans (if_pos c_15), rfl, hs_14⟩⟩ (Nat.le_of_ble_eq_true rfl) (Nat.le_of_ble_eq_true rfl) dX9_vat_52
  by_cases c_19 : b = 1
  · refine lv_tableIn (tgt := 53) hx hb dX9_vat_10 (by rw [c_19]; decide) (by rw [c_19]; decide) (by rw [c_19]; rfl) (by decide) ?_
    refine lv_aload_n hx hb dX9_vat_53 rfl (lv_at hl 0 rfl) ?_
    refine T_get (ci := 7) (C := RX7) (T := TX7) (N := 8) (t := tI) hx hb hts inw_X9_vat_7 hown hK hP hT 0 rfl rfl 2 (by decide) (hts (.fieldLink RX9 201 "VatHouse$Vat" "food" "I") (List.mem_of_getElem? (i := 5) (by exact rfl))) (fun _ h9 => h9) rfl dX9_vat_54 (fun v_22 hv_20 hr_21 => ?_)
    obtain rfl : v_22 = .int (sA.2 5 a.toNatClampNeg) := hr_21.symm.trans (by rw [hbv_13]; exact (hs_14.2.1 a.toNatClampNeg hk6).2.2.2.2.1)
    refine vx_ret ?_
    exact K_i hx hb hr hlocks hP hD hK hS hT hE ⟨⟨_, rfl⟩, hF, ⟨_, _, (if_pos hV_11).trans ((if_neg c_15).trans (if_pos c_19)), rfl, hs_14⟩⟩ (Nat.le_of_ble_eq_true rfl) (Nat.le_of_ble_eq_true rfl) dX9_vat_57
  by_cases c_23 : b = 2
  · refine lv_tableIn (tgt := 58) hx hb dX9_vat_10 (by rw [c_23]; decide) (by rw [c_23]; decide) (by rw [c_23]; rfl) (by decide) ?_
    refine lv_aload_n hx hb dX9_vat_58 rfl (lv_at hl 0 rfl) ?_
    refine T_get (ci := 7) (C := RX7) (T := TX7) (N := 8) (t := tI) hx hb hts inw_X9_vat_7 hown hK hP hT 0 rfl rfl 3 (by decide) (hts (.fieldLink RX9 204 "VatHouse$Vat" "minutes" "I") (List.mem_of_getElem? (i := 6) (by exact rfl))) (fun _ h9 => h9) rfl dX9_vat_59 (fun v_26 hv_24 hr_25 => ?_)
    obtain rfl : v_26 = .int (sA.2 6 a.toNatClampNeg) := hr_25.symm.trans (by rw [hbv_13]; exact (hs_14.2.1 a.toNatClampNeg hk6).2.2.2.2.2.1)
    refine vx_ret ?_
    exact K_i hx hb hr hlocks hP hD hK hS hT hE ⟨⟨_, rfl⟩, hF, ⟨_, _, (if_pos hV_11).trans ((if_neg c_15).trans ((if_neg c_19).trans (if_pos c_23))), rfl, hs_14⟩⟩ (Nat.le_of_ble_eq_true rfl) (Nat.le_of_ble_eq_true rfl) dX9_vat_62
  by_cases c_27 : b = 3
  · refine lv_tableIn (tgt := 63) hx hb dX9_vat_10 (by rw [c_27]; decide) (by rw [c_27]; decide) (by rw [c_27]; rfl) (by decide) ?_
    refine lv_aload_n hx hb dX9_vat_63 rfl (lv_at hl 0 rfl) ?_
    refine T_get (ci := 7) (C := RX7) (T := TX7) (N := 8) (t := tI) hx hb hts inw_X9_vat_7 hown hK hP hT 0 rfl rfl 4 (by decide) (hts (.fieldLink RX9 79 "VatHouse$Vat" "state" "I") (List.mem_of_getElem? (i := 7) (by exact rfl))) (fun _ h9 => h9) rfl dX9_vat_64 (fun v_30 hv_28 hr_29 => ?_)
    obtain rfl : v_30 = .int (sA.2 7 a.toNatClampNeg) := hr_29.symm.trans (by rw [hbv_13]; exact (hs_14.2.1 a.toNatClampNeg hk6).2.2.2.2.2.2.1)
    refine vx_ret ?_
    exact K_i hx hb hr hlocks hP hD hK hS hT hE ⟨⟨_, rfl⟩, hF, ⟨_, _, (if_pos hV_11).trans ((if_neg c_15).trans ((if_neg c_19).trans ((if_neg c_23).trans (if_pos c_27)))), rfl, hs_14⟩⟩ (Nat.le_of_ble_eq_true rfl) (Nat.le_of_ble_eq_true rfl) dX9_vat_67
  by_cases c_31 : b = 4
  · refine lv_tableIn (tgt := 68) hx hb dX9_vat_10 (by rw [c_31]; decide) (by rw [c_31]; decide) (by rw [c_31]; rfl) (by decide) ?_
    refine lv_aload_n hx hb dX9_vat_68 rfl (lv_at hl 0 rfl) ?_
    refine T_get (ci := 7) (C := RX7) (T := TX7) (N := 8) (t := tI) hx hb hts inw_X9_vat_7 hown hK hP hT 0 rfl rfl 5 (by decide) (hts (.fieldLink RX9 207 "VatHouse$Vat" "dips" "I") (List.mem_of_getElem? (i := 8) (by exact rfl))) (fun _ h9 => h9) rfl dX9_vat_69 (fun v_34 hv_32 hr_33 => ?_)
    obtain rfl : v_34 = .int (sA.2 8 a.toNatClampNeg) := hr_33.symm.trans (by rw [hbv_13]; exact (hs_14.2.1 a.toNatClampNeg hk6).2.2.2.2.2.2.2.1)
    refine vx_ret ?_
    exact K_i hx hb hr hlocks hP hD hK hS hT hE ⟨⟨_, rfl⟩, hF, ⟨_, _, (if_pos hV_11).trans ((if_neg c_15).trans ((if_neg c_19).trans ((if_neg c_23).trans ((if_neg c_27).trans (if_pos c_31))))), rfl, hs_14⟩⟩ (Nat.le_of_ble_eq_true rfl) (Nat.le_of_ble_eq_true rfl) dX9_vat_72
  by_cases c_35 : b = 5
  · refine lv_tableIn (tgt := 73) hx hb dX9_vat_10 (by rw [c_35]; decide) (by rw [c_35]; decide) (by rw [c_35]; rfl) (by decide) ?_
    refine lv_aload_n hx hb dX9_vat_73 rfl (lv_at hl 0 rfl) ?_
    refine T_get (ci := 7) (C := RX7) (T := TX7) (N := 8) (t := tI) hx hb hts inw_X9_vat_7 hown hK hP hT 0 rfl rfl 6 (by decide) (hts (.fieldLink RX9 210 "VatHouse$Vat" "clothBits" "I") (List.mem_of_getElem? (i := 9) (by exact rfl))) (fun _ h9 => h9) rfl dX9_vat_74 (fun v_38 hv_36 hr_37 => ?_)
    obtain rfl : v_38 = .int (sA.2 9 a.toNatClampNeg) := hr_37.symm.trans (by rw [hbv_13]; exact (hs_14.2.1 a.toNatClampNeg hk6).2.2.2.2.2.2.2.2.1)
    refine vx_ret ?_
    exact K_i hx hb hr hlocks hP hD hK hS hT hE ⟨⟨_, rfl⟩, hF, ⟨_, _, (if_pos hV_11).trans ((if_neg c_15).trans ((if_neg c_19).trans ((if_neg c_23).trans ((if_neg c_27).trans ((if_neg c_31).trans (if_pos c_35)))))), rfl, hs_14⟩⟩ (Nat.le_of_ble_eq_true rfl) (Nat.le_of_ble_eq_true rfl) dX9_vat_77
  refine lv_tableOut (tgt := 78) hx hb dX9_vat_10 (tab_out6 c_15 c_19 c_23 c_27 c_31 c_35) (by decide) ?_
  exact K_x (cls := NSE) hno hx hb hlt hlocks hown hts xg_0 xg_1 xg_2 xg_5 (by decide +kernel) (hts (.classLink RX9 149 NSE) (List.mem_of_getElem? (i := 1) (by exact rfl))) (hts (.initialized NSE) (List.mem_of_getElem? (i := 2) (by exact rfl))) hev.2.1.2.2.2.1 (inx_X9_vat_9) xb_9 hev.2.2.1.1 xo_9 hev (hl.1.trans hml.symm) dX9_vat_78 dX9_vat_81 dX9_vat_82 dX9_vat_84 dX9_vat_87 (Nat.le_of_ble_eq_true rfl) (Nat.le_of_ble_eq_true rfl) (Nat.le_of_ble_eq_true rfl) (Nat.le_of_ble_eq_true rfl) ⟨⟨rfl, (if_pos hV_11).trans ((if_neg c_15).trans ((if_neg c_19).trans ((if_neg c_23).trans ((if_neg c_27).trans ((if_neg c_31).trans (if_neg c_35))))))⟩, hF0⟩ hP hD hK hS hT hE (Nat.le_of_ble_eq_true rfl) (Nat.le_of_ble_eq_true rfl)

theorem dyA_1 {x : Int32} (h : ¬ dyA x = 0) : dyA x = 1 := by
  unfold dyA at h ⊢
  by_cases g : x = -1
  · rw [if_pos g] at h; exact absurd rfl h
  · rw [if_neg g]

noncomputable abbrev rm_X9_aboutS : Room := { frames := 7, cells := 2, slots := 12, locals := 104 }
set_option maxHeartbeats 800000 in
set_option maxRecDepth 100000 in
theorem t_X9_aboutS (l : Launch) (dC : Nat → ClassId) (dI : Nat → Nat → Nat) (sa : Nat → Nat) (hlt : l.stackTraces = false) (g : Nat → Nat) (L : List Nat) (f : Nat → va_E) (va : Nat → Nat) (sA : AS) (h0 : Nat) (a : Int32) (b : Int32) (wk : Nat) (vs : Nat) (cl : Nat) (ru : Nat) (sz : Nat) (hT : TP g L f [(h0, (0, 9, 0)), (wk, (0, 8, 0)), (vs, (2, g 2, 6)), (cl, (2, g 3, 30)), (ru, (0, 4, 0))]) (h_wk : rd f h0 0 = .ref wk) (h_vs : rd f wk 0 = .ref vs) (h_cl : rd f h0 1 = .ref cl) (h_ru : rd f h0 9 = .ref ru) (hSR : SR g L f (h0, wk, vs, cl, ru, va) sA) (hRG : RV sA ∧ RC sA ∧ 0 ≤ (sA.1 1).toInt ∧ (sA.1 1).toInt ≤ 9000000) : KX l dC dI sa g yX9_about wsX9_about rm_X9_aboutS [.ref h0, .int a, .int b] L f sz (fun r L' f' => (∃ z : Int32, r = some (.int z)) ∧ Fr [] L f f' ∧ (∃ (v : Int32) (s2 : AS), abS a b sA = (0, v, s2) ∧ r = some (.int v) ∧ SR g L' f' (h0, wk, vs, cl, ru, va) s2)) (fun E L' f' => (E = NSE ∧ abS a b sA = (1, 0, sA)) ∧ Fr [] L f f') 2 12 := by
  refine KX.start (cc := cX9_about) (maxL := 4) (ret := (some .int)) (by decide) rfl (Nat.le_of_ble_eq_true rfl) ?_
  intro p e s m below meth c ls hst hno hP hK hD hev hS hl
  obtain ⟨hx, hb, hr, hml, hts, hown, hlocks, hin⟩ := hst
  have hown : s.vm.findClass RX9 = some m.cls := hown
  have hin : meth.name = yX9_about.name := hin
  have hA : ∀ q : Nat, s.heap.size ≤ q → va_A (va_pl L f) s.heap.size q := fun _ h => Or.inr h
  have hE : Ext L f L f := Ext.rf
  have hF : Fr [] L f f := Fr.rf
  have hF0 : Fr [] L f f := Fr.rf
  have hl : lv_has ls 4 [(0, .ref h0), (1, .int a), (2, .int b)] := hl
  have hT0 := hT
  refine lv_aload_n hx hb dX9_about_0 rfl (lv_at hl 0 rfl) ?_
  refine lv_iload_n hx hb dX9_about_1 rfl (lv_at hl 1 rfl) ?_
  refine K_VX ⟨hx, hb, hml, hown, hts⟩ (t_X9_clothAtX l dC dI sa hlt g _ _ wk vs ru va sA h0 a cl _ (hT.sub [0, 3] rfl)  ((hF.1 h0 (hT0.at 0 rfl).1 9 (hT0.at 0 rfl).2 1 (by decide)).trans h_cl) hSR hRG.2.1.1.2) (cwV 1 hts gX9_about_X9_clothAt rfl rfl rfl (by decide +kernel) ⟨Nat.le_of_ble_eq_true rfl, Nat.le_of_ble_eq_true rfl⟩) hP hD hK hS hA hev hT 0 9 rfl rfl rfl rfl hl.1 rfl (Nat.le_of_ble_eq_true rfl) dX9_about_2 ⟨Nat.le_of_ble_eq_true rfl, Nat.le_of_ble_eq_true rfl⟩ (fun E ce q9 L9 f9 H locs hpx hP hD hS hT hE1 hce hcv hcl => ?_) (fun r L_1 f_2 H locs hw_3 hP hD hS hT hE1 => ?_)
  · have hF := Fr.call hF0 hE hpx.2 (by decide)
    have hE := hE.tr hE1
    exact K_out hno hlocks ⟨⟨hpx.1.1, if_neg hpx.1.2⟩, hF⟩ hP hD hK hS hT hE hce hcv hcl (Nat.le_of_ble_eq_true rfl) (Nat.le_of_ble_eq_true rfl)
  have hF0 := Fr.call hF0 hE hw_3.2.1 (by decide)
  have hF := Fr.call hF hE hw_3.2.1 (by decide)
  have hE := hE.tr hE1
  obtain ⟨⟨v_4, rfl, hv9⟩, hw_3⟩ := hw_3
  obtain ⟨b_5, rfl, hb9⟩ := hv9
  have hT := hT.add hb9
  obtain ⟨hfr_6, hex_7⟩ := hw_3
  obtain ⟨hC_8, bq_9, hg_10, hcl_11⟩ := hex_7
  have hcl_11 : ra f cl a.toNatClampNeg = some b_5 := by have h9 := hg_10; injection h9 with h9; injection h9 with h9; rw [h9]; exact hcl_11
  have hc9 := (inC_c hC_8).2
  have hs_12 := SR.still hSR hE1 hfr_6 (by decide)
  refine W.eq (g2 := F0 m 5 ls [.ref b_5]) rfl ?_
  refine lv_astore_n (lv' := [(3, .ref b_5), (0, .ref h0), (1, .int a), (2, .int b)]) hx hb dX9_about_5 rfl hl (by decide) rfl (fun ls hl => ?_)
  refine lv_iload_n hx hb dX9_about_6 rfl (lv_at hl 3 rfl) ?_
  by_cases c_13 : b = 0
  · refine lv_tableIn (tgt := 52) hx hb dX9_about_7 (by rw [c_13]; decide) (by rw [c_13]; decide) (by rw [c_13]; rfl) (by decide) ?_
    refine lv_aload_n hx hb dX9_about_52 rfl (lv_at hl 0 rfl) ?_
    refine T_get (ci := 0) (C := RX0) (T := TX0) (N := 8) (t := tI) hx hb hts inw_X9_about_0 hown hK hP hT 0 rfl rfl 1 (by decide) (hts (.fieldLink RX9 213 "VatHouse$Cloth" "weight" "I") (List.mem_of_getElem? (i := 3) (by exact rfl))) (fun _ h9 => h9) rfl dX9_about_53 (fun v_16 hv_14 hr_15 => ?_)
    obtain rfl : v_16 = .int (sA.2 13 a.toNatClampNeg) := hr_15.symm.trans (SR.cf1 hs_12 hc9 (by rw [ra_eq (hF.2 cl hSR.1.1.2.2.2.1.1 1 _ _ hSR.1.1.2.2.2.1.2 (by decide))]; exact hcl_11))
    refine vx_ret ?_
    exact K_i hx hb hr hlocks hP hD hK hS hT hE ⟨⟨_, rfl⟩, hF, ⟨_, _, (if_pos hC_8).trans (if_pos c_13), rfl, hs_12⟩⟩ (Nat.le_of_ble_eq_true rfl) (Nat.le_of_ble_eq_true rfl) dX9_about_56
  by_cases c_17 : b = 1
  · refine lv_tableIn (tgt := 57) hx hb dX9_about_7 (by rw [c_17]; decide) (by rw [c_17]; decide) (by rw [c_17]; rfl) (by decide) ?_
    refine lv_aload_n hx hb dX9_about_57 rfl (lv_at hl 0 rfl) ?_
    refine T_get (ci := 0) (C := RX0) (T := TX0) (N := 8) (t := tI) hx hb hts inw_X9_about_0 hown hK hP hT 0 rfl rfl 2 (by decide) (hts (.fieldLink RX9 216 "VatHouse$Cloth" "loose" "I") (List.mem_of_getElem? (i := 4) (by exact rfl))) (fun _ h9 => h9) rfl dX9_about_58 (fun v_20 hv_18 hr_19 => ?_)
    obtain rfl : v_20 = .int (sA.2 14 a.toNatClampNeg) := hr_19.symm.trans (SR.cf2 hs_12 hc9 (by rw [ra_eq (hF.2 cl hSR.1.1.2.2.2.1.1 1 _ _ hSR.1.1.2.2.2.1.2 (by decide))]; exact hcl_11))
    refine vx_ret ?_
    exact K_i hx hb hr hlocks hP hD hK hS hT hE ⟨⟨_, rfl⟩, hF, ⟨_, _, (if_pos hC_8).trans ((if_neg c_13).trans (if_pos c_17)), rfl, hs_12⟩⟩ (Nat.le_of_ble_eq_true rfl) (Nat.le_of_ble_eq_true rfl) dX9_about_61
  by_cases c_21 : b = 2
  · refine lv_tableIn (tgt := 62) hx hb dX9_about_7 (by rw [c_21]; decide) (by rw [c_21]; decide) (by rw [c_21]; rfl) (by decide) ?_
    refine lv_aload_n hx hb dX9_about_62 rfl (lv_at hl 0 rfl) ?_
    refine T_get (ci := 0) (C := RX0) (T := TX0) (N := 8) (t := tI) hx hb hts inw_X9_about_0 hown hK hP hT 0 rfl rfl 3 (by decide) (hts (.fieldLink RX9 219 "VatHouse$Cloth" "fast" "I") (List.mem_of_getElem? (i := 5) (by exact rfl))) (fun _ h9 => h9) rfl dX9_about_63 (fun v_24 hv_22 hr_23 => ?_)
    obtain rfl : v_24 = .int (sA.2 15 a.toNatClampNeg) := hr_23.symm.trans (SR.cf3 hs_12 hc9 (by rw [ra_eq (hF.2 cl hSR.1.1.2.2.2.1.1 1 _ _ hSR.1.1.2.2.2.1.2 (by decide))]; exact hcl_11))
    refine vx_ret ?_
    exact K_i hx hb hr hlocks hP hD hK hS hT hE ⟨⟨_, rfl⟩, hF, ⟨_, _, (if_pos hC_8).trans ((if_neg c_13).trans ((if_neg c_17).trans (if_pos c_21))), rfl, hs_12⟩⟩ (Nat.le_of_ble_eq_true rfl) (Nat.le_of_ble_eq_true rfl) dX9_about_66
  by_cases c_25 : b = 3
  · refine lv_tableIn (tgt := 67) hx hb dX9_about_7 (by rw [c_25]; decide) (by rw [c_25]; decide) (by rw [c_25]; rfl) (by decide) ?_
    refine lv_aload_n hx hb dX9_about_67 rfl (lv_at hl 0 rfl) ?_
    refine K_V ⟨hx, hb, hml, hown, hts⟩ (t_X0_shadeS l dC dI sa hlt g _ _ h0 wk vs cl ru va sA a.toNatClampNeg b_5 _ (hT.sub [0] rfl)  hs_12 hc9 (by rw [ra_eq (hF.2 cl hSR.1.1.2.2.2.1.1 1 _ _ hSR.1.1.2.2.2.1.2 (by decide))]; exact hcl_11) (we_of (hRG.2.1.2 _ hc9).1).2) (cwV 0 hts gX9_about_X0_shade rfl rfl rfl (by decide +kernel) ⟨Nat.le_of_ble_eq_true rfl, Nat.le_of_ble_eq_true rfl⟩) hP hD hK hS hA hev hT 0 0 rfl rfl rfl rfl hl.1 rfl (Nat.le_of_ble_eq_true rfl) dX9_about_68 ⟨Nat.le_of_ble_eq_true rfl, Nat.le_of_ble_eq_true rfl⟩ (fun r L_26 f_27 H locs hw_28 hP hD hS hT hE1 => ?_)
    have hF0 := Fr.call hF0 hE hw_28.2.1 (by decide)
    have hF := Fr.call hF hE hw_28.2.1 (by decide)
    have hE := hE.tr hE1
    obtain ⟨⟨z_29, rfl⟩, hw_28⟩ := hw_28
    obtain ⟨hfr_30, hex_31⟩ := hw_28
    obtain ⟨hg_32, hs_33⟩ := hex_31
    refine W.eq (g2 := F0 m 71 ls [.int z_29]) rfl ?_
    refine vx_ret ?_
    exact K_i hx hb hr hlocks hP hD hK hS hT hE ⟨⟨_, rfl⟩, hF, ⟨_, _, (if_pos hC_8).trans ((if_neg c_13).trans ((if_neg c_17).trans ((if_neg c_21).trans (if_pos c_25)))), (by rw [sv hg_32]), hs_33⟩⟩ (Nat.le_of_ble_eq_true rfl) (Nat.le_of_ble_eq_true rfl) dX9_about_71
  by_cases c_34 : b = 4
  · refine lv_tableIn (tgt := 72) hx hb dX9_about_7 (by rw [c_34]; decide) (by rw [c_34]; decide) (by rw [c_34]; rfl) (by decide) ?_
    refine lv_aload_n hx hb dX9_about_72 rfl (lv_at hl 0 rfl) ?_
    refine T_get (ci := 0) (C := RX0) (T := TX0) (N := 8) (t := tI) hx hb hts inw_X9_about_0 hown hK hP hT 0 rfl rfl 4 (by decide) (hts (.fieldLink RX9 102 "VatHouse$Cloth" "dry" "Z") (List.mem_of_getElem? (i := 6) (by exact rfl))) (fun _ h9 => h9) rfl dX9_about_73 (fun v_37 hv_35 hr_36 => ?_)
    obtain rfl : v_37 = .int (dyA (sA.2 16 a.toNatClampNeg)) := hr_36.symm.trans (SR.cf4 hs_12 hc9 (by rw [ra_eq (hF.2 cl hSR.1.1.2.2.2.1.1 1 _ _ hSR.1.1.2.2.2.1.2 (by decide))]; exact hcl_11))
    refine lv_if_eq (tgt := 83) hx hb dX9_about_76 (by decide) (fun c_38 => ?_) (fun c_38 => ?_)
    · refine lv_iconst (v := 0) hx hb dX9_about_83 (by decide) ?_
      refine vx_ret ?_
      exact K_i hx hb hr hlocks hP hD hK hS hT hE ⟨⟨_, rfl⟩, hF, ⟨_, _, (if_pos hC_8).trans ((if_neg c_13).trans ((if_neg c_17).trans ((if_neg c_21).trans ((if_neg c_25).trans (if_pos c_34))))), by rw [show dyA _ = 0 from c_38], hs_12⟩⟩ (Nat.le_of_ble_eq_true rfl) (Nat.le_of_ble_eq_true rfl) dX9_about_84
    · refine lv_iconst (v := 1) hx hb dX9_about_79 (by decide) ?_
      refine lv_goto (tgt := 84) hx hb dX9_about_80 (by decide) ?_
      refine vx_ret ?_
      exact K_i hx hb hr hlocks hP hD hK hS hT hE ⟨⟨_, rfl⟩, hF, ⟨_, _, (if_pos hC_8).trans ((if_neg c_13).trans ((if_neg c_17).trans ((if_neg c_21).trans ((if_neg c_25).trans (if_pos c_34))))), by rw [dyA_1 c_38], hs_12⟩⟩ (Nat.le_of_ble_eq_true rfl) (Nat.le_of_ble_eq_true rfl) dX9_about_84
  by_cases c_39 : b = 5
  · refine lv_tableIn (tgt := 85) hx hb dX9_about_7 (by rw [c_39]; decide) (by rw [c_39]; decide) (by rw [c_39]; rfl) (by decide) ?_
    refine lv_aload_n hx hb dX9_about_85 rfl (lv_at hl 0 rfl) ?_
    refine T_get (ci := 0) (C := RX0) (T := TX0) (N := 8) (t := tI) hx hb hts inw_X9_about_0 hown hK hP hT 0 rfl rfl 5 (by decide) (hts (.fieldLink RX9 226 "VatHouse$Cloth" "day" "I") (List.mem_of_getElem? (i := 7) (by exact rfl))) (fun _ h9 => h9) rfl dX9_about_86 (fun v_42 hv_40 hr_41 => ?_)
    obtain rfl : v_42 = .int (sA.2 16 a.toNatClampNeg) := hr_41.symm.trans (SR.cf5 hs_12 hc9 (by rw [ra_eq (hF.2 cl hSR.1.1.2.2.2.1.1 1 _ _ hSR.1.1.2.2.2.1.2 (by decide))]; exact hcl_11))
    refine vx_ret ?_
    exact K_i hx hb hr hlocks hP hD hK hS hT hE ⟨⟨_, rfl⟩, hF, ⟨_, _, (if_pos hC_8).trans ((if_neg c_13).trans ((if_neg c_17).trans ((if_neg c_21).trans ((if_neg c_25).trans ((if_neg c_34).trans (if_pos c_39)))))), rfl, hs_12⟩⟩ (Nat.le_of_ble_eq_true rfl) (Nat.le_of_ble_eq_true rfl) dX9_about_89
  by_cases c_43 : b = 6
  · refine lv_tableIn (tgt := 90) hx hb dX9_about_7 (by rw [c_43]; decide) (by rw [c_43]; decide) (by rw [c_43]; rfl) (by decide) ?_
    refine lv_aload_n hx hb dX9_about_90 rfl (lv_at hl 0 rfl) ?_
    refine T_get (ci := 0) (C := RX0) (T := TX0) (N := 8) (t := tI) hx hb hts inw_X9_about_0 hown hK hP hT 0 rfl rfl 6 (by decide) (hts (.fieldLink RX9 229 "VatHouse$Cloth" "vatBits" "I") (List.mem_of_getElem? (i := 8) (by exact rfl))) (fun _ h9 => h9) rfl dX9_about_91 (fun v_46 hv_44 hr_45 => ?_)
    obtain rfl : v_46 = .int (sA.2 17 a.toNatClampNeg) := hr_45.symm.trans (SR.cf6 hs_12 hc9 (by rw [ra_eq (hF.2 cl hSR.1.1.2.2.2.1.1 1 _ _ hSR.1.1.2.2.2.1.2 (by decide))]; exact hcl_11))
    refine vx_ret ?_
    exact K_i hx hb hr hlocks hP hD hK hS hT hE ⟨⟨_, rfl⟩, hF, ⟨_, _, (if_pos hC_8).trans ((if_neg c_13).trans ((if_neg c_17).trans ((if_neg c_21).trans ((if_neg c_25).trans ((if_neg c_34).trans ((if_neg c_39).trans (if_pos c_43))))))), rfl, hs_12⟩⟩ (Nat.le_of_ble_eq_true rfl) (Nat.le_of_ble_eq_true rfl) dX9_about_94
  by_cases c_47 : b = 7
  · refine lv_tableIn (tgt := 95) hx hb dX9_about_7 (by rw [c_47]; decide) (by rw [c_47]; decide) (by rw [c_47]; rfl) (by decide) ?_
    refine lv_aload_n hx hb dX9_about_95 rfl (lv_at hl 0 rfl) ?_
    refine T_get (ci := 0) (C := RX0) (T := TX0) (N := 8) (t := tI) hx hb hts inw_X9_about_0 hown hK hP hT 0 rfl rfl 7 (by decide) (hts (.fieldLink RX9 232 "VatHouse$Cloth" "dips" "I") (List.mem_of_getElem? (i := 9) (by exact rfl))) (fun _ h9 => h9) rfl dX9_about_96 (fun v_50 hv_48 hr_49 => ?_)
    obtain rfl : v_50 = .int (sA.2 18 a.toNatClampNeg) := hr_49.symm.trans (SR.cf7 hs_12 hc9 (by rw [ra_eq (hF.2 cl hSR.1.1.2.2.2.1.1 1 _ _ hSR.1.1.2.2.2.1.2 (by decide))]; exact hcl_11))
    refine vx_ret ?_
    exact K_i hx hb hr hlocks hP hD hK hS hT hE ⟨⟨_, rfl⟩, hF, ⟨_, _, (if_pos hC_8).trans ((if_neg c_13).trans ((if_neg c_17).trans ((if_neg c_21).trans ((if_neg c_25).trans ((if_neg c_34).trans ((if_neg c_39).trans ((if_neg c_43).trans (if_pos c_47)))))))), rfl, hs_12⟩⟩ (Nat.le_of_ble_eq_true rfl) (Nat.le_of_ble_eq_true rfl) dX9_about_99
  refine lv_tableOut (tgt := 100) hx hb dX9_about_7 (tab_out8 c_13 c_17 c_21 c_25 c_34 c_39 c_43 c_47) (by decide) ?_
  exact K_x (cls := NSE) hno hx hb hlt hlocks hown hts xg_0 xg_1 xg_2 xg_5 (by decide +kernel) (hts (.classLink RX9 149 NSE) (List.mem_of_getElem? (i := 1) (by exact rfl))) (hts (.initialized NSE) (List.mem_of_getElem? (i := 2) (by exact rfl))) hev.2.1.2.2.2.1 (inx_X9_about_9) xb_9 hev.2.2.1.1 xo_9 hev (hl.1.trans hml.symm) dX9_about_100 dX9_about_103 dX9_about_104 dX9_about_106 dX9_about_109 (Nat.le_of_ble_eq_true rfl) (Nat.le_of_ble_eq_true rfl) (Nat.le_of_ble_eq_true rfl) (Nat.le_of_ble_eq_true rfl) ⟨⟨rfl, (if_pos hC_8).trans ((if_neg c_13).trans ((if_neg c_17).trans ((if_neg c_21).trans ((if_neg c_25).trans ((if_neg c_34).trans ((if_neg c_39).trans ((if_neg c_43).trans (if_neg c_47))))))))⟩, hF0⟩ hP hD hK hS hT hE (Nat.le_of_ble_eq_true rfl) (Nat.le_of_ble_eq_true rfl)

noncomputable abbrev rm_X9_countS : Room := { frames := 6, cells := 1, slots := 6, locals := 82 }
set_option maxHeartbeats 800000 in
set_option maxRecDepth 100000 in
theorem t_X9_countS (l : Launch) (dC : Nat → ClassId) (dI : Nat → Nat → Nat) (sa : Nat → Nat) (hlt : l.stackTraces = false) (g : Nat → Nat) (L : List Nat) (f : Nat → va_E) (va : Nat → Nat) (sA : AS) (h0 : Nat) (a : Int32) (wk : Nat) (vs : Nat) (cl : Nat) (ru : Nat) (sz : Nat) (hT : TP g L f [(h0, (0, 9, 0)), (wk, (0, 8, 0)), (vs, (2, g 2, 6)), (cl, (2, g 3, 30)), (ru, (0, 4, 0))]) (h_wk : rd f h0 0 = .ref wk) (h_vs : rd f wk 0 = .ref vs) (h_cl : rd f h0 1 = .ref cl) (h_ru : rd f h0 9 = .ref ru) (hSR : SR g L f (h0, wk, vs, cl, ru, va) sA) (hRG : RV sA ∧ RC sA ∧ 0 ≤ (sA.1 1).toInt ∧ (sA.1 1).toInt ≤ 9000000) (htl : rd f h0 5 = .int (sA.1 20)) : KX l dC dI sa g yX9_count wsX9_count rm_X9_countS [.ref h0, .int a] L f sz (fun r L' f' => (∃ z : Int32, r = some (.int z)) ∧ Fr [] L f f' ∧ (∃ (v : Int32) (s2 : AS), ctS a sA = (0, v, s2) ∧ r = some (.int v) ∧ SR g L' f' (h0, wk, vs, cl, ru, va) s2)) (fun E L' f' => (E = NSE ∧ ctS a sA = (1, 0, sA)) ∧ Fr [] L f f') 1 6 := by
  refine KX.start (cc := cX9_count) (maxL := 2) (ret := (some .int)) (by decide) rfl (Nat.le_of_ble_eq_true rfl) ?_
  intro p e s m below meth c ls hst hno hP hK hD hev hS hl
  obtain ⟨hx, hb, hr, hml, hts, hown, hlocks, hin⟩ := hst
  have hown : s.vm.findClass RX9 = some m.cls := hown
  have hin : meth.name = yX9_count.name := hin
  have hA : ∀ q : Nat, s.heap.size ≤ q → va_A (va_pl L f) s.heap.size q := fun _ h => Or.inr h
  have hE : Ext L f L f := Ext.rf
  have hF : Fr [] L f f := Fr.rf
  have hF0 : Fr [] L f f := Fr.rf
  have hl : lv_has ls 2 [(0, .ref h0), (1, .int a)] := hl
  have hT0 := hT
  refine lv_iload_n hx hb dX9_count_0 rfl (lv_at hl 1 rfl) ?_
  by_cases c_1 : a = 0
  · refine lv_tableIn (tgt := 40) hx hb dX9_count_1 (by rw [c_1]; decide) (by rw [c_1]; decide) (by rw [c_1]; rfl) (by decide) ?_
    refine lv_aload_n hx hb dX9_count_40 rfl (lv_at hl 0 rfl) ?_
    refine T_get (ci := 9) (C := RX9) (T := TX9) (N := 11) (t := (1, 0, 8, 0)) hx hb hts inw_X9_count_9 hown hK hP hT 0 rfl rfl 0 (by decide) (hts (.fieldLink RX9 10 "VatHouse" "works" "LVatHouse$Works;") (List.mem_of_getElem? (i := 3) (by exact rfl))) (fun _ h9 => h9) rfl dX9_count_41 (fun v_4 hv_2 hr_3 => ?_)
    obtain rfl : v_4 = .ref wk := hr_3.symm.trans ((hF.1 h0 (hT0.at 0 rfl).1 9 (hT0.at 0 rfl).2 0 (by decide)).trans h_wk)
    refine T_get (ci := 8) (C := RX8) (T := TX8) (N := 3) (t := tI) hx hb hts inw_X9_count_8 hown hK hP hT 1 rfl rfl 1 (by decide) (hts (.fieldLink RX9 89 "VatHouse$Works" "hours" "I") (List.mem_of_getElem? (i := 4) (by exact rfl))) (fun _ h9 => h9) rfl dX9_count_44 (fun v_7 hv_5 hr_6 => ?_)
    obtain rfl : v_7 = .int (sA.1 1) := hr_6.symm.trans hSR.2.2.2.1.1
    refine vx_ret ?_
    exact K_i hx hb hr hlocks hP hD hK hS hT hE ⟨⟨_, rfl⟩, hF, ⟨_, _, if_pos c_1, rfl, hSR⟩⟩ (Nat.le_of_ble_eq_true rfl) (Nat.le_of_ble_eq_true rfl) dX9_count_47
  by_cases c_8 : a = 1
  · refine lv_tableIn (tgt := 48) hx hb dX9_count_1 (by rw [c_8]; decide) (by rw [c_8]; decide) (by rw [c_8]; rfl) (by decide) ?_
    refine lv_aload_n hx hb dX9_count_48 rfl (lv_at hl 0 rfl) ?_
    refine T_get (ci := 9) (C := RX9) (T := TX9) (N := 11) (t := (1, 0, 8, 0)) hx hb hts inw_X9_count_9 hown hK hP hT 0 rfl rfl 0 (by decide) (hts (.fieldLink RX9 10 "VatHouse" "works" "LVatHouse$Works;") (List.mem_of_getElem? (i := 3) (by exact rfl))) (fun _ h9 => h9) rfl dX9_count_49 (fun v_11 hv_9 hr_10 => ?_)
    obtain rfl : v_11 = .ref wk := hr_10.symm.trans ((hF.1 h0 (hT0.at 0 rfl).1 9 (hT0.at 0 rfl).2 0 (by decide)).trans h_wk)
    refine T_get (ci := 8) (C := RX8) (T := TX8) (N := 3) (t := tI) hx hb hts inw_X9_count_8 hown hK hP hT 1 rfl rfl 2 (by decide) (hts (.fieldLink RX9 233 "VatHouse$Works" "drain" "I") (List.mem_of_getElem? (i := 5) (by exact rfl))) (fun _ h9 => h9) rfl dX9_count_52 (fun v_14 hv_12 hr_13 => ?_)
    obtain rfl : v_14 = .int (sA.1 2) := hr_13.symm.trans hSR.2.2.2.1.2
    refine vx_ret ?_
    exact K_i hx hb hr hlocks hP hD hK hS hT hE ⟨⟨_, rfl⟩, hF, ⟨_, _, (if_neg c_1).trans (if_pos c_8), rfl, hSR⟩⟩ (Nat.le_of_ble_eq_true rfl) (Nat.le_of_ble_eq_true rfl) dX9_count_55
  by_cases c_15 : a = 2
  · refine lv_tableIn (tgt := 56) hx hb dX9_count_1 (by rw [c_15]; decide) (by rw [c_15]; decide) (by rw [c_15]; rfl) (by decide) ?_
    refine lv_aload_n hx hb dX9_count_56 rfl (lv_at hl 0 rfl) ?_
    refine T_get (ci := 9) (C := RX9) (T := TX9) (N := 11) (t := tI) hx hb hts inw_X9_count_9 hown hK hP hT 0 rfl rfl 2 (by decide) (hts (.fieldLink RX9 92 "VatHouse" "clothsMade" "I") (List.mem_of_getElem? (i := 6) (by exact rfl))) (fun _ h9 => h9) rfl dX9_count_57 (fun v_18 hv_16 hr_17 => ?_)
    obtain rfl : v_18 = .int (sA.1 12) := hr_17.symm.trans hSR.2.2.2.2.1.1
    refine vx_ret ?_
    exact K_i hx hb hr hlocks hP hD hK hS hT hE ⟨⟨_, rfl⟩, hF, ⟨_, _, (if_neg c_1).trans ((if_neg c_8).trans (if_pos c_15)), rfl, hSR⟩⟩ (Nat.le_of_ble_eq_true rfl) (Nat.le_of_ble_eq_true rfl) dX9_count_60
  by_cases c_19 : a = 3
  · refine lv_tableIn (tgt := 61) hx hb dX9_count_1 (by rw [c_19]; decide) (by rw [c_19]; decide) (by rw [c_19]; rfl) (by decide) ?_
    refine lv_aload_n hx hb dX9_count_61 rfl (lv_at hl 0 rfl) ?_
    refine T_get (ci := 9) (C := RX9) (T := TX9) (N := 11) (t := tI) hx hb hts inw_X9_count_9 hown hK hP hT 0 rfl rfl 3 (by decide) (hts (.fieldLink RX9 68 "VatHouse" "grainsPutIn" "I") (List.mem_of_getElem? (i := 7) (by exact rfl))) (fun _ h9 => h9) rfl dX9_count_62 (fun v_22 hv_20 hr_21 => ?_)
    obtain rfl : v_22 = .int (sA.1 3) := hr_21.symm.trans hSR.2.2.2.2.1.2.1
    refine vx_ret ?_
    exact K_i hx hb hr hlocks hP hD hK hS hT hE ⟨⟨_, rfl⟩, hF, ⟨_, _, (if_neg c_1).trans ((if_neg c_8).trans ((if_neg c_15).trans (if_pos c_19))), rfl, hSR⟩⟩ (Nat.le_of_ble_eq_true rfl) (Nat.le_of_ble_eq_true rfl) dX9_count_65
  by_cases c_23 : a = 4
  · refine lv_tableIn (tgt := 66) hx hb dX9_count_1 (by rw [c_23]; decide) (by rw [c_23]; decide) (by rw [c_23]; rfl) (by decide) ?_
    refine lv_aload_n hx hb dX9_count_66 rfl (lv_at hl 0 rfl) ?_
    refine T_get (ci := 9) (C := RX9) (T := TX9) (N := 11) (t := tI) hx hb hts inw_X9_count_9 hown hK hP hT 0 rfl rfl 5 (by decide) (hts (.fieldLink RX9 124 "VatHouse" "tapeLength" "I") (List.mem_of_getElem? (i := 8) (by exact rfl))) (fun _ h9 => h9) rfl dX9_count_67 (fun v_26 hv_24 hr_25 => ?_)
    obtain rfl : v_26 = .int (sA.1 20) := hr_25.symm.trans htl
    refine vx_ret ?_
    exact K_i hx hb hr hlocks hP hD hK hS hT hE ⟨⟨_, rfl⟩, hF, ⟨_, _, (if_neg c_1).trans ((if_neg c_8).trans ((if_neg c_15).trans ((if_neg c_19).trans (if_pos c_23)))), rfl, hSR⟩⟩ (Nat.le_of_ble_eq_true rfl) (Nat.le_of_ble_eq_true rfl) dX9_count_70
  by_cases c_27 : a = 5
  · refine lv_tableIn (tgt := 71) hx hb dX9_count_1 (by rw [c_27]; decide) (by rw [c_27]; decide) (by rw [c_27]; rfl) (by decide) ?_
    refine lv_aload_n hx hb dX9_count_71 rfl (lv_at hl 0 rfl) ?_
    refine T_get (ci := 9) (C := RX9) (T := TX9) (N := 11) (t := tI) hx hb hts inw_X9_count_9 hown hK hP hT 0 rfl rfl 8 (by decide) (hts (.fieldLink RX9 143 "VatHouse" "stepsRead" "I") (List.mem_of_getElem? (i := 9) (by exact rfl))) (fun _ h9 => h9) rfl dX9_count_72 (fun v_30 hv_28 hr_29 => ?_)
    obtain rfl : v_30 = .int (sA.1 37) := hr_29.symm.trans hSR.2.2.2.2.1.2.2
    refine vx_ret ?_
    exact K_i hx hb hr hlocks hP hD hK hS hT hE ⟨⟨_, rfl⟩, hF, ⟨_, _, (if_neg c_1).trans ((if_neg c_8).trans ((if_neg c_15).trans ((if_neg c_19).trans ((if_neg c_23).trans (if_pos c_27))))), rfl, hSR⟩⟩ (Nat.le_of_ble_eq_true rfl) (Nat.le_of_ble_eq_true rfl) dX9_count_75
  refine lv_tableOut (tgt := 76) hx hb dX9_count_1 (tab_out6 c_1 c_8 c_15 c_19 c_23 c_27) (by decide) ?_
  exact K_x (cls := NSE) hno hx hb hlt hlocks hown hts xg_0 xg_1 xg_2 xg_5 (by decide +kernel) (hts (.classLink RX9 149 NSE) (List.mem_of_getElem? (i := 1) (by exact rfl))) (hts (.initialized NSE) (List.mem_of_getElem? (i := 2) (by exact rfl))) hev.2.1.2.2.2.1 (inx_X9_count_9) xb_9 hev.2.2.1.1 xo_9 hev (hl.1.trans hml.symm) dX9_count_76 dX9_count_79 dX9_count_80 dX9_count_82 dX9_count_85 (Nat.le_of_ble_eq_true rfl) (Nat.le_of_ble_eq_true rfl) (Nat.le_of_ble_eq_true rfl) (Nat.le_of_ble_eq_true rfl) ⟨⟨rfl, (if_neg c_1).trans ((if_neg c_8).trans ((if_neg c_15).trans ((if_neg c_19).trans ((if_neg c_23).trans (if_neg c_27)))))⟩, hF0⟩ hP hD hK hS hT hE (Nat.le_of_ble_eq_true rfl) (Nat.le_of_ble_eq_true rfl)
