theorem h24_of {h : Int32} (h0 : 0 ≤ h.toInt) : ¬ h / 24 = -1 := fun e => by
  have e1 : (h / 24).toInt = h.toInt / 24 := by rw [dv_i h0 (by decide)]; rfl
  rw [e] at e1
  have : (-1 : Int32).toInt = -1 := by decide
  omega


noncomputable abbrev rm_X9_treatS : Room := { frames := 7, cells := 2, slots := 12, locals := 104 }
set_option maxHeartbeats 800000 in
set_option maxRecDepth 100000 in
theorem t_X9_treatS (l : Launch) (dC : Nat → ClassId) (dI : Nat → Nat → Nat) (sa : Nat → Nat) (hlt : l.stackTraces = false) (g : Nat → Nat) (L : List Nat) (f : Nat → va_E) (va : Nat → Nat) (sA : AS) (h0 : Nat) (a : Int32) (b : Int32) (wk : Nat) (vs : Nat) (cl : Nat) (ru : Nat) (sz : Nat) (hT : TP g L f [(h0, (0, 9, 0)), (wk, (0, 8, 0)), (vs, (2, g 2, 6)), (cl, (2, g 3, 30)), (ru, (0, 4, 0))]) (h_wk : rd f h0 0 = .ref wk) (h_vs : rd f wk 0 = .ref vs) (h_cl : rd f h0 1 = .ref cl) (h_ru : rd f h0 9 = .ref ru) (hSR : SR g L f (h0, wk, vs, cl, ru, va) sA) (hRG : RV sA ∧ RC sA ∧ 0 ≤ (sA.1 1).toInt ∧ (sA.1 1).toInt ≤ 9000000) : KX l dC dI sa g yX9_treat wsX9_treat rm_X9_treatS [.ref h0, .int a, .int b] L f sz (fun r L' f' => (∃ z : Int32, r = some (.int z)) ∧ Fr [(0, 2), (0, 3), (0, 4), (0, 5), (8, 2)] L f f' ∧ (∃ (v : Int32) (s2 : AS), trS a b sA = (0, v, s2) ∧ r = some (.int v) ∧ SR g L' f' (h0, wk, vs, cl, ru, va) s2)) (fun E L' f' => ((E = NSE ∧ trS a b sA = (1, 0, sA)) ∨ (E = IAE ∧ trS a b sA = (2, 0, sA))) ∧ Fr [] L f f') 2 12 := by
  refine KX.start (cc := cX9_treat) (maxL := 4) (ret := (some .int)) (by decide) rfl (Nat.le_of_ble_eq_true rfl) ?_
  intro p e s m below meth c ls hst hno hP hK hD hev hS hl
  obtain ⟨hx, hb, hr, hml, hts, hown, hlocks, hin⟩ := hst
  have hown : s.vm.findClass RX9 = some m.cls := hown
  have hin : meth.name = yX9_treat.name := hin
  have hA : ∀ q : Nat, s.heap.size ≤ q → va_A (va_pl L f) s.heap.size q := fun _ h => Or.inr h
  have hE : Ext L f L f := Ext.rf
  have hF : Fr [(0, 2), (0, 3), (0, 4), (0, 5), (8, 2)] L f f := Fr.rf
  have hF0 : Fr [] L f f := Fr.rf
  have hl : lv_has ls 4 [(0, .ref h0), (1, .int a), (2, .int b)] := hl
  have hT0 := hT
  refine lv_aload_n hx hb dX9_treat_0 rfl (lv_at hl 0 rfl) ?_
  refine lv_iload_n hx hb dX9_treat_1 rfl (lv_at hl 1 rfl) ?_
  refine K_VX ⟨hx, hb, hml, hown, hts⟩ (t_X9_clothAtX l dC dI sa hlt g _ _ wk vs ru va sA h0 a cl _ (hT.sub [0, 3] rfl)  ((hF.1 h0 (hT0.at 0 rfl).1 9 (hT0.at 0 rfl).2 1 (by decide)).trans h_cl) hSR hRG.2.1.1.2) (cwV 1 hts gX9_treat_X9_clothAt rfl rfl rfl (by decide +kernel) ⟨Nat.le_of_ble_eq_true rfl, Nat.le_of_ble_eq_true rfl⟩) hP hD hK hS hA hev hT 0 9 rfl rfl rfl rfl hl.1 rfl (Nat.le_of_ble_eq_true rfl) dX9_treat_2 ⟨Nat.le_of_ble_eq_true rfl, Nat.le_of_ble_eq_true rfl⟩ (fun E ce q9 L9 f9 H locs hpx hP hD hS hT hE1 hce hcv hcl => ?_) (fun r L_1 f_2 H locs hw_3 hP hD hS hT hE1 => ?_)
  · have hF := Fr.call hF0 hE hpx.2 (by decide)
    have hE := hE.tr hE1
    exact K_out hno hlocks ⟨Or.inl ⟨hpx.1.1, if_neg hpx.1.2⟩, hF⟩ hP hD hK hS hT hE hce hcv hcl (Nat.le_of_ble_eq_true rfl) (Nat.le_of_ble_eq_true rfl)
  have hF0 := Fr.call hF0 hE hw_3.2.1 (by decide)
  have hF := Fr.call hF hE hw_3.2.1 (by decide)
  have hE := hE.tr hE1
  obtain ⟨⟨v_4, rfl, hv9⟩, hw_3⟩ := hw_3
  obtain ⟨b_5, rfl, hb9⟩ := hv9
  have hT := hT.add hb9
  obtain ⟨hfr_6, hex_7⟩ := hw_3
  obtain ⟨hC_8, bq_9, hg_10, hcl_11⟩ := hex_7
  have hcl_11 : ra f cl a.toNatClampNeg = some b_5 := by have h9 := hg_10; injection h9 with h9; injection h9 with h9; rw [h9]; exact hcl_11
  have hc9 := (inC_c hC_8).2
  have hs_12 := SR.still hSR hE1 hfr_6 (by decide)
  refine W.eq (g2 := F0 m 5 ls [.ref b_5]) rfl ?_
  refine lv_astore_n (lv' := [(3, .ref b_5), (0, .ref h0), (1, .int a), (2, .int b)]) hx hb dX9_treat_5 rfl hl (by decide) rfl (fun ls hl => ?_)
  refine lv_iload_n hx hb dX9_treat_6 rfl (lv_at hl 3 rfl) ?_
  refine lv_if_lt (tgt := 19) hx hb dX9_treat_7 (by decide) (fun c_13 => ?_) (fun c_13 => ?_)
  · refine lv_iconst (v := 0) hx hb dX9_treat_19 (by decide) ?_
    refine K_SX ⟨hx, hb, hml, hown, hts⟩ (t_X9_demandX l dC dI sa hlt g _ _ 0 _ (hT.sub [] rfl)  ) (va_cwS 1 hts gX9_treat_X9_demand rfl rfl rfl (by decide +kernel) ⟨Nat.le_of_ble_eq_true rfl, Nat.le_of_ble_eq_true rfl⟩) hP hD hK hS hA hev hT rfl hl.1 rfl (Nat.le_of_ble_eq_true rfl) dX9_treat_20 ⟨Nat.le_of_ble_eq_true rfl, Nat.le_of_ble_eq_true rfl⟩ (fun E ce q9 L9 f9 H locs hpx hP hD hS hT hE1 hce hcv hcl => ?_) (fun r L_14 f_15 H locs hw_16 hP hD hS hT hE1 => ?_)
    · have hF := Fr.call hF0 hE hpx.2 (by decide)
      have hE := hE.tr hE1
      exact K_out hno hlocks ⟨Or.inr ⟨hpx.1.1, (if_pos hC_8).trans (if_neg (fun h9 => le_nlt h9.1 c_13))⟩, hF⟩ hP hD hK hS hT hE hce hcv hcl (Nat.le_of_ble_eq_true rfl) (Nat.le_of_ble_eq_true rfl)
    have hF0 := Fr.call hF0 hE hw_16.2.1 (by decide)
    have hF := Fr.call hF hE hw_16.2.1 (by decide)
    have hE := hE.tr hE1
    obtain ⟨rfl, hw_16⟩ := hw_16
    obtain ⟨hfr_17, hex_18⟩ := hw_16
    have hs_19 := SR.still hs_12 hE1 hfr_17 (by decide)
    refine W.eq (g2 := F0 m 23 ls []) rfl ?_
    exact absurd rfl hex_18
  · refine lv_iload_n hx hb dX9_treat_10 rfl (lv_at hl 3 rfl) ?_
    refine lv_iconst (v := 2) hx hb dX9_treat_11 (by decide) ?_
    refine lv_icmp_gt (tgt := 19) hx hb dX9_treat_12 (by decide) (fun c_20 => ?_) (fun c_20 => ?_)
    · refine lv_iconst (v := 0) hx hb dX9_treat_19 (by decide) ?_
      refine K_SX ⟨hx, hb, hml, hown, hts⟩ (t_X9_demandX l dC dI sa hlt g _ _ 0 _ (hT.sub [] rfl)  ) (va_cwS 1 hts gX9_treat_X9_demand rfl rfl rfl (by decide +kernel) ⟨Nat.le_of_ble_eq_true rfl, Nat.le_of_ble_eq_true rfl⟩) hP hD hK hS hA hev hT rfl hl.1 rfl (Nat.le_of_ble_eq_true rfl) dX9_treat_20 ⟨Nat.le_of_ble_eq_true rfl, Nat.le_of_ble_eq_true rfl⟩ (fun E ce q9 L9 f9 H locs hpx hP hD hS hT hE1 hce hcv hcl => ?_) (fun r L_21 f_22 H locs hw_23 hP hD hS hT hE1 => ?_)
      · have hF := Fr.call hF0 hE hpx.2 (by decide)
        have hE := hE.tr hE1
        exact K_out hno hlocks ⟨Or.inr ⟨hpx.1.1, (if_pos hC_8).trans (if_neg (fun h9 => le_nlt h9.2 c_20))⟩, hF⟩ hP hD hK hS hT hE hce hcv hcl (Nat.le_of_ble_eq_true rfl) (Nat.le_of_ble_eq_true rfl)
      have hF0 := Fr.call hF0 hE hw_23.2.1 (by decide)
      have hF := Fr.call hF hE hw_23.2.1 (by decide)
      have hE := hE.tr hE1
      obtain ⟨rfl, hw_23⟩ := hw_23
      obtain ⟨hfr_24, hex_25⟩ := hw_23
      have hs_26 := SR.still hs_12 hE1 hfr_24 (by decide)
      refine W.eq (g2 := F0 m 23 ls []) rfl ?_
      exact absurd rfl hex_25
    · refine lv_iconst (v := 1) hx hb dX9_treat_15 (by decide) ?_
      refine lv_goto (tgt := 20) hx hb dX9_treat_16 (by decide) ?_
      refine K_SX ⟨hx, hb, hml, hown, hts⟩ (t_X9_demandX l dC dI sa hlt g _ _ 1 _ (hT.sub [] rfl)  ) (va_cwS 1 hts gX9_treat_X9_demand rfl rfl rfl (by decide +kernel) ⟨Nat.le_of_ble_eq_true rfl, Nat.le_of_ble_eq_true rfl⟩) hP hD hK hS hA hev hT rfl hl.1 rfl (Nat.le_of_ble_eq_true rfl) dX9_treat_20 ⟨Nat.le_of_ble_eq_true rfl, Nat.le_of_ble_eq_true rfl⟩ (fun E ce q9 L9 f9 H locs hpx hP hD hS hT hE1 hce hcv hcl => ?_) (fun r L_27 f_28 H locs hw_29 hP hD hS hT hE1 => ?_)
      · have hF := Fr.call hF0 hE hpx.2 (by decide)
        have hE := hE.tr hE1
        exact absurd hpx.1.2 (by decide)
      have hF0 := Fr.call hF0 hE hw_29.2.1 (by decide)
      have hF := Fr.call hF hE hw_29.2.1 (by decide)
      have hE := hE.tr hE1
      obtain ⟨rfl, hw_29⟩ := hw_29
      obtain ⟨hfr_30, hex_31⟩ := hw_29
      have hs_32 := SR.still hs_12 hE1 hfr_30 (by decide)
      refine W.eq (g2 := F0 m 23 ls []) rfl ?_
      refine lv_aload_n hx hb dX9_treat_23 rfl (lv_at hl 0 rfl) ?_
      refine T_get (ci := 0) (C := RX0) (T := TX0) (N := 8) (t := tI) hx hb hts inw_X9_treat_0 hown hK hP hT 0 rfl rfl 4 (by decide) (hts (.fieldLink RX9 102 "VatHouse$Cloth" "dry" "Z") (List.mem_of_getElem? (i := 1) (by exact rfl))) (fun _ h9 => h9) rfl dX9_treat_24 (fun v_35 hv_33 hr_34 => ?_)
      obtain rfl : v_35 = .int (dyA (sA.2 16 a.toNatClampNeg)) := hr_34.symm.trans (SR.cf4 hs_32 hc9 (by rw [ra_eq (hF.2 cl hSR.1.1.2.2.2.1.1 1 _ _ hSR.1.1.2.2.2.1.2 (by decide))]; exact hcl_11))
      refine lv_if_eq (tgt := 32) hx hb dX9_treat_27 (by decide) (fun c_36 => ?_) (fun c_36 => ?_)
      · refine lv_iload_n hx hb dX9_treat_32 rfl (lv_at hl 3 rfl) ?_
        by_cases c_37 : b = 0
        · refine lv_lookup (tgt := 60) hx hb dX9_treat_33 (by decide) (off := 27) (by rw [c_37]; rfl) (by decide) ?_
          refine lv_aload_n hx hb dX9_treat_60 rfl (lv_at hl 1 rfl) ?_
          refine T_get (ci := 9) (C := RX9) (T := TX9) (N := 11) (t := (1, 0, 8, 0)) hx hb hts inw_X9_treat_9 hown hK hP hT 1 rfl rfl 0 (by decide) (hts (.fieldLink RX9 10 "VatHouse" "works" "LVatHouse$Works;") (List.mem_of_getElem? (i := 2) (by exact rfl))) (fun _ h9 => h9) rfl dX9_treat_61 (fun v_40 hv_38 hr_39 => ?_)
          obtain rfl : v_40 = .ref wk := hr_39.symm.trans ((hF.1 h0 (hT0.at 0 rfl).1 9 (hT0.at 0 rfl).2 0 (by decide)).trans h_wk)
          refine lv_aload_n hx hb dX9_treat_64 rfl (lv_at hl 0 rfl) ?_
          refine K_V ⟨hx, hb, hml, hown, hts⟩ (t_X8_airOutS l dC dI sa hlt g _ _ h0 vs cl ru va sA a.toNatClampNeg wk b_5 _ (hT.sub [2, 0] rfl)  hs_32 hRG.2.1.1.2 hc9 (by rw [ra_eq (hF.2 cl hSR.1.1.2.2.2.1.1 1 _ _ hSR.1.1.2.2.2.1.2 (by decide))]; exact hcl_11)) (cwV 1 hts gX9_treat_X8_airOut rfl rfl rfl (by decide +kernel) ⟨Nat.le_of_ble_eq_true rfl, Nat.le_of_ble_eq_true rfl⟩) hP hD hK hS hA hev hT 2 8 rfl rfl rfl rfl hl.1 rfl (Nat.le_of_ble_eq_true rfl) dX9_treat_65 ⟨Nat.le_of_ble_eq_true rfl, Nat.le_of_ble_eq_true rfl⟩ (fun r L_41 f_42 H locs hw_43 hP hD hS hT hE1 => ?_)
          have hF := Fr.call hF hE hw_43.2.1 (by decide)
          have hE := hE.tr hE1
          obtain ⟨⟨z_44, rfl⟩, hw_43⟩ := hw_43
          obtain ⟨hfr_45, hex_46⟩ := hw_43
          obtain ⟨hg_47, hs_48⟩ := hex_46
          refine W.eq (g2 := F0 m 68 ls [.int z_44]) rfl ?_
          refine vx_ret ?_
          exact K_i hx hb hr hlocks hP hD hK hS hT hE ⟨⟨_, rfl⟩, hF, ⟨_, _, (if_pos hC_8).trans ((if_pos ⟨nlt_le c_13, nlt_le c_20⟩).trans ((if_neg (fun h9 => dyA_0.mpr h9 c_36)).trans (if_pos c_37))), (by rw [sv hg_47]), hs_48⟩⟩ (Nat.le_of_ble_eq_true rfl) (Nat.le_of_ble_eq_true rfl) dX9_treat_68
        by_cases c_49 : b = 1
        · refine lv_lookup (tgt := 69) hx hb dX9_treat_33 (by decide) (off := 36) (by rw [c_49]; rfl) (by decide) ?_
          refine lv_aload_n hx hb dX9_treat_69 rfl (lv_at hl 1 rfl) ?_
          refine T_get (ci := 9) (C := RX9) (T := TX9) (N := 11) (t := (1, 0, 8, 0)) hx hb hts inw_X9_treat_9 hown hK hP hT 1 rfl rfl 0 (by decide) (hts (.fieldLink RX9 10 "VatHouse" "works" "LVatHouse$Works;") (List.mem_of_getElem? (i := 2) (by exact rfl))) (fun _ h9 => h9) rfl dX9_treat_70 (fun v_52 hv_50 hr_51 => ?_)
          obtain rfl : v_52 = .ref wk := hr_51.symm.trans ((hF.1 h0 (hT0.at 0 rfl).1 9 (hT0.at 0 rfl).2 0 (by decide)).trans h_wk)
          refine lv_aload_n hx hb dX9_treat_73 rfl (lv_at hl 0 rfl) ?_
          refine K_V ⟨hx, hb, hml, hown, hts⟩ (t_X8_washOutS l dC dI sa hlt g _ _ h0 vs cl ru va sA a.toNatClampNeg wk b_5 _ (hT.sub [2, 0] rfl)  hs_32 hRG.2.1.1.2 hc9 (by rw [ra_eq (hF.2 cl hSR.1.1.2.2.2.1.1 1 _ _ hSR.1.1.2.2.2.1.2 (by decide))]; exact hcl_11)) (cwV 1 hts gX9_treat_X8_washOut rfl rfl rfl (by decide +kernel) ⟨Nat.le_of_ble_eq_true rfl, Nat.le_of_ble_eq_true rfl⟩) hP hD hK hS hA hev hT 2 8 rfl rfl rfl rfl hl.1 rfl (Nat.le_of_ble_eq_true rfl) dX9_treat_74 ⟨Nat.le_of_ble_eq_true rfl, Nat.le_of_ble_eq_true rfl⟩ (fun r L_53 f_54 H locs hw_55 hP hD hS hT hE1 => ?_)
          have hF := Fr.call hF hE hw_55.2.1 (by decide)
          have hE := hE.tr hE1
          obtain ⟨⟨z_56, rfl⟩, hw_55⟩ := hw_55
          obtain ⟨hfr_57, hex_58⟩ := hw_55
          obtain ⟨hg_59, hs_60⟩ := hex_58
          refine W.eq (g2 := F0 m 77 ls [.int z_56]) rfl ?_
          refine vx_ret ?_
          exact K_i hx hb hr hlocks hP hD hK hS hT hE ⟨⟨_, rfl⟩, hF, ⟨_, _, (if_pos hC_8).trans ((if_pos ⟨nlt_le c_13, nlt_le c_20⟩).trans ((if_neg (fun h9 => dyA_0.mpr h9 c_36)).trans ((if_neg c_37).trans (if_pos c_49)))), (by rw [sv hg_59]), hs_60⟩⟩ (Nat.le_of_ble_eq_true rfl) (Nat.le_of_ble_eq_true rfl) dX9_treat_77
        refine lv_lookup (tgt := 78) hx hb dX9_treat_33 (by decide) (off := 45) (look_out2 c_37 c_49) (by decide) ?_
        refine lv_aload_n hx hb dX9_treat_78 rfl (lv_at hl 1 rfl) ?_
        refine T_get (ci := 9) (C := RX9) (T := TX9) (N := 11) (t := (1, 0, 8, 0)) hx hb hts inw_X9_treat_9 hown hK hP hT 1 rfl rfl 0 (by decide) (hts (.fieldLink RX9 10 "VatHouse" "works" "LVatHouse$Works;") (List.mem_of_getElem? (i := 2) (by exact rfl))) (fun _ h9 => h9) rfl dX9_treat_79 (fun v_63 hv_61 hr_62 => ?_)
        obtain rfl : v_63 = .ref wk := hr_62.symm.trans ((hF.1 h0 (hT0.at 0 rfl).1 9 (hT0.at 0 rfl).2 0 (by decide)).trans h_wk)
        refine lv_aload_n hx hb dX9_treat_82 rfl (lv_at hl 0 rfl) ?_
        refine K_V ⟨hx, hb, hml, hown, hts⟩ (t_X8_dryOutS l dC dI sa hlt g _ _ h0 vs cl ru va sA a.toNatClampNeg wk b_5 _ (hT.sub [2, 0] rfl)  hs_32 hRG.2.1.1.2 hc9 (by rw [ra_eq (hF.2 cl hSR.1.1.2.2.2.1.1 1 _ _ hSR.1.1.2.2.2.1.2 (by decide))]; exact hcl_11) (h24_of hRG.2.2.1)) (cwV 1 hts gX9_treat_X8_dryOut rfl rfl rfl (by decide +kernel) ⟨Nat.le_of_ble_eq_true rfl, Nat.le_of_ble_eq_true rfl⟩) hP hD hK hS hA hev hT 2 8 rfl rfl rfl rfl hl.1 rfl (Nat.le_of_ble_eq_true rfl) dX9_treat_83 ⟨Nat.le_of_ble_eq_true rfl, Nat.le_of_ble_eq_true rfl⟩ (fun r L_64 f_65 H locs hw_66 hP hD hS hT hE1 => ?_)
        have hF := Fr.call hF hE hw_66.2.1 (by decide)
        have hE := hE.tr hE1
        obtain ⟨⟨z_67, rfl⟩, hw_66⟩ := hw_66
        obtain ⟨hfr_68, hex_69⟩ := hw_66
        obtain ⟨hg_70, hs_71⟩ := hex_69
        refine W.eq (g2 := F0 m 86 ls [.int z_67]) rfl ?_
        refine vx_ret ?_
        exact K_i hx hb hr hlocks hP hD hK hS hT hE ⟨⟨_, rfl⟩, hF, ⟨_, _, (if_pos hC_8).trans ((if_pos ⟨nlt_le c_13, nlt_le c_20⟩).trans ((if_neg (fun h9 => dyA_0.mpr h9 c_36)).trans ((if_neg c_37).trans (if_neg c_49)))), (by rw [sv hg_70]), hs_71⟩⟩ (Nat.le_of_ble_eq_true rfl) (Nat.le_of_ble_eq_true rfl) dX9_treat_86
      · refine lv_iconst (v := (-1)) hx hb dX9_treat_30 (by decide) ?_
        refine vx_ret ?_
        exact K_i hx hb hr hlocks hP hD hK hS hT hE ⟨⟨_, rfl⟩, hF, ⟨-1, sA, (if_pos hC_8).trans ((if_pos ⟨nlt_le c_13, nlt_le c_20⟩).trans (if_pos (dyA_0.mp c_36))), rfl, hs_32⟩⟩ (Nat.le_of_ble_eq_true rfl) (Nat.le_of_ble_eq_true rfl) dX9_treat_31






