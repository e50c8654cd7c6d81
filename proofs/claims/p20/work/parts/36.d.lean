theorem h24_of {h : Int32} (h0 : 0 ≤ h.toInt) : ¬ h / 24 = -1 := fun e => by
  have e1 : (h / 24).toInt = h.toInt / 24 := by rw [dv_i h0 (by decide)]; rfl
  rw [e] at e1
  have : (-1 : Int32).toInt = -1 := by decide
  omega

noncomputable abbrev rm_X9_dipS : Room := { frames := 7, cells := 3, slots := 18, locals := 104 }
set_option maxHeartbeats 800000 in
set_option maxRecDepth 100000 in
theorem t_X9_dipS (l : Launch) (dC : Nat → ClassId) (dI : Nat → Nat → Nat) (sa : Nat → Nat) (hlt : l.stackTraces = false) (g : Nat → Nat) (L : List Nat) (f : Nat → va_E) (va : Nat → Nat) (sA : AS) (h0 : Nat) (a : Int32) (b : Int32) (cq : Int32) (wk : Nat) (vs : Nat) (cl : Nat) (ru : Nat) (sz : Nat) (hT : TP g L f [(h0, (0, 9, 0)), (wk, (0, 8, 0)), (vs, (2, g 2, 6)), (cl, (2, g 3, 30)), (ru, (0, 4, 0))]) (h_wk : rd f h0 0 = .ref wk) (h_vs : rd f wk 0 = .ref vs) (h_cl : rd f h0 1 = .ref cl) (h_ru : rd f h0 9 = .ref ru) (hSR : SR g L f (h0, wk, vs, cl, ru, va) sA) (hRG : RV sA ∧ RC sA ∧ 0 ≤ (sA.1 1).toInt ∧ (sA.1 1).toInt ≤ 9000000) : KX l dC dI sa g yX9_dip wsX9_dip rm_X9_dipS [.ref h0, .int a, .int b, .int cq] L f sz (fun r L' f' => (∃ z : Int32, r = some (.int z)) ∧ Fr [(7, 1), (7, 2), (7, 3), (7, 4), (7, 5), (7, 6), (7, 7), (0, 2), (0, 6), (0, 7)] L f f' ∧ (∃ (v : Int32) (s2 : AS), dpS a b cq sA = (0, v, s2) ∧ r = some (.int v) ∧ SR g L' f' (h0, wk, vs, cl, ru, va) s2)) (fun E L' f' => ((E = NSE ∧ dpS a b cq sA = (1, 0, sA)) ∨ (E = IAE ∧ dpS a b cq sA = (2, 0, sA))) ∧ Fr [] L f f') 3 18 := by
  refine KX.start (cc := cX9_dip) (maxL := 7) (ret := (some .int)) (by decide) rfl (Nat.le_of_ble_eq_true rfl) ?_
  intro p e s m below meth c ls hst hno hP hK hD hev hS hl
  obtain ⟨hx, hb, hr, hml, hts, hown, hlocks, hin⟩ := hst
  have hown : s.vm.findClass RX9 = some m.cls := hown
  have hin : meth.name = yX9_dip.name := hin
  have hA : ∀ q : Nat, s.heap.size ≤ q → va_A (va_pl L f) s.heap.size q := fun _ h => Or.inr h
  have hE : Ext L f L f := Ext.rf
  have hF : Fr [(7, 1), (7, 2), (7, 3), (7, 4), (7, 5), (7, 6), (7, 7), (0, 2), (0, 6), (0, 7)] L f f := Fr.rf
  have hF0 : Fr [] L f f := Fr.rf
  have hl : lv_has ls 7 [(0, .ref h0), (1, .int a), (2, .int b), (3, .int cq)] := hl
  have hT0 := hT
  refine lv_aload_n hx hb dX9_dip_0 rfl (lv_at hl 0 rfl) ?_
  refine lv_iload_n hx hb dX9_dip_1 rfl (lv_at hl 1 rfl) ?_
  refine K_VX ⟨hx, hb, hml, hown, hts⟩ (t_X9_clothAtX l dC dI sa hlt g _ _ wk vs ru va sA h0 a cl _ (hT.sub [0, 3] rfl)  ((hF.1 h0 (hT0.at 0 rfl).1 9 (hT0.at 0 rfl).2 1 (by decide)).trans h_cl) hSR hRG.2.1.1.2) (cwV 1 hts gX9_dip_X9_clothAt rfl rfl rfl (by decide +kernel) ⟨Nat.le_of_ble_eq_true rfl, Nat.le_of_ble_eq_true rfl⟩) hP hD hK hS hA hev hT 0 9 rfl rfl rfl rfl hl.1 rfl (Nat.le_of_ble_eq_true rfl) dX9_dip_2 ⟨Nat.le_of_ble_eq_true rfl, Nat.le_of_ble_eq_true rfl⟩ (fun E ce q9 L9 f9 H locs hpx hP hD hS hT hE1 hce hcv hcl => ?_) (fun r L_1 f_2 H locs hw_3 hP hD hS hT hE1 => ?_)
  · have hF := Fr.call hF0 hE hpx.2 (by decide)
    have hE := hE.tr hE1
    exact K_out hno hlocks ⟨Or.inl ⟨hpx.1.1, if_neg hpx.1.2⟩, hF⟩ hP hD hK hS hT hE hce hcv hcl (Nat.le_of_ble_eq_true rfl) (Nat.le_of_ble_eq_true rfl)
  have hF0 := Fr.call hF0 hE hw_3.2.1 (by decide)
  have hF := Fr.call hF hE hw_3.2.1 (by decide)
  have hE := hE.tr hE1
  obtain ⟨⟨v_4, rfl, hv9⟩, hw_3⟩ := hw_3
  obtain ⟨b_5, rfl, hb9⟩ := hv9
  have hT := hT.add hb9
  obtain ⟨hfr_6, hex_7⟩ := hw_3
  obtain ⟨hC_8, bq_9, hg_10, hcl_11⟩ := hex_7
  have hcl_11 : ra f cl a.toNatClampNeg = some b_5 := by have h9 := hg_10; injection h9 with h9; injection h9 with h9; rw [h9]; exact hcl_11
  have hc9 := (inC_c hC_8).2
  have hs_12 := SR.still hSR hE1 hfr_6 (by decide)
  refine W.eq (g2 := F0 m 5 ls [.ref b_5]) rfl ?_
  refine lv_astore (lv' := [(4, .ref b_5), (0, .ref h0), (1, .int a), (2, .int b), (3, .int cq)]) hx hb dX9_dip_5 hl (by decide) rfl (fun ls hl => ?_)
  refine lv_aload_n hx hb dX9_dip_7 rfl (lv_at hl 1 rfl) ?_
  refine T_get (ci := 9) (C := RX9) (T := TX9) (N := 11) (t := (1, 0, 8, 0)) hx hb hts inw_X9_dip_9 hown hK hP hT 1 rfl rfl 0 (by decide) (hts (.fieldLink RX9 10 "VatHouse" "works" "LVatHouse$Works;") (List.mem_of_getElem? (i := 1) (by exact rfl))) (fun _ h9 => h9) rfl dX9_dip_8 (fun v_15 hv_13 hr_14 => ?_)
  obtain rfl : v_15 = .ref wk := hr_14.symm.trans ((hF.1 h0 (hT0.at 0 rfl).1 9 (hT0.at 0 rfl).2 0 (by decide)).trans h_wk)
  refine lv_iload_n hx hb dX9_dip_11 rfl (lv_at hl 3 rfl) ?_
  refine K_VX ⟨hx, hb, hml, hown, hts⟩ (t_X8_vatAtX l dC dI sa hlt g _ _ va wk b vs _ (hT.sub [2, 3] rfl)  ((hF.1 wk (hT0.at 1 rfl).1 8 (hT0.at 1 rfl).2 0 (by decide)).trans h_vs) (fun k9 h9 => (hs_12.2.1 k9 h9).1)) (cwV 1 hts gX9_dip_X8_vatAt rfl rfl rfl (by decide +kernel) ⟨Nat.le_of_ble_eq_true rfl, Nat.le_of_ble_eq_true rfl⟩) hP hD hK hS hA hev hT 2 8 rfl rfl rfl rfl hl.1 rfl (Nat.le_of_ble_eq_true rfl) dX9_dip_12 ⟨Nat.le_of_ble_eq_true rfl, Nat.le_of_ble_eq_true rfl⟩ (fun E ce q9 L9 f9 H locs hpx hP hD hS hT hE1 hce hcv hcl => ?_) (fun r L_16 f_17 H locs hw_18 hP hD hS hT hE1 => ?_)
  · have hF := Fr.call hF0 hE hpx.2 (by decide)
    have hE := hE.tr hE1
    exact K_out hno hlocks ⟨Or.inl ⟨hpx.1.1, (if_pos hC_8).trans (if_neg hpx.1.2)⟩, hF⟩ hP hD hK hS hT hE hce hcv hcl (Nat.le_of_ble_eq_true rfl) (Nat.le_of_ble_eq_true rfl)
  have hF0 := Fr.call hF0 hE hw_18.2.1 (by decide)
  have hF := Fr.call hF hE hw_18.2.1 (by decide)
  have hE := hE.tr hE1
  obtain ⟨⟨v_19, rfl, hv9⟩, hw_18⟩ := hw_18
  obtain ⟨b_20, rfl, hb9⟩ := hv9
  have hT := hT.add hb9
  obtain ⟨hfr_21, hex_22⟩ := hw_18
  obtain ⟨hV_23, hg_24⟩ := hex_22
  have hbv_25 : b_20 = va b.toNatClampNeg := by have h9 := hg_24; injection h9 with h9; injection h9
  have hk6 := (nI_inj6 hV_23).2
  have hs_26 := SR.still hs_12 hE1 hfr_21 (by decide)
  refine W.eq (g2 := F0 m 15 ls [.ref b_20]) rfl ?_
  refine lv_astore (lv' := [(5, .ref b_20), (4, .ref b_5), (0, .ref h0), (1, .int a), (2, .int b), (3, .int cq)]) hx hb dX9_dip_15 hl (by decide) rfl (fun ls hl => ?_)
  refine lv_iload_n hx hb dX9_dip_17 rfl (lv_at hl 5 rfl) ?_
  refine lv_iconst (v := 1) hx hb dX9_dip_18 (by decide) ?_
  refine lv_icmp_lt (tgt := 32) hx hb dX9_dip_19 (by decide) (fun c_27 => ?_) (fun c_27 => ?_)
  · refine lv_iconst (v := 0) hx hb dX9_dip_32 (by decide) ?_
    refine K_SX ⟨hx, hb, hml, hown, hts⟩ (t_X9_demandX l dC dI sa hlt g _ _ 0 _ (hT.sub [] rfl)  ) (va_cwS 1 hts gX9_dip_X9_demand rfl rfl rfl (by decide +kernel) ⟨Nat.le_of_ble_eq_true rfl, Nat.le_of_ble_eq_true rfl⟩) hP hD hK hS hA hev hT rfl hl.1 rfl (Nat.le_of_ble_eq_true rfl) dX9_dip_33 ⟨Nat.le_of_ble_eq_true rfl, Nat.le_of_ble_eq_true rfl⟩ (fun E ce q9 L9 f9 H locs hpx hP hD hS hT hE1 hce hcv hcl => ?_) (fun r L_28 f_29 H locs hw_30 hP hD hS hT hE1 => ?_)
    · have hF := Fr.call hF0 hE hpx.2 (by decide)
      have hE := hE.tr hE1
      exact K_out hno hlocks ⟨Or.inr ⟨hpx.1.1, (if_pos hC_8).trans ((if_pos hV_23).trans (if_neg (fun h9 => le_nlt h9.1 c_27)))⟩, hF⟩ hP hD hK hS hT hE hce hcv hcl (Nat.le_of_ble_eq_true rfl) (Nat.le_of_ble_eq_true rfl)
    have hF0 := Fr.call hF0 hE hw_30.2.1 (by decide)
    have hF := Fr.call hF hE hw_30.2.1 (by decide)
    have hE := hE.tr hE1
    obtain ⟨rfl, hw_30⟩ := hw_30
    obtain ⟨hfr_31, hex_32⟩ := hw_30
    have hs_33 := SR.still hs_26 hE1 hfr_31 (by decide)
    refine W.eq (g2 := F0 m 36 ls []) rfl ?_
    exact absurd rfl hex_32
  · refine lv_iload_n hx hb dX9_dip_22 rfl (lv_at hl 5 rfl) ?_
    refine lv_bipush (v := 20) hx hb dX9_dip_23 (by decide) ?_
    refine lv_icmp_gt (tgt := 32) hx hb dX9_dip_25 (by decide) (fun c_34 => ?_) (fun c_34 => ?_)
    · refine lv_iconst (v := 0) hx hb dX9_dip_32 (by decide) ?_
      refine K_SX ⟨hx, hb, hml, hown, hts⟩ (t_X9_demandX l dC dI sa hlt g _ _ 0 _ (hT.sub [] rfl)  ) (va_cwS 1 hts gX9_dip_X9_demand rfl rfl rfl (by decide +kernel) ⟨Nat.le_of_ble_eq_true rfl, Nat.le_of_ble_eq_true rfl⟩) hP hD hK hS hA hev hT rfl hl.1 rfl (Nat.le_of_ble_eq_true rfl) dX9_dip_33 ⟨Nat.le_of_ble_eq_true rfl, Nat.le_of_ble_eq_true rfl⟩ (fun E ce q9 L9 f9 H locs hpx hP hD hS hT hE1 hce hcv hcl => ?_) (fun r L_35 f_36 H locs hw_37 hP hD hS hT hE1 => ?_)
      · have hF := Fr.call hF0 hE hpx.2 (by decide)
        have hE := hE.tr hE1
        exact K_out hno hlocks ⟨Or.inr ⟨hpx.1.1, (if_pos hC_8).trans ((if_pos hV_23).trans (if_neg (fun h9 => le_nlt h9.2 c_34)))⟩, hF⟩ hP hD hK hS hT hE hce hcv hcl (Nat.le_of_ble_eq_true rfl) (Nat.le_of_ble_eq_true rfl)
      have hF0 := Fr.call hF0 hE hw_37.2.1 (by decide)
      have hF := Fr.call hF hE hw_37.2.1 (by decide)
      have hE := hE.tr hE1
      obtain ⟨rfl, hw_37⟩ := hw_37
      obtain ⟨hfr_38, hex_39⟩ := hw_37
      have hs_40 := SR.still hs_26 hE1 hfr_38 (by decide)
      refine W.eq (g2 := F0 m 36 ls []) rfl ?_
      exact absurd rfl hex_39
    · refine lv_iconst (v := 1) hx hb dX9_dip_28 (by decide) ?_
      refine lv_goto (tgt := 33) hx hb dX9_dip_29 (by decide) ?_
      refine K_SX ⟨hx, hb, hml, hown, hts⟩ (t_X9_demandX l dC dI sa hlt g _ _ 1 _ (hT.sub [] rfl)  ) (va_cwS 1 hts gX9_dip_X9_demand rfl rfl rfl (by decide +kernel) ⟨Nat.le_of_ble_eq_true rfl, Nat.le_of_ble_eq_true rfl⟩) hP hD hK hS hA hev hT rfl hl.1 rfl (Nat.le_of_ble_eq_true rfl) dX9_dip_33 ⟨Nat.le_of_ble_eq_true rfl, Nat.le_of_ble_eq_true rfl⟩ (fun E ce q9 L9 f9 H locs hpx hP hD hS hT hE1 hce hcv hcl => ?_) (fun r L_41 f_42 H locs hw_43 hP hD hS hT hE1 => ?_)
      · have hF := Fr.call hF0 hE hpx.2 (by decide)
        have hE := hE.tr hE1
        exact absurd hpx.1.2 (by decide)
      have hF0 := Fr.call hF0 hE hw_43.2.1 (by decide)
      have hF := Fr.call hF hE hw_43.2.1 (by decide)
      have hE := hE.tr hE1
      obtain ⟨rfl, hw_43⟩ := hw_43
      obtain ⟨hfr_44, hex_45⟩ := hw_43
      have hs_46 := SR.still hs_26 hE1 hfr_44 (by decide)
      refine W.eq (g2 := F0 m 36 ls []) rfl ?_
      refine lv_aload hx hb dX9_dip_36 (lv_at hl 0 rfl) ?_
      refine T_get (ci := 7) (C := RX7) (T := TX7) (N := 8) (t := tI) hx hb hts inw_X9_dip_7 hown hK hP hT 0 rfl rfl 4 (by decide) (hts (.fieldLink RX9 79 "VatHouse$Vat" "state" "I") (List.mem_of_getElem? (i := 2) (by exact rfl))) (fun _ h9 => h9) rfl dX9_dip_38 (fun v_49 hv_47 hr_48 => ?_)
      obtain rfl : v_49 = .int (sA.2 7 b.toNatClampNeg) := hr_48.symm.trans (by rw [hbv_25]; exact (hs_46.2.1 b.toNatClampNeg hk6).2.2.2.2.2.2.1)
      refine lv_iconst (v := 2) hx hb dX9_dip_41 (by decide) ?_
      refine lv_icmp_eq (tgt := 53) hx hb dX9_dip_42 (by decide) (fun c_50 => ?_) (fun c_50 => ?_)
      · refine lv_iconst (v := (-1)) hx hb dX9_dip_53 (by decide) ?_
        refine vx_ret ?_
        exact K_i hx hb hr hlocks hP hD hK hS hT hE ⟨⟨_, rfl⟩, hF, ⟨-1, sA, (if_pos hC_8).trans ((if_pos hV_23).trans ((if_pos ⟨nlt_le c_27, nlt_le c_34⟩).trans (if_pos (Or.inl c_50)))), rfl, hs_46⟩⟩ (Nat.le_of_ble_eq_true rfl) (Nat.le_of_ble_eq_true rfl) dX9_dip_54
      · refine lv_aload hx hb dX9_dip_45 (lv_at hl 1 rfl) ?_
        refine T_get (ci := 0) (C := RX0) (T := TX0) (N := 8) (t := tI) hx hb hts inw_X9_dip_0 hown hK hP hT 1 rfl rfl 4 (by decide) (hts (.fieldLink RX9 102 "VatHouse$Cloth" "dry" "Z") (List.mem_of_getElem? (i := 3) (by exact rfl))) (fun _ h9 => h9) rfl dX9_dip_47 (fun v_53 hv_51 hr_52 => ?_)
        obtain rfl : v_53 = .int (dyA (sA.2 16 a.toNatClampNeg)) := hr_52.symm.trans (SR.cf4 hs_46 hc9 (by rw [ra_eq (hF.2 cl hSR.1.1.2.2.2.1.1 1 _ _ hSR.1.1.2.2.2.1.2 (by decide))]; exact hcl_11))
        refine lv_if_eq (tgt := 55) hx hb dX9_dip_50 (by decide) (fun c_54 => ?_) (fun c_54 => ?_)
        · refine lv_aload hx hb dX9_dip_55 (lv_at hl 0 rfl) ?_
          refine lv_aload hx hb dX9_dip_57 (lv_at hl 1 rfl) ?_
          refine lv_iload_n hx hb dX9_dip_59 rfl (lv_at hl 5 rfl) ?_
          refine K_V ⟨hx, hb, hml, hown, hts⟩ (t_X7_givesToS l dC dI sa hlt g _ _ h0 wk vs cl ru va sA b.toNatClampNeg a.toNatClampNeg b_20 b_5 cq _ (hT.sub [0, 1] rfl)  hs_46 hk6 hc9 (by rw [ra_eq (hF.2 cl hSR.1.1.2.2.2.1.1 1 _ _ hSR.1.1.2.2.2.1.2 (by decide))]; exact hcl_11) hbv_25 (we_of (hRG.2.1.2 _ hc9).1).1 c_50) (cwV 2 hts gX9_dip_X7_givesTo rfl rfl rfl (by decide +kernel) ⟨Nat.le_of_ble_eq_true rfl, Nat.le_of_ble_eq_true rfl⟩) hP hD hK hS hA hev hT 0 7 rfl rfl rfl rfl hl.1 rfl (Nat.le_of_ble_eq_true rfl) dX9_dip_60 ⟨Nat.le_of_ble_eq_true rfl, Nat.le_of_ble_eq_true rfl⟩ (fun r L_55 f_56 H locs hw_57 hP hD hS hT hE1 => ?_)
          have hF0 := Fr.call hF0 hE hw_57.2.1 (by decide)
          have hF := Fr.call hF hE hw_57.2.1 (by decide)
          have hE := hE.tr hE1
          obtain ⟨⟨z_58, rfl⟩, hw_57⟩ := hw_57
          obtain ⟨hfr_59, hex_60⟩ := hw_57
          obtain ⟨hg_61, hs_62⟩ := hex_60
          have ez_58 : z_58 = mvA sA a.toNatClampNeg b.toNatClampNeg cq := sv hg_61
          refine W.eq (g2 := F0 m 63 ls [.int z_58]) rfl ?_
          refine lv_istore (lv' := [(6, .int z_58), (5, .ref b_20), (4, .ref b_5), (0, .ref h0), (1, .int a), (2, .int b), (3, .int cq)]) hx hb dX9_dip_63 hl (by decide) rfl (fun ls hl => ?_)
          refine lv_aload_n hx hb dX9_dip_65 rfl (lv_at hl 3 rfl) ?_
          refine T_get (ci := 9) (C := RX9) (T := TX9) (N := 11) (t := (1, 0, 8, 0)) hx hb hts inw_X9_dip_9 hown hK hP hT 2 rfl rfl 0 (by decide) (hts (.fieldLink RX9 10 "VatHouse" "works" "LVatHouse$Works;") (List.mem_of_getElem? (i := 1) (by exact rfl))) (fun _ h9 => h9) rfl dX9_dip_66 (fun v_65 hv_63 hr_64 => ?_)
          obtain rfl : v_65 = .ref wk := hr_64.symm.trans ((hF.1 h0 (hT0.at 0 rfl).1 9 (hT0.at 0 rfl).2 0 (by decide)).trans h_wk)
          refine lv_aload hx hb dX9_dip_69 (lv_at hl 1 rfl) ?_
          refine lv_aload hx hb dX9_dip_71 (lv_at hl 2 rfl) ?_
          refine lv_iload_n hx hb dX9_dip_73 rfl (lv_at hl 6 rfl) ?_
          refine lv_iload hx hb dX9_dip_74 (lv_at hl 0 rfl) ?_
          refine K_V ⟨hx, hb, hml, hown, hts⟩ (t_X8_dipIntoS l dC dI sa hlt g _ _ h0 vs cl ru va sA b.toNatClampNeg a.toNatClampNeg wk b_20 b_5 cq z_58 _ (hT.sub [3, 0, 1] rfl)  hs_62 hRG.2.1.1.2 hk6 hc9 (by rw [ra_eq (hF.2 cl hSR.1.1.2.2.2.1.1 1 _ _ hSR.1.1.2.2.2.1.2 (by decide))]; exact hcl_11) hbv_25) (cwV 4 hts gX9_dip_X8_dipInto rfl rfl rfl (by decide +kernel) ⟨Nat.le_of_ble_eq_true rfl, Nat.le_of_ble_eq_true rfl⟩) hP hD hK hS hA hev hT 3 8 rfl rfl rfl rfl hl.1 rfl (Nat.le_of_ble_eq_true rfl) dX9_dip_76 ⟨Nat.le_of_ble_eq_true rfl, Nat.le_of_ble_eq_true rfl⟩ (fun r L_66 f_67 H locs hw_68 hP hD hS hT hE1 => ?_)
          have hF := Fr.call hF hE hw_68.2.1 (by decide)
          have hE := hE.tr hE1
          obtain ⟨rfl, hw_68⟩ := hw_68
          obtain ⟨hfr_69, hex_70⟩ := hw_68
          have hs_71 := hex_70
          refine W.eq (g2 := F0 m 79 ls []) rfl ?_
          refine lv_iload hx hb dX9_dip_79 (lv_at hl 0 rfl) ?_
          refine vx_ret ?_
          exact K_i hx hb hr hlocks hP hD hK hS hT hE ⟨⟨_, rfl⟩, hF, ⟨_, _, (if_pos hC_8).trans ((if_pos hV_23).trans ((if_pos ⟨nlt_le c_27, nlt_le c_34⟩).trans (if_neg (by rintro (h9 | h9); exact c_50 h9; exact dyA_0.mpr h9 c_54)))), by rw [ez_58], by have h9 := hs_71; rw [ez_58] at h9; exact h9⟩⟩ (Nat.le_of_ble_eq_true rfl) (Nat.le_of_ble_eq_true rfl) dX9_dip_81
        · refine lv_iconst (v := (-1)) hx hb dX9_dip_53 (by decide) ?_
          refine vx_ret ?_
          exact K_i hx hb hr hlocks hP hD hK hS hT hE ⟨⟨_, rfl⟩, hF, ⟨-1, sA, (if_pos hC_8).trans ((if_pos hV_23).trans ((if_pos ⟨nlt_le c_27, nlt_le c_34⟩).trans (if_pos (Or.inr (dyA_0.mp c_54))))), rfl, hs_46⟩⟩ (Nat.le_of_ble_eq_true rfl) (Nat.le_of_ble_eq_true rfl) dX9_dip_54

noncomputable abbrev rm_X9_treatS : Room := { frames := 7, cells := 2, slots := 12, locals := 104 }
set_option maxHeartbeats 800000 in
set_option maxRecDepth 100000 in
theorem t_X9_treatS (l : Launch) (dC : Nat → ClassId) (dI : Nat → Nat → Nat) (sa : Nat → Nat) (hlt : l.stackTraces = false) (g : Nat → Nat) (L : List Nat) (f : Nat → va_E) (va : Nat → Nat) (sA : AS) (h0 : Nat) (a : Int32) (b : Int32) (wk : Nat) (vs : Nat) (cl : Nat) (ru : Nat) (sz : Nat) (hT : TP g L f [(h0, (0, 9, 0)), (wk, (0, 8, 0)), (vs, (2, g 2, 6)), (cl, (2, g 3, 30)), (ru, (0, 4, 0))]) (h_wk : rd f h0 0 = .ref wk) (h_vs : rd f wk 0 = .ref vs) (h_cl : rd f h0 1 = .ref cl) (h_ru : rd f h0 9 = .ref ru) (hSR : SR g L f (h0, wk, vs, cl, ru, va) sA) (hRG : RV sA ∧ RC sA ∧ 0 ≤ (sA.1 1).toInt ∧ (sA.1 1).toInt ≤ 9000000) : KX l dC dI sa g yX9_treat wsX9_treat rm_X9_treatS [.ref h0, .int a, .int b] L f sz (fun r L' f' => (∃ z : Int32, r = some (.int z)) ∧ Fr [(0, 2), (0, 3), (0, 4), (0, 5), (8, 2)] L f f' ∧ (∃ (v : Int32) (s2 : AS), trS a b sA = (0, v, s2) ∧ r = some (.int v) ∧ SR g L' f' (h0, wk, vs, cl, ru, va) s2)) (fun E L' f' => ((E = NSE ∧ trS a b sA = (1, 0, sA)) ∨ (E = IAE ∧ trS a b sA = (2, 0, sA))) ∧ Fr [] L f f') 2 12 := by
  refine KX.start (cc := cX9_treat) (maxL := 4) (ret := (some .int)) (by decide) rfl (Nat.le_of_ble_eq_true rfl) ?_
  intro p e s m below meth c ls hst hno hP hK hD hev hS hl
  obtain ⟨hx, hb, hr, hml, hts, hown, hlocks, hin⟩ := hst
  have hown : s.vm.findClass RX9 = some m.cls := hown
  have hin : meth.name = yX9_treat.name := hin
  have hA : ∀ q : Nat, s.heap.size ≤ q → va_A (va_pl L f) s.heap.size q := fun _ h => Or.inr h
  have hE : Ext L f L f := Ext.rf
  have hF : Fr [(0, 2), (0, 3), (0, 4), (0, 5), (8, 2)] L f f := Fr.rf
  have hF0 : Fr [] L f f := Fr.rf
  have hl : lv_has ls 4 [(0, .ref h0), (1, .int a), (2, .int b)] := hl
  have hT0 := hT
  refine lv_aload_n hx hb dX9_treat_0 rfl (lv_at hl 0 rfl) ?_
  refine lv_iload_n hx hb dX9_treat_1 rfl (lv_at hl 1 rfl) ?_
  refine K_VX ⟨hx, hb, hml, hown, hts⟩ (t_X9_clothAtX l dC dI sa hlt g _ _ wk vs ru va sA h0 a cl _ (hT.sub [0, 3] rfl)  ((hF.1 h0 (hT0.at 0 rfl).1 9 (hT0.at 0 rfl).2 1 (by decide)).trans h_cl) hSR hRG.2.1.1.2) (cwV 1 hts gX9_treat_X9_clothAt rfl rfl rfl (by decide +kernel) ⟨Nat.le_of_ble_eq_true rfl, Nat.le_of_ble_eq_true rfl⟩) hP hD hK hS hA hev hT 0 9 rfl rfl rfl rfl hl.1 rfl (Nat.le_of_ble_eq_true rfl) dX9_treat_2 ⟨Nat.le_of_ble_eq_true rfl, Nat.le_of_ble_eq_true rfl⟩ (fun E ce q9 L9 f9 H locs hpx hP hD hS hT hE1 hce hcv hcl => ?_) (fun r L_1 f_2 H locs hw_3 hP hD hS hT hE1 => ?_)
  · have hF := Fr.call hF0 hE hpx.2 (by decide)
    have hE := hE.tr hE1
    exact K_out hno hlocks ⟨Or.inl ⟨hpx.1.1, if_neg hpx.1.2⟩, hF⟩ hP hD hK hS hT hE hce hcv hcl (Nat.le_of_ble_eq_true rfl) (Nat.le_of_ble_eq_true rfl)
  have hF0 := Fr.call hF0 hE hw_3.2.1 (by decide)
  have hF := Fr.call hF hE hw_3.2.1 (by decide)
  have hE := hE.tr hE1
  obtain ⟨⟨v_4, rfl, hv9⟩, hw_3⟩ := hw_3
  obtain ⟨b_5, rfl, hb9⟩ := hv9
  have hT := hT.add hb9
  obtain ⟨hfr_6, hex_7⟩ := hw_3
  obtain ⟨hC_8, bq_9, hg_10, hcl_11⟩ := hex_7
  have hcl_11 : ra f cl a.toNatClampNeg = some b_5 := by have h9 := hg_10; injection h9 with h9; injection h9 with h9; rw [h9]; exact hcl_11
  have hc9 := (inC_c hC_8).2
  have hs_12 := SR.still hSR hE1 hfr_6 (by decide)
  refine W.eq (g2 := F0 m 5 ls [.ref b_5]) rfl ?_
  refine lv_astore_n (lv' := [(3, .ref b_5), (0, .ref h0), (1, .int a), (2, .int b)]) hx hb dX9_treat_5 rfl hl (by decide) rfl (fun ls hl => ?_)
  refine lv_iload_n hx hb dX9_treat_6 rfl (lv_at hl 3 rfl) ?_
  refine lv_if_lt (tgt := 19) hx hb dX9_treat_7 (by decide) (fun c_13 => ?_) (fun c_13 => ?_)
  · refine lv_iconst (v := 0) hx hb dX9_treat_19 (by decide) ?_
    refine K_SX ⟨hx, hb, hml, hown, hts⟩ (t_X9_demandX l dC dI sa hlt g _ _ 0 _ (hT.sub [] rfl)  ) (va_cwS 1 hts gX9_treat_X9_demand rfl rfl rfl (by decide +kernel) ⟨Nat.le_of_ble_eq_true rfl, Nat.le_of_ble_eq_true rfl⟩) hP hD hK hS hA hev hT rfl hl.1 rfl (Nat.le_of_ble_eq_true rfl) dX9_treat_20 ⟨Nat.le_of_ble_eq_true rfl, Nat.le_of_ble_eq_true rfl⟩ (fun E ce q9 L9 f9 H locs hpx hP hD hS hT hE1 hce hcv hcl => ?_) (fun r L_14 f_15 H locs hw_16 hP hD hS hT hE1 => ?_)
    · have hF := Fr.call hF0 hE hpx.2 (by decide)
      have hE := hE.tr hE1
      exact K_out hno hlocks ⟨Or.inr ⟨hpx.1.1, (if_pos hC_8).trans (if_neg (fun h9 => le_nlt h9.1 c_13))⟩, hF⟩ hP hD hK hS hT hE hce hcv hcl (Nat.le_of_ble_eq_true rfl) (Nat.le_of_ble_eq_true rfl)
    have hF0 := Fr.call hF0 hE hw_16.2.1 (by decide)
    have hF := Fr.call hF hE hw_16.2.1 (by decide)
    have hE := hE.tr hE1
    obtain ⟨rfl, hw_16⟩ := hw_16
    obtain ⟨hfr_17, hex_18⟩ := hw_16
    have hs_19 := SR.still hs_12 hE1 hfr_17 (by decide)
    refine W.eq (g2 := F0 m 23 ls []) rfl ?_
    exact absurd rfl hex_18
  · refine lv_iload_n hx hb dX9_treat_10 rfl (lv_at hl 3 rfl) ?_
    refine lv_iconst (v := 2) hx hb dX9_treat_11 (by decide) ?_
    refine lv_icmp_gt (tgt := 19) hx hb dX9_treat_12 (by decide) (fun c_20 => ?_) (fun c_20 => ?_)
    · refine lv_iconst (v := 0) hx hb dX9_treat_19 (by decide) ?_
      refine K_SX ⟨hx, hb, hml, hown, hts⟩ (t_X9_demandX l dC dI sa hlt g _ _ 0 _ (hT.sub [] rfl)  ) (va_cwS 1 hts gX9_treat_X9_demand rfl rfl rfl (by decide +kernel) ⟨Nat.le_of_ble_eq_true rfl, Nat.le_of_ble_eq_true rfl⟩) hP hD hK hS hA hev hT rfl hl.1 rfl (Nat.le_of_ble_eq_true rfl) dX9_treat_20 ⟨Nat.le_of_ble_eq_true rfl, Nat.le_of_ble_eq_true rfl⟩ (fun E ce q9 L9 f9 H locs hpx hP hD hS hT hE1 hce hcv hcl => ?_) (fun r L_21 f_22 H locs hw_23 hP hD hS hT hE1 => ?_)
      · have hF := Fr.call hF0 hE hpx.2 (by decide)
        have hE := hE.tr hE1
        exact K_out hno hlocks ⟨Or.inr ⟨hpx.1.1, (if_pos hC_8).trans (if_neg (fun h9 => le_nlt h9.2 c_20))⟩, hF⟩ hP hD hK hS hT hE hce hcv hcl (Nat.le_of_ble_eq_true rfl) (Nat.le_of_ble_eq_true rfl)
      have hF0 := Fr.call hF0 hE hw_23.2.1 (by decide)
      have hF := Fr.call hF hE hw_23.2.1 (by decide)
      have hE := hE.tr hE1
      obtain ⟨rfl, hw_23⟩ := hw_23
      obtain ⟨hfr_24, hex_25⟩ := hw_23
      have hs_26 := SR.still hs_12 hE1 hfr_24 (by decide)
      refine W.eq (g2 := F0 m 23 ls []) rfl ?_
      exact absurd rfl hex_25
    · refine lv_iconst (v := 1) hx hb dX9_treat_15 (by decide) ?_
      refine lv_goto (tgt := 20) hx hb dX9_treat_16 (by decide) ?_
      refine K_SX ⟨hx, hb, hml, hown, hts⟩ (t_X9_demandX l dC dI sa hlt g _ _ 1 _ (hT.sub [] rfl)  ) (va_cwS 1 hts gX9_treat_X9_demand rfl rfl rfl (by decide +kernel) ⟨Nat.le_of_ble_eq_true rfl, Nat.le_of_ble_eq_true rfl⟩) hP hD hK hS hA hev hT rfl hl.1 rfl (Nat.le_of_ble_eq_true rfl) dX9_treat_20 ⟨Nat.le_of_ble_eq_true rfl, Nat.le_of_ble_eq_true rfl⟩ (fun E ce q9 L9 f9 H locs hpx hP hD hS hT hE1 hce hcv hcl => ?_) (fun r L_27 f_28 H locs hw_29 hP hD hS hT hE1 => ?_)
      · have hF := Fr.call hF0 hE hpx.2 (by decide)
        have hE := hE.tr hE1
        exact absurd hpx.1.2 (by decide)
      have hF0 := Fr.call hF0 hE hw_29.2.1 (by decide)
      have hF := Fr.call hF hE hw_29.2.1 (by decide)
      have hE := hE.tr hE1
      obtain ⟨rfl, hw_29⟩ := hw_29
      obtain ⟨hfr_30, hex_31⟩ := hw_29
      have hs_32 := SR.still hs_12 hE1 hfr_30 (by decide)
      refine W.eq (g2 := F0 m 23 ls []) rfl ?_
      refine lv_aload_n hx hb dX9_treat_23 rfl (lv_at hl 0 rfl) ?_
      refine T_get (ci := 0) (C := RX0) (T := TX0) (N := 8) (t := tI) hx hb hts inw_X9_treat_0 hown hK hP hT 0 rfl rfl 4 (by decide) (hts (.fieldLink RX9 102 "VatHouse$Cloth" "dry" "Z") (List.mem_of_getElem? (i := 1) (by exact rfl))) (fun _ h9 => h9) rfl dX9_treat_24 (fun v_35 hv_33 hr_34 => ?_)
      obtain rfl : v_35 = .int (dyA (sA.2 16 a.toNatClampNeg)) := hr_34.symm.trans (SR.cf4 hs_32 hc9 (by rw [ra_eq (hF.2 cl hSR.1.1.2.2.2.1.1 1 _ _ hSR.1.1.2.2.2.1.2 (by decide))]; exact hcl_11))
      refine lv_if_eq (tgt := 32) hx hb dX9_treat_27 (by decide) (fun c_36 => ?_) (fun c_36 => ?_)
      · refine lv_iload_n hx hb dX9_treat_32 rfl (lv_at hl 3 rfl) ?_
        by_cases c_37 : b = 0
        · refine lv_lookup (tgt := 60) hx hb dX9_treat_33 (by decide) (off := 27) (by rw [c_37]; rfl) (by decide) ?_
          refine lv_aload_n hx hb dX9_treat_60 rfl (lv_at hl 1 rfl) ?_
          refine T_get (ci := 9) (C := RX9) (T := TX9) (N := 11) (t := (1, 0, 8, 0)) hx hb hts inw_X9_treat_9 hown hK hP hT 1 rfl rfl 0 (by decide) (hts (.fieldLink RX9 10 "VatHouse" "works" "LVatHouse$Works;") (List.mem_of_getElem? (i := 2) (by exact rfl))) (fun _ h9 => h9) rfl dX9_treat_61 (fun v_40 hv_38 hr_39 => ?_)
          obtain rfl : v_40 = .ref wk := hr_39.symm.trans ((hF.1 h0 (hT0.at 0 rfl).1 9 (hT0.at 0 rfl).2 0 (by decide)).trans h_wk)
          refine lv_aload_n hx hb dX9_treat_64 rfl (lv_at hl 0 rfl) ?_
          refine K_V ⟨hx, hb, hml, hown, hts⟩ (t_X8_airOutS l dC dI sa hlt g _ _ h0 vs cl ru va sA a.toNatClampNeg wk b_5 _ (hT.sub [2, 0] rfl)  hs_32 hRG.2.1.1.2 hc9 (by rw [ra_eq (hF.2 cl hSR.1.1.2.2.2.1.1 1 _ _ hSR.1.1.2.2.2.1.2 (by decide))]; exact hcl_11)) (cwV 1 hts gX9_treat_X8_airOut rfl rfl rfl (by decide +kernel) ⟨Nat.le_of_ble_eq_true rfl, Nat.le_of_ble_eq_true rfl⟩) hP hD hK hS hA hev hT 2 8 rfl rfl rfl rfl hl.1 rfl (Nat.le_of_ble_eq_true rfl) dX9_treat_65 ⟨Nat.le_of_ble_eq_true rfl, Nat.le_of_ble_eq_true rfl⟩ (fun r L_41 f_42 H locs hw_43 hP hD hS hT hE1 => ?_)
          have hF := Fr.call hF hE hw_43.2.1 (by decide)
          have hE := hE.tr hE1
          obtain ⟨⟨z_44, rfl⟩, hw_43⟩ := hw_43
          obtain ⟨hfr_45, hex_46⟩ := hw_43
          obtain ⟨hg_47, hs_48⟩ := hex_46
          refine W.eq (g2 := F0 m 68 ls [.int z_44]) rfl ?_
          refine vx_ret ?_
          exact K_i hx hb hr hlocks hP hD hK hS hT hE ⟨⟨_, rfl⟩, hF, ⟨_, _, (if_pos hC_8).trans ((if_pos ⟨nlt_le c_13, nlt_le c_20⟩).trans ((if_neg (fun h9 => dyA_0.mpr h9 c_36)).trans (if_pos c_37))), (by rw [sv hg_47]), hs_48⟩⟩ (Nat.le_of_ble_eq_true rfl) (Nat.le_of_ble_eq_true rfl) dX9_treat_68
        by_cases c_49 : b = 1
        · refine lv_lookup (tgt := 69) hx hb dX9_treat_33 (by decide) (off := 36) (by rw [c_49]; rfl) (by decide) ?_
          refine lv_aload_n hx hb dX9_treat_69 rfl (lv_at hl 1 rfl) ?_
          refine T_get (ci := 9) (C := RX9) (T := TX9) (N := 11) (t := (1, 0, 8, 0)) hx hb hts inw_X9_treat_9 hown hK hP hT 1 rfl rfl 0 (by decide) (hts (.fieldLink RX9 10 "VatHouse" "works" "LVatHouse$Works;") (List.mem_of_getElem? (i := 2) (by exact rfl))) (fun _ h9 => h9) rfl dX9_treat_70 (fun v_52 hv_50 hr_51 => ?_)
          obtain rfl : v_52 = .ref wk := hr_51.symm.trans ((hF.1 h0 (hT0.at 0 rfl).1 9 (hT0.at 0 rfl).2 0 (by decide)).trans h_wk)
          refine lv_aload_n hx hb dX9_treat_73 rfl (lv_at hl 0 rfl) ?_
          refine K_V ⟨hx, hb, hml, hown, hts⟩ (t_X8_washOutS l dC dI sa hlt g _ _ h0 vs cl ru va sA a.toNatClampNeg wk b_5 _ (hT.sub [2, 0] rfl)  hs_32 hRG.2.1.1.2 hc9 (by rw [ra_eq (hF.2 cl hSR.1.1.2.2.2.1.1 1 _ _ hSR.1.1.2.2.2.1.2 (by decide))]; exact hcl_11)) (cwV 1 hts gX9_treat_X8_washOut rfl rfl rfl (by decide +kernel) ⟨Nat.le_of_ble_eq_true rfl, Nat.le_of_ble_eq_true rfl⟩) hP hD hK hS hA hev hT 2 8 rfl rfl rfl rfl hl.1 rfl (Nat.le_of_ble_eq_true rfl) dX9_treat_74 ⟨Nat.le_of_ble_eq_true rfl, Nat.le_of_ble_eq_true rfl⟩ (fun r L_53 f_54 H locs hw_55 hP hD hS hT hE1 => ?_)
          have hF := Fr.call hF hE hw_55.2.1 (by decide)
          have hE := hE.tr hE1
          obtain ⟨⟨z_56, rfl⟩, hw_55⟩ := hw_55
          obtain ⟨hfr_57, hex_58⟩ := hw_55
          obtain ⟨hg_59, hs_60⟩ := hex_58
          refine W.eq (g2 := F0 m 77 ls [.int z_56]) rfl ?_
          refine vx_ret ?_
          exact K_i hx hb hr hlocks hP hD hK hS hT hE ⟨⟨_, rfl⟩, hF, ⟨_, _, (if_pos hC_8).trans ((if_pos ⟨nlt_le c_13, nlt_le c_20⟩).trans ((if_neg (fun h9 => dyA_0.mpr h9 c_36)).trans ((if_neg c_37).trans (if_pos c_49)))), (by rw [sv hg_59]), hs_60⟩⟩ (Nat.le_of_ble_eq_true rfl) (Nat.le_of_ble_eq_true rfl) dX9_treat_77
        refine lv_lookup (tgt := 78) hx hb dX9_treat_33 (by decide) (off := 45) (look_out2 c_37 c_49) (by decide) ?_
        refine lv_aload_n hx hb dX9_treat_78 rfl (lv_at hl 1 rfl) ?_
        refine T_get (ci := 9) (C := RX9) (T := TX9) (N := 11) (t := (1, 0, 8, 0)) hx hb hts inw_X9_treat_9 hown hK hP hT 1 rfl rfl 0 (by decide) (hts (.fieldLink RX9 10 "VatHouse" "works" "LVatHouse$Works;") (List.mem_of_getElem? (i := 2) (by exact rfl))) (fun _ h9 => h9) rfl dX9_treat_79 (fun v_63 hv_61 hr_62 => ?_)
        obtain rfl : v_63 = .ref wk := hr_62.symm.trans ((hF.1 h0 (hT0.at 0 rfl).1 9 (hT0.at 0 rfl).2 0 (by decide)).trans h_wk)
        refine lv_aload_n hx hb dX9_treat_82 rfl (lv_at hl 0 rfl) ?_
        refine K_V ⟨hx, hb, hml, hown, hts⟩ (t_X8_dryOutS l dC dI sa hlt g _ _ h0 vs cl ru va sA a.toNatClampNeg wk b_5 _ (hT.sub [2, 0] rfl)  hs_32 hRG.2.1.1.2 hc9 (by rw [ra_eq (hF.2 cl hSR.1.1.2.2.2.1.1 1 _ _ hSR.1.1.2.2.2.1.2 (by decide))]; exact hcl_11) (h24_of hRG.2.2.1)) (cwV 1 hts gX9_treat_X8_dryOut rfl rfl rfl (by decide +kernel) ⟨Nat.le_of_ble_eq_true rfl, Nat.le_of_ble_eq_true rfl⟩) hP hD hK hS hA hev hT 2 8 rfl rfl rfl rfl hl.1 rfl (Nat.le_of_ble_eq_true rfl) dX9_treat_83 ⟨Nat.le_of_ble_eq_true rfl, Nat.le_of_ble_eq_true rfl⟩ (fun r L_64 f_65 H locs hw_66 hP hD hS hT hE1 => ?_)
        have hF := Fr.call hF hE hw_66.2.1 (by decide)
        have hE := hE.tr hE1
        obtain ⟨⟨z_67, rfl⟩, hw_66⟩ := hw_66
        obtain ⟨hfr_68, hex_69⟩ := hw_66
        obtain ⟨hg_70, hs_71⟩ := hex_69
        refine W.eq (g2 := F0 m 86 ls [.int z_67]) rfl ?_
        refine vx_ret ?_
        exact K_i hx hb hr hlocks hP hD hK hS hT hE ⟨⟨_, rfl⟩, hF, ⟨_, _, (if_pos hC_8).trans ((if_pos ⟨nlt_le c_13, nlt_le c_20⟩).trans ((if_neg (fun h9 => dyA_0.mpr h9 c_36)).trans ((if_neg c_37).trans (if_neg c_49)))), (by rw [sv hg_70]), hs_71⟩⟩ (Nat.le_of_ble_eq_true rfl) (Nat.le_of_ble_eq_true rfl) dX9_treat_86
      · refine lv_iconst (v := (-1)) hx hb dX9_treat_30 (by decide) ?_
        refine vx_ret ?_
        exact K_i hx hb hr hlocks hP hD hK hS hT hE ⟨⟨_, rfl⟩, hF, ⟨-1, sA, (if_pos hC_8).trans ((if_pos ⟨nlt_le c_13, nlt_le c_20⟩).trans (if_pos (dyA_0.mp c_36))), rfl, hs_32⟩⟩ (Nat.le_of_ble_eq_true rfl) (Nat.le_of_ble_eq_true rfl) dX9_treat_31

noncomputable abbrev rm_X9_fadedS : Room := { frames := 7, cells := 2, slots := 12, locals := 104 }
set_option maxHeartbeats 800000 in
set_option maxRecDepth 100000 in
theorem t_X9_fadedS (l : Launch) (dC : Nat → ClassId) (dI : Nat → Nat → Nat) (sa : Nat → Nat) (hlt : l.stackTraces = false) (g : Nat → Nat) (L : List Nat) (f : Nat → va_E) (va : Nat → Nat) (sA : AS) (h0 : Nat) (a : Int32) (b : Int32) (cq : Int32) (wk : Nat) (vs : Nat) (cl : Nat) (ru : Nat) (sz : Nat) (hT : TP g L f [(h0, (0, 9, 0)), (wk, (0, 8, 0)), (vs, (2, g 2, 6)), (cl, (2, g 3, 30)), (ru, (0, 4, 0))]) (h_wk : rd f h0 0 = .ref wk) (h_vs : rd f wk 0 = .ref vs) (h_cl : rd f h0 1 = .ref cl) (h_ru : rd f h0 9 = .ref ru) (hSR : SR g L f (h0, wk, vs, cl, ru, va) sA) (hRG : RV sA ∧ RC sA ∧ 0 ≤ (sA.1 1).toInt ∧ (sA.1 1).toInt ≤ 9000000) : KX l dC dI sa g yX9_faded wsX9_faded rm_X9_fadedS [.ref h0, .int a, .int b, .int cq] L f sz (fun r L' f' => (∃ z : Int32, r = some (.int z)) ∧ Fr [] L f f' ∧ (∃ (v : Int32) (s2 : AS), faS a b cq sA = (0, v, s2) ∧ r = some (.int v) ∧ SR g L' f' (h0, wk, vs, cl, ru, va) s2)) (fun E L' f' => ((E = NSE ∧ faS a b cq sA = (1, 0, sA)) ∨ (E = IAE ∧ faS a b cq sA = (2, 0, sA))) ∧ Fr [] L f f') 2 12 := by
  refine KX.start (cc := cX9_faded) (maxL := 5) (ret := (some .int)) (by decide) rfl (Nat.le_of_ble_eq_true rfl) ?_
  intro p e s m below meth c ls hst hno hP hK hD hev hS hl
  obtain ⟨hx, hb, hr, hml, hts, hown, hlocks, hin⟩ := hst
  have hown : s.vm.findClass RX9 = some m.cls := hown
  have hin : meth.name = yX9_faded.name := hin
  have hA : ∀ q : Nat, s.heap.size ≤ q → va_A (va_pl L f) s.heap.size q := fun _ h => Or.inr h
  have hE : Ext L f L f := Ext.rf
  have hF : Fr [] L f f := Fr.rf
  have hF0 : Fr [] L f f := Fr.rf
  have hl : lv_has ls 5 [(0, .ref h0), (1, .int a), (2, .int b), (3, .int cq)] := hl
  have hT0 := hT
  refine lv_aload_n hx hb dX9_faded_0 rfl (lv_at hl 0 rfl) ?_
  refine lv_iload_n hx hb dX9_faded_1 rfl (lv_at hl 1 rfl) ?_
  refine K_VX ⟨hx, hb, hml, hown, hts⟩ (t_X9_clothAtX l dC dI sa hlt g _ _ wk vs ru va sA h0 a cl _ (hT.sub [0, 3] rfl)  ((hF.1 h0 (hT0.at 0 rfl).1 9 (hT0.at 0 rfl).2 1 (by decide)).trans h_cl) hSR hRG.2.1.1.2) (cwV 1 hts gX9_faded_X9_clothAt rfl rfl rfl (by decide +kernel) ⟨Nat.le_of_ble_eq_true rfl, Nat.le_of_ble_eq_true rfl⟩) hP hD hK hS hA hev hT 0 9 rfl rfl rfl rfl hl.1 rfl (Nat.le_of_ble_eq_true rfl) dX9_faded_2 ⟨Nat.le_of_ble_eq_true rfl, Nat.le_of_ble_eq_true rfl⟩ (fun E ce q9 L9 f9 H locs hpx hP hD hS hT hE1 hce hcv hcl => ?_) (fun r L_1 f_2 H locs hw_3 hP hD hS hT hE1 => ?_)
  · have hF := Fr.call hF0 hE hpx.2 (by decide)
    have hE := hE.tr hE1
    exact K_out hno hlocks ⟨Or.inl ⟨hpx.1.1, if_neg hpx.1.2⟩, hF⟩ hP hD hK hS hT hE hce hcv hcl (Nat.le_of_ble_eq_true rfl) (Nat.le_of_ble_eq_true rfl)
  have hF0 := Fr.call hF0 hE hw_3.2.1 (by decide)
  have hF := Fr.call hF hE hw_3.2.1 (by decide)
  have hE := hE.tr hE1
  obtain ⟨⟨v_4, rfl, hv9⟩, hw_3⟩ := hw_3
  obtain ⟨b_5, rfl, hb9⟩ := hv9
  have hT := hT.add hb9
  obtain ⟨hfr_6, hex_7⟩ := hw_3
  obtain ⟨hC_8, bq_9, hg_10, hcl_11⟩ := hex_7
  have hcl_11 : ra f cl a.toNatClampNeg = some b_5 := by have h9 := hg_10; injection h9 with h9; injection h9 with h9; rw [h9]; exact hcl_11
  have hc9 := (inC_c hC_8).2
  have hs_12 := SR.still hSR hE1 hfr_6 (by decide)
  refine W.eq (g2 := F0 m 5 ls [.ref b_5]) rfl ?_
  refine lv_astore (lv' := [(4, .ref b_5), (0, .ref h0), (1, .int a), (2, .int b), (3, .int cq)]) hx hb dX9_faded_5 hl (by decide) rfl (fun ls hl => ?_)
  refine lv_iload_n hx hb dX9_faded_7 rfl (lv_at hl 4 rfl) ?_
  refine lv_if_lt (tgt := 30) hx hb dX9_faded_8 (by decide) (fun c_13 => ?_) (fun c_13 => ?_)
  · refine lv_iconst (v := 0) hx hb dX9_faded_30 (by decide) ?_
    refine K_SX ⟨hx, hb, hml, hown, hts⟩ (t_X9_demandX l dC dI sa hlt g _ _ 0 _ (hT.sub [] rfl)  ) (va_cwS 1 hts gX9_faded_X9_demand rfl rfl rfl (by decide +kernel) ⟨Nat.le_of_ble_eq_true rfl, Nat.le_of_ble_eq_true rfl⟩) hP hD hK hS hA hev hT rfl hl.1 rfl (Nat.le_of_ble_eq_true rfl) dX9_faded_31 ⟨Nat.le_of_ble_eq_true rfl, Nat.le_of_ble_eq_true rfl⟩ (fun E ce q9 L9 f9 H locs hpx hP hD hS hT hE1 hce hcv hcl => ?_) (fun r L_14 f_15 H locs hw_16 hP hD hS hT hE1 => ?_)
    · have hF := Fr.call hF0 hE hpx.2 (by decide)
      have hE := hE.tr hE1
      exact K_out hno hlocks ⟨Or.inr ⟨hpx.1.1, (if_pos hC_8).trans (if_neg (fun h9 => le_nlt h9.1.1 c_13))⟩, hF⟩ hP hD hK hS hT hE hce hcv hcl (Nat.le_of_ble_eq_true rfl) (Nat.le_of_ble_eq_true rfl)
    have hF0 := Fr.call hF0 hE hw_16.2.1 (by decide)
    have hF := Fr.call hF hE hw_16.2.1 (by decide)
    have hE := hE.tr hE1
    obtain ⟨rfl, hw_16⟩ := hw_16
    obtain ⟨hfr_17, hex_18⟩ := hw_16
    have hs_19 := SR.still hs_12 hE1 hfr_17 (by decide)
    refine W.eq (g2 := F0 m 34 ls []) rfl ?_
    exact absurd rfl hex_18
  · refine lv_iload_n hx hb dX9_faded_11 rfl (lv_at hl 4 rfl) ?_
    refine lv_iconst (v := 1) hx hb dX9_faded_12 (by decide) ?_
    refine lv_icmp_gt (tgt := 30) hx hb dX9_faded_13 (by decide) (fun c_20 => ?_) (fun c_20 => ?_)
    · refine lv_iconst (v := 0) hx hb dX9_faded_30 (by decide) ?_
      refine K_SX ⟨hx, hb, hml, hown, hts⟩ (t_X9_demandX l dC dI sa hlt g _ _ 0 _ (hT.sub [] rfl)  ) (va_cwS 1 hts gX9_faded_X9_demand rfl rfl rfl (by decide +kernel) ⟨Nat.le_of_ble_eq_true rfl, Nat.le_of_ble_eq_true rfl⟩) hP hD hK hS hA hev hT rfl hl.1 rfl (Nat.le_of_ble_eq_true rfl) dX9_faded_31 ⟨Nat.le_of_ble_eq_true rfl, Nat.le_of_ble_eq_true rfl⟩ (fun E ce q9 L9 f9 H locs hpx hP hD hS hT hE1 hce hcv hcl => ?_) (fun r L_21 f_22 H locs hw_23 hP hD hS hT hE1 => ?_)
      · have hF := Fr.call hF0 hE hpx.2 (by decide)
        have hE := hE.tr hE1
        exact K_out hno hlocks ⟨Or.inr ⟨hpx.1.1, (if_pos hC_8).trans (if_neg (fun h9 => le_nlt h9.1.2 c_20))⟩, hF⟩ hP hD hK hS hT hE hce hcv hcl (Nat.le_of_ble_eq_true rfl) (Nat.le_of_ble_eq_true rfl)
      have hF0 := Fr.call hF0 hE hw_23.2.1 (by decide)
      have hF := Fr.call hF hE hw_23.2.1 (by decide)
      have hE := hE.tr hE1
      obtain ⟨rfl, hw_23⟩ := hw_23
      obtain ⟨hfr_24, hex_25⟩ := hw_23
      have hs_26 := SR.still hs_12 hE1 hfr_24 (by decide)
      refine W.eq (g2 := F0 m 34 ls []) rfl ?_
      exact absurd rfl hex_25
    · refine lv_iload_n hx hb dX9_faded_16 rfl (lv_at hl 3 rfl) ?_
      refine lv_if_lt (tgt := 30) hx hb dX9_faded_17 (by decide) (fun c_27 => ?_) (fun c_27 => ?_)
      · refine lv_iconst (v := 0) hx hb dX9_faded_30 (by decide) ?_
        refine K_SX ⟨hx, hb, hml, hown, hts⟩ (t_X9_demandX l dC dI sa hlt g _ _ 0 _ (hT.sub [] rfl)  ) (va_cwS 1 hts gX9_faded_X9_demand rfl rfl rfl (by decide +kernel) ⟨Nat.le_of_ble_eq_true rfl, Nat.le_of_ble_eq_true rfl⟩) hP hD hK hS hA hev hT rfl hl.1 rfl (Nat.le_of_ble_eq_true rfl) dX9_faded_31 ⟨Nat.le_of_ble_eq_true rfl, Nat.le_of_ble_eq_true rfl⟩ (fun E ce q9 L9 f9 H locs hpx hP hD hS hT hE1 hce hcv hcl => ?_) (fun r L_28 f_29 H locs hw_30 hP hD hS hT hE1 => ?_)
        · have hF := Fr.call hF0 hE hpx.2 (by decide)
          have hE := hE.tr hE1
          exact K_out hno hlocks ⟨Or.inr ⟨hpx.1.1, (if_pos hC_8).trans (if_neg (fun h9 => le_nlt h9.2.1 c_27))⟩, hF⟩ hP hD hK hS hT hE hce hcv hcl (Nat.le_of_ble_eq_true rfl) (Nat.le_of_ble_eq_true rfl)
        have hF0 := Fr.call hF0 hE hw_30.2.1 (by decide)
        have hF := Fr.call hF hE hw_30.2.1 (by decide)
        have hE := hE.tr hE1
        obtain ⟨rfl, hw_30⟩ := hw_30
        obtain ⟨hfr_31, hex_32⟩ := hw_30
        have hs_33 := SR.still hs_12 hE1 hfr_31 (by decide)
        refine W.eq (g2 := F0 m 34 ls []) rfl ?_
        exact absurd rfl hex_32
      · refine lv_iload_n hx hb dX9_faded_20 rfl (lv_at hl 3 rfl) ?_
        refine lv_ldc (v := 1000000) hx hb hown (hts (.constant RX9 61 (1000000)) (List.mem_of_getElem? (i := 1) (by exact rfl))) dX9_faded_21 ?_
        refine lv_icmp_gt (tgt := 30) hx hb dX9_faded_23 (by decide) (fun c_34 => ?_) (fun c_34 => ?_)
        · refine lv_iconst (v := 0) hx hb dX9_faded_30 (by decide) ?_
          refine K_SX ⟨hx, hb, hml, hown, hts⟩ (t_X9_demandX l dC dI sa hlt g _ _ 0 _ (hT.sub [] rfl)  ) (va_cwS 1 hts gX9_faded_X9_demand rfl rfl rfl (by decide +kernel) ⟨Nat.le_of_ble_eq_true rfl, Nat.le_of_ble_eq_true rfl⟩) hP hD hK hS hA hev hT rfl hl.1 rfl (Nat.le_of_ble_eq_true rfl) dX9_faded_31 ⟨Nat.le_of_ble_eq_true rfl, Nat.le_of_ble_eq_true rfl⟩ (fun E ce q9 L9 f9 H locs hpx hP hD hS hT hE1 hce hcv hcl => ?_) (fun r L_35 f_36 H locs hw_37 hP hD hS hT hE1 => ?_)
          · have hF := Fr.call hF0 hE hpx.2 (by decide)
            have hE := hE.tr hE1
            exact K_out hno hlocks ⟨Or.inr ⟨hpx.1.1, (if_pos hC_8).trans (if_neg (fun h9 => le_nlt h9.2.2 c_34))⟩, hF⟩ hP hD hK hS hT hE hce hcv hcl (Nat.le_of_ble_eq_true rfl) (Nat.le_of_ble_eq_true rfl)
          have hF0 := Fr.call hF0 hE hw_37.2.1 (by decide)
          have hF := Fr.call hF hE hw_37.2.1 (by decide)
          have hE := hE.tr hE1
          obtain ⟨rfl, hw_37⟩ := hw_37
          obtain ⟨hfr_38, hex_39⟩ := hw_37
          have hs_40 := SR.still hs_12 hE1 hfr_38 (by decide)
          refine W.eq (g2 := F0 m 34 ls []) rfl ?_
          exact absurd rfl hex_39
        · refine lv_iconst (v := 1) hx hb dX9_faded_26 (by decide) ?_
          refine lv_goto (tgt := 31) hx hb dX9_faded_27 (by decide) ?_
          refine K_SX ⟨hx, hb, hml, hown, hts⟩ (t_X9_demandX l dC dI sa hlt g _ _ 1 _ (hT.sub [] rfl)  ) (va_cwS 1 hts gX9_faded_X9_demand rfl rfl rfl (by decide +kernel) ⟨Nat.le_of_ble_eq_true rfl, Nat.le_of_ble_eq_true rfl⟩) hP hD hK hS hA hev hT rfl hl.1 rfl (Nat.le_of_ble_eq_true rfl) dX9_faded_31 ⟨Nat.le_of_ble_eq_true rfl, Nat.le_of_ble_eq_true rfl⟩ (fun E ce q9 L9 f9 H locs hpx hP hD hS hT hE1 hce hcv hcl => ?_) (fun r L_41 f_42 H locs hw_43 hP hD hS hT hE1 => ?_)
          · have hF := Fr.call hF0 hE hpx.2 (by decide)
            have hE := hE.tr hE1
            exact absurd hpx.1.2 (by decide)
          have hF0 := Fr.call hF0 hE hw_43.2.1 (by decide)
          have hF := Fr.call hF hE hw_43.2.1 (by decide)
          have hE := hE.tr hE1
          obtain ⟨rfl, hw_43⟩ := hw_43
          obtain ⟨hfr_44, hex_45⟩ := hw_43
          have hs_46 := SR.still hs_12 hE1 hfr_44 (by decide)
          refine W.eq (g2 := F0 m 34 ls []) rfl ?_
          refine lv_aload hx hb dX9_faded_34 (lv_at hl 0 rfl) ?_
          refine lv_iload_n hx hb dX9_faded_36 rfl (lv_at hl 3 rfl) ?_
          refine K_V ⟨hx, hb, hml, hown, hts⟩ (t_X0_hasSpanS l dC dI sa hlt g _ _ h0 wk vs cl ru va sA a.toNatClampNeg b_5 b _ (hT.sub [0] rfl)  hs_46 hc9 (by rw [ra_eq (hF.2 cl hSR.1.1.2.2.2.1.1 1 _ _ hSR.1.1.2.2.2.1.2 (by decide))]; exact hcl_11)) (cwV 1 hts gX9_faded_X0_hasSpan rfl rfl rfl (by decide +kernel) ⟨Nat.le_of_ble_eq_true rfl, Nat.le_of_ble_eq_true rfl⟩) hP hD hK hS hA hev hT 0 0 rfl rfl rfl rfl hl.1 rfl (Nat.le_of_ble_eq_true rfl) dX9_faded_37 ⟨Nat.le_of_ble_eq_true rfl, Nat.le_of_ble_eq_true rfl⟩ (fun r L_47 f_48 H locs hw_49 hP hD hS hT hE1 => ?_)
          have hF0 := Fr.call hF0 hE hw_49.2 (by decide)
          have hF := Fr.call hF hE hw_49.2 (by decide)
          have hE := hE.tr hE1
          obtain ⟨⟨rfl, hz2_50⟩ | ⟨rfl, hz2_50⟩, hw_49⟩ := hw_49
          · obtain ⟨hh_51, hs_52⟩ := hz2_50
            refine W.eq (g2 := F0 m 40 ls [.int 0]) rfl ?_
            refine lv_if_ne (tgt := 45) hx hb dX9_faded_40 (by decide) (fun c_53 => ?_) (fun c_53 => ?_)
            · exact absurd c_53 (by decide)
            refine lv_iconst (v := (-1)) hx hb dX9_faded_43 (by decide) ?_
            refine vx_ret ?_
            exact K_i hx hb hr hlocks hP hD hK hS hT hE ⟨⟨_, rfl⟩, hF, ⟨-1, sA, (if_pos hC_8).trans ((if_pos ⟨⟨nlt_le c_13, nlt_le c_20⟩, nlt_le c_27, nlt_le c_34⟩).trans (if_neg hh_51)), rfl, hs_52⟩⟩ (Nat.le_of_ble_eq_true rfl) (Nat.le_of_ble_eq_true rfl) dX9_faded_44
          · obtain ⟨hh_54, hs_55⟩ := hz2_50
            refine W.eq (g2 := F0 m 40 ls [.int 1]) rfl ?_
            refine lv_if_ne (tgt := 45) hx hb dX9_faded_40 (by decide) (fun c_56 => ?_) (fun c_56 => ?_)
            rotate_left
            · exact absurd c_56 (by decide)
            refine lv_iload_n hx hb dX9_faded_45 rfl (lv_at hl 4 rfl) ?_
            refine lv_if_ne (tgt := 58) hx hb dX9_faded_46 (by decide) (fun c_57 => ?_) (fun c_57 => ?_)
            · refine lv_aload hx hb dX9_faded_58 (lv_at hl 0 rfl) ?_
              refine lv_iload_n hx hb dX9_faded_60 rfl (lv_at hl 3 rfl) ?_
              refine K_V ⟨hx, hb, hml, hown, hts⟩ (t_X0_greatestShadeS l dC dI sa hlt g _ _ h0 wk vs cl ru va sA a.toNatClampNeg b_5 b _ (hT.sub [0] rfl)  hs_55 hc9 (by rw [ra_eq (hF.2 cl hSR.1.1.2.2.2.1.1 1 _ _ hSR.1.1.2.2.2.1.2 (by decide))]; exact hcl_11) (we_of (hRG.2.1.2 _ hc9).1).2) (cwV 1 hts gX9_faded_X0_greatestShade rfl rfl rfl (by decide +kernel) ⟨Nat.le_of_ble_eq_true rfl, Nat.le_of_ble_eq_true rfl⟩) hP hD hK hS hA hev hT 0 0 rfl rfl rfl rfl hl.1 rfl (Nat.le_of_ble_eq_true rfl) dX9_faded_61 ⟨Nat.le_of_ble_eq_true rfl, Nat.le_of_ble_eq_true rfl⟩ (fun r L_58 f_59 H locs hw_60 hP hD hS hT hE1 => ?_)
              have hF0 := Fr.call hF0 hE hw_60.2.1 (by decide)
              have hF := Fr.call hF hE hw_60.2.1 (by decide)
              have hE := hE.tr hE1
              obtain ⟨⟨z_61, rfl⟩, hw_60⟩ := hw_60
              obtain ⟨hfr_62, hex_63⟩ := hw_60
              obtain ⟨hg_64, hs_65⟩ := hex_63
              refine W.eq (g2 := F0 m 64 ls [.int z_61]) rfl ?_
              refine vx_ret ?_
              exact K_i hx hb hr hlocks hP hD hK hS hT hE ⟨⟨_, rfl⟩, hF, ⟨_, _, (if_pos hC_8).trans ((if_pos ⟨⟨nlt_le c_13, nlt_le c_20⟩, nlt_le c_27, nlt_le c_34⟩).trans (if_pos hh_54)), by rw [if_neg c_57]; exact (by rw [sv hg_64]), hs_65⟩⟩ (Nat.le_of_ble_eq_true rfl) (Nat.le_of_ble_eq_true rfl) dX9_faded_64
            · refine lv_aload hx hb dX9_faded_49 (lv_at hl 0 rfl) ?_
              refine lv_iload_n hx hb dX9_faded_51 rfl (lv_at hl 3 rfl) ?_
              refine K_V ⟨hx, hb, hml, hown, hts⟩ (t_X0_leastShadeS l dC dI sa hlt g _ _ h0 wk vs cl ru va sA a.toNatClampNeg b_5 b _ (hT.sub [0] rfl)  hs_55 hc9 (by rw [ra_eq (hF.2 cl hSR.1.1.2.2.2.1.1 1 _ _ hSR.1.1.2.2.2.1.2 (by decide))]; exact hcl_11) (we_of (hRG.2.1.2 _ hc9).1).2) (cwV 1 hts gX9_faded_X0_leastShade rfl rfl rfl (by decide +kernel) ⟨Nat.le_of_ble_eq_true rfl, Nat.le_of_ble_eq_true rfl⟩) hP hD hK hS hA hev hT 0 0 rfl rfl rfl rfl hl.1 rfl (Nat.le_of_ble_eq_true rfl) dX9_faded_52 ⟨Nat.le_of_ble_eq_true rfl, Nat.le_of_ble_eq_true rfl⟩ (fun r L_66 f_67 H locs hw_68 hP hD hS hT hE1 => ?_)
              have hF0 := Fr.call hF0 hE hw_68.2.1 (by decide)
              have hF := Fr.call hF hE hw_68.2.1 (by decide)
              have hE := hE.tr hE1
              obtain ⟨⟨z_69, rfl⟩, hw_68⟩ := hw_68
              obtain ⟨hfr_70, hex_71⟩ := hw_68
              obtain ⟨hg_72, hs_73⟩ := hex_71
              refine W.eq (g2 := F0 m 55 ls [.int z_69]) rfl ?_
              refine lv_goto (tgt := 64) hx hb dX9_faded_55 (by decide) ?_
              refine vx_ret ?_
              exact K_i hx hb hr hlocks hP hD hK hS hT hE ⟨⟨_, rfl⟩, hF, ⟨_, _, (if_pos hC_8).trans ((if_pos ⟨⟨nlt_le c_13, nlt_le c_20⟩, nlt_le c_27, nlt_le c_34⟩).trans (if_pos hh_54)), by rw [if_pos c_57]; exact (by rw [sv hg_72]), hs_73⟩⟩ (Nat.le_of_ble_eq_true rfl) (Nat.le_of_ble_eq_true rfl) dX9_faded_64

theorem mt_go {ii n : Int32} {a : Nat} (ha : ii = nI a) (h1 : (a : Int) ≤ n.toInt) (hn : n.toInt ≤ 30) (h : ¬ n ≤ ii) : (a : Int) < n.toInt ∧ a < 30 := by
  have e : ii.toInt = (a : Int) := by rw [ha]; exact nI_toInt (by omega)
  rw [Int32.le_iff_toInt_le] at h
  omega
theorem mt_30 {ii n : Int32} {a : Nat} (ha : ii = nI a) (h1 : (a : Int) < n.toInt) (hn : n.toInt ≤ 30) (h : 30 ≤ ii) : False := by
  have e : ii.toInt = (a : Int) := by rw [ha]; exact nI_toInt (by omega)
  have c30 : (30 : Int32).toInt = 30 := by decide
  rw [Int32.le_iff_toInt_le] at h
  omega
theorem mt_end {ii n : Int32} {a : Nat} (ha : ii = nI a) (h1 : (a : Int) ≤ n.toInt) (hn : n.toInt ≤ 30) (h : n ≤ ii) : a = n.toNatClampNeg := by
  have e : ii.toInt = (a : Int) := by rw [ha]; exact nI_toInt (by omega)
  rw [Int32.le_iff_toInt_le] at h
  have := clamp_i (x := n) (by omega)
  omega
theorem mt_ne {ii a : Int32} {q : Nat} (ha : ii = nI q) (hq : q < 30) (h0 : 0 ≤ a.toInt) : (ii = a ↔ q = a.toNatClampNeg) := by
  have e : ii.toInt = (q : Int) := by rw [ha]; exact nI_toInt (by omega)
  have := clamp_i h0
  rw [← Int32.toInt_inj]
  omega

theorem mt_ms {ii : Int32} {n q : Nat} (hm : ∃ a : Nat, ii = nI a ∧ a ≤ 30 ∧ 30 < a + (n + 1)) (hq : ii = nI q) (h : q < 30) : ∃ a : Nat, ii + 1 = nI a ∧ a ≤ 30 ∧ 30 < a + n := by
  obtain ⟨a, h1, h2, h3⟩ := hm
  have e : a = q := (nI_eq (by omega) (by omega)).mp (h1.symm.trans hq)
  subst e
  exact ⟨a + 1, by rw [h1]; exact nI_1 a, by omega, by omega⟩

noncomputable abbrev rm_X9_matchingS : Room := { frames := 7, cells := 2, slots := 12, locals := 104 }
set_option maxHeartbeats 800000 in
set_option maxRecDepth 100000 in
theorem t_X9_matchingS (l : Launch) (dC : Nat → ClassId) (dI : Nat → Nat → Nat) (sa : Nat → Nat) (hlt : l.stackTraces = false) (g : Nat → Nat) (L : List Nat) (f : Nat → va_E) (va : Nat → Nat) (sA : AS) (h0 : Nat) (a : Int32) (b : Int32) (wk : Nat) (vs : Nat) (cl : Nat) (ru : Nat) (sz : Nat) (hT : TP g L f [(h0, (0, 9, 0)), (wk, (0, 8, 0)), (vs, (2, g 2, 6)), (cl, (2, g 3, 30)), (ru, (0, 4, 0))]) (h_wk : rd f h0 0 = .ref wk) (h_vs : rd f wk 0 = .ref vs) (h_cl : rd f h0 1 = .ref cl) (h_ru : rd f h0 9 = .ref ru) (hSR : SR g L f (h0, wk, vs, cl, ru, va) sA) (hRG : RV sA ∧ RC sA ∧ 0 ≤ (sA.1 1).toInt ∧ (sA.1 1).toInt ≤ 9000000) : KX l dC dI sa g yX9_matching wsX9_matching rm_X9_matchingS [.ref h0, .int a, .int b] L f sz (fun r L' f' => (∃ z : Int32, r = some (.int z)) ∧ Fr [] L f f' ∧ (∃ (v : Int32) (s2 : AS), maS a b sA = (0, v, s2) ∧ r = some (.int v) ∧ SR g L' f' (h0, wk, vs, cl, ru, va) s2)) (fun E L' f' => ((E = NSE ∧ maS a b sA = (1, 0, sA)) ∨ (E = IAE ∧ maS a b sA = (2, 0, sA))) ∧ Fr [] L f f') 2 12 := by
  refine KX.start (cc := cX9_matching) (maxL := 7) (ret := (some .int)) (by decide) rfl (Nat.le_of_ble_eq_true rfl) ?_
  intro p e s m below meth c ls hst hno hP hK hD hev hS hl
  obtain ⟨hx, hb, hr, hml, hts, hown, hlocks, hin⟩ := hst
  have hown : s.vm.findClass RX9 = some m.cls := hown
  have hin : meth.name = yX9_matching.name := hin
  have hA : ∀ q : Nat, s.heap.size ≤ q → va_A (va_pl L f) s.heap.size q := fun _ h => Or.inr h
  have hE : Ext L f L f := Ext.rf
  have hF : Fr [] L f f := Fr.rf
  have hF0 : Fr [] L f f := Fr.rf
  have hl : lv_has ls 7 [(0, .ref h0), (1, .int a), (2, .int b)] := hl
  have hT0 := hT
  refine lv_aload_n hx hb dX9_matching_0 rfl (lv_at hl 0 rfl) ?_
  refine lv_iload_n hx hb dX9_matching_1 rfl (lv_at hl 1 rfl) ?_
  refine K_VX ⟨hx, hb, hml, hown, hts⟩ (t_X9_clothAtX l dC dI sa hlt g _ _ wk vs ru va sA h0 a cl _ (hT.sub [0, 3] rfl)  ((hF.1 h0 (hT0.at 0 rfl).1 9 (hT0.at 0 rfl).2 1 (by decide)).trans h_cl) hSR hRG.2.1.1.2) (cwV 1 hts gX9_matching_X9_clothAt rfl rfl rfl (by decide +kernel) ⟨Nat.le_of_ble_eq_true rfl, Nat.le_of_ble_eq_true rfl⟩) hP hD hK hS hA hev hT 0 9 rfl rfl rfl rfl hl.1 rfl (Nat.le_of_ble_eq_true rfl) dX9_matching_2 ⟨Nat.le_of_ble_eq_true rfl, Nat.le_of_ble_eq_true rfl⟩ (fun E ce q9 L9 f9 H locs hpx hP hD hS hT hE1 hce hcv hcl => ?_) (fun r L_1 f_2 H locs hw_3 hP hD hS hT hE1 => ?_)
  · have hF := Fr.call hF0 hE hpx.2 (by decide)
    have hE := hE.tr hE1
    exact K_out hno hlocks ⟨Or.inl ⟨hpx.1.1, if_neg hpx.1.2⟩, hF⟩ hP hD hK hS hT hE hce hcv hcl (Nat.le_of_ble_eq_true rfl) (Nat.le_of_ble_eq_true rfl)
  have hF0 := Fr.call hF0 hE hw_3.2.1 (by decide)
  have hF := Fr.call hF hE hw_3.2.1 (by decide)
  have hE := hE.tr hE1
  obtain ⟨⟨v_4, rfl, hv9⟩, hw_3⟩ := hw_3
  obtain ⟨b_5, rfl, hb9⟩ := hv9
  have hT := hT.add hb9
  obtain ⟨hfr_6, hex_7⟩ := hw_3
  obtain ⟨hC_8, bq_9, hg_10, hcl_11⟩ := hex_7
  have hcl_11 : ra f cl a.toNatClampNeg = some b_5 := by have h9 := hg_10; injection h9 with h9; injection h9 with h9; rw [h9]; exact hcl_11
  have hc9 := (inC_c hC_8).2
  have hs_12 := SR.still hSR hE1 hfr_6 (by decide)
  refine W.eq (g2 := F0 m 5 ls [.ref b_5]) rfl ?_
  refine lv_astore_n (lv' := [(3, .ref b_5), (0, .ref h0), (1, .int a), (2, .int b)]) hx hb dX9_matching_5 rfl hl (by decide) rfl (fun ls hl => ?_)
  refine lv_iload_n hx hb dX9_matching_6 rfl (lv_at hl 3 rfl) ?_
  refine lv_if_lt (tgt := 20) hx hb dX9_matching_7 (by decide) (fun c_13 => ?_) (fun c_13 => ?_)
  · refine lv_iconst (v := 0) hx hb dX9_matching_20 (by decide) ?_
    refine K_SX ⟨hx, hb, hml, hown, hts⟩ (t_X9_demandX l dC dI sa hlt g _ _ 0 _ (hT.sub [] rfl)  ) (va_cwS 1 hts gX9_matching_X9_demand rfl rfl rfl (by decide +kernel) ⟨Nat.le_of_ble_eq_true rfl, Nat.le_of_ble_eq_true rfl⟩) hP hD hK hS hA hev hT rfl hl.1 rfl (Nat.le_of_ble_eq_true rfl) dX9_matching_21 ⟨Nat.le_of_ble_eq_true rfl, Nat.le_of_ble_eq_true rfl⟩ (fun E ce q9 L9 f9 H locs hpx hP hD hS hT hE1 hce hcv hcl => ?_) (fun r L_14 f_15 H locs hw_16 hP hD hS hT hE1 => ?_)
    · have hF := Fr.call hF0 hE hpx.2 (by decide)
      have hE := hE.tr hE1
      exact K_out hno hlocks ⟨Or.inr ⟨hpx.1.1, (if_pos hC_8).trans (if_neg (fun h9 => le_nlt h9.1 c_13))⟩, hF⟩ hP hD hK hS hT hE hce hcv hcl (Nat.le_of_ble_eq_true rfl) (Nat.le_of_ble_eq_true rfl)
    have hF0 := Fr.call hF0 hE hw_16.2.1 (by decide)
    have hF := Fr.call hF hE hw_16.2.1 (by decide)
    have hE := hE.tr hE1
    obtain ⟨rfl, hw_16⟩ := hw_16
    obtain ⟨hfr_17, hex_18⟩ := hw_16
    have hs_19 := SR.still hs_12 hE1 hfr_17 (by decide)
    refine W.eq (g2 := F0 m 24 ls []) rfl ?_
    exact absurd rfl hex_18
  · refine lv_iload_n hx hb dX9_matching_10 rfl (lv_at hl 3 rfl) ?_
    refine lv_ldc (v := 1000000) hx hb hown (hts (.constant RX9 61 (1000000)) (List.mem_of_getElem? (i := 1) (by exact rfl))) dX9_matching_11 ?_
    refine lv_icmp_gt (tgt := 20) hx hb dX9_matching_13 (by decide) (fun c_20 => ?_) (fun c_20 => ?_)
    · refine lv_iconst (v := 0) hx hb dX9_matching_20 (by decide) ?_
      refine K_SX ⟨hx, hb, hml, hown, hts⟩ (t_X9_demandX l dC dI sa hlt g _ _ 0 _ (hT.sub [] rfl)  ) (va_cwS 1 hts gX9_matching_X9_demand rfl rfl rfl (by decide +kernel) ⟨Nat.le_of_ble_eq_true rfl, Nat.le_of_ble_eq_true rfl⟩) hP hD hK hS hA hev hT rfl hl.1 rfl (Nat.le_of_ble_eq_true rfl) dX9_matching_21 ⟨Nat.le_of_ble_eq_true rfl, Nat.le_of_ble_eq_true rfl⟩ (fun E ce q9 L9 f9 H locs hpx hP hD hS hT hE1 hce hcv hcl => ?_) (fun r L_21 f_22 H locs hw_23 hP hD hS hT hE1 => ?_)
      · have hF := Fr.call hF0 hE hpx.2 (by decide)
        have hE := hE.tr hE1
        exact K_out hno hlocks ⟨Or.inr ⟨hpx.1.1, (if_pos hC_8).trans (if_neg (fun h9 => le_nlt h9.2 c_20))⟩, hF⟩ hP hD hK hS hT hE hce hcv hcl (Nat.le_of_ble_eq_true rfl) (Nat.le_of_ble_eq_true rfl)
      have hF0 := Fr.call hF0 hE hw_23.2.1 (by decide)
      have hF := Fr.call hF hE hw_23.2.1 (by decide)
      have hE := hE.tr hE1
      obtain ⟨rfl, hw_23⟩ := hw_23
      obtain ⟨hfr_24, hex_25⟩ := hw_23
      have hs_26 := SR.still hs_12 hE1 hfr_24 (by decide)
      refine W.eq (g2 := F0 m 24 ls []) rfl ?_
      exact absurd rfl hex_25
    · refine lv_iconst (v := 1) hx hb dX9_matching_16 (by decide) ?_
      refine lv_goto (tgt := 21) hx hb dX9_matching_17 (by decide) ?_
      refine K_SX ⟨hx, hb, hml, hown, hts⟩ (t_X9_demandX l dC dI sa hlt g _ _ 1 _ (hT.sub [] rfl)  ) (va_cwS 1 hts gX9_matching_X9_demand rfl rfl rfl (by decide +kernel) ⟨Nat.le_of_ble_eq_true rfl, Nat.le_of_ble_eq_true rfl⟩) hP hD hK hS hA hev hT rfl hl.1 rfl (Nat.le_of_ble_eq_true rfl) dX9_matching_21 ⟨Nat.le_of_ble_eq_true rfl, Nat.le_of_ble_eq_true rfl⟩ (fun E ce q9 L9 f9 H locs hpx hP hD hS hT hE1 hce hcv hcl => ?_) (fun r L_27 f_28 H locs hw_29 hP hD hS hT hE1 => ?_)
      · have hF := Fr.call hF0 hE hpx.2 (by decide)
        have hE := hE.tr hE1
        exact absurd hpx.1.2 (by decide)
      have hF0 := Fr.call hF0 hE hw_29.2.1 (by decide)
      have hF := Fr.call hF hE hw_29.2.1 (by decide)
      have hE := hE.tr hE1
      obtain ⟨rfl, hw_29⟩ := hw_29
      obtain ⟨hfr_30, hex_31⟩ := hw_29
      have hs_32 := SR.still hs_12 hE1 hfr_30 (by decide)
      refine W.eq (g2 := F0 m 24 ls []) rfl ?_
      refine lv_iconst (v := 0) hx hb dX9_matching_24 (by decide) ?_
      refine lv_istore (lv' := [(4, .int 0), (3, .ref b_5), (0, .ref h0), (1, .int a), (2, .int b)]) hx hb dX9_matching_25 hl (by decide) rfl (fun ls hl => ?_)
      refine lv_iconst (v := 0) hx hb dX9_matching_27 (by decide) ?_
      refine lv_istore (lv' := [(5, .int 0), (4, .int 0), (3, .ref b_5), (0, .ref h0), (1, .int a), (2, .int b)]) hx hb dX9_matching_28 hl (by decide) rfl (fun ls hl => ?_)
      have lp : ∀ (n : Nat) (bt : Int32) (ii : Int32) (L1 : List Nat) (f1 : Nat → va_E) (H : Heap) (locs : List Loc) (ls : Array Slot), (∃ a9 : Nat, ii = nI a9 ∧ a9 ≤ 30 ∧ 30 < a9 + n) → (∃ a9 : Nat, ii = nI a9 ∧ (a9 : Int) ≤ (sA.1 12).toInt ∧ bt = mtF sA a.toNatClampNeg b a9 ∧ SR g L1 f1 (h0, wk, vs, cl, ru, va) sA) → va_P (dC, dI) vwCl (va_pl L1 f1) H → va_D (va_A (va_pl L f) s.heap.size) (va_pl L1 f1) → va_S (va_A (va_pl L f) s.heap.size) s.heap H locs → TP g L1 f1 [(b_5, (0, 0, 0)), (h0, (0, 9, 0)), (wk, (0, 8, 0)), (vs, (2, g 2, 6)), (cl, (2, g 3, 30)), (ru, (0, 4, 0))] → Ext L f L1 f1 → Fr [] L f f1 → lv_has ls 7 [(4, .int bt), (5, .int ii), (3, .ref b_5), (0, .ref h0), (1, .int a), (2, .int b)] → W p l e rm_X9_matchingS s m [.ref h0, .int a, .int b].toArray below meth c H locs 2 12 (vx_MQ below (Qg (kpost g L f (fun r L' f' => (∃ z : Int32, r = some (.int z)) ∧ Fr [] L f f' ∧ (∃ (v : Int32) (s2 : AS), maS a b sA = (0, v, s2) ∧ r = some (.int v) ∧ SR g L' f' (h0, wk, vs, cl, ru, va) s2))) (fun (u : PL) t => QW dC dI (va_A (va_pl L f) s.heap.size) (va_pl u.1 u.2) [] t) (va_A (va_pl L f) s.heap.size)) (XK dC dI g L f s.heap.size (fun E L' f' => ((E = NSE ∧ maS a b sA = (1, 0, sA)) ∨ (E = IAE ∧ maS a b sA = (2, 0, sA))) ∧ Fr [] L f f')) [.ref h0, .int a, .int b].toArray s (2) (12) (va_A (va_pl L f) s.heap.size)) (F0 m 30 ls []) := by
        intro n
        induction n with
        | zero => intro bt ii L1 f1 H locs ls hm hMT hP hD hS hT hE hF hl; exact absurd hm (by rintro ⟨a9, -, h1, h2⟩; omega)
        | succ n ih =>
          intro bt ii L1 f1 H locs ls hm hMT hP hD hS hT hE hF hl
          refine lv_iload hx hb dX9_matching_30 (lv_at hl 1 rfl) ?_
          obtain ⟨q9, hq9, hq1, hbt, hs1⟩ := hMT
          refine lv_aload_n hx hb dX9_matching_32 rfl (lv_at hl 3 rfl) ?_
          refine T_get (ci := 9) (C := RX9) (T := TX9) (N := 11) (t := tI) hx hb hts inw_X9_matching_9 hown hK hP hT 1 rfl rfl 2 (by decide) (hts (.fieldLink RX9 92 "VatHouse" "clothsMade" "I") (List.mem_of_getElem? (i := 2) (by exact rfl))) (fun _ h9 => h9) rfl dX9_matching_33 (fun v_35 hv_33 hr_34 => ?_)
          obtain rfl : v_35 = .int (sA.1 12) := hr_34.symm.trans hs1.2.2.2.2.1.1
          refine lv_icmp_ge (tgt := 94) hx hb dX9_matching_36 (by decide) (fun c_36 => ?_) (fun c_36 => ?_)
          · refine lv_iload hx hb dX9_matching_94 (lv_at hl 0 rfl) ?_
            refine vx_ret ?_
            exact K_i hx hb hr hlocks hP hD hK hS hT hE ⟨⟨_, rfl⟩, hF, ⟨_, _, (if_pos hC_8).trans (if_pos ⟨nlt_le c_13, nlt_le c_20⟩), by rw [hbt, mt_end hq9 hq1 hRG.2.1.1.2 c_36], hs1⟩⟩ (Nat.le_of_ble_eq_true rfl) (Nat.le_of_ble_eq_true rfl) dX9_matching_96
          · have hq2 := mt_go hq9 hq1 hRG.2.1.1.2 c_36
            refine lv_iload hx hb dX9_matching_39 (lv_at hl 1 rfl) ?_
            refine lv_aload_n hx hb dX9_matching_41 rfl (lv_at hl 3 rfl) ?_
            refine T_get (ci := 9) (C := RX9) (T := TX9) (N := 11) (t := (1, 2, g 3, 30)) hx hb hts inw_X9_matching_9 hown hK hP hT 1 rfl rfl 1 (by decide) (hts (.fieldLink RX9 18 "VatHouse" "cloths" "[LVatHouse$Cloth;") (List.mem_of_getElem? (i := 3) (by exact rfl))) (fun _ h9 => h9) rfl dX9_matching_42 (fun v_39 hv_37 hr_38 => ?_)
            obtain rfl : v_39 = .ref cl := hr_38.symm.trans ((hF.1 h0 (hT0.at 0 rfl).1 9 (hT0.at 0 rfl).2 1 (by decide)).trans h_cl)
            refine T_alen hx hb hK hP hT 4 3 rfl rfl (v := 30) rfl dX9_matching_45 ?_
            refine lv_icmp_ge (tgt := 94) hx hb dX9_matching_46 (by decide) (fun c_40 => ?_) (fun c_40 => ?_)
            · refine lv_iload hx hb dX9_matching_94 (lv_at hl 0 rfl) ?_
              refine vx_ret ?_
              exact K_i hx hb hr hlocks hP hD hK hS hT hE ⟨⟨_, rfl⟩, hF, (mt_30 hq9 hq2.1 hRG.2.1.1.2 c_40).elim⟩ (Nat.le_of_ble_eq_true rfl) (Nat.le_of_ble_eq_true rfl) dX9_matching_96
            · refine lv_aload_n hx hb dX9_matching_49 rfl (lv_at hl 3 rfl) ?_
              refine T_get (ci := 9) (C := RX9) (T := TX9) (N := 11) (t := (1, 2, g 3, 30)) hx hb hts inw_X9_matching_9 hown hK hP hT 1 rfl rfl 1 (by decide) (hts (.fieldLink RX9 18 "VatHouse" "cloths" "[LVatHouse$Cloth;") (List.mem_of_getElem? (i := 3) (by exact rfl))) (fun _ h9 => h9) rfl dX9_matching_50 (fun v_43 hv_41 hr_42 => ?_)
              obtain rfl : v_43 = .ref cl := hr_42.symm.trans ((hF.1 h0 (hT0.at 0 rfl).1 9 (hT0.at 0 rfl).2 1 (by decide)).trans h_cl)
              refine lv_iload hx hb dX9_matching_53 (lv_at hl 1 rfl) ?_
              refine T_cald hx hb hK hP hT 4 3 rfl rfl (by rw [hq9]; exact vp_in_nI hq2.2 (by decide)) dX9_matching_55 (fun hra => ?_) (fun b_44 hb9 hra => ?_)
              · exact absurd hra (by obtain ⟨b9, h9, -⟩ := hs1.2.2.1 q9 hq2.1; have h8 : ra f1 cl ii.toNatClampNeg = some b9 := (by rw [hq9, nI_clamp (by omega)]; exact h9); rw [h8]; exact fun g9 => by cases g9)
              · have hT := hT.add hb9
                have hcl2 : ra f1 cl q9 = some b_44 := by rw [hq9, nI_clamp (by omega)] at hra; exact hra
                refine lv_astore (lv' := [(6, .ref b_44), (4, .int bt), (5, .int ii), (3, .ref b_5), (0, .ref h0), (1, .int a), (2, .int b)]) hx hb dX9_matching_56 hl (by decide) rfl (fun ls hl => ?_)
                refine lv_aload hx hb dX9_matching_58 (lv_at hl 0 rfl) ?_
                refine lv_ifnull hx hb dX9_matching_60 ?_
                refine lv_iload hx hb dX9_matching_63 (lv_at hl 2 rfl) ?_
                refine lv_iload_n hx hb dX9_matching_65 rfl (lv_at hl 5 rfl) ?_
                refine lv_icmp_eq (tgt := 88) hx hb dX9_matching_66 (by decide) (fun c_45 => ?_) (fun c_45 => ?_)
                · refine lv_iinc (v := (ii + 1)) (lv' := [(5, .int (ii + 1)), (6, .ref b_44), (4, .int bt), (3, .ref b_5), (0, .ref h0), (1, .int a), (2, .int b)]) hx hb dX9_matching_88 hl (k := 2) rfl rfl (by decide) rfl (fun ls hl => ?_)
                  refine lv_goto (tgt := 30) hx hb dX9_matching_91 (by decide) ?_
                  exact ih bt (ii + 1) _ _ _ _ _ (mt_ms hm hq9 hq2.2) (⟨q9 + 1, by rw [hq9]; exact nI_1 q9, by omega, by rw [hbt]; exact (if_neg (fun h9 => h9.1 ((mt_ne hq9 hq2.2 hC_8.1).mp c_45))).symm, hs1⟩) hP hD hS (hT.sub [1, 2, 3, 4, 5, 6] rfl) hE hF (lv_sub hl [2, 0, 3, 4, 5, 6] rfl)
                · refine lv_aload_n hx hb dX9_matching_69 rfl (lv_at hl 3 rfl) ?_
                  refine lv_aload hx hb dX9_matching_70 (lv_at hl 0 rfl) ?_
                  refine lv_iload_n hx hb dX9_matching_72 rfl (lv_at hl 6 rfl) ?_
                  refine K_V ⟨hx, hb, hml, hown, hts⟩ (t_X0_spanMeetsS l dC dI sa hlt g _ _ h0 wk vs cl ru va sA a.toNatClampNeg q9 b_5 b_44 b _ (hT.sub [1, 0] rfl)  hs1 hc9 (by rw [ra_eq (hF.2 cl hSR.1.1.2.2.2.1.1 1 _ _ hSR.1.1.2.2.2.1.2 (by decide))]; exact hcl_11) (we_of (hRG.2.1.2 _ hc9).1).2 hq2.1 hcl2 (we_of (hRG.2.1.2 q9 hq2.1).1).2) (cwV 2 hts gX9_matching_X0_spanMeets rfl rfl rfl (by decide +kernel) ⟨Nat.le_of_ble_eq_true rfl, Nat.le_of_ble_eq_true rfl⟩) hP hD hK hS hA hev hT 1 0 rfl rfl rfl rfl hl.1 rfl (Nat.le_of_ble_eq_true rfl) dX9_matching_73 ⟨Nat.le_of_ble_eq_true rfl, Nat.le_of_ble_eq_true rfl⟩ (fun r L_46 f_47 H locs hw_48 hP hD hS hT hE1 => ?_)
                  have hF := Fr.call hF hE hw_48.2 (by decide)
                  have hE := hE.tr hE1
                  obtain ⟨⟨rfl, hz2_49⟩ | ⟨rfl, hz2_49⟩, hw_48⟩ := hw_48
                  · obtain ⟨hh_50, hs_51⟩ := hz2_49
                    refine W.eq (g2 := F0 m 76 ls [.int 0]) rfl ?_
                    refine lv_if_eq (tgt := 88) hx hb dX9_matching_76 (by decide) (fun c_52 => ?_) (fun c_52 => ?_)
                    rotate_left
                    · exact absurd c_52 (by decide)
                    refine lv_iinc (v := (ii + 1)) (lv' := [(5, .int (ii + 1)), (6, .ref b_44), (4, .int bt), (3, .ref b_5), (0, .ref h0), (1, .int a), (2, .int b)]) hx hb dX9_matching_88 hl (k := 2) rfl rfl (by decide) rfl (fun ls hl => ?_)
                    refine lv_goto (tgt := 30) hx hb dX9_matching_91 (by decide) ?_
                    exact ih bt (ii + 1) _ _ _ _ _ (mt_ms hm hq9 hq2.2) (⟨q9 + 1, by rw [hq9]; exact nI_1 q9, by omega, by rw [hbt]; exact (if_neg (fun h9 => hh_50 h9.2)).symm, hs_51⟩) hP hD hS (hT.sub [1, 2, 3, 4, 5, 6] rfl) hE hF (lv_sub hl [2, 0, 3, 4, 5, 6] rfl)
                  · obtain ⟨hh_53, hs_54⟩ := hz2_49
                    refine W.eq (g2 := F0 m 76 ls [.int 1]) rfl ?_
                    refine lv_if_eq (tgt := 88) hx hb dX9_matching_76 (by decide) (fun c_55 => ?_) (fun c_55 => ?_)
                    · exact absurd c_55 (by decide)
                    refine lv_iload hx hb dX9_matching_79 (lv_at hl 1 rfl) ?_
                    refine lv_iconst (v := 1) hx hb dX9_matching_81 (by decide) ?_
                    refine lv_iload hx hb dX9_matching_82 (lv_at hl 2 rfl) ?_
                    refine lv_ishl hx hb dX9_matching_84 ?_
                    refine lv_topi (fun z_56 ez_56 => ?_)
                    refine lv_ior hx hb dX9_matching_85 ?_
                    refine lv_topi (fun z_57 ez_57 => ?_)
                    refine lv_istore (lv' := [(4, .int z_57), (6, .ref b_44), (5, .int ii), (3, .ref b_5), (0, .ref h0), (1, .int a), (2, .int b)]) hx hb dX9_matching_86 hl (by decide) rfl (fun ls hl => ?_)
                    refine lv_iinc (v := (ii + 1)) (lv' := [(5, .int (ii + 1)), (4, .int z_57), (6, .ref b_44), (3, .ref b_5), (0, .ref h0), (1, .int a), (2, .int b)]) hx hb dX9_matching_88 hl (k := 2) rfl rfl (by decide) rfl (fun ls hl => ?_)
                    refine lv_goto (tgt := 30) hx hb dX9_matching_91 (by decide) ?_
                    exact ih z_57 (ii + 1) _ _ _ _ _ (mt_ms hm hq9 hq2.2) (⟨q9 + 1, by rw [hq9]; exact nI_1 q9, by omega, by rw [ez_57, hbt, ez_56, hq9]; exact (if_pos ⟨fun e9 => c_45 ((mt_ne hq9 hq2.2 hC_8.1).mpr e9), hh_53⟩).symm, hs_54⟩) hP hD hS (hT.sub [1, 2, 3, 4, 5, 6] rfl) hE hF (lv_sub hl [1, 0, 3, 4, 5, 6] rfl)
      exact lp 31 0 0 _ _ _ _ _ (⟨0, nI_0.symm, by omega, by omega⟩) (⟨0, nI_0.symm, by have h9 := hRG.2.1.1.1; omega, rfl, hs_32⟩) hP hD hS (hT.sub [0, 1, 2, 3, 4, 5] rfl) hE hF (lv_sub hl [1, 0, 2, 3, 4, 5] rfl)

theorem r8_of {a : Int32} (h0 : ¬ a < 0) (h : ¬ 8 ≤ a) : a.toNatClampNeg < 8 := by
  rw [Int32.lt_iff_toInt_lt] at h0
  rw [Int32.le_iff_toInt_le] at h
  have c0 : (0 : Int32).toInt = 0 := by decide
  have c8 : (8 : Int32).toInt = 8 := by decide
  have := clamp_i (x := a) (by omega)
  omega

noncomputable abbrev rm_X9_runS : Room := { frames := 59, cells := 1, slots := 6, locals := 1449 }
set_option maxHeartbeats 800000 in
set_option maxRecDepth 100000 in
theorem t_X9_runS (l : Launch) (dC : Nat → ClassId) (dI : Nat → Nat → Nat) (sa : Nat → Nat) (hlt : l.stackTraces = false) (g : Nat → Nat) (L : List Nat) (f : Nat → va_E) (va : Nat → Nat) (sA : AS) (h0 : Nat) (a : Int32) (b : Int32) (cq : Int32) (wk : Nat) (vs : Nat) (cl : Nat) (ru : Nat) (rc : Nat) (sz : Nat) (hT : TP g L f [(h0, (0, 9, 0)), (wk, (0, 8, 0)), (vs, (2, g 2, 6)), (cl, (2, g 3, 30)), (ru, (0, 4, 0)), (rc, (2, g 4, 8))]) (h_wk : rd f h0 0 = .ref wk) (h_vs : rd f wk 0 = .ref vs) (h_cl : rd f h0 1 = .ref cl) (h_ru : rd f h0 9 = .ref ru) (h_rc : rd f h0 7 = .ref rc) (h_wk_ru_0 : rd f ru 0 = .ref wk) (hSR : SR g L f (h0, wk, vs, cl, ru, va) sA) (hRG : RV sA ∧ RC sA ∧ 0 ≤ (sA.1 1).toInt ∧ (sA.1 1).toInt ≤ 9000000) (hTE : ∀ r : Nat, r < 8 → TREE L f rc sA r) : KX l dC dI sa g yX9_run wsX9_run rm_X9_runS [.ref h0, .int a, .int b, .int cq] L f sz (fun r L' f' => (∃ z : Int32, r = some (.int z)) ∧ Fr [(0, 2), (0, 3), (0, 6), (0, 7), (7, 1), (7, 2), (7, 3), (7, 4), (7, 5), (7, 6), (7, 7), (8, 1), (8, 2), (4, 4), (4, 5), (4, 6), (4, 7), (4, 1), (4, 2), (4, 3)] L f f' ∧ (∃ (v : Int32) (s2 : AS), rnR a b cq sA (0, v, s2) ∧ r = some (.int v) ∧ SR g L' f' (h0, wk, vs, cl, ru, va) s2)) (fun E L' f' => (E = NSE ∧ rnR a b cq sA (1, 0, sA)) ∧ Fr [] L f f') 1 6 := by
  refine KX.start (cc := cX9_run) (maxL := 6) (ret := (some .int)) (by decide) rfl (Nat.le_of_ble_eq_true rfl) ?_
  intro p e s m below meth c ls hst hno hP hK hD hev hS hl
  obtain ⟨hx, hb, hr, hml, hts, hown, hlocks, hin⟩ := hst
  have hown : s.vm.findClass RX9 = some m.cls := hown
  have hin : meth.name = yX9_run.name := hin
  have hA : ∀ q : Nat, s.heap.size ≤ q → va_A (va_pl L f) s.heap.size q := fun _ h => Or.inr h
  have hE : Ext L f L f := Ext.rf
  have hF : Fr [(0, 2), (0, 3), (0, 6), (0, 7), (7, 1), (7, 2), (7, 3), (7, 4), (7, 5), (7, 6), (7, 7), (8, 1), (8, 2), (4, 4), (4, 5), (4, 6), (4, 7), (4, 1), (4, 2), (4, 3)] L f f := Fr.rf
  have hF0 : Fr [] L f f := Fr.rf
  have hl : lv_has ls 6 [(0, .ref h0), (1, .int a), (2, .int b), (3, .int cq)] := hl
  have hT0 := hT
  refine lv_aload_n hx hb dX9_run_0 rfl (lv_at hl 0 rfl) ?_
  refine lv_iload_n hx hb dX9_run_1 rfl (lv_at hl 2 rfl) ?_
  refine K_VX ⟨hx, hb, hml, hown, hts⟩ (t_X9_clothAtX l dC dI sa hlt g _ _ wk vs ru va sA h0 b cl _ (hT.sub [0, 3] rfl)  ((hF.1 h0 (hT0.at 0 rfl).1 9 (hT0.at 0 rfl).2 1 (by decide)).trans h_cl) hSR hRG.2.1.1.2) (cwV 1 hts gX9_run_X9_clothAt rfl rfl rfl (by decide +kernel) ⟨Nat.le_of_ble_eq_true rfl, Nat.le_of_ble_eq_true rfl⟩) hP hD hK hS hA hev hT 0 9 rfl rfl rfl rfl hl.1 rfl (Nat.le_of_ble_eq_true rfl) dX9_run_2 ⟨Nat.le_of_ble_eq_true rfl, Nat.le_of_ble_eq_true rfl⟩ (fun E ce q9 L9 f9 H locs hpx hP hD hS hT hE1 hce hcv hcl => ?_) (fun r L_1 f_2 H locs hw_3 hP hD hS hT hE1 => ?_)
  · have hF := Fr.call hF0 hE hpx.2 (by decide)
    have hE := hE.tr hE1
    exact K_out hno hlocks ⟨⟨hpx.1.1, Or.inl ⟨hpx.1.2, rfl⟩⟩, hF⟩ hP hD hK hS hT hE hce hcv hcl (Nat.le_of_ble_eq_true rfl) (Nat.le_of_ble_eq_true rfl)
  have hF0 := Fr.call hF0 hE hw_3.2.1 (by decide)
  have hF := Fr.call hF hE hw_3.2.1 (by decide)
  have hE := hE.tr hE1
  obtain ⟨⟨v_4, rfl, hv9⟩, hw_3⟩ := hw_3
  obtain ⟨b_5, rfl, hb9⟩ := hv9
  have hT := hT.add hb9
  obtain ⟨hfr_6, hex_7⟩ := hw_3
  obtain ⟨hC_8, bq_9, hg_10, hcl_11⟩ := hex_7
  have hcl_11 : ra f cl b.toNatClampNeg = some b_5 := by have h9 := hg_10; injection h9 with h9; injection h9 with h9; rw [h9]; exact hcl_11
  have hc9 := (inC_c hC_8).2
  have hs_12 := SR.still hSR hE1 hfr_6 (by decide)
  refine W.eq (g2 := F0 m 5 ls [.ref b_5]) rfl ?_
  refine lv_astore (lv' := [(4, .ref b_5), (0, .ref h0), (1, .int a), (2, .int b), (3, .int cq)]) hx hb dX9_run_5 hl (by decide) rfl (fun ls hl => ?_)
  refine lv_iload_n hx hb dX9_run_7 rfl (lv_at hl 2 rfl) ?_
  refine lv_if_lt (tgt := 32) hx hb dX9_run_8 (by decide) (fun c_13 => ?_) (fun c_13 => ?_)
  · refine lv_iconst (v := (-1)) hx hb dX9_run_32 (by decide) ?_
    refine vx_ret ?_
    exact K_i hx hb hr hlocks hP hD hK hS hT hE ⟨⟨_, rfl⟩, hF, ⟨-1, sA, Or.inr (Or.inl ⟨hC_8, Or.inl c_13, rfl⟩), rfl, hs_12⟩⟩ (Nat.le_of_ble_eq_true rfl) (Nat.le_of_ble_eq_true rfl) dX9_run_33
  · refine lv_iload_n hx hb dX9_run_11 rfl (lv_at hl 2 rfl) ?_
    refine lv_aload_n hx hb dX9_run_12 rfl (lv_at hl 1 rfl) ?_
    refine T_get (ci := 9) (C := RX9) (T := TX9) (N := 11) (t := (1, 2, g 4, 8)) hx hb hts inw_X9_run_9 hown hK hP hT 1 rfl rfl 7 (by decide) (hts (.fieldLink RX9 37 "VatHouse" "recipes" "[LVatHouse$Recipe;") (List.mem_of_getElem? (i := 1) (by exact rfl))) (fun _ h9 => h9) rfl dX9_run_13 (fun v_16 hv_14 hr_15 => ?_)
    obtain rfl : v_16 = .ref rc := hr_15.symm.trans ((hF.1 h0 (hT0.at 0 rfl).1 9 (hT0.at 0 rfl).2 7 (by decide)).trans h_rc)
    refine T_alen hx hb hK hP hT 6 4 rfl rfl (v := 8) rfl dX9_run_16 ?_
    refine lv_icmp_ge (tgt := 32) hx hb dX9_run_17 (by decide) (fun c_17 => ?_) (fun c_17 => ?_)
    · refine lv_iconst (v := (-1)) hx hb dX9_run_32 (by decide) ?_
      refine vx_ret ?_
      exact K_i hx hb hr hlocks hP hD hK hS hT hE ⟨⟨_, rfl⟩, hF, ⟨-1, sA, Or.inr (Or.inl ⟨hC_8, Or.inr (Or.inl c_17), rfl⟩), rfl, hs_12⟩⟩ (Nat.le_of_ble_eq_true rfl) (Nat.le_of_ble_eq_true rfl) dX9_run_33
    · refine lv_iload_n hx hb dX9_run_20 rfl (lv_at hl 4 rfl) ?_
      refine lv_iconst (v := 1) hx hb dX9_run_21 (by decide) ?_
      refine lv_icmp_lt (tgt := 32) hx hb dX9_run_22 (by decide) (fun c_18 => ?_) (fun c_18 => ?_)
      · refine lv_iconst (v := (-1)) hx hb dX9_run_32 (by decide) ?_
        refine vx_ret ?_
        exact K_i hx hb hr hlocks hP hD hK hS hT hE ⟨⟨_, rfl⟩, hF, ⟨-1, sA, Or.inr (Or.inl ⟨hC_8, Or.inr (Or.inr (Or.inl c_18)), rfl⟩), rfl, hs_12⟩⟩ (Nat.le_of_ble_eq_true rfl) (Nat.le_of_ble_eq_true rfl) dX9_run_33
      · refine lv_iload_n hx hb dX9_run_25 rfl (lv_at hl 4 rfl) ?_
        refine lv_sipush (v := 5000) hx hb dX9_run_26 (by decide) ?_
        refine lv_icmp_le (tgt := 34) hx hb dX9_run_29 (by decide) (fun c_19 => ?_) (fun c_19 => ?_)
        · refine lv_aload_n hx hb dX9_run_34 rfl (lv_at hl 1 rfl) ?_
          refine T_get (ci := 9) (C := RX9) (T := TX9) (N := 11) (t := (1, 2, g 4, 8)) hx hb hts inw_X9_run_9 hown hK hP hT 1 rfl rfl 7 (by decide) (hts (.fieldLink RX9 37 "VatHouse" "recipes" "[LVatHouse$Recipe;") (List.mem_of_getElem? (i := 1) (by exact rfl))) (fun _ h9 => h9) rfl dX9_run_35 (fun v_22 hv_20 hr_21 => ?_)
          obtain rfl : v_22 = .ref rc := hr_21.symm.trans ((hF.1 h0 (hT0.at 0 rfl).1 9 (hT0.at 0 rfl).2 7 (by decide)).trans h_rc)
          refine lv_iload_n hx hb dX9_run_38 rfl (lv_at hl 2 rfl) ?_
          refine T_rald hx hb hK hP hT 6 4 rfl rfl (vin 8 (by decide) rfl (by assumption) (by assumption)) dX9_run_39 (fun hra => ?_) (fun b_23 hb9 hra => ?_)
          · have hr8 := r8_of c_13 c_17
            rw [ra_eq (hF.2 rc (hT0.at 5 rfl).1 1 _ _ (hT0.at 5 rfl).2 (by decide))] at hra
            have hno : sA.2 34 a.toNatClampNeg = -1 := by rcases hTE _ hr8 with h9 | ⟨-, rb, V, ad, dp, h9, -⟩; exact h9.1; exact absurd (hra.symm.trans h9) (fun g9 => by cases g9)
            refine lv_astoreN (lv' := [(5, .null), (4, .ref b_5), (0, .ref h0), (1, .int a), (2, .int b), (3, .int cq)]) hx hb dX9_run_40 hl (by decide) rfl (fun ls hl => ?_)
            refine lv_aloadN hx hb dX9_run_42 (lv_at hl 0 rfl) ?_
            refine lv_ifnullN (tgt := 55) hx hb dX9_run_44 (by decide) ?_
            refine lv_iconst (v := (-1)) hx hb dX9_run_55 (by decide) ?_
            refine vx_ret ?_
            exact K_i hx hb hr hlocks hP hD hK hS hT hE ⟨⟨_, rfl⟩, hF, ⟨-1, sA, Or.inr (Or.inl ⟨hC_8, Or.inr (Or.inr (Or.inr (Or.inr (Or.inl hno)))), rfl⟩), rfl, hs_12⟩⟩ (Nat.le_of_ble_eq_true rfl) (Nat.le_of_ble_eq_true rfl) dX9_run_56
          · have hT := hT.add hb9
            have hr8 := r8_of c_13 c_17
            rw [ra_eq (hF.2 rc (hT0.at 5 rfl).1 1 _ _ (hT0.at 5 rfl).2 (by decide))] at hra
            obtain ⟨hno, V, ad, dp, hrb9, hrd0, hTR, hLV, hNVs, hlk⟩ : ¬ sA.2 34 a.toNatClampNeg = -1 ∧ ∃ (V : Nat → Prop) (ad dp : Nat → Nat), (b_23 ∈ L ∧ sh (f b_23) = (0, 3, 0)) ∧ rd f b_23 0 = lkr ad (fiX sA a) ∧ TRS V ad L f sA ∧ LVS V dp sA ∧ NV V sA ∧ lk V dp 0 (fiX sA a) := by rcases hTE _ hr8 with ⟨-, h9⟩ | ⟨h8, rb, V, ad, dp, h9, h7⟩; exact absurd (hra.symm.trans h9) (fun g9 => by cases g9); cases hra.symm.trans h9; exact ⟨h8, V, ad, dp, h7⟩
            refine lv_astore (lv' := [(5, .ref b_23), (4, .ref b_5), (0, .ref h0), (1, .int a), (2, .int b), (3, .int cq)]) hx hb dX9_run_40 hl (by decide) rfl (fun ls hl => ?_)
            refine lv_aload hx hb dX9_run_42 (lv_at hl 0 rfl) ?_
            refine lv_ifnull hx hb dX9_run_44 ?_
            refine lv_aload hx hb dX9_run_47 (lv_at hl 1 rfl) ?_
            refine T_get (ci := 0) (C := RX0) (T := TX0) (N := 8) (t := tI) hx hb hts inw_X9_run_0 hown hK hP hT 1 rfl rfl 4 (by decide) (hts (.fieldLink RX9 102 "VatHouse$Cloth" "dry" "Z") (List.mem_of_getElem? (i := 2) (by exact rfl))) (fun _ h9 => h9) rfl dX9_run_49 (fun v_26 hv_24 hr_25 => ?_)
            obtain rfl : v_26 = .int (dyA (sA.2 16 b.toNatClampNeg)) := hr_25.symm.trans (SR.cf4 hs_12 hc9 (by rw [ra_eq (hF.2 cl hSR.1.1.2.2.2.1.1 1 _ _ hSR.1.1.2.2.2.1.2 (by decide))]; exact hcl_11))
            refine lv_if_eq (tgt := 57) hx hb dX9_run_52 (by decide) (fun c_27 => ?_) (fun c_27 => ?_)
            · refine lv_aload_n hx hb dX9_run_57 rfl (lv_at hl 2 rfl) ?_
              refine T_get (ci := 9) (C := RX9) (T := TX9) (N := 11) (t := (1, 0, 4, 0)) hx hb hts inw_X9_run_9 hown hK hP hT 2 rfl rfl 9 (by decide) (hts (.fieldLink RX9 46 "VatHouse" "runner" "LVatHouse$Runner;") (List.mem_of_getElem? (i := 3) (by exact rfl))) (fun _ h9 => h9) rfl dX9_run_58 (fun v_30 hv_28 hr_29 => ?_)
              obtain rfl : v_30 = .ref ru := hr_29.symm.trans ((hF.1 h0 (hT0.at 0 rfl).1 9 (hT0.at 0 rfl).2 9 (by decide)).trans h_ru)
              refine lv_aload hx hb dX9_run_61 (lv_at hl 0 rfl) ?_
              refine T_get (ci := 3) (C := RX3) (T := TX3) (N := 1) (t := (2, 0, 5, 0)) hx hb hts inw_X9_run_3 hown hK hP hT 0 rfl rfl 0 (by decide) (hts (.fieldLink RX9 156 "VatHouse$Recipe" "first" "LVatHouse$Step;") (List.mem_of_getElem? (i := 4) (by exact rfl))) (fun _ h9 => h9) rfl dX9_run_63 (fun v_33 hv_31 hr_32 => ?_)
              rcases hv_31 with rfl | ⟨b_34, rfl, hb9⟩
              · refine lv_aload hx hb dX9_run_66 (lv_at hl 1 rfl) ?_
                refine lv_iload_n hx hb dX9_run_68 rfl (lv_at hl 5 rfl) ?_
                have hlim := lim_i c_18 c_19
                have hfs9 : rd f_2 b_23 0 = rd f b_23 0 := OF.fr (ci := 3) hF (by decide) _ hrb9.1 hrb9.2 (by simp) 0
                refine K_V ⟨hx, hb, hml, hown, hts⟩ (t_X4_followS l dC dI sa hlt g _ _ h0 cl va 9000000 b.toNatClampNeg V ad dp sA (fiX sA a) ru .null b_5 cq wk vs _ (hT.sub [6, 1, 3, 4] rfl) (Or.inl rfl) ((hF.1 ru (hT0.at 4 rfl).1 4 (hT0.at 4 rfl).2 0 (by decide)).trans h_wk_ru_0) ((hF.1 wk (hT0.at 1 rfl).1 8 (hT0.at 1 rfl).2 0 (by decide)).trans h_vs) hs_12 hRG (by decide) hc9 (by rw [ra_eq (hF.2 cl hSR.1.1.2.2.2.1.1 1 _ _ hSR.1.1.2.2.2.1.2 (by decide))]; exact hcl_11) hlim (hTR.go hE hF (by decide) (fun _ _ => rfl)) hLV hNVs (hr_32.symm.trans (hfs9.trans hrd0)) hlk) (cwV 3 hts gX9_run_X4_follow rfl rfl rfl (by decide +kernel) ⟨Nat.le_of_ble_eq_true rfl, Nat.le_of_ble_eq_true rfl⟩) hP hD hK hS hA hev hT 6 4 rfl rfl rfl rfl hl.1 rfl (Nat.le_of_ble_eq_true rfl) dX9_run_69 ⟨Nat.le_of_ble_eq_true rfl, Nat.le_of_ble_eq_true rfl⟩ (fun r L_35 f_36 H locs hw_37 hP hD hS hT hE1 => ?_)
                have hF := Fr.call hF hE hw_37.2.1 (by decide)
                have hE := hE.tr hE1
                obtain ⟨⟨z_38, rfl⟩, hw_37⟩ := hw_37
                obtain ⟨hfr_39, hex_40⟩ := hw_37
                refine W.eq (g2 := F0 m 72 ls [.int z_38]) rfl ?_
                refine vx_ret ?_
                exact K_i hx hb hr hlocks hP hD hK hS hT hE ⟨⟨_, rfl⟩, hF, (by obtain ⟨u9, h1, h2, h3⟩ := hex_40; exact ⟨_, _, Or.inr (Or.inr ⟨hC_8, by rintro (h9 | h9 | h9 | h9 | h9 | h9); exact c_13 h9; exact c_17 h9; exact c_18 h9; exact le_nlt c_19 h9; exact hno h9; exact dyA_0.mpr h9 c_27, u9, h1, rfl⟩), h2, h3⟩)⟩ (Nat.le_of_ble_eq_true rfl) (Nat.le_of_ble_eq_true rfl) dX9_run_72
              · have hT := hT.add hb9
                refine lv_aload hx hb dX9_run_66 (lv_at hl 1 rfl) ?_
                refine lv_iload_n hx hb dX9_run_68 rfl (lv_at hl 5 rfl) ?_
                have hlim := lim_i c_18 c_19
                have hfs9 : rd f_2 b_23 0 = rd f b_23 0 := OF.fr (ci := 3) hF (by decide) _ hrb9.1 hrb9.2 (by simp) 0
                refine K_V ⟨hx, hb, hml, hown, hts⟩ (t_X4_followS l dC dI sa hlt g _ _ h0 cl va 9000000 b.toNatClampNeg V ad dp sA (fiX sA a) ru (.ref b_34) b_5 cq wk vs _ (hT.sub [7, 2, 4, 5] rfl) (Or.inr ⟨_, rfl, hT.at 0 rfl⟩) ((hF.1 ru (hT0.at 4 rfl).1 4 (hT0.at 4 rfl).2 0 (by decide)).trans h_wk_ru_0) ((hF.1 wk (hT0.at 1 rfl).1 8 (hT0.at 1 rfl).2 0 (by decide)).trans h_vs) hs_12 hRG (by decide) hc9 (by rw [ra_eq (hF.2 cl hSR.1.1.2.2.2.1.1 1 _ _ hSR.1.1.2.2.2.1.2 (by decide))]; exact hcl_11) hlim (hTR.go hE hF (by decide) (fun _ _ => rfl)) hLV hNVs (hr_32.symm.trans (hfs9.trans hrd0)) hlk) (cwV 3 hts gX9_run_X4_follow rfl rfl rfl (by decide +kernel) ⟨Nat.le_of_ble_eq_true rfl, Nat.le_of_ble_eq_true rfl⟩) hP hD hK hS hA hev hT 7 4 rfl rfl rfl rfl hl.1 rfl (Nat.le_of_ble_eq_true rfl) dX9_run_69 ⟨Nat.le_of_ble_eq_true rfl, Nat.le_of_ble_eq_true rfl⟩ (fun r L_41 f_42 H locs hw_43 hP hD hS hT hE1 => ?_)
                have hF := Fr.call hF hE hw_43.2.1 (by decide)
                have hE := hE.tr hE1
                obtain ⟨⟨z_44, rfl⟩, hw_43⟩ := hw_43
                obtain ⟨hfr_45, hex_46⟩ := hw_43
                refine W.eq (g2 := F0 m 72 ls [.int z_44]) rfl ?_
                refine vx_ret ?_
                exact K_i hx hb hr hlocks hP hD hK hS hT hE ⟨⟨_, rfl⟩, hF, (by obtain ⟨u9, h1, h2, h3⟩ := hex_46; exact ⟨_, _, Or.inr (Or.inr ⟨hC_8, by rintro (h9 | h9 | h9 | h9 | h9 | h9); exact c_13 h9; exact c_17 h9; exact c_18 h9; exact le_nlt c_19 h9; exact hno h9; exact dyA_0.mpr h9 c_27, u9, h1, rfl⟩), h2, h3⟩)⟩ (Nat.le_of_ble_eq_true rfl) (Nat.le_of_ble_eq_true rfl) dX9_run_72
            · refine lv_iconst (v := (-1)) hx hb dX9_run_55 (by decide) ?_
              refine vx_ret ?_
              exact K_i hx hb hr hlocks hP hD hK hS hT hE ⟨⟨_, rfl⟩, hF, ⟨-1, sA, Or.inr (Or.inl ⟨hC_8, Or.inr (Or.inr (Or.inr (Or.inr (Or.inr (dyA_0.mp c_27))))), rfl⟩), rfl, hs_12⟩⟩ (Nat.le_of_ble_eq_true rfl) (Nat.le_of_ble_eq_true rfl) dX9_run_56
        · refine lv_iconst (v := (-1)) hx hb dX9_run_32 (by decide) ?_
          refine vx_ret ?_
          exact K_i hx hb hr hlocks hP hD hK hS hT hE ⟨⟨_, rfl⟩, hF, ⟨-1, sA, Or.inr (Or.inl ⟨hC_8, Or.inr (Or.inr (Or.inr (Or.inl (nle_lt c_19)))), rfl⟩), rfl, hs_12⟩⟩ (Nat.le_of_ble_eq_true rfl) (Nat.le_of_ble_eq_true rfl) dX9_run_33
