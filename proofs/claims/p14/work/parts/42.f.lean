abbrev rm_X9_planP : Room := { frames := 28, cells := 2, slots := 12, locals := 649 }
set_option maxHeartbeats 800000 in
set_option maxRecDepth 100000 in
theorem t_X9_planP (l : Launch) (dC : Nat → ClassId) (dI : Nat → Nat → Nat) (sa : Nat → Nat) (hlt : l.stackTraces = false) (g : Nat → Nat) (L : List Nat) (f : Nat → va_E) (va : Nat → Nat) (sA : AS) (tv : Nat → Nat) (h0 : Nat) (a : Int32) (b : Int32) (cq : Int32) (dq : Int32) (wk : Nat) (vs : Nat) (cl : Nat) (ru : Nat) (pl : Nat) (tvr : Nat) (tc : Nat) (ks : Nat) (sz : Nat) (hT : TP g L f [(h0, (0, 9, 0)), (wk, (0, 8, 0)), (vs, (2, g 2, 6)), (cl, (2, g 3, 30)), (ru, (0, 4, 0)), (pl, (0, 1, 0)), (tvr, (2, g 10, 6)), (tc, (0, 0, 0)), (ks, (1, g 9, 3))]) (h_wk : rd f h0 0 = .ref wk) (h_vs : rd f wk 0 = .ref vs) (h_cl : rd f h0 1 = .ref cl) (h_ru : rd f h0 9 = .ref ru) (h_pl : rd f h0 10 = .ref pl) (h_tvr : rd f pl 1 = .ref tvr) (h_tc : rd f pl 2 = .ref tc) (h_wk_pl_0 : rd f pl 0 = .ref wk) (h_ks : rd f pl 8 = .ref ks) (hSR : SR g L f (h0, wk, vs, cl, ru, va) sA) (hRG : RV sA ∧ RC sA ∧ 0 ≤ (sA.1 1).toInt ∧ (sA.1 1).toInt ≤ 9000000) (hTV : ∀ k : Nat, k < 6 → ra f tvr k = some (tv k)) (hdj : ∀ k : Nat, k < 6 → va k ∉ [(tv 0), (tv 1), (tv 2), (tv 3), (tv 4), (tv 5)]) (htc : ∀ k : Nat, (k : Int) < (sA.1 12).toInt → ¬ ra f cl k = some tc) (hTM : ∀ k : Nat, k < 6 → tv k ∈ L ∧ sh (f (tv k)) = (0, 7, 0)) (hinj : ∀ i j : Nat, i < 6 → j < 6 → tv i = tv j → i = j) : KX l dC dI sa g yX9_plan wsX9_plan rm_X9_planP [.ref h0, .int a, .int b, .int cq, .int dq] L f sz (fun r L' f' => (∃ z : Int32, r = some (.int z)) ∧ Fr [(0, 1), (0, 2), (0, 3), (7, 1), (7, 2), (7, 3), (7, 4), (1, 3), (1, 4), (1, 5), (100, 3)] L f f' ∧ ((∃ v : Int32, plS a b cq dq sA (0, v, sA) ∧ r = some (.int v)) ∧ SR g L' f' (h0, wk, vs, cl, ru, va) sA)) (fun E L' f' => ((E = NSE ∧ plS a b cq dq sA (1, 0, sA)) ∨ (E = IAE ∧ plS a b cq dq sA (2, 0, sA))) ∧ Fr [] L f f') 2 12 := by
  refine KX.start (cc := cX9_plan) (maxL := 6) (ret := (some .int)) (by decide) rfl (Nat.le_of_ble_eq_true rfl) ?_
  intro p e s m below meth c ls hst hno hP hK hD hev hS hl
  obtain ⟨hx, hb, hr, hml, hts, hown, hlocks, hin⟩ := hst
  have hown : s.vm.findClass RX9 = some m.cls := hown
  have hin : meth.name = yX9_plan.name := hin
  have hA : ∀ q : Nat, s.heap.size ≤ q → va_A (va_pl L f) s.heap.size q := fun _ h => Or.inr h
  have hE : Ext L f L f := Ext.rf
  have hF : Fr [(0, 1), (0, 2), (0, 3), (7, 1), (7, 2), (7, 3), (7, 4), (1, 3), (1, 4), (1, 5), (100, 3)] L f f := Fr.rf
  have hF0 : Fr [] L f f := Fr.rf
  have hl : lv_has ls 6 [(0, .ref h0), (1, .int a), (2, .int b), (3, .int cq), (4, .int dq)] := hl
  have hT0 := hT
  refine lv_aload_n hx hb dX9_plan_0 rfl (lv_at hl 0 rfl) ?_
  refine lv_iload_n hx hb dX9_plan_1 rfl (lv_at hl 1 rfl) ?_
  refine K_VX ⟨hx, hb, hml, hown, hts⟩ (t_X9_clothAtX l dC dI sa hlt g _ _ wk vs ru va sA h0 a cl _ (hT.sub [0, 3] rfl)  ((hF.1 h0 (hT0.at 0 rfl).1 9 (hT0.at 0 rfl).2 1 (by decide)).trans h_cl) hSR hRG.2.1.1.2) (cwV 1 hts gX9_plan_X9_clothAt rfl rfl rfl (by decide +kernel) ⟨Nat.le_of_ble_eq_true rfl, Nat.le_of_ble_eq_true rfl⟩) hP hD hK hS hA hev hT 0 9 rfl rfl rfl rfl hl.1 rfl (Nat.le_of_ble_eq_true rfl) dX9_plan_2 ⟨Nat.le_of_ble_eq_true rfl, Nat.le_of_ble_eq_true rfl⟩ (fun E ce q9 L9 f9 H locs hpx hP hD hS hT hE1 hce hcv hcl => ?_) (fun r L_1 f_2 H locs hw_3 hP hD hS hT hE1 => ?_)
  · have hF := Fr.call hF0 hE hpx.2 (by decide)
    have hE := hE.tr hE1
    exact K_out hno hlocks ⟨Or.inl ⟨hpx.1.1, Or.inl ⟨hpx.1.2, rfl⟩⟩, hF⟩ hP hD hK hS hT hE hce hcv hcl (Nat.le_of_ble_eq_true rfl) (Nat.le_of_ble_eq_true rfl)
  have hF0 := Fr.call hF0 hE hw_3.2.1 (by decide)
  have hF := Fr.call hF hE hw_3.2.1 (by decide)
  have hE := hE.tr hE1
  obtain ⟨⟨v_4, rfl, hv9⟩, hw_3⟩ := hw_3
  obtain ⟨b_5, rfl, hb9⟩ := hv9
  have hT := hT.add hb9
  obtain ⟨hfr_6, hex_7⟩ := hw_3
  obtain ⟨hC_8, bq_9, hg_10, hcl_11⟩ := hex_7
  have hcl_11 : ra f cl a.toNatClampNeg = some b_5 := by have h9 := hg_10; injection h9 with h9; injection h9 with h9; rw [h9]; exact hcl_11
  have hc9 := (inC_c hC_8).2
  have hs_12 := SR.still hSR hE1 hfr_6 (by decide)
  refine W.eq (g2 := F0 m 5 ls [.ref b_5]) rfl ?_
  refine lv_astore (lv' := [(5, .ref b_5), (0, .ref h0), (1, .int a), (2, .int b), (3, .int cq), (4, .int dq)]) hx hb dX9_plan_5 hl (by decide) rfl (fun ls hl => ?_)
  refine lv_iload hx hb dX9_plan_7 (lv_at hl 5 rfl) ?_
  refine lv_if_lt (tgt := 31) hx hb dX9_plan_9 (by decide) (fun c_13 => ?_) (fun c_13 => ?_)
  · refine lv_iconst (v := 0) hx hb dX9_plan_31 (by decide) ?_
    refine K_SX ⟨hx, hb, hml, hown, hts⟩ (t_X9_demandX l dC dI sa hlt g _ _ 0 _ (hT.sub [] rfl)  ) (va_cwS 1 hts gX9_plan_X9_demand rfl rfl rfl (by decide +kernel) ⟨Nat.le_of_ble_eq_true rfl, Nat.le_of_ble_eq_true rfl⟩) hP hD hK hS hA hev hT rfl hl.1 rfl (Nat.le_of_ble_eq_true rfl) dX9_plan_32 ⟨Nat.le_of_ble_eq_true rfl, Nat.le_of_ble_eq_true rfl⟩ (fun E ce q9 L9 f9 H locs hpx hP hD hS hT hE1 hce hcv hcl => ?_) (fun r L_14 f_15 H locs hw_16 hP hD hS hT hE1 => ?_)
    · have hF := Fr.call hF0 hE hpx.2 (by decide)
      have hE := hE.tr hE1
      exact K_out hno hlocks ⟨Or.inr ⟨hpx.1.1, Or.inr ⟨hC_8, Or.inl ⟨fun h8 => le_nlt h8.1 c_13, rfl⟩⟩⟩, hF⟩ hP hD hK hS hT hE hce hcv hcl (Nat.le_of_ble_eq_true rfl) (Nat.le_of_ble_eq_true rfl)
    have hF0 := Fr.call hF0 hE hw_16.2.1 (by decide)
    have hF := Fr.call hF hE hw_16.2.1 (by decide)
    have hE := hE.tr hE1
    obtain ⟨rfl, hw_16⟩ := hw_16
    obtain ⟨hfr_17, hex_18⟩ := hw_16
    have hs_19 := SR.still hs_12 hE1 hfr_17 (by decide)
    refine W.eq (g2 := F0 m 35 ls []) rfl ?_
    exact absurd rfl hex_18
  · refine lv_iload hx hb dX9_plan_12 (lv_at hl 5 rfl) ?_
    refine lv_iconst (v := 3) hx hb dX9_plan_14 (by decide) ?_
    refine lv_icmp_gt (tgt := 31) hx hb dX9_plan_15 (by decide) (fun c_20 => ?_) (fun c_20 => ?_)
    · refine lv_iconst (v := 0) hx hb dX9_plan_31 (by decide) ?_
      refine K_SX ⟨hx, hb, hml, hown, hts⟩ (t_X9_demandX l dC dI sa hlt g _ _ 0 _ (hT.sub [] rfl)  ) (va_cwS 1 hts gX9_plan_X9_demand rfl rfl rfl (by decide +kernel) ⟨Nat.le_of_ble_eq_true rfl, Nat.le_of_ble_eq_true rfl⟩) hP hD hK hS hA hev hT rfl hl.1 rfl (Nat.le_of_ble_eq_true rfl) dX9_plan_32 ⟨Nat.le_of_ble_eq_true rfl, Nat.le_of_ble_eq_true rfl⟩ (fun E ce q9 L9 f9 H locs hpx hP hD hS hT hE1 hce hcv hcl => ?_) (fun r L_21 f_22 H locs hw_23 hP hD hS hT hE1 => ?_)
      · have hF := Fr.call hF0 hE hpx.2 (by decide)
        have hE := hE.tr hE1
        exact K_out hno hlocks ⟨Or.inr ⟨hpx.1.1, Or.inr ⟨hC_8, Or.inl ⟨fun h8 => le_nlt h8.2.1 c_20, rfl⟩⟩⟩, hF⟩ hP hD hK hS hT hE hce hcv hcl (Nat.le_of_ble_eq_true rfl) (Nat.le_of_ble_eq_true rfl)
      have hF0 := Fr.call hF0 hE hw_23.2.1 (by decide)
      have hF := Fr.call hF hE hw_23.2.1 (by decide)
      have hE := hE.tr hE1
      obtain ⟨rfl, hw_23⟩ := hw_23
      obtain ⟨hfr_24, hex_25⟩ := hw_23
      have hs_26 := SR.still hs_12 hE1 hfr_24 (by decide)
      refine W.eq (g2 := F0 m 35 ls []) rfl ?_
      exact absurd rfl hex_25
    · refine lv_iload_n hx hb dX9_plan_18 rfl (lv_at hl 3 rfl) ?_
      refine lv_if_lt (tgt := 31) hx hb dX9_plan_19 (by decide) (fun c_27 => ?_) (fun c_27 => ?_)
      · refine lv_iconst (v := 0) hx hb dX9_plan_31 (by decide) ?_
        refine K_SX ⟨hx, hb, hml, hown, hts⟩ (t_X9_demandX l dC dI sa hlt g _ _ 0 _ (hT.sub [] rfl)  ) (va_cwS 1 hts gX9_plan_X9_demand rfl rfl rfl (by decide +kernel) ⟨Nat.le_of_ble_eq_true rfl, Nat.le_of_ble_eq_true rfl⟩) hP hD hK hS hA hev hT rfl hl.1 rfl (Nat.le_of_ble_eq_true rfl) dX9_plan_32 ⟨Nat.le_of_ble_eq_true rfl, Nat.le_of_ble_eq_true rfl⟩ (fun E ce q9 L9 f9 H locs hpx hP hD hS hT hE1 hce hcv hcl => ?_) (fun r L_28 f_29 H locs hw_30 hP hD hS hT hE1 => ?_)
        · have hF := Fr.call hF0 hE hpx.2 (by decide)
          have hE := hE.tr hE1
          exact K_out hno hlocks ⟨Or.inr ⟨hpx.1.1, Or.inr ⟨hC_8, Or.inl ⟨fun h8 => le_nlt h8.2.2.1 c_27, rfl⟩⟩⟩, hF⟩ hP hD hK hS hT hE hce hcv hcl (Nat.le_of_ble_eq_true rfl) (Nat.le_of_ble_eq_true rfl)
        have hF0 := Fr.call hF0 hE hw_30.2.1 (by decide)
        have hF := Fr.call hF hE hw_30.2.1 (by decide)
        have hE := hE.tr hE1
        obtain ⟨rfl, hw_30⟩ := hw_30
        obtain ⟨hfr_31, hex_32⟩ := hw_30
        have hs_33 := SR.still hs_12 hE1 hfr_31 (by decide)
        refine W.eq (g2 := F0 m 35 ls []) rfl ?_
        exact absurd rfl hex_32
      · refine lv_iload_n hx hb dX9_plan_22 rfl (lv_at hl 3 rfl) ?_
        refine lv_iload_n hx hb dX9_plan_23 rfl (lv_at hl 4 rfl) ?_
        refine lv_icmp_gt (tgt := 31) hx hb dX9_plan_24 (by decide) (fun c_34 => ?_) (fun c_34 => ?_)
        · refine lv_iconst (v := 0) hx hb dX9_plan_31 (by decide) ?_
          refine K_SX ⟨hx, hb, hml, hown, hts⟩ (t_X9_demandX l dC dI sa hlt g _ _ 0 _ (hT.sub [] rfl)  ) (va_cwS 1 hts gX9_plan_X9_demand rfl rfl rfl (by decide +kernel) ⟨Nat.le_of_ble_eq_true rfl, Nat.le_of_ble_eq_true rfl⟩) hP hD hK hS hA hev hT rfl hl.1 rfl (Nat.le_of_ble_eq_true rfl) dX9_plan_32 ⟨Nat.le_of_ble_eq_true rfl, Nat.le_of_ble_eq_true rfl⟩ (fun E ce q9 L9 f9 H locs hpx hP hD hS hT hE1 hce hcv hcl => ?_) (fun r L_35 f_36 H locs hw_37 hP hD hS hT hE1 => ?_)
          · have hF := Fr.call hF0 hE hpx.2 (by decide)
            have hE := hE.tr hE1
            exact K_out hno hlocks ⟨Or.inr ⟨hpx.1.1, Or.inr ⟨hC_8, Or.inl ⟨fun h8 => le_nlt h8.2.2.2 c_34, rfl⟩⟩⟩, hF⟩ hP hD hK hS hT hE hce hcv hcl (Nat.le_of_ble_eq_true rfl) (Nat.le_of_ble_eq_true rfl)
          have hF0 := Fr.call hF0 hE hw_37.2.1 (by decide)
          have hF := Fr.call hF hE hw_37.2.1 (by decide)
          have hE := hE.tr hE1
          obtain ⟨rfl, hw_37⟩ := hw_37
          obtain ⟨hfr_38, hex_39⟩ := hw_37
          have hs_40 := SR.still hs_12 hE1 hfr_38 (by decide)
          refine W.eq (g2 := F0 m 35 ls []) rfl ?_
          exact absurd rfl hex_39
        · refine lv_iconst (v := 1) hx hb dX9_plan_27 (by decide) ?_
          refine lv_goto (tgt := 32) hx hb dX9_plan_28 (by decide) ?_
          refine K_SX ⟨hx, hb, hml, hown, hts⟩ (t_X9_demandX l dC dI sa hlt g _ _ 1 _ (hT.sub [] rfl)  ) (va_cwS 1 hts gX9_plan_X9_demand rfl rfl rfl (by decide +kernel) ⟨Nat.le_of_ble_eq_true rfl, Nat.le_of_ble_eq_true rfl⟩) hP hD hK hS hA hev hT rfl hl.1 rfl (Nat.le_of_ble_eq_true rfl) dX9_plan_32 ⟨Nat.le_of_ble_eq_true rfl, Nat.le_of_ble_eq_true rfl⟩ (fun E ce q9 L9 f9 H locs hpx hP hD hS hT hE1 hce hcv hcl => ?_) (fun r L_41 f_42 H locs hw_43 hP hD hS hT hE1 => ?_)
          · have hF := Fr.call hF0 hE hpx.2 (by decide)
            have hE := hE.tr hE1
            exact absurd hpx.1.2 (by decide)
          have hF0 := Fr.call hF0 hE hw_43.2.1 (by decide)
          have hF := Fr.call hF hE hw_43.2.1 (by decide)
          have hE := hE.tr hE1
          obtain ⟨rfl, hw_43⟩ := hw_43
          obtain ⟨hfr_44, hex_45⟩ := hw_43
          have hs_46 := SR.still hs_12 hE1 hfr_44 (by decide)
          refine W.eq (g2 := F0 m 35 ls []) rfl ?_
          refine lv_aload hx hb dX9_plan_35 (lv_at hl 0 rfl) ?_
          refine T_get (ci := 0) (C := RX0) (T := TX0) (N := 8) (t := tI) hx hb hts inw_X9_plan_0 hown hK hP hT 0 rfl rfl 4 (by decide) (hts (.fieldLink RX9 102 "VatHouse$Cloth" "dry" "Z") (by decide +kernel)) (fun _ h9 => h9) rfl dX9_plan_37 (fun v_49 hv_47 hr_48 => ?_)
          obtain rfl : v_49 = .int (dyA (sA.2 16 a.toNatClampNeg)) := hr_48.symm.trans (SR.cf4 hs_46 hc9 (by rw [ra_eq (hF.2 cl hSR.1.1.2.2.2.1.1 1 _ _ hSR.1.1.2.2.2.1.2 (by decide))]; exact hcl_11))
          refine lv_if_eq (tgt := 45) hx hb dX9_plan_40 (by decide) (fun c_50 => ?_) (fun c_50 => ?_)
          · refine lv_aload_n hx hb dX9_plan_45 rfl (lv_at hl 1 rfl) ?_
            refine T_get (ci := 9) (C := RX9) (T := TX9) (N := 11) (t := (1, 0, 1, 0)) hx hb hts inw_X9_plan_9 hown hK hP hT 1 rfl rfl 10 (by decide) (hts (.fieldLink RX9 53 "VatHouse" "planner" "LVatHouse$Planner;") (by decide +kernel)) (fun _ h9 => h9) rfl dX9_plan_46 (fun v_53 hv_51 hr_52 => ?_)
            obtain rfl : v_53 = .ref pl := hr_52.symm.trans ((hF.1 h0 (hT0.at 0 rfl).1 9 (hT0.at 0 rfl).2 10 (by decide)).trans h_pl)
            refine lv_aload hx hb dX9_plan_49 (lv_at hl 0 rfl) ?_
            refine lv_iload_n hx hb dX9_plan_51 rfl (lv_at hl 3 rfl) ?_
            refine lv_iload_n hx hb dX9_plan_52 rfl (lv_at hl 4 rfl) ?_
            refine lv_iload hx hb dX9_plan_53 (lv_at hl 5 rfl) ?_
            have hF9 := hF
            refine K_V ⟨hx, hb, hml, hown, hts⟩ (t_X1_fewestP l dC dI sa hlt g _ _ tv va a.toNatClampNeg (sA.2 4) (sA.2 5) (sA.2 6) (sA.2 7) (sA.2 13) (sA.2 14) (sA.2 15) pl b_5 b cq dq tvr tc ks wk vs _ (hT.sub [6, 0, 7, 8, 9, 2, 3] rfl)  ((hF.1 pl (hT0.at 5 rfl).1 1 (hT0.at 5 rfl).2 1 (by decide)).trans h_tvr) ((hF.1 pl (hT0.at 5 rfl).1 1 (hT0.at 5 rfl).2 2 (by decide)).trans h_tc) ((hF.1 pl (hT0.at 5 rfl).1 1 (hT0.at 5 rfl).2 8 (by decide)).trans h_ks) ((hF.1 pl (hT0.at 5 rfl).1 1 (hT0.at 5 rfl).2 0 (by decide)).trans h_wk_pl_0) ((hF.1 wk (hT0.at 1 rfl).1 8 (hT0.at 1 rfl).2 0 (by decide)).trans h_vs) (fun k9 h9 => by rw [ra_eq (hF.2 tvr (hT0.at 6 rfl).1 1 _ _ (hT0.at 6 rfl).2 (by decide))]; exact hTV k9 h9) (fun k9 h9 => (hs_46.2.1 k9 h9).1) (fun k9 h9 => mem_ext (hTM k9 h9) hE) hinj hdj (fun k9 h9 => ⟨(hs_46.2.1 k9 h9).2.1, (hs_46.2.1 k9 h9).2.2.2.1, (hs_46.2.1 k9 h9).2.2.2.2.1, (hs_46.2.1 k9 h9).2.2.2.2.2.1, (hs_46.2.1 k9 h9).2.2.2.2.2.2.1⟩) (SR.cf1 hs_46 hc9 (by rw [ra_eq (hF.2 cl hSR.1.1.2.2.2.1.1 1 _ _ hSR.1.1.2.2.2.1.2 (by decide))]; exact hcl_11)) (SR.cf2 hs_46 hc9 (by rw [ra_eq (hF.2 cl hSR.1.1.2.2.2.1.1 1 _ _ hSR.1.1.2.2.2.1.2 (by decide))]; exact hcl_11)) (SR.cf3 hs_46 hc9 (by rw [ra_eq (hF.2 cl hSR.1.1.2.2.2.1.1 1 _ _ hSR.1.1.2.2.2.1.2 (by decide))]; exact hcl_11)) ⟨fun k9 h9 => (hRG.1 k9 h9).1, (hRG.2.1.2 _ hc9).1, (hRG.2.1.2 _ hc9).2.1, (hRG.2.1.2 _ hc9).2.2.1, (hRG.2.1.2 _ hc9).2.2.2.1⟩) (cwV 4 hts gX9_plan_X1_fewest rfl rfl rfl (by decide +kernel) ⟨Nat.le_of_ble_eq_true rfl, Nat.le_of_ble_eq_true rfl⟩) hP hD hK hS hA hev hT 6 1 rfl rfl rfl rfl hl.1 rfl (Nat.le_of_ble_eq_true rfl) dX9_plan_55 ⟨Nat.le_of_ble_eq_true rfl, Nat.le_of_ble_eq_true rfl⟩ (fun r L_54 f_55 H locs hw_56 hP hD hS hT hE1 => ?_)
            have hF := Fr.call hF hE hw_56.2.1 (by decide)
            have hE := hE.tr hE1
            obtain ⟨⟨z_57, rfl⟩, hw_56⟩ := hw_56
            obtain ⟨hfr_58, hex_59⟩ := hw_56
            obtain ⟨hof_60, hof_61, hex_62⟩ := hex_59
            have hs_63 := SR.pln hs_46 hE1 hfr_58 (by decide) (by decide) (by decide) (by decide) (by decide) hof_61 hof_60 hdj (fun k9 h9 => by rw [ra_eq (hF9.2 cl hSR.1.1.2.2.2.1.1 1 _ _ hSR.1.1.2.2.2.1.2 (by decide))]; exact htc k9 h9)
            refine W.eq (g2 := F0 m 58 ls [.int z_57]) rfl ?_
            refine vx_ret ?_
            exact K_i hx hb hr hlocks hP hD hK hS hT hE ⟨⟨_, rfl⟩, hF, ⟨⟨z_57, Or.inr ⟨hC_8, Or.inr ⟨⟨nlt_le c_13, nlt_le c_20, nlt_le c_27, nlt_le c_34⟩, Or.inr ⟨Decidable.not_not.mp (fun h9 => dyA_0.mpr h9 c_50), hex_62.imp (fun ⟨n9, _, h1, h2, h3, h4⟩ => ⟨n9, h1, h2, h3, by rw [sv h4]⟩) (fun h8 => ⟨fun n9 h9 => h8.1 n9 (by have h7 := nlt_i1 c_20 (k := 3) (by decide); omega) h9, by rw [sv h8.2]⟩)⟩⟩⟩, rfl⟩, hs_63⟩⟩ (Nat.le_of_ble_eq_true rfl) (Nat.le_of_ble_eq_true rfl) dX9_plan_58
          · refine lv_iconst (v := (-1)) hx hb dX9_plan_43 (by decide) ?_
            refine vx_ret ?_
            exact K_i hx hb hr hlocks hP hD hK hS hT hE ⟨⟨_, rfl⟩, hF, ⟨⟨-1, Or.inr ⟨hC_8, Or.inr ⟨⟨nlt_le c_13, nlt_le c_20, nlt_le c_27, nlt_le c_34⟩, Or.inl ⟨dyA_0.mp c_50, rfl⟩⟩⟩, rfl⟩, hs_46⟩⟩ (Nat.le_of_ble_eq_true rfl) (Nat.le_of_ble_eq_true rfl) dX9_plan_44
