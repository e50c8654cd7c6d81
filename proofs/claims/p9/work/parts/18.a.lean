/-- when recipe reads -/
def Cq (a b tl : Int32) : Prop := ¬ a < 0 ∧ ¬ 8 ≤ a ∧ ¬ b < 0 ∧ ¬ tl < b

abbrev rm_X9_demandC : Room := { frames := 6, cells := 1, slots := 6, locals := 82 }
set_option maxHeartbeats 800000 in
set_option maxRecDepth 100000 in
theorem t_X9_demandC (l : Launch) (dC : Nat → ClassId) (dI : Nat → Nat → Nat) (sa : Nat → Nat) (hlt : l.stackTraces = false) (g : Nat → Nat) (L : List Nat) (f : Nat → va_E) (b : Int32) (sz : Nat) (hT : TP g L f []) : KX l dC dI sa g yX9_demand wsX9_demand rm_X9_demandC [.int b] L f sz (fun r L' f' => (r = none) ∧ Fr [] L f f' ∧ (¬ b = 0)) (fun E L' f' => ((E = IAE) ∧ (b = 0)) ∧ Fr [] L f f') 1 6 := by
  refine KX.start (cc := cX9_demand) (maxL := 1) (ret := none) (by decide) rfl (Nat.le_of_ble_eq_true rfl) ?_
  intro p e s m below meth c ls hst hno hP hK hD hev hS hl
  obtain ⟨hx, hb, hr, hml, hts, hown, hlocks, hin⟩ := hst
  have hown : s.vm.findClass RX9 = some m.cls := hown
  have hin : meth.name = yX9_demand.name := hin
  have hA : ∀ q : Nat, s.heap.size ≤ q → va_A (va_pl L f) s.heap.size q := fun _ h => Or.inr h
  have hE : Ext L f L f := Ext.rf
  have hF : Fr [] L f f := Fr.rf
  have hl : lv_has ls 1 [(0, .int b)] := hl
  refine lv_iload_n hx hb dX9_demand_0 rfl (lv_at hl 0 rfl) ?_
  refine lv_if_ne (tgt := 14) hx hb dX9_demand_1 (by decide) (fun c_1 => ?_) (fun c_1 => ?_)
  · refine vx_ret ?_
    exact K_v hx hb hr hlocks hP hD hK hS hT hE ⟨rfl, hF, c_1⟩ (Nat.le_of_ble_eq_true rfl) (Nat.le_of_ble_eq_true rfl) dX9_demand_14
  · exact K_x (cls := IAE) hno hx hb hlt hlocks hown hts Bundle.six_0 Bundle.six_1 Bundle.six_2 Bundle.six_5 (by decide +kernel) (hts (.classLink RX9 252 IAE) (by decide +kernel)) (hts (.initialized IAE) (by decide +kernel)) hev.2.1.2.1 (inx_X9_demand_i) xb_i hev.2.2.1.2.1 xo_i hev (hl.1.trans hml.symm) dX9_demand_4 dX9_demand_7 dX9_demand_8 dX9_demand_10 dX9_demand_13 (Nat.le_of_ble_eq_true rfl) (Nat.le_of_ble_eq_true rfl) (Nat.le_of_ble_eq_true rfl) (Nat.le_of_ble_eq_true rfl) ⟨⟨rfl, c_1⟩, hF⟩ hP hD hK hS hT hE (Nat.le_of_ble_eq_true rfl) (Nat.le_of_ble_eq_true rfl)

abbrev rm_X9_recipe9 : Room := { frames := 81, cells := 303, slots := 2415, locals := 2422 }
set_option maxHeartbeats 800000 in
set_option maxRecDepth 100000 in
theorem t_X9_recipe9 (l : Launch) (dC : Nat → ClassId) (dI : Nat → Nat → Nat) (sa : Nat → Nat) (hlt : l.stackTraces = false) (g : Nat → Nat) (L : List Nat) (f : Nat → va_E) (h0 : Nat) (a : Int32) (b : Int32) (tl : Int32) (sz : Nat) (hT : TP g L f [(h0, (0, 9, 0))]) (hm_tl : rd f h0 5 = .int tl) : KX l dC dI sa g yX9_recipe wsX9_recipe rm_X9_recipe9 [.ref h0, .int a, .int b] L f sz (fun r L' f' => (∃ z : Int32, r = some (.int z)) ∧ Fr [(2, 0), (2, 1), (2, 2), (2, 3), (2, 4), (2, 5), (3, 0), (5, 0), (5, 1), (5, 2), (5, 3), (5, 4), (5, 5), (5, 6), (5, 7), (6, 0), (6, 1), (6, 2), (6, 3), (6, 4), (6, 5), (6, 6), (9, 5), (9, 8)] L f f' ∧ (∃ tl' : Int32, rd f' h0 5 = .int tl' ∧ (Cq a b tl ∧ tl' = 0))) (fun E L' f' => ((E = IAE) ∧ (¬ Cq a b tl)) ∧ Fr [] L f f') 303 2415 := by
  refine KX.start (cc := cX9_recipe) (maxL := 4) (ret := (some .int)) (by decide) rfl (Nat.le_of_ble_eq_true rfl) ?_
  intro p e s m below meth c ls hst hno hP hK hD hev hS hl
  obtain ⟨hx, hb, hr, hml, hts, hown, hlocks, hin⟩ := hst
  have hown : s.vm.findClass RX9 = some m.cls := hown
  have hin : meth.name = yX9_recipe.name := hin
  have hA : ∀ q : Nat, s.heap.size ≤ q → va_A (va_pl L f) s.heap.size q := fun _ h => Or.inr h
  have hE : Ext L f L f := Ext.rf
  have hF : Fr [(2, 0), (2, 1), (2, 2), (2, 3), (2, 4), (2, 5), (3, 0), (5, 0), (5, 1), (5, 2), (5, 3), (5, 4), (5, 5), (5, 6), (5, 7), (6, 0), (6, 1), (6, 2), (6, 3), (6, 4), (6, 5), (6, 6), (9, 5), (9, 8)] L f f := Fr.rf
  have hl : lv_has ls 4 [(0, .ref h0), (1, .int a), (2, .int b)] := hl
  refine lv_iload_n hx hb dX9_recipe_0 rfl (lv_at hl 1 rfl) ?_
  refine lv_if_lt (tgt := 29) hx hb dX9_recipe_1 (by decide) (fun c_1 => ?_) (fun c_1 => ?_)
  · refine lv_iconst (v := 0) hx hb dX9_recipe_29 (by decide) ?_
    have hTo := hT
    refine K_SX ⟨hx, hb, hml, hown, hts⟩ (t_X9_demandC l dC dI sa hlt g _ _ 0 _ (hT.sub [] rfl)  ) (va_cwS 1 hts gX9_recipe_X9_demand rfl rfl rfl (by decide +kernel) ⟨Nat.le_of_ble_eq_true rfl, Nat.le_of_ble_eq_true rfl⟩) hP hD hK hS hA hev hT rfl hl.1 rfl (Nat.le_of_ble_eq_true rfl) dX9_recipe_30 ⟨Nat.le_of_ble_eq_true rfl, Nat.le_of_ble_eq_true rfl⟩ (fun E ce q9 L9 f9 H locs hpx hP hD hS hT hE1 hce hcv hcl => ?_) (fun r L_2 f_3 H locs hw_4 hP hD hS hT hE1 => ?_)
    · have hF := Fr.call hF hE hpx.2 (by decide)
      have hE := hE.tr hE1
      exact K_out hno hlocks ⟨⟨hpx.1.1, fun h9 => h9.1 c_1⟩, hpx.2⟩ hP hD hK hS hT hE hce hcv hcl (Nat.le_of_ble_eq_true rfl) (Nat.le_of_ble_eq_true rfl)
    have hF := Fr.call hF hE hw_4.2.1 (by decide)
    have hE := hE.tr hE1
    obtain ⟨rfl, hw_4⟩ := hw_4
    obtain ⟨hfr_5, hex_6⟩ := hw_4
    have hk_7 : rd f_3 h0 5 = .int tl := (hfr_5 h0 (hTo.at 0 rfl).1 9 (hTo.at 0 rfl).2 5 (by decide)).trans hm_tl
    refine W.eq (g2 := F0 m 33 ls []) rfl ?_
    exact absurd rfl hex_6
  · refine lv_iload_n hx hb dX9_recipe_4 rfl (lv_at hl 1 rfl) ?_
    refine lv_aload_n hx hb dX9_recipe_5 rfl (lv_at hl 0 rfl) ?_
    refine T_get (ci := 9) (C := RX9) (T := TX9) (N := 11) (t := (1, 2, g 4, 8)) hx hb hts inw_X9_recipe_9 hown hK hP hT 0 rfl rfl 7 (by decide) (hts (.fieldLink RX9 37 "VatHouse" "recipes" "[LVatHouse$Recipe;") (by decide +kernel)) (fun _ h9 => h9) rfl dX9_recipe_6 (fun v_10 hv_8 hr_9 => ?_)
    obtain ⟨b_11, rfl, hb9⟩ := hv_8
    have hT := hT.add hb9
    refine T_alen hx hb hK hP hT 0 4 rfl rfl (v := 8) rfl dX9_recipe_9 ?_
    refine lv_icmp_ge (tgt := 29) hx hb dX9_recipe_10 (by decide) (fun c_12 => ?_) (fun c_12 => ?_)
    · refine lv_iconst (v := 0) hx hb dX9_recipe_29 (by decide) ?_
      have hTo := hT
      refine K_SX ⟨hx, hb, hml, hown, hts⟩ (t_X9_demandC l dC dI sa hlt g _ _ 0 _ (hT.sub [] rfl)  ) (va_cwS 1 hts gX9_recipe_X9_demand rfl rfl rfl (by decide +kernel) ⟨Nat.le_of_ble_eq_true rfl, Nat.le_of_ble_eq_true rfl⟩) hP hD hK hS hA hev hT rfl hl.1 rfl (Nat.le_of_ble_eq_true rfl) dX9_recipe_30 ⟨Nat.le_of_ble_eq_true rfl, Nat.le_of_ble_eq_true rfl⟩ (fun E ce q9 L9 f9 H locs hpx hP hD hS hT hE1 hce hcv hcl => ?_) (fun r L_13 f_14 H locs hw_15 hP hD hS hT hE1 => ?_)
      · have hF := Fr.call hF hE hpx.2 (by decide)
        have hE := hE.tr hE1
        exact K_out hno hlocks ⟨⟨hpx.1.1, fun h9 => h9.2.1 c_12⟩, hpx.2⟩ hP hD hK hS hT hE hce hcv hcl (Nat.le_of_ble_eq_true rfl) (Nat.le_of_ble_eq_true rfl)
      have hF := Fr.call hF hE hw_15.2.1 (by decide)
      have hE := hE.tr hE1
      obtain ⟨rfl, hw_15⟩ := hw_15
      obtain ⟨hfr_16, hex_17⟩ := hw_15
      have hk_18 : rd f_14 h0 5 = .int tl := (hfr_16 h0 (hTo.at 1 rfl).1 9 (hTo.at 1 rfl).2 5 (by decide)).trans hm_tl
      refine W.eq (g2 := F0 m 33 ls []) rfl ?_
      exact absurd rfl hex_17
    · refine lv_iload_n hx hb dX9_recipe_13 rfl (lv_at hl 2 rfl) ?_
      refine lv_if_lt (tgt := 29) hx hb dX9_recipe_14 (by decide) (fun c_19 => ?_) (fun c_19 => ?_)
      · refine lv_iconst (v := 0) hx hb dX9_recipe_29 (by decide) ?_
        have hTo := hT
        refine K_SX ⟨hx, hb, hml, hown, hts⟩ (t_X9_demandC l dC dI sa hlt g _ _ 0 _ (hT.sub [] rfl)  ) (va_cwS 1 hts gX9_recipe_X9_demand rfl rfl rfl (by decide +kernel) ⟨Nat.le_of_ble_eq_true rfl, Nat.le_of_ble_eq_true rfl⟩) hP hD hK hS hA hev hT rfl hl.1 rfl (Nat.le_of_ble_eq_true rfl) dX9_recipe_30 ⟨Nat.le_of_ble_eq_true rfl, Nat.le_of_ble_eq_true rfl⟩ (fun E ce q9 L9 f9 H locs hpx hP hD hS hT hE1 hce hcv hcl => ?_) (fun r L_20 f_21 H locs hw_22 hP hD hS hT hE1 => ?_)
        · have hF := Fr.call hF hE hpx.2 (by decide)
          have hE := hE.tr hE1
          exact K_out hno hlocks ⟨⟨hpx.1.1, fun h9 => h9.2.2.1 c_19⟩, hpx.2⟩ hP hD hK hS hT hE hce hcv hcl (Nat.le_of_ble_eq_true rfl) (Nat.le_of_ble_eq_true rfl)
        have hF := Fr.call hF hE hw_22.2.1 (by decide)
        have hE := hE.tr hE1
        obtain ⟨rfl, hw_22⟩ := hw_22
        obtain ⟨hfr_23, hex_24⟩ := hw_22
        have hk_25 : rd f_21 h0 5 = .int tl := (hfr_23 h0 (hTo.at 1 rfl).1 9 (hTo.at 1 rfl).2 5 (by decide)).trans hm_tl
        refine W.eq (g2 := F0 m 33 ls []) rfl ?_
        exact absurd rfl hex_24
      · refine lv_iload_n hx hb dX9_recipe_17 rfl (lv_at hl 2 rfl) ?_
        refine lv_aload_n hx hb dX9_recipe_18 rfl (lv_at hl 0 rfl) ?_
        refine T_get (ci := 9) (C := RX9) (T := TX9) (N := 11) (t := tI) hx hb hts inw_X9_recipe_9 hown hK hP hT 1 rfl rfl 5 (by decide) (hts (.fieldLink RX9 124 "VatHouse" "tapeLength" "I") (by decide +kernel)) (fun _ h9 => h9) rfl dX9_recipe_19 (fun v_28 hv_26 hr_27 => ?_)
        obtain rfl : v_28 = .int tl := hr_27.symm.trans hm_tl
        refine lv_icmp_gt (tgt := 29) hx hb dX9_recipe_22 (by decide) (fun c_29 => ?_) (fun c_29 => ?_)
        · refine lv_iconst (v := 0) hx hb dX9_recipe_29 (by decide) ?_
          have hTo := hT
          refine K_SX ⟨hx, hb, hml, hown, hts⟩ (t_X9_demandC l dC dI sa hlt g _ _ 0 _ (hT.sub [] rfl)  ) (va_cwS 1 hts gX9_recipe_X9_demand rfl rfl rfl (by decide +kernel) ⟨Nat.le_of_ble_eq_true rfl, Nat.le_of_ble_eq_true rfl⟩) hP hD hK hS hA hev hT rfl hl.1 rfl (Nat.le_of_ble_eq_true rfl) dX9_recipe_30 ⟨Nat.le_of_ble_eq_true rfl, Nat.le_of_ble_eq_true rfl⟩ (fun E ce q9 L9 f9 H locs hpx hP hD hS hT hE1 hce hcv hcl => ?_) (fun r L_30 f_31 H locs hw_32 hP hD hS hT hE1 => ?_)
          · have hF := Fr.call hF hE hpx.2 (by decide)
            have hE := hE.tr hE1
            exact K_out hno hlocks ⟨⟨hpx.1.1, fun h9 => h9.2.2.2 c_29⟩, hpx.2⟩ hP hD hK hS hT hE hce hcv hcl (Nat.le_of_ble_eq_true rfl) (Nat.le_of_ble_eq_true rfl)
          have hF := Fr.call hF hE hw_32.2.1 (by decide)
          have hE := hE.tr hE1
          obtain ⟨rfl, hw_32⟩ := hw_32
          obtain ⟨hfr_33, hex_34⟩ := hw_32
          have hk_35 : rd f_31 h0 5 = .int tl := (hfr_33 h0 (hTo.at 1 rfl).1 9 (hTo.at 1 rfl).2 5 (by decide)).trans hm_tl
          refine W.eq (g2 := F0 m 33 ls []) rfl ?_
          exact absurd rfl hex_34
        · refine lv_iconst (v := 1) hx hb dX9_recipe_25 (by decide) ?_
          refine lv_goto (tgt := 30) hx hb dX9_recipe_26 (by decide) ?_
          have hTo := hT
          refine K_SX ⟨hx, hb, hml, hown, hts⟩ (t_X9_demandC l dC dI sa hlt g _ _ 1 _ (hT.sub [] rfl)  ) (va_cwS 1 hts gX9_recipe_X9_demand rfl rfl rfl (by decide +kernel) ⟨Nat.le_of_ble_eq_true rfl, Nat.le_of_ble_eq_true rfl⟩) hP hD hK hS hA hev hT rfl hl.1 rfl (Nat.le_of_ble_eq_true rfl) dX9_recipe_30 ⟨Nat.le_of_ble_eq_true rfl, Nat.le_of_ble_eq_true rfl⟩ (fun E ce q9 L9 f9 H locs hpx hP hD hS hT hE1 hce hcv hcl => ?_) (fun r L_36 f_37 H locs hw_38 hP hD hS hT hE1 => ?_)
          · have hF := Fr.call hF hE hpx.2 (by decide)
            have hE := hE.tr hE1
            exact K_out hno hlocks ⟨⟨hpx.1.1, absurd hpx.1.2 (by decide)⟩, hpx.2⟩ hP hD hK hS hT hE hce hcv hcl (Nat.le_of_ble_eq_true rfl) (Nat.le_of_ble_eq_true rfl)
          have hF := Fr.call hF hE hw_38.2.1 (by decide)
          have hE := hE.tr hE1
          obtain ⟨rfl, hw_38⟩ := hw_38
          obtain ⟨hfr_39, hex_40⟩ := hw_38
          have hk_41 : rd f_37 h0 5 = .int tl := (hfr_39 h0 (hTo.at 1 rfl).1 9 (hTo.at 1 rfl).2 5 (by decide)).trans hm_tl
          refine W.eq (g2 := F0 m 33 ls []) rfl ?_
          refine lv_aload_n hx hb dX9_recipe_33 rfl (lv_at hl 0 rfl) ?_
          refine T_get (ci := 9) (C := RX9) (T := TX9) (N := 11) (t := (1, 0, 2, 0)) hx hb hts inw_X9_recipe_9 hown hK hP hT 1 rfl rfl 6 (by decide) (hts (.fieldLink RX9 31 "VatHouse" "reader" "LVatHouse$Reader;") (by decide +kernel)) (fun _ h9 => h9) rfl dX9_recipe_34 (fun v_44 hv_42 hr_43 => ?_)
          obtain ⟨b_45, rfl, hb9⟩ := hv_42
          have hT := hT.add hb9
          refine lv_iload_n hx hb dX9_recipe_37 rfl (lv_at hl 2 rfl) ?_
          have hTo := hT
          refine K_V ⟨hx, hb, hml, hown, hts⟩ (t_X2_readRecipe l dC dI sa hlt g _ _ b_45 b _ (hT.sub [0] rfl)  ) (cwV 1 hts gX9_recipe_X2_readRecipe rfl rfl rfl (by decide +kernel) ⟨Nat.le_of_ble_eq_true rfl, Nat.le_of_ble_eq_true rfl⟩) hP hD hK hS hA hev hT 0 2 rfl rfl rfl rfl hl.1 rfl (Nat.le_of_ble_eq_true rfl) dX9_recipe_38 ⟨Nat.le_of_ble_eq_true rfl, Nat.le_of_ble_eq_true rfl⟩ (fun r L_46 f_47 H locs hw_48 hP hD hS hT hE1 => ?_)
          have hF := Fr.call hF hE hw_48.2 (by decide)
          have hE := hE.tr hE1
          obtain ⟨⟨v_49, rfl, hv9⟩, hw_48⟩ := hw_48
          rcases hv9 with rfl | ⟨b_50, rfl, hb9⟩
          · have hk_51 : rd f_47 h0 5 = .int tl := (hw_48 h0 (hTo.at 2 rfl).1 9 (hTo.at 2 rfl).2 5 (by decide)).trans hk_41
            refine W.eq (g2 := F0 m 41 ls [.null]) rfl ?_
            refine lv_astore_nN (lv' := [(3, .null), (0, .ref h0), (1, .int a), (2, .int b)]) hx hb dX9_recipe_41 rfl hl (by decide) rfl (fun ls hl => ?_)
            refine lv_aload_n hx hb dX9_recipe_42 rfl (lv_at hl 1 rfl) ?_
            refine lv_iconst (v := 0) hx hb dX9_recipe_43 (by decide) ?_
            have hTo := hT
            refine T_put (ci := 9) (v := .int 0) (ty := .int) (t := tI) (C := RX9) (T := TX9) (N := 11) hx hb hts inw_X9_recipe_9 tyX9 tyX9_ok nmX9 hown hK hP hD hS hT 2 rfl rfl 5 (by decide) (hts (.fieldLink RX9 124 "VatHouse" "tapeLength" "I") (by decide +kernel)) (fun _ h9 => h9) rfl (by decide +kernel) rfl rfl rfl ⟨_, rfl⟩ dX9_recipe_44 (fun f_52 H locs hP hD hS hT hE1 hrd_53 => ?_)
            have hF := Fr.put (a := h0) (ci := 9) hF hE ((hE1 h0 (hT.at 2 rfl).1).2.symm.trans (hT.at 2 rfl).2) (by decide) hrd_53
            have hE := hE.tr hE1
            have hk_54 : rd f_52 h0 5 = .int 0 := (hrd_53 h0 5).trans (if_pos ⟨rfl, rfl⟩)
            refine lv_aload_n hx hb dX9_recipe_47 rfl (lv_at hl 1 rfl) ?_
            refine T_get (ci := 9) (C := RX9) (T := TX9) (N := 11) (t := (1, 0, 2, 0)) hx hb hts inw_X9_recipe_9 hown hK hP hT 2 rfl rfl 6 (by decide) (hts (.fieldLink RX9 31 "VatHouse" "reader" "LVatHouse$Reader;") (by decide +kernel)) (fun _ h9 => h9) rfl dX9_recipe_48 (fun v_57 hv_55 hr_56 => ?_)
            obtain ⟨b_58, rfl, hb9⟩ := hv_55
            have hT := hT.add hb9
            refine T_get (ci := 2) (C := RX2) (T := TX2) (N := 6) (t := tI) hx hb hts inw_X9_recipe_2 hown hK hP hT 0 rfl rfl 3 (by decide) (hts (.fieldLink RX9 134 "VatHouse$Reader" "fault" "I") (by decide +kernel)) (fun _ h9 => h9) rfl dX9_recipe_51 (fun v_61 hv_59 hr_60 => ?_)
            obtain ⟨z_62, rfl⟩ := hv_59
            refine lv_if_ne (tgt := 82) hx hb dX9_recipe_54 (by decide) (fun c_63 => ?_) (fun c_63 => ?_)
            · refine lv_aload_n hx hb dX9_recipe_82 rfl (lv_at hl 1 rfl) ?_
              refine T_get (ci := 9) (C := RX9) (T := TX9) (N := 11) (t := (1, 0, 2, 0)) hx hb hts inw_X9_recipe_9 hown hK hP hT 3 rfl rfl 6 (by decide) (hts (.fieldLink RX9 31 "VatHouse" "reader" "LVatHouse$Reader;") (by decide +kernel)) (fun _ h9 => h9) rfl dX9_recipe_83 (fun v_66 hv_64 hr_65 => ?_)
              obtain rfl : v_66 = .ref b_58 := hr_65.symm.trans hr_56
              refine T_get (ci := 2) (C := RX2) (T := TX2) (N := 6) (t := tI) hx hb hts inw_X9_recipe_2 hown hK hP hT 0 rfl rfl 3 (by decide) (hts (.fieldLink RX9 134 "VatHouse$Reader" "fault" "I") (by decide +kernel)) (fun _ h9 => h9) rfl dX9_recipe_86 (fun v_69 hv_67 hr_68 => ?_)
              obtain rfl : v_69 = .int z_62 := hr_68.symm.trans hr_60
              refine vx_ret ?_
              exact K_i hx hb hr hlocks hP hD hK hS hT hE ⟨⟨_, rfl⟩, hF, _, hk_54, ⟨⟨c_1, c_12, c_19, c_29⟩, rfl⟩⟩ (Nat.le_of_ble_eq_true rfl) (Nat.le_of_ble_eq_true rfl) dX9_recipe_89
            · refine lv_aload_n hx hb dX9_recipe_57 rfl (lv_at hl 1 rfl) ?_
              refine T_get (ci := 9) (C := RX9) (T := TX9) (N := 11) (t := (1, 2, g 4, 8)) hx hb hts inw_X9_recipe_9 hown hK hP hT 3 rfl rfl 7 (by decide) (hts (.fieldLink RX9 37 "VatHouse" "recipes" "[LVatHouse$Recipe;") (by decide +kernel)) (fun _ h9 => h9) rfl dX9_recipe_58 (fun v_72 hv_70 hr_71 => ?_)
              obtain ⟨b_73, rfl, hb9⟩ := hv_70
              have hT := hT.add hb9
              refine lv_iload_n hx hb dX9_recipe_61 rfl (lv_at hl 2 rfl) ?_
              have hTo := hT
              refine T_new (ci := 3) (fs := [.null]) (C := RX3) (T := TX3) (N := 1) hx hb hts inw_X9_recipe_3 tyX3 tyX3_ok hown (hts (.classLink RX9 35 RX3) (by decide +kernel)) (hts (.instantiable RX3 1) (by decide +kernel)) (hts (.initialized RX3) (by decide +kernel)) hK hP hD hS hA hT rfl nfX3 (okn_3 g) (Nat.le_of_ble_eq_true rfl) (Nat.le_of_ble_eq_true rfl) dX9_recipe_62 (fun q_74 L_75 f_76 H hq_77 hL_78 hP hD hS hT hE1 hrd_79 hrq_80 => ?_)
              have hF := Fr.new hF hE hq_77 hrd_79
              have hE := hE.tr hE1
              have hk_81 := (hrd_79 h0 5 (fun h9 => hq_77 (h9 ▸ (hTo.at 4 rfl).1))).trans hk_54
              refine lv_dup hx hb dX9_recipe_65 rfl ?_
              refine lv_aload_nN hx hb dX9_recipe_66 rfl (lv_at hl 0 rfl) ?_
              have hTo := hT
              refine K_I ⟨hx, hb, hml, hown, hts⟩ (t_X3_init l dC dI sa hlt g _ _ q_74 .null _ (hT.sub [0] rfl) (Or.inl rfl) ) (cwI 1 hts gX9_recipe_X3_init rfl rfl rfl (hts (.initialized RX3) (by decide +kernel)) (hts (.methodLink RX9 137 yX3_init) (by decide +kernel)) (hts (.instanceMethod yX3_init) (by decide +kernel)) rfl (by decide +kernel) ⟨Nat.le_of_ble_eq_true rfl, Nat.le_of_ble_eq_true rfl⟩) hP hD hK hS hA hev hT rfl hl.1 rfl (Nat.le_of_ble_eq_true rfl) dX9_recipe_67 ⟨Nat.le_of_ble_eq_true rfl, Nat.le_of_ble_eq_true rfl⟩ (fun r L_82 f_83 H locs hw_84 hP hD hS hT hE1 => ?_)
              have hF := Fr.call hF hE hw_84.2 (by decide)
              have hE := hE.tr hE1
              obtain ⟨rfl, hw_84⟩ := hw_84
              have hk_85 : rd f_83 h0 5 = .int 0 := (hw_84 h0 (hTo.at 5 rfl).1 9 (hTo.at 5 rfl).2 5 (by decide)).trans hk_81
              refine W.eq (g2 := F0 m 70 ls [.ref q_74, .int a, .ref b_73]) rfl ?_
              have hTo := hT
              refine T_rast hx hb hK hP hD hS hT 1 4 0 rfl rfl rfl rfl (vin 8 (by decide) rfl (by assumption) (by assumption)) dX9_recipe_70 (fun f_86 H locs hP hD hS hT hE1 hrd_87 => ?_)
              have hF := hF.arr hrd_87
              have hE := hE.tr hE1
              have hk_88 : rd f_86 h0 5 = .int 0 := (hrd_87 h0 5).trans hk_85
              refine lv_aload_n hx hb dX9_recipe_71 rfl (lv_at hl 1 rfl) ?_
              refine lv_aload_n hx hb dX9_recipe_72 rfl (lv_at hl 1 rfl) ?_
              refine T_get (ci := 9) (C := RX9) (T := TX9) (N := 11) (t := (1, 0, 2, 0)) hx hb hts inw_X9_recipe_9 hown hK hP hT 5 rfl rfl 6 (by decide) (hts (.fieldLink RX9 31 "VatHouse" "reader" "LVatHouse$Reader;") (by decide +kernel)) (fun _ h9 => h9) rfl dX9_recipe_73 (fun v_91 hv_89 hr_90 => ?_)
              obtain ⟨b_92, rfl, hb9⟩ := hv_89
              have hT := hT.add hb9
              refine T_get (ci := 2) (C := RX2) (T := TX2) (N := 6) (t := tI) hx hb hts inw_X9_recipe_2 hown hK hP hT 0 rfl rfl 5 (by decide) (hts (.fieldLink RX9 140 "VatHouse$Reader" "steps" "I") (by decide +kernel)) (fun _ h9 => h9) rfl dX9_recipe_76 (fun v_95 hv_93 hr_94 => ?_)
              obtain ⟨z_96, rfl⟩ := hv_93
              have hTo := hT
              refine T_put (ci := 9) (v := .int z_96) (ty := .int) (t := tI) (C := RX9) (T := TX9) (N := 11) hx hb hts inw_X9_recipe_9 tyX9 tyX9_ok nmX9 hown hK hP hD hS hT 6 rfl rfl 8 (by decide) (hts (.fieldLink RX9 143 "VatHouse" "stepsRead" "I") (by decide +kernel)) (fun _ h9 => h9) rfl (by decide +kernel) rfl rfl rfl ⟨_, rfl⟩ dX9_recipe_79 (fun f_97 H locs hP hD hS hT hE1 hrd_98 => ?_)
              have hF := Fr.put (a := h0) (ci := 9) hF hE ((hE1 h0 (hT.at 6 rfl).1).2.symm.trans (hT.at 6 rfl).2) (by decide) hrd_98
              have hE := hE.tr hE1
              have hk_99 : rd f_97 h0 5 = .int 0 := ((Fr.put (cs := [(9, 8)]) (a := h0) (ci := 9) Fr.rf Ext.rf (hTo.at 6 rfl).2 (by decide) hrd_98) h0 (hTo.at 6 rfl).1 9 (hTo.at 6 rfl).2 5 (by decide)).trans hk_88
              refine lv_aload_n hx hb dX9_recipe_82 rfl (lv_at hl 1 rfl) ?_
              refine T_get (ci := 9) (C := RX9) (T := TX9) (N := 11) (t := (1, 0, 2, 0)) hx hb hts inw_X9_recipe_9 hown hK hP hT 6 rfl rfl 6 (by decide) (hts (.fieldLink RX9 31 "VatHouse" "reader" "LVatHouse$Reader;") (by decide +kernel)) (fun _ h9 => h9) rfl dX9_recipe_83 (fun v_102 hv_100 hr_101 => ?_)
              obtain ⟨b_103, rfl, hb9⟩ := hv_100
              have hT := hT.add hb9
              refine T_get (ci := 2) (C := RX2) (T := TX2) (N := 6) (t := tI) hx hb hts inw_X9_recipe_2 hown hK hP hT 0 rfl rfl 3 (by decide) (hts (.fieldLink RX9 134 "VatHouse$Reader" "fault" "I") (by decide +kernel)) (fun _ h9 => h9) rfl dX9_recipe_86 (fun v_106 hv_104 hr_105 => ?_)
              obtain ⟨z_107, rfl⟩ := hv_104
              refine vx_ret ?_
              exact K_i hx hb hr hlocks hP hD hK hS hT hE ⟨⟨_, rfl⟩, hF, _, hk_99, ⟨⟨c_1, c_12, c_19, c_29⟩, rfl⟩⟩ (Nat.le_of_ble_eq_true rfl) (Nat.le_of_ble_eq_true rfl) dX9_recipe_89
          · have hT := hT.add hb9
            have hk_108 : rd f_47 h0 5 = .int tl := (hw_48 h0 (hTo.at 2 rfl).1 9 (hTo.at 2 rfl).2 5 (by decide)).trans hk_41
            refine W.eq (g2 := F0 m 41 ls [.ref b_50]) rfl ?_
            refine lv_astore_n (lv' := [(3, .ref b_50), (0, .ref h0), (1, .int a), (2, .int b)]) hx hb dX9_recipe_41 rfl hl (by decide) rfl (fun ls hl => ?_)
            refine lv_aload_n hx hb dX9_recipe_42 rfl (lv_at hl 1 rfl) ?_
            refine lv_iconst (v := 0) hx hb dX9_recipe_43 (by decide) ?_
            have hTo := hT
            refine T_put (ci := 9) (v := .int 0) (ty := .int) (t := tI) (C := RX9) (T := TX9) (N := 11) hx hb hts inw_X9_recipe_9 tyX9 tyX9_ok nmX9 hown hK hP hD hS hT 3 rfl rfl 5 (by decide) (hts (.fieldLink RX9 124 "VatHouse" "tapeLength" "I") (by decide +kernel)) (fun _ h9 => h9) rfl (by decide +kernel) rfl rfl rfl ⟨_, rfl⟩ dX9_recipe_44 (fun f_109 H locs hP hD hS hT hE1 hrd_110 => ?_)
            have hF := Fr.put (a := h0) (ci := 9) hF hE ((hE1 h0 (hT.at 3 rfl).1).2.symm.trans (hT.at 3 rfl).2) (by decide) hrd_110
            have hE := hE.tr hE1
            have hk_111 : rd f_109 h0 5 = .int 0 := (hrd_110 h0 5).trans (if_pos ⟨rfl, rfl⟩)
            refine lv_aload_n hx hb dX9_recipe_47 rfl (lv_at hl 1 rfl) ?_
            refine T_get (ci := 9) (C := RX9) (T := TX9) (N := 11) (t := (1, 0, 2, 0)) hx hb hts inw_X9_recipe_9 hown hK hP hT 3 rfl rfl 6 (by decide) (hts (.fieldLink RX9 31 "VatHouse" "reader" "LVatHouse$Reader;") (by decide +kernel)) (fun _ h9 => h9) rfl dX9_recipe_48 (fun v_114 hv_112 hr_113 => ?_)
            obtain ⟨b_115, rfl, hb9⟩ := hv_112
            have hT := hT.add hb9
            refine T_get (ci := 2) (C := RX2) (T := TX2) (N := 6) (t := tI) hx hb hts inw_X9_recipe_2 hown hK hP hT 0 rfl rfl 3 (by decide) (hts (.fieldLink RX9 134 "VatHouse$Reader" "fault" "I") (by decide +kernel)) (fun _ h9 => h9) rfl dX9_recipe_51 (fun v_118 hv_116 hr_117 => ?_)
            obtain ⟨z_119, rfl⟩ := hv_116
            refine lv_if_ne (tgt := 82) hx hb dX9_recipe_54 (by decide) (fun c_120 => ?_) (fun c_120 => ?_)
            · refine lv_aload_n hx hb dX9_recipe_82 rfl (lv_at hl 1 rfl) ?_
              refine T_get (ci := 9) (C := RX9) (T := TX9) (N := 11) (t := (1, 0, 2, 0)) hx hb hts inw_X9_recipe_9 hown hK hP hT 4 rfl rfl 6 (by decide) (hts (.fieldLink RX9 31 "VatHouse" "reader" "LVatHouse$Reader;") (by decide +kernel)) (fun _ h9 => h9) rfl dX9_recipe_83 (fun v_123 hv_121 hr_122 => ?_)
              obtain rfl : v_123 = .ref b_115 := hr_122.symm.trans hr_113
              refine T_get (ci := 2) (C := RX2) (T := TX2) (N := 6) (t := tI) hx hb hts inw_X9_recipe_2 hown hK hP hT 0 rfl rfl 3 (by decide) (hts (.fieldLink RX9 134 "VatHouse$Reader" "fault" "I") (by decide +kernel)) (fun _ h9 => h9) rfl dX9_recipe_86 (fun v_126 hv_124 hr_125 => ?_)
              obtain rfl : v_126 = .int z_119 := hr_125.symm.trans hr_117
              refine vx_ret ?_
              exact K_i hx hb hr hlocks hP hD hK hS hT hE ⟨⟨_, rfl⟩, hF, _, hk_111, ⟨⟨c_1, c_12, c_19, c_29⟩, rfl⟩⟩ (Nat.le_of_ble_eq_true rfl) (Nat.le_of_ble_eq_true rfl) dX9_recipe_89
            · refine lv_aload_n hx hb dX9_recipe_57 rfl (lv_at hl 1 rfl) ?_
              refine T_get (ci := 9) (C := RX9) (T := TX9) (N := 11) (t := (1, 2, g 4, 8)) hx hb hts inw_X9_recipe_9 hown hK hP hT 4 rfl rfl 7 (by decide) (hts (.fieldLink RX9 37 "VatHouse" "recipes" "[LVatHouse$Recipe;") (by decide +kernel)) (fun _ h9 => h9) rfl dX9_recipe_58 (fun v_129 hv_127 hr_128 => ?_)
              obtain ⟨b_130, rfl, hb9⟩ := hv_127
              have hT := hT.add hb9
              refine lv_iload_n hx hb dX9_recipe_61 rfl (lv_at hl 2 rfl) ?_
              have hTo := hT
              refine T_new (ci := 3) (fs := [.null]) (C := RX3) (T := TX3) (N := 1) hx hb hts inw_X9_recipe_3 tyX3 tyX3_ok hown (hts (.classLink RX9 35 RX3) (by decide +kernel)) (hts (.instantiable RX3 1) (by decide +kernel)) (hts (.initialized RX3) (by decide +kernel)) hK hP hD hS hA hT rfl nfX3 (okn_3 g) (Nat.le_of_ble_eq_true rfl) (Nat.le_of_ble_eq_true rfl) dX9_recipe_62 (fun q_131 L_132 f_133 H hq_134 hL_135 hP hD hS hT hE1 hrd_136 hrq_137 => ?_)
              have hF := Fr.new hF hE hq_134 hrd_136
              have hE := hE.tr hE1
              have hk_138 := (hrd_136 h0 5 (fun h9 => hq_134 (h9 ▸ (hTo.at 5 rfl).1))).trans hk_111
              refine lv_dup hx hb dX9_recipe_65 rfl ?_
              refine lv_aload_n hx hb dX9_recipe_66 rfl (lv_at hl 0 rfl) ?_
              have hTo := hT
              refine K_I ⟨hx, hb, hml, hown, hts⟩ (t_X3_init l dC dI sa hlt g _ _ q_131 (.ref b_50) _ (hT.sub [0] rfl) (Or.inr ⟨_, rfl, hT.at 3 rfl⟩) ) (cwI 1 hts gX9_recipe_X3_init rfl rfl rfl (hts (.initialized RX3) (by decide +kernel)) (hts (.methodLink RX9 137 yX3_init) (by decide +kernel)) (hts (.instanceMethod yX3_init) (by decide +kernel)) rfl (by decide +kernel) ⟨Nat.le_of_ble_eq_true rfl, Nat.le_of_ble_eq_true rfl⟩) hP hD hK hS hA hev hT rfl hl.1 rfl (Nat.le_of_ble_eq_true rfl) dX9_recipe_67 ⟨Nat.le_of_ble_eq_true rfl, Nat.le_of_ble_eq_true rfl⟩ (fun r L_139 f_140 H locs hw_141 hP hD hS hT hE1 => ?_)
              have hF := Fr.call hF hE hw_141.2 (by decide)
              have hE := hE.tr hE1
              obtain ⟨rfl, hw_141⟩ := hw_141
              have hk_142 : rd f_140 h0 5 = .int 0 := (hw_141 h0 (hTo.at 6 rfl).1 9 (hTo.at 6 rfl).2 5 (by decide)).trans hk_138
              refine W.eq (g2 := F0 m 70 ls [.ref q_131, .int a, .ref b_130]) rfl ?_
              have hTo := hT
              refine T_rast hx hb hK hP hD hS hT 1 4 0 rfl rfl rfl rfl (vin 8 (by decide) rfl (by assumption) (by assumption)) dX9_recipe_70 (fun f_143 H locs hP hD hS hT hE1 hrd_144 => ?_)
              have hF := hF.arr hrd_144
              have hE := hE.tr hE1
              have hk_145 : rd f_143 h0 5 = .int 0 := (hrd_144 h0 5).trans hk_142
              refine lv_aload_n hx hb dX9_recipe_71 rfl (lv_at hl 1 rfl) ?_
              refine lv_aload_n hx hb dX9_recipe_72 rfl (lv_at hl 1 rfl) ?_
              refine T_get (ci := 9) (C := RX9) (T := TX9) (N := 11) (t := (1, 0, 2, 0)) hx hb hts inw_X9_recipe_9 hown hK hP hT 6 rfl rfl 6 (by decide) (hts (.fieldLink RX9 31 "VatHouse" "reader" "LVatHouse$Reader;") (by decide +kernel)) (fun _ h9 => h9) rfl dX9_recipe_73 (fun v_148 hv_146 hr_147 => ?_)
              obtain ⟨b_149, rfl, hb9⟩ := hv_146
              have hT := hT.add hb9
              refine T_get (ci := 2) (C := RX2) (T := TX2) (N := 6) (t := tI) hx hb hts inw_X9_recipe_2 hown hK hP hT 0 rfl rfl 5 (by decide) (hts (.fieldLink RX9 140 "VatHouse$Reader" "steps" "I") (by decide +kernel)) (fun _ h9 => h9) rfl dX9_recipe_76 (fun v_152 hv_150 hr_151 => ?_)
              obtain ⟨z_153, rfl⟩ := hv_150
              have hTo := hT
              refine T_put (ci := 9) (v := .int z_153) (ty := .int) (t := tI) (C := RX9) (T := TX9) (N := 11) hx hb hts inw_X9_recipe_9 tyX9 tyX9_ok nmX9 hown hK hP hD hS hT 7 rfl rfl 8 (by decide) (hts (.fieldLink RX9 143 "VatHouse" "stepsRead" "I") (by decide +kernel)) (fun _ h9 => h9) rfl (by decide +kernel) rfl rfl rfl ⟨_, rfl⟩ dX9_recipe_79 (fun f_154 H locs hP hD hS hT hE1 hrd_155 => ?_)
              have hF := Fr.put (a := h0) (ci := 9) hF hE ((hE1 h0 (hT.at 7 rfl).1).2.symm.trans (hT.at 7 rfl).2) (by decide) hrd_155
              have hE := hE.tr hE1
              have hk_156 : rd f_154 h0 5 = .int 0 := ((Fr.put (cs := [(9, 8)]) (a := h0) (ci := 9) Fr.rf Ext.rf (hTo.at 7 rfl).2 (by decide) hrd_155) h0 (hTo.at 7 rfl).1 9 (hTo.at 7 rfl).2 5 (by decide)).trans hk_145
              refine lv_aload_n hx hb dX9_recipe_82 rfl (lv_at hl 1 rfl) ?_
              refine T_get (ci := 9) (C := RX9) (T := TX9) (N := 11) (t := (1, 0, 2, 0)) hx hb hts inw_X9_recipe_9 hown hK hP hT 7 rfl rfl 6 (by decide) (hts (.fieldLink RX9 31 "VatHouse" "reader" "LVatHouse$Reader;") (by decide +kernel)) (fun _ h9 => h9) rfl dX9_recipe_83 (fun v_159 hv_157 hr_158 => ?_)
              obtain ⟨b_160, rfl, hb9⟩ := hv_157
              have hT := hT.add hb9
              refine T_get (ci := 2) (C := RX2) (T := TX2) (N := 6) (t := tI) hx hb hts inw_X9_recipe_2 hown hK hP hT 0 rfl rfl 3 (by decide) (hts (.fieldLink RX9 134 "VatHouse$Reader" "fault" "I") (by decide +kernel)) (fun _ h9 => h9) rfl dX9_recipe_86 (fun v_163 hv_161 hr_162 => ?_)
              obtain ⟨z_164, rfl⟩ := hv_161
              refine vx_ret ?_
              exact K_i hx hb hr hlocks hP hD hK hS hT hE ⟨⟨_, rfl⟩, hF, _, hk_156, ⟨⟨c_1, c_12, c_19, c_29⟩, rfl⟩⟩ (Nat.le_of_ble_eq_true rfl) (Nat.le_of_ble_eq_true rfl) dX9_recipe_89
