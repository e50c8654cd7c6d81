noncomputable abbrev rm_X1_reachesP (j : Nat) (d : Nat) (tv : Nat → Nat) (k : Nat) (c9 : Nat) (g9 : Nat → Int32) (fo : Nat → Int32) (mi : Nat → Int32) (st : Nat → Int32) (w : Nat → Int32) (lo : Nat → Int32) (fa : Nat → Int32) : Room := { frames := 2 * j + 20, cells := 0, slots := 0, locals := 100 * j + 300 }
noncomputable abbrev rm_X1_reachesByP (j : Nat) (d : Nat) (tv : Nat → Nat) (k : Nat) (c9 : Nat) (g9 : Nat → Int32) (fo : Nat → Int32) (mi : Nat → Int32) (st : Nat → Int32) (w : Nat → Int32) (lo : Nat → Int32) (fa : Nat → Int32) (q : Nat) : Room := { frames := 2 * j + 19, cells := 0, slots := 0, locals := 100 * j + 260 }
set_option maxHeartbeats 3000000 in
set_option maxRecDepth 100000 in
theorem t_X1_reachesByP (l : Launch) (dC : Nat → ClassId) (dI : Nat → Nat → Nat) (sa : Nat → Nat) (hlt : l.stackTraces = false) (g : Nat → Nat) (L : List Nat) (f : Nat → va_E) (j : Nat) (d : Nat) (tv : Nat → Nat) (k : Nat) (c9 : Nat) (g9 : Nat → Int32) (fo : Nat → Int32) (mi : Nat → Int32) (st : Nat → Int32) (w : Nat → Int32) (lo : Nat → Int32) (fa : Nat → Int32) (q : Nat) (h0 : Nat) (v : Nat) (mm : Int32) (pl : Int32) (wa : Int32) (tvr : Nat) (tc : Nat) (ks : Nat) (lw : Int32) (hg : Int32) (sz : Nat) (hT : TP g L f [(h0, (0, 1, 0)), (v, (0, 7, 0)), (tvr, (2, g 10, 6)), (tc, (0, 0, 0)), (ks, (1, g 9, 3))]) (hm_lw : rd f h0 3 = .int lw) (hm_hg : rd f h0 4 = .int hg) (h_tvr : rd f h0 1 = .ref tvr) (h_tc : rd f h0 2 = .ref tc) (h_ks : rd f h0 8 = .ref ks) (hd : pl = nI d) (hdj : d + j = 3) (hwk : wa = nI (d + (k + 1))) (hk3 : d + (k + 1) ≤ 3) (hTV : ∀ k : Nat, k < 6 → ra f tvr k = some (tv k)) (hTM : ∀ k : Nat, k < 6 → tv k ∈ L ∧ sh (f (tv k)) = (0, 7, 0)) (hinj : ∀ i j : Nat, i < 6 → j < 6 → tv i = tv j → i = j) (hTS : TSp f tv tc c9 g9 fo mi st w lo fa) (hIV : IVp g9 w lo fa c9) (hq6 : q < 6) (hvq : v = tv q) (hm4 : M4 mm) (IHR : ∀ j' d' : Nat, d' + j' = 3 → j = j' + 1 → ∀ (L : List Nat) (f : Nat → va_E) (tv : Nat → Nat) (k : Nat) (c9 : Nat) (g9 : Nat → Int32) (fo : Nat → Int32) (mi : Nat → Int32) (st : Nat → Int32) (w : Nat → Int32) (lo : Nat → Int32) (fa : Nat → Int32) (h0 : Nat) (pl : Int32) (wa : Int32) (tvr : Nat) (tc : Nat) (ks : Nat) (lw : Int32) (hg : Int32) (sz : Nat) (hT : TP g L f [(h0, (0, 1, 0)), (tvr, (2, g 10, 6)), (tc, (0, 0, 0)), (ks, (1, g 9, 3))]) (hm_lw : rd f h0 3 = .int lw) (hm_hg : rd f h0 4 = .int hg) (h_tvr : rd f h0 1 = .ref tvr) (h_tc : rd f h0 2 = .ref tc) (h_ks : rd f h0 8 = .ref ks) (hd : pl = nI d') (hwk : wa = nI (d' + k)) (hk3 : d' + k ≤ 3) (hTV : ∀ k : Nat, k < 6 → ra f tvr k = some (tv k)) (hTM : ∀ k : Nat, k < 6 → tv k ∈ L ∧ sh (f (tv k)) = (0, 7, 0)) (hinj : ∀ i j : Nat, i < 6 → j < 6 → tv i = tv j → i = j) (hTS : TSp f tv tc c9 g9 fo mi st w lo fa) (hIV : IVp g9 w lo fa c9), KC l dC dI sa g yX1_reaches wsX1_reaches (rm_X1_reachesP j' d' tv k c9 g9 fo mi st w lo fa) [.ref h0, .int pl, .int wa] L f sz (fun r L' f' => ((r = some (.int 0) ∧ (¬ ldR k g9 fo mi st w lo fa c9 lw hg)) ∨ (r = some (.int 1) ∧ (ldR k g9 fo mi st w lo fa c9 lw hg))) ∧ Fr [(0, 2), (0, 3), (7, 1), (7, 2), (7, 3), (7, 4), (100, 3)] L f f' ∧ (OF 0 [tc] L f f' ∧ OF 7 [(tv 0), (tv 1), (tv 2), (tv 3), (tv 4), (tv 5)] L f f' ∧ (TSp f' tv tc c9 g9 fo mi st w lo fa))) 0 0) : KC l dC dI sa g yX1_reachesBy wsX1_reachesBy (rm_X1_reachesByP j d tv k c9 g9 fo mi st w lo fa q) [.ref h0, .ref v, .int mm, .int pl, .int wa] L f sz (fun r L' f' => ((r = some (.int 0) ∧ (¬ GDr k g9 fo mi st w lo fa c9 lw hg q mm)) ∨ (r = some (.int 1) ∧ (GDr k g9 fo mi st w lo fa c9 lw hg q mm))) ∧ Fr [(0, 2), (0, 3), (7, 1), (7, 2), (7, 3), (7, 4), (100, 3)] L f f' ∧ (OF 0 [tc] L f f' ∧ OF 7 [(tv 0), (tv 1), (tv 2), (tv 3), (tv 4), (tv 5)] L f f' ∧ (TSp f' tv tc c9 g9 fo mi st w lo fa))) 0 0 := by
  refine CT.start (cc := cX1_reachesBy) (maxL := 13) (ret := (some .boolean)) (by decide) rfl (Nat.le_of_ble_eq_true rfl) ?_
  intro p e s m below meth c ls hst hP hK hD hev hS hl
  obtain ⟨hx, hb, hr, hml, hts, hown, hlocks, hin⟩ := hst
  have hown : s.vm.findClass RX1 = some m.cls := hown
  have hin : meth.name = yX1_reachesBy.name := hin
  have hA : ∀ q : Nat, s.heap.size ≤ q → va_A (va_pl L f) s.heap.size q := fun _ h => Or.inr h
  have hE : Ext L f L f := Ext.rf
  have hF : Fr [(0, 2), (0, 3), (7, 1), (7, 2), (7, 3), (7, 4), (100, 3)] L f f := Fr.rf
  have hO0 : OF 0 [tc] L f f := OF.rf
  have hO7 : OF 7 [(tv 0), (tv 1), (tv 2), (tv 3), (tv 4), (tv 5)] L f f := OF.rf
  have hl : lv_has ls 13 [(0, .ref h0), (1, .ref v), (2, .int mm), (3, .int pl), (4, .int wa)] := hl
  have hT0 := hT
  have hv1 : rd f v 1 = .int (g9 q) := by rw [hvq]; exact (hTS.1 q hq6).1
  have hv2 : rd f v 2 = .int (fo q) := by rw [hvq]; exact (hTS.1 q hq6).2.1
  have hv3 : rd f v 3 = .int (mi q) := by rw [hvq]; exact (hTS.1 q hq6).2.2.1
  have hv4 : rd f v 4 = .int (st q) := by rw [hvq]; exact (hTS.1 q hq6).2.2.2
  have ht1 := hTS.2.1
  have ht2 := hTS.2.2.1
  have ht3 := hTS.2.2.2
  have hEc0 : Ext L f L f := Ext.rf
  have hOc0 : OF 7 [v] L f f := OF.rf
  refine lv_aload_n hx hb dX1_reachesBy_0 rfl (lv_at hl 1 rfl) ?_
  refine lv_aload_n hx hb dX1_reachesBy_1 rfl (lv_at hl 0 rfl) ?_
  refine T_get (ci := 1) (C := RX1) (T := TX1) (N := 9) (t := (1, 0, 0, 0)) hx hb hts inw_X1_reachesBy_1 hown hK hP hT 0 rfl rfl 2 (by decide) (hts (.fieldLink RX1 22 "VatHouse$Planner" "trialCloth" "LVatHouse$Cloth;") (List.mem_of_getElem? (i := 1) (by exact rfl))) (fun _ h9 => h9) rfl dX1_reachesBy_2 (fun v_3 hv_1 hr_2 => ?_)
  obtain rfl : v_3 = .ref tc := hr_2.symm.trans ((hF.1 h0 (hT0.at 0 rfl).1 1 (hT0.at 0 rfl).2 2 (by decide)).trans h_tc)
  refine lv_iload_n hx hb dX1_reachesBy_5 rfl (lv_at hl 2 rfl) ?_
  have hTo := hT
  refine K_V ⟨hx, hb, hml, hown, hts⟩ (t_X7_givesToE l dC dI sa hlt g _ _ v tc mm (g9 q) (st q) (w c9) (lo c9) (fa c9) _ (hT.sub [1, 3] rfl)  hv1 hv4 ht1 ht2 ht3 (we_1 hIV)) (cwV 2 hts gX1_reachesBy_X7_givesTo rfl rfl rfl (by decide +kernel) ⟨(by first | exact Nat.le_of_ble_eq_true rfl | (simp only [rm_X7_givesToE, rm_X1_reachesByP]; omega)), (by first | exact Nat.le_of_ble_eq_true rfl | (simp only [rm_X7_givesToE, rm_X1_reachesByP]; omega))⟩) hP hD hK hS hA hev hT 1 7 rfl rfl rfl rfl hl.1 rfl (Nat.le_of_ble_eq_true rfl) dX1_reachesBy_6 ⟨(by first | exact Nat.le_of_ble_eq_true rfl | (simp only [rm_X1_reachesByP]; omega) | omega), (by first | exact Nat.le_of_ble_eq_true rfl | (simp only [rm_X1_reachesByP]; omega) | omega)⟩ (fun r L_4 f_5 H locs hw_6 hP hD hS hT hE1 => ?_)
  have hEo := hE
  have hO0 := hO0.call hE (OF.fr hw_6.2.1 (by decide)) (by simp)
  have hO7 := hO7.call hE (OF.fr hw_6.2.1 (by decide)) (by simp)
  have hF := Fr.call hF hE hw_6.2.1 (by decide)
  have hE := hE.tr hE1
  obtain ⟨⟨z_7, rfl⟩, hw_6⟩ := hw_6
  obtain ⟨hfr_8, hex_9⟩ := hw_6
  have hk_10 : rd f_5 h0 3 = .int lw := (hfr_8.1 h0 (hTo.at 0 rfl).1 1 (hTo.at 0 rfl).2 3 (by decide)).trans hm_lw
  have hk_11 : rd f_5 h0 4 = .int hg := (hfr_8.1 h0 (hTo.at 0 rfl).1 1 (hTo.at 0 rfl).2 4 (by decide)).trans hm_hg
  have hk_12 : rd f_5 v 1 = .int (g9 q) := (hfr_8.1 v (hTo.at 1 rfl).1 7 (hTo.at 1 rfl).2 1 (by decide)).trans hv1
  have hk_13 : rd f_5 v 2 = .int (fo q) := (hfr_8.1 v (hTo.at 1 rfl).1 7 (hTo.at 1 rfl).2 2 (by decide)).trans hv2
  have hk_14 : rd f_5 v 3 = .int (mi q) := (hfr_8.1 v (hTo.at 1 rfl).1 7 (hTo.at 1 rfl).2 3 (by decide)).trans hv3
  have hk_15 : rd f_5 v 4 = .int (st q) := (hfr_8.1 v (hTo.at 1 rfl).1 7 (hTo.at 1 rfl).2 4 (by decide)).trans hv4
  have hk_16 : rd f_5 tc 1 = .int (w c9) := (hfr_8.1 tc (hTo.at 3 rfl).1 0 (hTo.at 3 rfl).2 1 (by decide)).trans ht1
  have hk_17 : rd f_5 tc 2 = .int (lo c9) := (hfr_8.1 tc (hTo.at 3 rfl).1 0 (hTo.at 3 rfl).2 2 (by decide)).trans ht2
  have hk_18 : rd f_5 tc 3 = .int (fa c9) := (hfr_8.1 tc (hTo.at 3 rfl).1 0 (hTo.at 3 rfl).2 3 (by decide)).trans ht3
  have hgz : z_7 = if st q = 2 then 0 else mvP g9 st w lo fa c9 q mm := sv hex_9
  have hTSx := hTS.go hTM (hT0.at 3 rfl) hfr_8 (by decide)
  have hOc0 := hOc0.call hEc0 (OF.fr hfr_8 (by decide)) (by simp)
  have hEc0 := hEc0.tr hE1
  refine W.eq (g2 := F0 m 9 ls [.int z_7]) rfl ?_
  refine lv_istore (lv' := [(5, .int z_7), (0, .ref h0), (1, .ref v), (2, .int mm), (3, .int pl), (4, .int wa)]) hx hb dX1_reachesBy_9 hl (by decide) rfl (fun ls hl => ?_)
  refine lv_iload hx hb dX1_reachesBy_11 (lv_at hl 0 rfl) ?_
  refine lv_iconst (v := 1) hx hb dX1_reachesBy_13 (by decide) ?_
  refine lv_icmp_lt (tgt := 26) hx hb dX1_reachesBy_14 (by decide) (fun c_19 => ?_) (fun c_19 => ?_)
  · refine lv_iconst (v := 0) hx hb dX1_reachesBy_26 (by decide) ?_
    exact K_z hx hb hr rfl hlocks hP hD hK hS hT hE ⟨Or.inl ⟨rfl, (gd_a hIV hq6 hm4 hgz c_19)⟩, hF, hO0, hO7, hTSx⟩ (by first | exact Nat.le_of_ble_eq_true rfl | (simp only [rm_X1_reachesByP]; omega) | omega) (by first | exact Nat.le_of_ble_eq_true rfl | (simp only [rm_X1_reachesByP]; omega) | omega) dX1_reachesBy_27
  · refine lv_iload_n hx hb dX1_reachesBy_17 rfl (lv_at hl 4 rfl) ?_
    refine lv_if_lt (tgt := 26) hx hb dX1_reachesBy_18 (by decide) (fun c_20 => ?_) (fun c_20 => ?_)
    · refine lv_iconst (v := 0) hx hb dX1_reachesBy_26 (by decide) ?_
      exact K_z hx hb hr rfl hlocks hP hD hK hS hT hE ⟨Or.inl ⟨rfl, (absurd c_20 (by rw [hd]; exact nI_pos (by omega)))⟩, hF, hO0, hO7, hTSx⟩ (by first | exact Nat.le_of_ble_eq_true rfl | (simp only [rm_X1_reachesByP]; omega) | omega) (by first | exact Nat.le_of_ble_eq_true rfl | (simp only [rm_X1_reachesByP]; omega) | omega) dX1_reachesBy_27
    · refine lv_iload_n hx hb dX1_reachesBy_21 rfl (lv_at hl 4 rfl) ?_
      refine lv_iconst (v := 3) hx hb dX1_reachesBy_22 (by decide) ?_
      refine lv_icmp_lt (tgt := 28) hx hb dX1_reachesBy_23 (by decide) (fun c_21 => ?_) (fun c_21 => ?_)
      · obtain ⟨hns, hzm, hnz⟩ := gd_z hgz c_19
        refine lv_aload_n hx hb dX1_reachesBy_28 rfl (lv_at hl 2 rfl) ?_
        refine T_get (ci := 7) (C := RX7) (T := TX7) (N := 8) (t := tI) hx hb hts inw_X1_reachesBy_7 hown hK hP hT 1 rfl rfl 1 (by decide) (hts (.fieldLink RX1 85 "VatHouse$Vat" "grains" "I") (List.mem_of_getElem? (i := 2) (by exact rfl))) (fun _ h9 => h9) rfl dX1_reachesBy_29 (fun v_24 hv_22 hr_23 => ?_)
        obtain rfl : v_24 = .int (g9 q) := hr_23.symm.trans hk_12
        refine lv_istore (lv' := [(6, .int (g9 q)), (5, .int z_7), (0, .ref h0), (1, .ref v), (2, .int mm), (3, .int pl), (4, .int wa)]) hx hb dX1_reachesBy_32 hl (by decide) rfl (fun ls hl => ?_)
        refine lv_aload_n hx hb dX1_reachesBy_34 rfl (lv_at hl 3 rfl) ?_
        refine T_get (ci := 7) (C := RX7) (T := TX7) (N := 8) (t := tI) hx hb hts inw_X1_reachesBy_7 hown hK hP hT 1 rfl rfl 2 (by decide) (hts (.fieldLink RX1 88 "VatHouse$Vat" "food" "I") (List.mem_of_getElem? (i := 3) (by exact rfl))) (fun _ h9 => h9) rfl dX1_reachesBy_35 (fun v_27 hv_25 hr_26 => ?_)
        obtain rfl : v_27 = .int (fo q) := hr_26.symm.trans hk_13
        refine lv_istore (lv' := [(7, .int (fo q)), (6, .int (g9 q)), (5, .int z_7), (0, .ref h0), (1, .ref v), (2, .int mm), (3, .int pl), (4, .int wa)]) hx hb dX1_reachesBy_38 hl (by decide) rfl (fun ls hl => ?_)
        refine lv_aload_n hx hb dX1_reachesBy_40 rfl (lv_at hl 4 rfl) ?_
        refine T_get (ci := 7) (C := RX7) (T := TX7) (N := 8) (t := tI) hx hb hts inw_X1_reachesBy_7 hown hK hP hT 1 rfl rfl 3 (by decide) (hts (.fieldLink RX1 91 "VatHouse$Vat" "minutes" "I") (List.mem_of_getElem? (i := 4) (by exact rfl))) (fun _ h9 => h9) rfl dX1_reachesBy_41 (fun v_30 hv_28 hr_29 => ?_)
        obtain rfl : v_30 = .int (mi q) := hr_29.symm.trans hk_14
        refine lv_istore (lv' := [(8, .int (mi q)), (7, .int (fo q)), (6, .int (g9 q)), (5, .int z_7), (0, .ref h0), (1, .ref v), (2, .int mm), (3, .int pl), (4, .int wa)]) hx hb dX1_reachesBy_44 hl (by decide) rfl (fun ls hl => ?_)
        refine lv_aload_n hx hb dX1_reachesBy_46 rfl (lv_at hl 5 rfl) ?_
        refine T_get (ci := 7) (C := RX7) (T := TX7) (N := 8) (t := tI) hx hb hts inw_X1_reachesBy_7 hown hK hP hT 1 rfl rfl 4 (by decide) (hts (.fieldLink RX1 94 "VatHouse$Vat" "state" "I") (List.mem_of_getElem? (i := 5) (by exact rfl))) (fun _ h9 => h9) rfl dX1_reachesBy_47 (fun v_33 hv_31 hr_32 => ?_)
        obtain rfl : v_33 = .int (st q) := hr_32.symm.trans hk_15
        refine lv_istore (lv' := [(9, .int (st q)), (8, .int (mi q)), (7, .int (fo q)), (6, .int (g9 q)), (5, .int z_7), (0, .ref h0), (1, .ref v), (2, .int mm), (3, .int pl), (4, .int wa)]) hx hb dX1_reachesBy_50 hl (by decide) rfl (fun ls hl => ?_)
        refine lv_aload_n hx hb dX1_reachesBy_52 rfl (lv_at hl 5 rfl) ?_
        refine T_get (ci := 1) (C := RX1) (T := TX1) (N := 9) (t := (1, 0, 0, 0)) hx hb hts inw_X1_reachesBy_1 hown hK hP hT 0 rfl rfl 2 (by decide) (hts (.fieldLink RX1 22 "VatHouse$Planner" "trialCloth" "LVatHouse$Cloth;") (List.mem_of_getElem? (i := 1) (by exact rfl))) (fun _ h9 => h9) rfl dX1_reachesBy_53 (fun v_36 hv_34 hr_35 => ?_)
        obtain rfl : v_36 = .ref tc := hr_35.symm.trans ((hF.1 h0 (hT0.at 0 rfl).1 1 (hT0.at 0 rfl).2 2 (by decide)).trans h_tc)
        refine T_get (ci := 0) (C := RX0) (T := TX0) (N := 8) (t := tI) hx hb hts inw_X1_reachesBy_0 hown hK hP hT 3 rfl rfl 2 (by decide) (hts (.fieldLink RX1 70 "VatHouse$Cloth" "loose" "I") (List.mem_of_getElem? (i := 6) (by exact rfl))) (fun _ h9 => h9) rfl dX1_reachesBy_56 (fun v_39 hv_37 hr_38 => ?_)
        obtain rfl : v_39 = .int (lo c9) := hr_38.symm.trans hk_17
        refine lv_istore (lv' := [(10, .int (lo c9)), (9, .int (st q)), (8, .int (mi q)), (7, .int (fo q)), (6, .int (g9 q)), (5, .int z_7), (0, .ref h0), (1, .ref v), (2, .int mm), (3, .int pl), (4, .int wa)]) hx hb dX1_reachesBy_59 hl (by decide) rfl (fun ls hl => ?_)
        refine lv_aload_n hx hb dX1_reachesBy_61 rfl (lv_at hl 6 rfl) ?_
        refine T_get (ci := 1) (C := RX1) (T := TX1) (N := 9) (t := (1, 0, 0, 0)) hx hb hts inw_X1_reachesBy_1 hown hK hP hT 0 rfl rfl 2 (by decide) (hts (.fieldLink RX1 22 "VatHouse$Planner" "trialCloth" "LVatHouse$Cloth;") (List.mem_of_getElem? (i := 1) (by exact rfl))) (fun _ h9 => h9) rfl dX1_reachesBy_62 (fun v_42 hv_40 hr_41 => ?_)
        obtain rfl : v_42 = .ref tc := hr_41.symm.trans ((hF.1 h0 (hT0.at 0 rfl).1 1 (hT0.at 0 rfl).2 2 (by decide)).trans h_tc)
        refine T_get (ci := 0) (C := RX0) (T := TX0) (N := 8) (t := tI) hx hb hts inw_X1_reachesBy_0 hown hK hP hT 3 rfl rfl 3 (by decide) (hts (.fieldLink RX1 97 "VatHouse$Cloth" "fast" "I") (List.mem_of_getElem? (i := 7) (by exact rfl))) (fun _ h9 => h9) rfl dX1_reachesBy_65 (fun v_45 hv_43 hr_44 => ?_)
        obtain rfl : v_45 = .int (fa c9) := hr_44.symm.trans hk_18
        refine lv_istore (lv' := [(11, .int (fa c9)), (10, .int (lo c9)), (9, .int (st q)), (8, .int (mi q)), (7, .int (fo q)), (6, .int (g9 q)), (5, .int z_7), (0, .ref h0), (1, .ref v), (2, .int mm), (3, .int pl), (4, .int wa)]) hx hb dX1_reachesBy_68 hl (by decide) rfl (fun ls hl => ?_)
        refine lv_aload_n hx hb dX1_reachesBy_70 rfl (lv_at hl 8 rfl) ?_
        refine lv_aload_n hx hb dX1_reachesBy_71 rfl (lv_at hl 7 rfl) ?_
        refine T_get (ci := 1) (C := RX1) (T := TX1) (N := 9) (t := (1, 0, 0, 0)) hx hb hts inw_X1_reachesBy_1 hown hK hP hT 0 rfl rfl 2 (by decide) (hts (.fieldLink RX1 22 "VatHouse$Planner" "trialCloth" "LVatHouse$Cloth;") (List.mem_of_getElem? (i := 1) (by exact rfl))) (fun _ h9 => h9) rfl dX1_reachesBy_72 (fun v_48 hv_46 hr_47 => ?_)
        obtain rfl : v_48 = .ref tc := hr_47.symm.trans ((hF.1 h0 (hT0.at 0 rfl).1 1 (hT0.at 0 rfl).2 2 (by decide)).trans h_tc)
        refine lv_iload_n hx hb dX1_reachesBy_75 rfl (lv_at hl 9 rfl) ?_
        refine lv_iload hx hb dX1_reachesBy_76 (lv_at hl 6 rfl) ?_
        have hTo := hT
        refine K_V ⟨hx, hb, hml, hown, hts⟩ (t_X7_soakE l dC dI sa hlt g _ _ v tc mm z_7 (g9 q) (fo q) (mi q) (st q) (lo c9) _ (hT.sub [1, 3] rfl)  hk_12 hk_13 hk_14 hk_15 hk_17 ) (cwV 3 hts gX1_reachesBy_X7_soak rfl rfl rfl (by decide +kernel) ⟨(by first | exact Nat.le_of_ble_eq_true rfl | (simp only [rm_X7_soakE, rm_X1_reachesByP]; omega)), (by first | exact Nat.le_of_ble_eq_true rfl | (simp only [rm_X7_soakE, rm_X1_reachesByP]; omega))⟩) hP hD hK hS hA hev hT 1 7 rfl rfl rfl rfl hl.1 rfl (Nat.le_of_ble_eq_true rfl) dX1_reachesBy_78 ⟨(by first | exact Nat.le_of_ble_eq_true rfl | (simp only [rm_X1_reachesByP]; omega) | omega), (by first | exact Nat.le_of_ble_eq_true rfl | (simp only [rm_X1_reachesByP]; omega) | omega)⟩ (fun r L_49 f_50 H locs hw_51 hP hD hS hT hE1 => ?_)
        have hEo := hE
        have hF := Fr.call hF hE hw_51.2.1 (by decide)
        have hE := hE.tr hE1
        obtain ⟨rfl, hw_51⟩ := hw_51
        obtain ⟨hfr_52, gr_53, fo_54, mi_55, sta_56, lo_57, hk_58, hk_59, hk_60, hk_61, hk_62, hrel_63, hrel_64, hrel_65, hrel_66, hrel_67, hex_68⟩ := hw_51
        obtain ⟨hof_69, hof_70⟩ := hex_68
        have hO0 := hO0.call hEo hof_69 (by simp)
        have hO7 := hO7.call hEo hof_70 (fun a9 h9 => by rw [List.mem_singleton.mp h9]; exact (by rw [hvq]; exact tv_in hq6))
        have hk_72 : rd f_50 h0 3 = .int lw := (hfr_52.1 h0 (hTo.at 0 rfl).1 1 (hTo.at 0 rfl).2 3 (by decide)).trans hk_10
        have hk_73 : rd f_50 h0 4 = .int hg := (hfr_52.1 h0 (hTo.at 0 rfl).1 1 (hTo.at 0 rfl).2 4 (by decide)).trans hk_11
        have hk_74 : rd f_50 tc 1 = .int (w c9) := (hfr_52.1 tc (hTo.at 3 rfl).1 0 (hTo.at 3 rfl).2 1 (by decide)).trans hk_16
        have hk_75 : rd f_50 tc 3 = .int (fa c9) := (hfr_52.1 tc (hTo.at 3 rfl).1 0 (hTo.at 3 rfl).2 3 (by decide)).trans hk_18
        have hOc0 := hOc0.call hEc0 hof_70 (by simp)
        have hEc0 := hEc0.tr hE1
        refine W.eq (g2 := F0 m 81 ls []) rfl ?_
        refine lv_aload_n hx hb dX1_reachesBy_81 rfl (lv_at hl 7 rfl) ?_
        refine T_get (ci := 1) (C := RX1) (T := TX1) (N := 9) (t := (1, 0, 0, 0)) hx hb hts inw_X1_reachesBy_1 hown hK hP hT 0 rfl rfl 2 (by decide) (hts (.fieldLink RX1 22 "VatHouse$Planner" "trialCloth" "LVatHouse$Cloth;") (List.mem_of_getElem? (i := 1) (by exact rfl))) (fun _ h9 => h9) rfl dX1_reachesBy_82 (fun v_78 hv_76 hr_77 => ?_)
        obtain rfl : v_78 = .ref tc := hr_77.symm.trans ((hF.1 h0 (hT0.at 0 rfl).1 1 (hT0.at 0 rfl).2 2 (by decide)).trans h_tc)
        have hTo := hT
        refine K_V ⟨hx, hb, hml, hown, hts⟩ (t_X0_loseByAirE l dC dI sa hlt g _ _ tc lo_57 (fa c9) _ (hT.sub [3] rfl)  hk_62 hk_75 ) (cwV 0 hts gX1_reachesBy_X0_loseByAir rfl rfl rfl (by decide +kernel) ⟨(by first | exact Nat.le_of_ble_eq_true rfl | (simp only [rm_X0_loseByAirE, rm_X1_reachesByP]; omega)), (by first | exact Nat.le_of_ble_eq_true rfl | (simp only [rm_X0_loseByAirE, rm_X1_reachesByP]; omega))⟩) hP hD hK hS hA hev hT 3 0 rfl rfl rfl rfl hl.1 rfl (Nat.le_of_ble_eq_true rfl) dX1_reachesBy_85 ⟨(by first | exact Nat.le_of_ble_eq_true rfl | (simp only [rm_X1_reachesByP]; omega) | omega), (by first | exact Nat.le_of_ble_eq_true rfl | (simp only [rm_X1_reachesByP]; omega) | omega)⟩ (fun r L_79 f_80 H locs hw_81 hP hD hS hT hE1 => ?_)
        have hEo := hE
        have hO7 := hO7.call hE (OF.fr hw_81.2.1 (by decide)) (by simp)
        have hF := Fr.call hF hE hw_81.2.1 (by decide)
        have hE := hE.tr hE1
        obtain ⟨⟨z_82, rfl⟩, hw_81⟩ := hw_81
        obtain ⟨hfr_83, lo_84, fa_85, hk_86, hk_87, hrel_88, hrel_89, hex_90⟩ := hw_81
        obtain ⟨hof_91, hex_92⟩ := hex_90
        have hO0 := hO0.call hEo hof_91 (by simp)
        have hk_93 : rd f_80 h0 3 = .int lw := (hfr_83.1 h0 (hTo.at 0 rfl).1 1 (hTo.at 0 rfl).2 3 (by decide)).trans hk_72
        have hk_94 : rd f_80 h0 4 = .int hg := (hfr_83.1 h0 (hTo.at 0 rfl).1 1 (hTo.at 0 rfl).2 4 (by decide)).trans hk_73
        have hk_95 : rd f_80 v 1 = .int gr_53 := (hfr_83.1 v (hTo.at 1 rfl).1 7 (hTo.at 1 rfl).2 1 (by decide)).trans hk_58
        have hk_96 : rd f_80 v 2 = .int fo_54 := (hfr_83.1 v (hTo.at 1 rfl).1 7 (hTo.at 1 rfl).2 2 (by decide)).trans hk_59
        have hk_97 : rd f_80 v 3 = .int mi_55 := (hfr_83.1 v (hTo.at 1 rfl).1 7 (hTo.at 1 rfl).2 3 (by decide)).trans hk_60
        have hk_98 : rd f_80 v 4 = .int sta_56 := (hfr_83.1 v (hTo.at 1 rfl).1 7 (hTo.at 1 rfl).2 4 (by decide)).trans hk_61
        have hk_99 : rd f_80 tc 1 = .int (w c9) := (hfr_83.1 tc (hTo.at 3 rfl).1 0 (hTo.at 3 rfl).2 1 (by decide)).trans hk_74
        have hOc0 := hOc0.call hEc0 (OF.fr hfr_83 (by decide)) (by simp)
        have hEc0 := hEc0.tr hE1
        refine W.eq (g2 := F0 m 88 ls [.int z_82]) rfl ?_
        refine lv_pop hx hb dX1_reachesBy_88 rfl ?_
        refine lv_aload_n hx hb dX1_reachesBy_89 rfl (lv_at hl 7 rfl) ?_
        refine T_get (ci := 1) (C := RX1) (T := TX1) (N := 9) (t := (1, 1, g 7, 3)) hx hb hts inw_X1_reachesBy_1 hown hK hP hT 0 rfl rfl 6 (by decide) (hts (.fieldLink RX1 26 "VatHouse$Planner" "keptVats" "[I") (List.mem_of_getElem? (i := 8) (by exact rfl))) (fun _ h9 => h9) rfl dX1_reachesBy_90 (fun v_102 hv_100 hr_101 => ?_)
        obtain ⟨b_103, rfl, hb9⟩ := hv_100
        have hT := hT.add hb9
        refine lv_iload_n hx hb dX1_reachesBy_93 rfl (lv_at hl 10 rfl) ?_
        refine lv_aload_n hx hb dX1_reachesBy_94 rfl (lv_at hl 8 rfl) ?_
        refine T_get (ci := 7) (C := RX7) (T := TX7) (N := 8) (t := tI) hx hb hts inw_X1_reachesBy_7 hown hK hP hT 2 rfl rfl 0 (by decide) (hts (.fieldLink RX1 107 "VatHouse$Vat" "number" "I") (List.mem_of_getElem? (i := 9) (by exact rfl))) (fun _ h9 => h9) rfl dX1_reachesBy_95 (fun v_106 hv_104 hr_105 => ?_)
        obtain ⟨z_107, rfl⟩ := hv_104
        have hTo := hT
        refine T_iast hx hb hK hP hD hS hT 0 7 rfl rfl (vin 3 (by decide) rfl (by assumption) (lt_nle (by assumption))) dX1_reachesBy_98 (fun f_108 H locs hP hD hS hT hE1 hrd_109 hup_110 hia_111 => ?_)
        have hO0 := hO0.arr hrd_109
        have hO7 := hO7.arr hrd_109
        have hF := Fr.arr (a := b_103) hF hE ((hE1 b_103 (hT.at 0 rfl).1).2.symm.trans (hT.at 0 rfl).2) (by decide) hrd_109 hup_110
        have hE := hE.tr hE1
        have hk_112 : rd f_108 h0 3 = .int lw := (hrd_109 h0 3).trans hk_93
        have hk_113 : rd f_108 h0 4 = .int hg := (hrd_109 h0 4).trans hk_94
        have hk_114 : rd f_108 v 1 = .int gr_53 := (hrd_109 v 1).trans hk_95
        have hk_115 : rd f_108 v 2 = .int fo_54 := (hrd_109 v 2).trans hk_96
        have hk_116 : rd f_108 v 3 = .int mi_55 := (hrd_109 v 3).trans hk_97
        have hk_117 : rd f_108 v 4 = .int sta_56 := (hrd_109 v 4).trans hk_98
        have hk_118 : rd f_108 tc 1 = .int (w c9) := (hrd_109 tc 1).trans hk_99
        have hk_119 : rd f_108 tc 2 = .int lo_84 := (hrd_109 tc 2).trans hk_86
        have hk_120 : rd f_108 tc 3 = .int fa_85 := (hrd_109 tc 3).trans hk_87
        have hOc0 := hOc0.arr hrd_109
        have hEc0 := hEc0.tr hE1
        refine lv_aload_n hx hb dX1_reachesBy_99 rfl (lv_at hl 7 rfl) ?_
        refine T_get (ci := 1) (C := RX1) (T := TX1) (N := 9) (t := (1, 1, g 8, 3)) hx hb hts inw_X1_reachesBy_1 hown hK hP hT 1 rfl rfl 7 (by decide) (hts (.fieldLink RX1 30 "VatHouse$Planner" "keptMinutes" "[I") (List.mem_of_getElem? (i := 10) (by exact rfl))) (fun _ h9 => h9) rfl dX1_reachesBy_100 (fun v_123 hv_121 hr_122 => ?_)
        obtain ⟨b_124, rfl, hb9⟩ := hv_121
        have hT := hT.add hb9
        refine lv_iload_n hx hb dX1_reachesBy_103 rfl (lv_at hl 10 rfl) ?_
        refine lv_iload_n hx hb dX1_reachesBy_104 rfl (lv_at hl 9 rfl) ?_
        have hTo := hT
        refine T_iast hx hb hK hP hD hS hT 0 8 rfl rfl (vin 3 (by decide) rfl (by assumption) (lt_nle (by assumption))) dX1_reachesBy_105 (fun f_125 H locs hP hD hS hT hE1 hrd_126 hup_127 hia_128 => ?_)
        have hO0 := hO0.arr hrd_126
        have hO7 := hO7.arr hrd_126
        have hF := Fr.arr (a := b_124) hF hE ((hE1 b_124 (hT.at 0 rfl).1).2.symm.trans (hT.at 0 rfl).2) (by decide) hrd_126 hup_127
        have hE := hE.tr hE1
        have hk_129 : rd f_125 h0 3 = .int lw := (hrd_126 h0 3).trans hk_112
        have hk_130 : rd f_125 h0 4 = .int hg := (hrd_126 h0 4).trans hk_113
        have hk_131 : rd f_125 v 1 = .int gr_53 := (hrd_126 v 1).trans hk_114
        have hk_132 : rd f_125 v 2 = .int fo_54 := (hrd_126 v 2).trans hk_115
        have hk_133 : rd f_125 v 3 = .int mi_55 := (hrd_126 v 3).trans hk_116
        have hk_134 : rd f_125 v 4 = .int sta_56 := (hrd_126 v 4).trans hk_117
        have hk_135 : rd f_125 tc 1 = .int (w c9) := (hrd_126 tc 1).trans hk_118
        have hk_136 : rd f_125 tc 2 = .int lo_84 := (hrd_126 tc 2).trans hk_119
        have hk_137 : rd f_125 tc 3 = .int fa_85 := (hrd_126 tc 3).trans hk_120
        have hOc0 := hOc0.arr hrd_126
        have hEc0 := hEc0.tr hE1
        refine lv_aload_n hx hb dX1_reachesBy_106 rfl (lv_at hl 7 rfl) ?_
        refine T_get (ci := 1) (C := RX1) (T := TX1) (N := 9) (t := (1, 1, g 9, 3)) hx hb hts inw_X1_reachesBy_1 hown hK hP hT 2 rfl rfl 8 (by decide) (hts (.fieldLink RX1 33 "VatHouse$Planner" "keptShades" "[I") (List.mem_of_getElem? (i := 11) (by exact rfl))) (fun _ h9 => h9) rfl dX1_reachesBy_107 (fun v_140 hv_138 hr_139 => ?_)
        obtain rfl : v_140 = .ref ks := hr_139.symm.trans ((hF.1 h0 (hT0.at 0 rfl).1 1 (hT0.at 0 rfl).2 8 (by decide)).trans h_ks)
        refine lv_iload_n hx hb dX1_reachesBy_110 rfl (lv_at hl 10 rfl) ?_
        refine lv_aload_n hx hb dX1_reachesBy_111 rfl (lv_at hl 7 rfl) ?_
        refine T_get (ci := 1) (C := RX1) (T := TX1) (N := 9) (t := (1, 0, 0, 0)) hx hb hts inw_X1_reachesBy_1 hown hK hP hT 2 rfl rfl 2 (by decide) (hts (.fieldLink RX1 22 "VatHouse$Planner" "trialCloth" "LVatHouse$Cloth;") (List.mem_of_getElem? (i := 1) (by exact rfl))) (fun _ h9 => h9) rfl dX1_reachesBy_112 (fun v_143 hv_141 hr_142 => ?_)
        obtain rfl : v_143 = .ref tc := hr_142.symm.trans ((hF.1 h0 (hT0.at 0 rfl).1 1 (hT0.at 0 rfl).2 2 (by decide)).trans h_tc)
        have hTo := hT
        refine K_V ⟨hx, hb, hml, hown, hts⟩ (t_X0_shadeE l dC dI sa hlt g _ _ tc (w c9) fa_85 _ (hT.sub [5] rfl)  hk_135 hk_137 ) (cwV 0 hts gX1_reachesBy_X0_shade rfl rfl rfl (by decide +kernel) ⟨(by first | exact Nat.le_of_ble_eq_true rfl | (simp only [rm_X0_shadeE, rm_X1_reachesByP]; omega)), (by first | exact Nat.le_of_ble_eq_true rfl | (simp only [rm_X0_shadeE, rm_X1_reachesByP]; omega))⟩) hP hD hK hS hA hev hT 5 0 rfl rfl rfl rfl hl.1 rfl (Nat.le_of_ble_eq_true rfl) dX1_reachesBy_115 ⟨(by first | exact Nat.le_of_ble_eq_true rfl | (simp only [rm_X1_reachesByP]; omega) | omega), (by first | exact Nat.le_of_ble_eq_true rfl | (simp only [rm_X1_reachesByP]; omega) | omega)⟩ (fun r L_144 f_145 H locs hw_146 hP hD hS hT hE1 => ?_)
        have hEo := hE
        have hO0 := hO0.call hE (OF.fr hw_146.2.1 (by decide)) (by simp)
        have hO7 := hO7.call hE (OF.fr hw_146.2.1 (by decide)) (by simp)
        have hF := Fr.call hF hE hw_146.2.1 (by decide)
        have hE := hE.tr hE1
        obtain ⟨⟨z_147, rfl⟩, hw_146⟩ := hw_146
        obtain ⟨hfr_148, hex_149⟩ := hw_146
        have hk_150 : rd f_145 h0 3 = .int lw := (hfr_148.1 h0 (hTo.at 2 rfl).1 1 (hTo.at 2 rfl).2 3 (by decide)).trans hk_129
        have hk_151 : rd f_145 h0 4 = .int hg := (hfr_148.1 h0 (hTo.at 2 rfl).1 1 (hTo.at 2 rfl).2 4 (by decide)).trans hk_130
        have hk_152 : rd f_145 v 1 = .int gr_53 := (hfr_148.1 v (hTo.at 3 rfl).1 7 (hTo.at 3 rfl).2 1 (by decide)).trans hk_131
        have hk_153 : rd f_145 v 2 = .int fo_54 := (hfr_148.1 v (hTo.at 3 rfl).1 7 (hTo.at 3 rfl).2 2 (by decide)).trans hk_132
        have hk_154 : rd f_145 v 3 = .int mi_55 := (hfr_148.1 v (hTo.at 3 rfl).1 7 (hTo.at 3 rfl).2 3 (by decide)).trans hk_133
        have hk_155 : rd f_145 v 4 = .int sta_56 := (hfr_148.1 v (hTo.at 3 rfl).1 7 (hTo.at 3 rfl).2 4 (by decide)).trans hk_134
        have hk_156 : rd f_145 tc 1 = .int (w c9) := (hfr_148.1 tc (hTo.at 5 rfl).1 0 (hTo.at 5 rfl).2 1 (by decide)).trans hk_135
        have hk_157 : rd f_145 tc 2 = .int lo_84 := (hfr_148.1 tc (hTo.at 5 rfl).1 0 (hTo.at 5 rfl).2 2 (by decide)).trans hk_136
        have hk_158 : rd f_145 tc 3 = .int fa_85 := (hfr_148.1 tc (hTo.at 5 rfl).1 0 (hTo.at 5 rfl).2 3 (by decide)).trans hk_137
        have hOc0 := hOc0.call hEc0 (OF.fr hfr_148 (by decide)) (by simp)
        have hEc0 := hEc0.tr hE1
        have hsz : z_147 = shC (w c9) (fa c9 + ((lo c9 + mvP g9 st w lo fa c9 q mm) - (lo c9 + mvP g9 st w lo fa c9 q mm) / 8)) := by rw [sv hex_149, hrel_89, hrel_67, ← hzm]
        refine W.eq (g2 := F0 m 118 ls [.int z_147, .int pl, .ref ks]) rfl ?_
        have hTo := hT
        refine T_iast hx hb hK hP hD hS hT 6 9 rfl rfl (vin 3 (by decide) rfl (by assumption) (lt_nle (by assumption))) dX1_reachesBy_118 (fun f_159 H locs hP hD hS hT hE1 hrd_160 hup_161 hia_162 => ?_)
        have hO0 := hO0.arr hrd_160
        have hO7 := hO7.arr hrd_160
        have hF := Fr.arr (a := ks) hF hE ((hE1 ks (hT.at 6 rfl).1).2.symm.trans (hT.at 6 rfl).2) (by decide) hrd_160 hup_161
        have hE := hE.tr hE1
        have hk_163 : rd f_159 h0 3 = .int lw := (hrd_160 h0 3).trans hk_150
        have hk_164 : rd f_159 h0 4 = .int hg := (hrd_160 h0 4).trans hk_151
        have hk_165 : rd f_159 v 1 = .int gr_53 := (hrd_160 v 1).trans hk_152
        have hk_166 : rd f_159 v 2 = .int fo_54 := (hrd_160 v 2).trans hk_153
        have hk_167 : rd f_159 v 3 = .int mi_55 := (hrd_160 v 3).trans hk_154
        have hk_168 : rd f_159 v 4 = .int sta_56 := (hrd_160 v 4).trans hk_155
        have hk_169 : rd f_159 tc 1 = .int (w c9) := (hrd_160 tc 1).trans hk_156
        have hk_170 : rd f_159 tc 2 = .int lo_84 := (hrd_160 tc 2).trans hk_157
        have hk_171 : rd f_159 tc 3 = .int fa_85 := (hrd_160 tc 3).trans hk_158
        have hOc0 := hOc0.arr hrd_160
        have hEc0 := hEc0.tr hE1
        have hTS2 : TSp f_159 tv tc c9 (upd g9 q (g9 q - mvP g9 st w lo fa c9 q mm)) (upd fo q (skF (fo q) mm)) (upd mi q (mi q + mm)) (upd st q (skS (mi q) (fo q) (st q) mm)) w (upd lo c9 0) (upd fa c9 (fa c9 + ((lo c9 + mvP g9 st w lo fa c9 q mm) - (lo c9 + mvP g9 st w lo fa c9 q mm) / 8))) := TSp.put hTS hinj hq6 hvq hTM hOc0 (fun k9 h9 => ⟨upd_nq h9, upd_nq h9, upd_nq h9, upd_nq h9⟩) (by rw [hk_165, hrel_63, hzm]; exact congrArg Value.int upd_q.symm) (by rw [hk_166, hrel_64]; exact congrArg Value.int upd_q.symm) (by rw [hk_167, hrel_65]; exact congrArg Value.int upd_q.symm) (by rw [hk_168, hrel_66]; exact congrArg Value.int upd_q.symm) ((hF.1 tc (hT0.at 3 rfl).1 0 (hT0.at 3 rfl).2 1 (by decide)).trans hTS.2.1) (by rw [hk_170, hrel_88]; exact congrArg Value.int upd_q.symm) (by rw [hk_171, hrel_89, hrel_67, ← hzm]; exact congrArg Value.int upd_q.symm)
        refine lv_aload_n hx hb dX1_reachesBy_119 rfl (lv_at hl 7 rfl) ?_
        refine T_get (ci := 1) (C := RX1) (T := TX1) (N := 9) (t := (1, 1, g 9, 3)) hx hb hts inw_X1_reachesBy_1 hown hK hP hT 2 rfl rfl 8 (by decide) (hts (.fieldLink RX1 33 "VatHouse$Planner" "keptShades" "[I") (List.mem_of_getElem? (i := 11) (by exact rfl))) (fun _ h9 => h9) rfl dX1_reachesBy_120 (fun v_174 hv_172 hr_173 => ?_)
        obtain rfl : v_174 = .ref ks := hr_173.symm.trans ((hF.1 h0 (hT0.at 0 rfl).1 1 (hT0.at 0 rfl).2 8 (by decide)).trans h_ks)
        refine lv_iload_n hx hb dX1_reachesBy_123 rfl (lv_at hl 10 rfl) ?_
        refine T_iald hx hb hK hP hT 6 9 rfl rfl (vin 3 (by decide) rfl (by assumption) (lt_nle (by assumption))) dX1_reachesBy_124 (fun z_175 ez_175 => ?_)
        have hkz : z_175 = z_147 := by rw [ez_175, hia_162]; exact if_pos rfl
        refine lv_aload_n hx hb dX1_reachesBy_125 rfl (lv_at hl 7 rfl) ?_
        refine T_get (ci := 1) (C := RX1) (T := TX1) (N := 9) (t := tI) hx hb hts inw_X1_reachesBy_1 hown hK hP hT 2 rfl rfl 4 (by decide) (hts (.fieldLink RX1 47 "VatHouse$Planner" "high" "I") (List.mem_of_getElem? (i := 12) (by exact rfl))) (fun _ h9 => h9) rfl dX1_reachesBy_126 (fun v_178 hv_176 hr_177 => ?_)
        obtain rfl : v_178 = .int hg := hr_177.symm.trans hk_164
        refine lv_icmp_gt (tgt := 148) hx hb dX1_reachesBy_129 (by decide) (fun c_179 => ?_) (fun c_179 => ?_)
        · refine lv_iconst (v := 0) hx hb dX1_reachesBy_148 (by decide) ?_
          refine lv_istore (lv' := [(12, .int 0), (11, .int (fa c9)), (10, .int (lo c9)), (9, .int (st q)), (8, .int (mi q)), (7, .int (fo q)), (6, .int (g9 q)), (5, .int z_7), (0, .ref h0), (1, .ref v), (2, .int mm), (3, .int pl), (4, .int wa)]) hx hb dX1_reachesBy_149 hl (by decide) rfl (fun ls hl => ?_)
          refine lv_aload_n hx hb dX1_reachesBy_151 rfl (lv_at hl 9 rfl) ?_
          refine lv_iload hx hb dX1_reachesBy_152 (lv_at hl 6 rfl) ?_
          have hTo := hT
          refine T_put (ci := 7) (v := .int (g9 q)) (ty := .int) (t := tI) (C := RX7) (T := TX7) (N := 8) hx hb hts inw_X1_reachesBy_7 tyX7 tyX7_ok nmX7 hown hK hP hD hS hT 3 rfl rfl 1 (by decide) (hts (.fieldLink RX1 85 "VatHouse$Vat" "grains" "I") (List.mem_of_getElem? (i := 2) (by exact rfl))) (fun _ h9 => h9) rfl (tyX7_ok 1 (by decide)) rfl rfl rfl ⟨_, rfl⟩ dX1_reachesBy_154 (fun f_180 H locs hP hD hS hT hE1 hrd_181 hup_182 => ?_)
          have hO0 := OF.putN (a := v) (cj := 7) hO0 hE ((hE1 v (hT.at 3 rfl).1).2.symm.trans (hT.at 3 rfl).2) (by decide) hrd_181
          have hO7 := hO7.put hrd_181 (by rw [hvq]; exact tv_in hq6)
          have hF := Fr.put (a := v) (ci := 7) hF hE ((hE1 v (hT.at 3 rfl).1).2.symm.trans (hT.at 3 rfl).2) (by decide) hrd_181 hup_182
          have hE := hE.tr hE1
          have hk_183 : rd f_180 h0 3 = .int lw := ((Fr.put (cs := [(7, 1)]) (a := v) (ci := 7) Fr.rf Ext.rf (hTo.at 3 rfl).2 (by decide) hrd_181 hup_182).1 h0 (hTo.at 2 rfl).1 1 (hTo.at 2 rfl).2 3 (by decide)).trans hk_163
          have hk_184 : rd f_180 h0 4 = .int hg := ((Fr.put (cs := [(7, 1)]) (a := v) (ci := 7) Fr.rf Ext.rf (hTo.at 3 rfl).2 (by decide) hrd_181 hup_182).1 h0 (hTo.at 2 rfl).1 1 (hTo.at 2 rfl).2 4 (by decide)).trans hk_164
          have hk_185 : rd f_180 v 1 = .int (g9 q) := (hrd_181 v 1).trans (if_pos ⟨rfl, rfl⟩)
          have hk_186 : rd f_180 v 2 = .int fo_54 := ((Fr.put (cs := [(7, 1)]) (a := v) (ci := 7) Fr.rf Ext.rf (hTo.at 3 rfl).2 (by decide) hrd_181 hup_182).1 v (hTo.at 3 rfl).1 7 (hTo.at 3 rfl).2 2 (by decide)).trans hk_166
          have hk_187 : rd f_180 v 3 = .int mi_55 := ((Fr.put (cs := [(7, 1)]) (a := v) (ci := 7) Fr.rf Ext.rf (hTo.at 3 rfl).2 (by decide) hrd_181 hup_182).1 v (hTo.at 3 rfl).1 7 (hTo.at 3 rfl).2 3 (by decide)).trans hk_167
          have hk_188 : rd f_180 v 4 = .int sta_56 := ((Fr.put (cs := [(7, 1)]) (a := v) (ci := 7) Fr.rf Ext.rf (hTo.at 3 rfl).2 (by decide) hrd_181 hup_182).1 v (hTo.at 3 rfl).1 7 (hTo.at 3 rfl).2 4 (by decide)).trans hk_168
          have hk_189 : rd f_180 tc 1 = .int (w c9) := ((Fr.put (cs := [(7, 1)]) (a := v) (ci := 7) Fr.rf Ext.rf (hTo.at 3 rfl).2 (by decide) hrd_181 hup_182).1 tc (hTo.at 5 rfl).1 0 (hTo.at 5 rfl).2 1 (by decide)).trans hk_169
          have hk_190 : rd f_180 tc 2 = .int lo_84 := ((Fr.put (cs := [(7, 1)]) (a := v) (ci := 7) Fr.rf Ext.rf (hTo.at 3 rfl).2 (by decide) hrd_181 hup_182).1 tc (hTo.at 5 rfl).1 0 (hTo.at 5 rfl).2 2 (by decide)).trans hk_170
          have hk_191 : rd f_180 tc 3 = .int fa_85 := ((Fr.put (cs := [(7, 1)]) (a := v) (ci := 7) Fr.rf Ext.rf (hTo.at 3 rfl).2 (by decide) hrd_181 hup_182).1 tc (hTo.at 5 rfl).1 0 (hTo.at 5 rfl).2 3 (by decide)).trans hk_171
          have hOc0 := hOc0.put hrd_181 (by simp)
          have hEc0 := hEc0.tr hE1
          refine lv_aload_n hx hb dX1_reachesBy_157 rfl (lv_at hl 9 rfl) ?_
          refine lv_iload hx hb dX1_reachesBy_158 (lv_at hl 5 rfl) ?_
          have hTo := hT
          refine T_put (ci := 7) (v := .int (fo q)) (ty := .int) (t := tI) (C := RX7) (T := TX7) (N := 8) hx hb hts inw_X1_reachesBy_7 tyX7 tyX7_ok nmX7 hown hK hP hD hS hT 3 rfl rfl 2 (by decide) (hts (.fieldLink RX1 88 "VatHouse$Vat" "food" "I") (List.mem_of_getElem? (i := 3) (by exact rfl))) (fun _ h9 => h9) rfl (tyX7_ok 2 (by decide)) rfl rfl rfl ⟨_, rfl⟩ dX1_reachesBy_160 (fun f_192 H locs hP hD hS hT hE1 hrd_193 hup_194 => ?_)
          have hO0 := OF.putN (a := v) (cj := 7) hO0 hE ((hE1 v (hT.at 3 rfl).1).2.symm.trans (hT.at 3 rfl).2) (by decide) hrd_193
          have hO7 := hO7.put hrd_193 (by rw [hvq]; exact tv_in hq6)
          have hF := Fr.put (a := v) (ci := 7) hF hE ((hE1 v (hT.at 3 rfl).1).2.symm.trans (hT.at 3 rfl).2) (by decide) hrd_193 hup_194
          have hE := hE.tr hE1
          have hk_195 : rd f_192 h0 3 = .int lw := ((Fr.put (cs := [(7, 2)]) (a := v) (ci := 7) Fr.rf Ext.rf (hTo.at 3 rfl).2 (by decide) hrd_193 hup_194).1 h0 (hTo.at 2 rfl).1 1 (hTo.at 2 rfl).2 3 (by decide)).trans hk_183
          have hk_196 : rd f_192 h0 4 = .int hg := ((Fr.put (cs := [(7, 2)]) (a := v) (ci := 7) Fr.rf Ext.rf (hTo.at 3 rfl).2 (by decide) hrd_193 hup_194).1 h0 (hTo.at 2 rfl).1 1 (hTo.at 2 rfl).2 4 (by decide)).trans hk_184
          have hk_197 : rd f_192 v 1 = .int (g9 q) := ((Fr.put (cs := [(7, 2)]) (a := v) (ci := 7) Fr.rf Ext.rf (hTo.at 3 rfl).2 (by decide) hrd_193 hup_194).1 v (hTo.at 3 rfl).1 7 (hTo.at 3 rfl).2 1 (by decide)).trans hk_185
          have hk_198 : rd f_192 v 2 = .int (fo q) := (hrd_193 v 2).trans (if_pos ⟨rfl, rfl⟩)
          have hk_199 : rd f_192 v 3 = .int mi_55 := ((Fr.put (cs := [(7, 2)]) (a := v) (ci := 7) Fr.rf Ext.rf (hTo.at 3 rfl).2 (by decide) hrd_193 hup_194).1 v (hTo.at 3 rfl).1 7 (hTo.at 3 rfl).2 3 (by decide)).trans hk_187
          have hk_200 : rd f_192 v 4 = .int sta_56 := ((Fr.put (cs := [(7, 2)]) (a := v) (ci := 7) Fr.rf Ext.rf (hTo.at 3 rfl).2 (by decide) hrd_193 hup_194).1 v (hTo.at 3 rfl).1 7 (hTo.at 3 rfl).2 4 (by decide)).trans hk_188
          have hk_201 : rd f_192 tc 1 = .int (w c9) := ((Fr.put (cs := [(7, 2)]) (a := v) (ci := 7) Fr.rf Ext.rf (hTo.at 3 rfl).2 (by decide) hrd_193 hup_194).1 tc (hTo.at 5 rfl).1 0 (hTo.at 5 rfl).2 1 (by decide)).trans hk_189
          have hk_202 : rd f_192 tc 2 = .int lo_84 := ((Fr.put (cs := [(7, 2)]) (a := v) (ci := 7) Fr.rf Ext.rf (hTo.at 3 rfl).2 (by decide) hrd_193 hup_194).1 tc (hTo.at 5 rfl).1 0 (hTo.at 5 rfl).2 2 (by decide)).trans hk_190
          have hk_203 : rd f_192 tc 3 = .int fa_85 := ((Fr.put (cs := [(7, 2)]) (a := v) (ci := 7) Fr.rf Ext.rf (hTo.at 3 rfl).2 (by decide) hrd_193 hup_194).1 tc (hTo.at 5 rfl).1 0 (hTo.at 5 rfl).2 3 (by decide)).trans hk_191
          have hOc0 := hOc0.put hrd_193 (by simp)
          have hEc0 := hEc0.tr hE1
          refine lv_aload_n hx hb dX1_reachesBy_163 rfl (lv_at hl 9 rfl) ?_
          refine lv_iload hx hb dX1_reachesBy_164 (lv_at hl 4 rfl) ?_
          have hTo := hT
          refine T_put (ci := 7) (v := .int (mi q)) (ty := .int) (t := tI) (C := RX7) (T := TX7) (N := 8) hx hb hts inw_X1_reachesBy_7 tyX7 tyX7_ok nmX7 hown hK hP hD hS hT 3 rfl rfl 3 (by decide) (hts (.fieldLink RX1 91 "VatHouse$Vat" "minutes" "I") (List.mem_of_getElem? (i := 4) (by exact rfl))) (fun _ h9 => h9) rfl (tyX7_ok 3 (by decide)) rfl rfl rfl ⟨_, rfl⟩ dX1_reachesBy_166 (fun f_204 H locs hP hD hS hT hE1 hrd_205 hup_206 => ?_)
          have hO0 := OF.putN (a := v) (cj := 7) hO0 hE ((hE1 v (hT.at 3 rfl).1).2.symm.trans (hT.at 3 rfl).2) (by decide) hrd_205
          have hO7 := hO7.put hrd_205 (by rw [hvq]; exact tv_in hq6)
          have hF := Fr.put (a := v) (ci := 7) hF hE ((hE1 v (hT.at 3 rfl).1).2.symm.trans (hT.at 3 rfl).2) (by decide) hrd_205 hup_206
          have hE := hE.tr hE1
          have hk_207 : rd f_204 h0 3 = .int lw := ((Fr.put (cs := [(7, 3)]) (a := v) (ci := 7) Fr.rf Ext.rf (hTo.at 3 rfl).2 (by decide) hrd_205 hup_206).1 h0 (hTo.at 2 rfl).1 1 (hTo.at 2 rfl).2 3 (by decide)).trans hk_195
          have hk_208 : rd f_204 h0 4 = .int hg := ((Fr.put (cs := [(7, 3)]) (a := v) (ci := 7) Fr.rf Ext.rf (hTo.at 3 rfl).2 (by decide) hrd_205 hup_206).1 h0 (hTo.at 2 rfl).1 1 (hTo.at 2 rfl).2 4 (by decide)).trans hk_196
          have hk_209 : rd f_204 v 1 = .int (g9 q) := ((Fr.put (cs := [(7, 3)]) (a := v) (ci := 7) Fr.rf Ext.rf (hTo.at 3 rfl).2 (by decide) hrd_205 hup_206).1 v (hTo.at 3 rfl).1 7 (hTo.at 3 rfl).2 1 (by decide)).trans hk_197
          have hk_210 : rd f_204 v 2 = .int (fo q) := ((Fr.put (cs := [(7, 3)]) (a := v) (ci := 7) Fr.rf Ext.rf (hTo.at 3 rfl).2 (by decide) hrd_205 hup_206).1 v (hTo.at 3 rfl).1 7 (hTo.at 3 rfl).2 2 (by decide)).trans hk_198
          have hk_211 : rd f_204 v 3 = .int (mi q) := (hrd_205 v 3).trans (if_pos ⟨rfl, rfl⟩)
          have hk_212 : rd f_204 v 4 = .int sta_56 := ((Fr.put (cs := [(7, 3)]) (a := v) (ci := 7) Fr.rf Ext.rf (hTo.at 3 rfl).2 (by decide) hrd_205 hup_206).1 v (hTo.at 3 rfl).1 7 (hTo.at 3 rfl).2 4 (by decide)).trans hk_200
          have hk_213 : rd f_204 tc 1 = .int (w c9) := ((Fr.put (cs := [(7, 3)]) (a := v) (ci := 7) Fr.rf Ext.rf (hTo.at 3 rfl).2 (by decide) hrd_205 hup_206).1 tc (hTo.at 5 rfl).1 0 (hTo.at 5 rfl).2 1 (by decide)).trans hk_201
          have hk_214 : rd f_204 tc 2 = .int lo_84 := ((Fr.put (cs := [(7, 3)]) (a := v) (ci := 7) Fr.rf Ext.rf (hTo.at 3 rfl).2 (by decide) hrd_205 hup_206).1 tc (hTo.at 5 rfl).1 0 (hTo.at 5 rfl).2 2 (by decide)).trans hk_202
          have hk_215 : rd f_204 tc 3 = .int fa_85 := ((Fr.put (cs := [(7, 3)]) (a := v) (ci := 7) Fr.rf Ext.rf (hTo.at 3 rfl).2 (by decide) hrd_205 hup_206).1 tc (hTo.at 5 rfl).1 0 (hTo.at 5 rfl).2 3 (by decide)).trans hk_203
          have hOc0 := hOc0.put hrd_205 (by simp)
          have hEc0 := hEc0.tr hE1
          refine lv_aload_n hx hb dX1_reachesBy_169 rfl (lv_at hl 9 rfl) ?_
          refine lv_iload hx hb dX1_reachesBy_170 (lv_at hl 3 rfl) ?_
          have hTo := hT
          refine T_put (ci := 7) (v := .int (st q)) (ty := .int) (t := tI) (C := RX7) (T := TX7) (N := 8) hx hb hts inw_X1_reachesBy_7 tyX7 tyX7_ok nmX7 hown hK hP hD hS hT 3 rfl rfl 4 (by decide) (hts (.fieldLink RX1 94 "VatHouse$Vat" "state" "I") (List.mem_of_getElem? (i := 5) (by exact rfl))) (fun _ h9 => h9) rfl (tyX7_ok 4 (by decide)) rfl rfl rfl ⟨_, rfl⟩ dX1_reachesBy_172 (fun f_216 H locs hP hD hS hT hE1 hrd_217 hup_218 => ?_)
          have hO0 := OF.putN (a := v) (cj := 7) hO0 hE ((hE1 v (hT.at 3 rfl).1).2.symm.trans (hT.at 3 rfl).2) (by decide) hrd_217
          have hO7 := hO7.put hrd_217 (by rw [hvq]; exact tv_in hq6)
          have hF := Fr.put (a := v) (ci := 7) hF hE ((hE1 v (hT.at 3 rfl).1).2.symm.trans (hT.at 3 rfl).2) (by decide) hrd_217 hup_218
          have hE := hE.tr hE1
          have hk_219 : rd f_216 h0 3 = .int lw := ((Fr.put (cs := [(7, 4)]) (a := v) (ci := 7) Fr.rf Ext.rf (hTo.at 3 rfl).2 (by decide) hrd_217 hup_218).1 h0 (hTo.at 2 rfl).1 1 (hTo.at 2 rfl).2 3 (by decide)).trans hk_207
          have hk_220 : rd f_216 h0 4 = .int hg := ((Fr.put (cs := [(7, 4)]) (a := v) (ci := 7) Fr.rf Ext.rf (hTo.at 3 rfl).2 (by decide) hrd_217 hup_218).1 h0 (hTo.at 2 rfl).1 1 (hTo.at 2 rfl).2 4 (by decide)).trans hk_208
          have hk_221 : rd f_216 v 1 = .int (g9 q) := ((Fr.put (cs := [(7, 4)]) (a := v) (ci := 7) Fr.rf Ext.rf (hTo.at 3 rfl).2 (by decide) hrd_217 hup_218).1 v (hTo.at 3 rfl).1 7 (hTo.at 3 rfl).2 1 (by decide)).trans hk_209
          have hk_222 : rd f_216 v 2 = .int (fo q) := ((Fr.put (cs := [(7, 4)]) (a := v) (ci := 7) Fr.rf Ext.rf (hTo.at 3 rfl).2 (by decide) hrd_217 hup_218).1 v (hTo.at 3 rfl).1 7 (hTo.at 3 rfl).2 2 (by decide)).trans hk_210
          have hk_223 : rd f_216 v 3 = .int (mi q) := ((Fr.put (cs := [(7, 4)]) (a := v) (ci := 7) Fr.rf Ext.rf (hTo.at 3 rfl).2 (by decide) hrd_217 hup_218).1 v (hTo.at 3 rfl).1 7 (hTo.at 3 rfl).2 3 (by decide)).trans hk_211
          have hk_224 : rd f_216 v 4 = .int (st q) := (hrd_217 v 4).trans (if_pos ⟨rfl, rfl⟩)
          have hk_225 : rd f_216 tc 1 = .int (w c9) := ((Fr.put (cs := [(7, 4)]) (a := v) (ci := 7) Fr.rf Ext.rf (hTo.at 3 rfl).2 (by decide) hrd_217 hup_218).1 tc (hTo.at 5 rfl).1 0 (hTo.at 5 rfl).2 1 (by decide)).trans hk_213
          have hk_226 : rd f_216 tc 2 = .int lo_84 := ((Fr.put (cs := [(7, 4)]) (a := v) (ci := 7) Fr.rf Ext.rf (hTo.at 3 rfl).2 (by decide) hrd_217 hup_218).1 tc (hTo.at 5 rfl).1 0 (hTo.at 5 rfl).2 2 (by decide)).trans hk_214
          have hk_227 : rd f_216 tc 3 = .int fa_85 := ((Fr.put (cs := [(7, 4)]) (a := v) (ci := 7) Fr.rf Ext.rf (hTo.at 3 rfl).2 (by decide) hrd_217 hup_218).1 tc (hTo.at 5 rfl).1 0 (hTo.at 5 rfl).2 3 (by decide)).trans hk_215
          have hOc0 := hOc0.put hrd_217 (by simp)
          have hEc0 := hEc0.tr hE1
          refine lv_aload_n hx hb dX1_reachesBy_175 rfl (lv_at hl 8 rfl) ?_
          refine T_get (ci := 1) (C := RX1) (T := TX1) (N := 9) (t := (1, 0, 0, 0)) hx hb hts inw_X1_reachesBy_1 hown hK hP hT 2 rfl rfl 2 (by decide) (hts (.fieldLink RX1 22 "VatHouse$Planner" "trialCloth" "LVatHouse$Cloth;") (List.mem_of_getElem? (i := 1) (by exact rfl))) (fun _ h9 => h9) rfl dX1_reachesBy_176 (fun v_230 hv_228 hr_229 => ?_)
          obtain rfl : v_230 = .ref tc := hr_229.symm.trans ((hF.1 h0 (hT0.at 0 rfl).1 1 (hT0.at 0 rfl).2 2 (by decide)).trans h_tc)
          refine lv_iload hx hb dX1_reachesBy_179 (lv_at hl 2 rfl) ?_
          have hTo := hT
          refine T_put (ci := 0) (v := .int (lo c9)) (ty := .int) (t := tI) (C := RX0) (T := TX0) (N := 8) hx hb hts inw_X1_reachesBy_0 tyX0 tyX0_ok nmX0 hown hK hP hD hS hT 5 rfl rfl 2 (by decide) (hts (.fieldLink RX1 70 "VatHouse$Cloth" "loose" "I") (List.mem_of_getElem? (i := 6) (by exact rfl))) (fun _ h9 => h9) rfl (tyX0_ok 2 (by decide)) rfl rfl rfl ⟨_, rfl⟩ dX1_reachesBy_181 (fun f_231 H locs hP hD hS hT hE1 hrd_232 hup_233 => ?_)
          have hO0 := hO0.put hrd_232 (by simp)
          have hO7 := OF.putN (a := tc) (cj := 0) hO7 hE ((hE1 tc (hT.at 5 rfl).1).2.symm.trans (hT.at 5 rfl).2) (by decide) hrd_232
          have hF := Fr.put (a := tc) (ci := 0) hF hE ((hE1 tc (hT.at 5 rfl).1).2.symm.trans (hT.at 5 rfl).2) (by decide) hrd_232 hup_233
          have hE := hE.tr hE1
          have hk_234 : rd f_231 h0 3 = .int lw := ((Fr.put (cs := [(0, 2)]) (a := tc) (ci := 0) Fr.rf Ext.rf (hTo.at 5 rfl).2 (by decide) hrd_232 hup_233).1 h0 (hTo.at 2 rfl).1 1 (hTo.at 2 rfl).2 3 (by decide)).trans hk_219
          have hk_235 : rd f_231 h0 4 = .int hg := ((Fr.put (cs := [(0, 2)]) (a := tc) (ci := 0) Fr.rf Ext.rf (hTo.at 5 rfl).2 (by decide) hrd_232 hup_233).1 h0 (hTo.at 2 rfl).1 1 (hTo.at 2 rfl).2 4 (by decide)).trans hk_220
          have hk_236 : rd f_231 v 1 = .int (g9 q) := ((Fr.put (cs := [(0, 2)]) (a := tc) (ci := 0) Fr.rf Ext.rf (hTo.at 5 rfl).2 (by decide) hrd_232 hup_233).1 v (hTo.at 3 rfl).1 7 (hTo.at 3 rfl).2 1 (by decide)).trans hk_221
          have hk_237 : rd f_231 v 2 = .int (fo q) := ((Fr.put (cs := [(0, 2)]) (a := tc) (ci := 0) Fr.rf Ext.rf (hTo.at 5 rfl).2 (by decide) hrd_232 hup_233).1 v (hTo.at 3 rfl).1 7 (hTo.at 3 rfl).2 2 (by decide)).trans hk_222
          have hk_238 : rd f_231 v 3 = .int (mi q) := ((Fr.put (cs := [(0, 2)]) (a := tc) (ci := 0) Fr.rf Ext.rf (hTo.at 5 rfl).2 (by decide) hrd_232 hup_233).1 v (hTo.at 3 rfl).1 7 (hTo.at 3 rfl).2 3 (by decide)).trans hk_223
          have hk_239 : rd f_231 v 4 = .int (st q) := ((Fr.put (cs := [(0, 2)]) (a := tc) (ci := 0) Fr.rf Ext.rf (hTo.at 5 rfl).2 (by decide) hrd_232 hup_233).1 v (hTo.at 3 rfl).1 7 (hTo.at 3 rfl).2 4 (by decide)).trans hk_224
          have hk_240 : rd f_231 tc 1 = .int (w c9) := ((Fr.put (cs := [(0, 2)]) (a := tc) (ci := 0) Fr.rf Ext.rf (hTo.at 5 rfl).2 (by decide) hrd_232 hup_233).1 tc (hTo.at 5 rfl).1 0 (hTo.at 5 rfl).2 1 (by decide)).trans hk_225
          have hk_241 : rd f_231 tc 2 = .int (lo c9) := (hrd_232 tc 2).trans (if_pos ⟨rfl, rfl⟩)
          have hk_242 : rd f_231 tc 3 = .int fa_85 := ((Fr.put (cs := [(0, 2)]) (a := tc) (ci := 0) Fr.rf Ext.rf (hTo.at 5 rfl).2 (by decide) hrd_232 hup_233).1 tc (hTo.at 5 rfl).1 0 (hTo.at 5 rfl).2 3 (by decide)).trans hk_227
          have hOc0 := OF.putN (a := tc) (cj := 0) hOc0 hEc0 ((hE1 tc (hT.at 5 rfl).1).2.symm.trans (hT.at 5 rfl).2) (by decide) hrd_232
          have hEc0 := hEc0.tr hE1
          refine lv_aload_n hx hb dX1_reachesBy_184 rfl (lv_at hl 8 rfl) ?_
          refine T_get (ci := 1) (C := RX1) (T := TX1) (N := 9) (t := (1, 0, 0, 0)) hx hb hts inw_X1_reachesBy_1 hown hK hP hT 2 rfl rfl 2 (by decide) (hts (.fieldLink RX1 22 "VatHouse$Planner" "trialCloth" "LVatHouse$Cloth;") (List.mem_of_getElem? (i := 1) (by exact rfl))) (fun _ h9 => h9) rfl dX1_reachesBy_185 (fun v_245 hv_243 hr_244 => ?_)
          obtain rfl : v_245 = .ref tc := hr_244.symm.trans ((hF.1 h0 (hT0.at 0 rfl).1 1 (hT0.at 0 rfl).2 2 (by decide)).trans h_tc)
          refine lv_iload hx hb dX1_reachesBy_188 (lv_at hl 1 rfl) ?_
          have hTo := hT
          refine T_put (ci := 0) (v := .int (fa c9)) (ty := .int) (t := tI) (C := RX0) (T := TX0) (N := 8) hx hb hts inw_X1_reachesBy_0 tyX0 tyX0_ok nmX0 hown hK hP hD hS hT 5 rfl rfl 3 (by decide) (hts (.fieldLink RX1 97 "VatHouse$Cloth" "fast" "I") (List.mem_of_getElem? (i := 7) (by exact rfl))) (fun _ h9 => h9) rfl (tyX0_ok 3 (by decide)) rfl rfl rfl ⟨_, rfl⟩ dX1_reachesBy_190 (fun f_246 H locs hP hD hS hT hE1 hrd_247 hup_248 => ?_)
          have hO0 := hO0.put hrd_247 (by simp)
          have hO7 := OF.putN (a := tc) (cj := 0) hO7 hE ((hE1 tc (hT.at 5 rfl).1).2.symm.trans (hT.at 5 rfl).2) (by decide) hrd_247
          have hF := Fr.put (a := tc) (ci := 0) hF hE ((hE1 tc (hT.at 5 rfl).1).2.symm.trans (hT.at 5 rfl).2) (by decide) hrd_247 hup_248
          have hE := hE.tr hE1
          have hk_249 : rd f_246 h0 3 = .int lw := ((Fr.put (cs := [(0, 3)]) (a := tc) (ci := 0) Fr.rf Ext.rf (hTo.at 5 rfl).2 (by decide) hrd_247 hup_248).1 h0 (hTo.at 2 rfl).1 1 (hTo.at 2 rfl).2 3 (by decide)).trans hk_234
          have hk_250 : rd f_246 h0 4 = .int hg := ((Fr.put (cs := [(0, 3)]) (a := tc) (ci := 0) Fr.rf Ext.rf (hTo.at 5 rfl).2 (by decide) hrd_247 hup_248).1 h0 (hTo.at 2 rfl).1 1 (hTo.at 2 rfl).2 4 (by decide)).trans hk_235
          have hk_251 : rd f_246 v 1 = .int (g9 q) := ((Fr.put (cs := [(0, 3)]) (a := tc) (ci := 0) Fr.rf Ext.rf (hTo.at 5 rfl).2 (by decide) hrd_247 hup_248).1 v (hTo.at 3 rfl).1 7 (hTo.at 3 rfl).2 1 (by decide)).trans hk_236
          have hk_252 : rd f_246 v 2 = .int (fo q) := ((Fr.put (cs := [(0, 3)]) (a := tc) (ci := 0) Fr.rf Ext.rf (hTo.at 5 rfl).2 (by decide) hrd_247 hup_248).1 v (hTo.at 3 rfl).1 7 (hTo.at 3 rfl).2 2 (by decide)).trans hk_237
          have hk_253 : rd f_246 v 3 = .int (mi q) := ((Fr.put (cs := [(0, 3)]) (a := tc) (ci := 0) Fr.rf Ext.rf (hTo.at 5 rfl).2 (by decide) hrd_247 hup_248).1 v (hTo.at 3 rfl).1 7 (hTo.at 3 rfl).2 3 (by decide)).trans hk_238
          have hk_254 : rd f_246 v 4 = .int (st q) := ((Fr.put (cs := [(0, 3)]) (a := tc) (ci := 0) Fr.rf Ext.rf (hTo.at 5 rfl).2 (by decide) hrd_247 hup_248).1 v (hTo.at 3 rfl).1 7 (hTo.at 3 rfl).2 4 (by decide)).trans hk_239
          have hk_255 : rd f_246 tc 1 = .int (w c9) := ((Fr.put (cs := [(0, 3)]) (a := tc) (ci := 0) Fr.rf Ext.rf (hTo.at 5 rfl).2 (by decide) hrd_247 hup_248).1 tc (hTo.at 5 rfl).1 0 (hTo.at 5 rfl).2 1 (by decide)).trans hk_240
          have hk_256 : rd f_246 tc 2 = .int (lo c9) := ((Fr.put (cs := [(0, 3)]) (a := tc) (ci := 0) Fr.rf Ext.rf (hTo.at 5 rfl).2 (by decide) hrd_247 hup_248).1 tc (hTo.at 5 rfl).1 0 (hTo.at 5 rfl).2 2 (by decide)).trans hk_241
          have hk_257 : rd f_246 tc 3 = .int (fa c9) := (hrd_247 tc 3).trans (if_pos ⟨rfl, rfl⟩)
          have hOc0 := OF.putN (a := tc) (cj := 0) hOc0 hEc0 ((hE1 tc (hT.at 5 rfl).1).2.symm.trans (hT.at 5 rfl).2) (by decide) hrd_247
          have hEc0 := hEc0.tr hE1
          refine lv_iload hx hb dX1_reachesBy_193 (lv_at hl 0 rfl) ?_
          exact K_z hx hb hr rfl hlocks hP hD hK hS hT hE ⟨Or.inl ⟨rfl, (gd_h hIV hq6 hm4 hsz (by rw [← hkz]; exact c_179))⟩, hF, hO0, hO7, TSp.put hTS hinj hq6 hvq hTM hOc0 (fun _ _ => ⟨rfl, rfl, rfl, rfl⟩) hk_251 hk_252 hk_253 hk_254 ((hF.1 tc (hT0.at 3 rfl).1 0 (hT0.at 3 rfl).2 1 (by decide)).trans hTS.2.1) hk_256 hk_257⟩ (by first | exact Nat.le_of_ble_eq_true rfl | (simp only [rm_X1_reachesByP]; omega) | omega) (by first | exact Nat.le_of_ble_eq_true rfl | (simp only [rm_X1_reachesByP]; omega) | omega) dX1_reachesBy_195
        · refine lv_aload_n hx hb dX1_reachesBy_132 rfl (lv_at hl 7 rfl) ?_
          refine lv_iload_n hx hb dX1_reachesBy_133 rfl (lv_at hl 10 rfl) ?_
          refine lv_iconst (v := 1) hx hb dX1_reachesBy_134 (by decide) ?_
          refine lv_iadd hx hb dX1_reachesBy_135 ?_
          refine lv_topi (fun z_258 ez_258 => ?_)
          refine lv_iload hx hb dX1_reachesBy_136 (lv_at hl 11 rfl) ?_
          obtain ⟨j1, hj_259⟩ : ∃ j1, j = j1 + 1 := ⟨j - 1, by omega⟩
          have hTo := hT
          refine K_V ⟨hx, hb, hml, hown, hts⟩ (IHR j1 (d + 1) (by omega) hj_259 _ _ tv k c9 (upd g9 q (g9 q - mvP g9 st w lo fa c9 q mm)) (upd fo q (skF (fo q) mm)) (upd mi q (mi q + mm)) (upd st q (skS (mi q) (fo q) (st q) mm)) w (upd lo c9 0) (upd fa c9 (fa c9 + ((lo c9 + mvP g9 st w lo fa c9 q mm) - (lo c9 + mvP g9 st w lo fa c9 q mm) / 8))) h0 z_258 wa tvr tc ks lw hg _ (hT.sub [2, 4, 5, 6] rfl)  hk_163 hk_164 ((hF.1 h0 (hT0.at 0 rfl).1 1 (hT0.at 0 rfl).2 1 (by decide)).trans h_tvr) ((hF.1 h0 (hT0.at 0 rfl).1 1 (hT0.at 0 rfl).2 2 (by decide)).trans h_tc) ((hF.1 h0 (hT0.at 0 rfl).1 1 (hT0.at 0 rfl).2 8 (by decide)).trans h_ks) (by rw [ez_258, hd]; exact nI_1 d) (by rw [hwk]; exact congrArg nI (by omega)) (by omega) (fun k9 h9 => by rw [ra_eq (hF.2 tvr (hT0.at 2 rfl).1 1 _ _ (hT0.at 2 rfl).2 (by decide))]; exact hTV k9 h9) (fun k9 h9 => ⟨(hE _ (hTM k9 h9).1).1, (hE _ (hTM k9 h9).1).2.trans (hTM k9 h9).2⟩) hinj hTS2 (hIV.th (st := st) hq6 hm4).1) (cwV 2 hts gX1_reachesBy_X1_reaches rfl rfl rfl (by decide +kernel) ⟨(by first | exact Nat.le_of_ble_eq_true rfl | (simp only [rm_X1_reachesP, rm_X1_reachesByP]; omega)), (by first | exact Nat.le_of_ble_eq_true rfl | (simp only [rm_X1_reachesP, rm_X1_reachesByP]; omega))⟩) hP hD hK hS hA hev hT 2 1 rfl rfl rfl rfl hl.1 rfl (Nat.le_of_ble_eq_true rfl) dX1_reachesBy_138 ⟨(by first | exact Nat.le_of_ble_eq_true rfl | (simp only [rm_X1_reachesByP]; omega) | omega), (by first | exact Nat.le_of_ble_eq_true rfl | (simp only [rm_X1_reachesByP]; omega) | omega)⟩ (fun r L_260 f_261 H locs hw_262 hP hD hS hT hE1 => ?_)
          have hEo := hE
          have hF := Fr.call hF hE hw_262.2.1 (by decide)
          have hE := hE.tr hE1
          obtain ⟨⟨rfl, hz2_263⟩ | ⟨rfl, hz2_263⟩, hw_262⟩ := hw_262
          · obtain ⟨hfr_264, hex_265⟩ := hw_262
            obtain ⟨hof_266, hof_267, hex_268⟩ := hex_265
            have hO0 := hO0.call hEo hof_266 (fun _ h9 => h9)
            have hO7 := hO7.call hEo hof_267 (fun _ h9 => h9)
            have hk_269 : rd f_261 h0 3 = .int lw := (hfr_264.1 h0 (hTo.at 2 rfl).1 1 (hTo.at 2 rfl).2 3 (by decide)).trans hk_163
            have hk_270 : rd f_261 h0 4 = .int hg := (hfr_264.1 h0 (hTo.at 2 rfl).1 1 (hTo.at 2 rfl).2 4 (by decide)).trans hk_164
            have hk_271 : rd f_261 tc 1 = .int (w c9) := (hfr_264.1 tc (hTo.at 5 rfl).1 0 (hTo.at 5 rfl).2 1 (by decide)).trans hk_169
            have htm_272 : ∀ k : Nat, k < 6 → tv k ∈ L_260 ∧ sh (f_261 (tv k)) = (0, 7, 0) := (fun k9 h9 => ⟨(hE _ (hTM k9 h9).1).1, (hE _ (hTM k9 h9).1).2.trans (hTM k9 h9).2⟩)
            have hEc1 : Ext L_260 f_261 L_260 f_261 := Ext.rf
            have hOc1 : OF 7 [v] L_260 f_261 f_261 := OF.rf
            refine W.eq (g2 := F0 m 141 ls [.int 0]) rfl ?_
            refine lv_if_eq (tgt := 148) hx hb dX1_reachesBy_141 (by decide) (fun c_273 => ?_) (fun c_273 => ?_)
            rotate_left
            · exact absurd c_273 (by decide)
            refine lv_iconst (v := 0) hx hb dX1_reachesBy_148 (by decide) ?_
            refine lv_istore (lv' := [(12, .int 0), (11, .int (fa c9)), (10, .int (lo c9)), (9, .int (st q)), (8, .int (mi q)), (7, .int (fo q)), (6, .int (g9 q)), (5, .int z_7), (0, .ref h0), (1, .ref v), (2, .int mm), (3, .int pl), (4, .int wa)]) hx hb dX1_reachesBy_149 hl (by decide) rfl (fun ls hl => ?_)
            refine lv_aload_n hx hb dX1_reachesBy_151 rfl (lv_at hl 9 rfl) ?_
            refine lv_iload hx hb dX1_reachesBy_152 (lv_at hl 6 rfl) ?_
            have hTo := hT
            refine T_put (ci := 7) (v := .int (g9 q)) (ty := .int) (t := tI) (C := RX7) (T := TX7) (N := 8) hx hb hts inw_X1_reachesBy_7 tyX7 tyX7_ok nmX7 hown hK hP hD hS hT 3 rfl rfl 1 (by decide) (hts (.fieldLink RX1 85 "VatHouse$Vat" "grains" "I") (List.mem_of_getElem? (i := 2) (by exact rfl))) (fun _ h9 => h9) rfl (tyX7_ok 1 (by decide)) rfl rfl rfl ⟨_, rfl⟩ dX1_reachesBy_154 (fun f_274 H locs hP hD hS hT hE1 hrd_275 hup_276 => ?_)
            have hO0 := OF.putN (a := v) (cj := 7) hO0 hE ((hE1 v (hT.at 3 rfl).1).2.symm.trans (hT.at 3 rfl).2) (by decide) hrd_275
            have hO7 := hO7.put hrd_275 (by rw [hvq]; exact tv_in hq6)
            have hF := Fr.put (a := v) (ci := 7) hF hE ((hE1 v (hT.at 3 rfl).1).2.symm.trans (hT.at 3 rfl).2) (by decide) hrd_275 hup_276
            have hE := hE.tr hE1
            have hk_277 : rd f_274 h0 3 = .int lw := ((Fr.put (cs := [(7, 1)]) (a := v) (ci := 7) Fr.rf Ext.rf (hTo.at 3 rfl).2 (by decide) hrd_275 hup_276).1 h0 (hTo.at 2 rfl).1 1 (hTo.at 2 rfl).2 3 (by decide)).trans hk_269
            have hk_278 : rd f_274 h0 4 = .int hg := ((Fr.put (cs := [(7, 1)]) (a := v) (ci := 7) Fr.rf Ext.rf (hTo.at 3 rfl).2 (by decide) hrd_275 hup_276).1 h0 (hTo.at 2 rfl).1 1 (hTo.at 2 rfl).2 4 (by decide)).trans hk_270
            have hk_279 : rd f_274 tc 1 = .int (w c9) := ((Fr.put (cs := [(7, 1)]) (a := v) (ci := 7) Fr.rf Ext.rf (hTo.at 3 rfl).2 (by decide) hrd_275 hup_276).1 tc (hTo.at 5 rfl).1 0 (hTo.at 5 rfl).2 1 (by decide)).trans hk_271
            have hk_280 : rd f_274 v 1 = .int (g9 q) := (hrd_275 v 1).trans (if_pos ⟨rfl, rfl⟩)
            have hOc1 := hOc1.put hrd_275 (by simp)
            have hEc1 := hEc1.tr hE1
            refine lv_aload_n hx hb dX1_reachesBy_157 rfl (lv_at hl 9 rfl) ?_
            refine lv_iload hx hb dX1_reachesBy_158 (lv_at hl 5 rfl) ?_
            have hTo := hT
            refine T_put (ci := 7) (v := .int (fo q)) (ty := .int) (t := tI) (C := RX7) (T := TX7) (N := 8) hx hb hts inw_X1_reachesBy_7 tyX7 tyX7_ok nmX7 hown hK hP hD hS hT 3 rfl rfl 2 (by decide) (hts (.fieldLink RX1 88 "VatHouse$Vat" "food" "I") (List.mem_of_getElem? (i := 3) (by exact rfl))) (fun _ h9 => h9) rfl (tyX7_ok 2 (by decide)) rfl rfl rfl ⟨_, rfl⟩ dX1_reachesBy_160 (fun f_281 H locs hP hD hS hT hE1 hrd_282 hup_283 => ?_)
            have hO0 := OF.putN (a := v) (cj := 7) hO0 hE ((hE1 v (hT.at 3 rfl).1).2.symm.trans (hT.at 3 rfl).2) (by decide) hrd_282
            have hO7 := hO7.put hrd_282 (by rw [hvq]; exact tv_in hq6)
            have hF := Fr.put (a := v) (ci := 7) hF hE ((hE1 v (hT.at 3 rfl).1).2.symm.trans (hT.at 3 rfl).2) (by decide) hrd_282 hup_283
            have hE := hE.tr hE1
            have hk_284 : rd f_281 h0 3 = .int lw := ((Fr.put (cs := [(7, 2)]) (a := v) (ci := 7) Fr.rf Ext.rf (hTo.at 3 rfl).2 (by decide) hrd_282 hup_283).1 h0 (hTo.at 2 rfl).1 1 (hTo.at 2 rfl).2 3 (by decide)).trans hk_277
            have hk_285 : rd f_281 h0 4 = .int hg := ((Fr.put (cs := [(7, 2)]) (a := v) (ci := 7) Fr.rf Ext.rf (hTo.at 3 rfl).2 (by decide) hrd_282 hup_283).1 h0 (hTo.at 2 rfl).1 1 (hTo.at 2 rfl).2 4 (by decide)).trans hk_278
            have hk_286 : rd f_281 tc 1 = .int (w c9) := ((Fr.put (cs := [(7, 2)]) (a := v) (ci := 7) Fr.rf Ext.rf (hTo.at 3 rfl).2 (by decide) hrd_282 hup_283).1 tc (hTo.at 5 rfl).1 0 (hTo.at 5 rfl).2 1 (by decide)).trans hk_279
            have hk_287 : rd f_281 v 1 = .int (g9 q) := ((Fr.put (cs := [(7, 2)]) (a := v) (ci := 7) Fr.rf Ext.rf (hTo.at 3 rfl).2 (by decide) hrd_282 hup_283).1 v (hTo.at 3 rfl).1 7 (hTo.at 3 rfl).2 1 (by decide)).trans hk_280
            have hk_288 : rd f_281 v 2 = .int (fo q) := (hrd_282 v 2).trans (if_pos ⟨rfl, rfl⟩)
            have hOc1 := hOc1.put hrd_282 (by simp)
            have hEc1 := hEc1.tr hE1
            refine lv_aload_n hx hb dX1_reachesBy_163 rfl (lv_at hl 9 rfl) ?_
            refine lv_iload hx hb dX1_reachesBy_164 (lv_at hl 4 rfl) ?_
            have hTo := hT
            refine T_put (ci := 7) (v := .int (mi q)) (ty := .int) (t := tI) (C := RX7) (T := TX7) (N := 8) hx hb hts inw_X1_reachesBy_7 tyX7 tyX7_ok nmX7 hown hK hP hD hS hT 3 rfl rfl 3 (by decide) (hts (.fieldLink RX1 91 "VatHouse$Vat" "minutes" "I") (List.mem_of_getElem? (i := 4) (by exact rfl))) (fun _ h9 => h9) rfl (tyX7_ok 3 (by decide)) rfl rfl rfl ⟨_, rfl⟩ dX1_reachesBy_166 (fun f_289 H locs hP hD hS hT hE1 hrd_290 hup_291 => ?_)
            have hO0 := OF.putN (a := v) (cj := 7) hO0 hE ((hE1 v (hT.at 3 rfl).1).2.symm.trans (hT.at 3 rfl).2) (by decide) hrd_290
            have hO7 := hO7.put hrd_290 (by rw [hvq]; exact tv_in hq6)
            have hF := Fr.put (a := v) (ci := 7) hF hE ((hE1 v (hT.at 3 rfl).1).2.symm.trans (hT.at 3 rfl).2) (by decide) hrd_290 hup_291
            have hE := hE.tr hE1
            have hk_292 : rd f_289 h0 3 = .int lw := ((Fr.put (cs := [(7, 3)]) (a := v) (ci := 7) Fr.rf Ext.rf (hTo.at 3 rfl).2 (by decide) hrd_290 hup_291).1 h0 (hTo.at 2 rfl).1 1 (hTo.at 2 rfl).2 3 (by decide)).trans hk_284
            have hk_293 : rd f_289 h0 4 = .int hg := ((Fr.put (cs := [(7, 3)]) (a := v) (ci := 7) Fr.rf Ext.rf (hTo.at 3 rfl).2 (by decide) hrd_290 hup_291).1 h0 (hTo.at 2 rfl).1 1 (hTo.at 2 rfl).2 4 (by decide)).trans hk_285
            have hk_294 : rd f_289 tc 1 = .int (w c9) := ((Fr.put (cs := [(7, 3)]) (a := v) (ci := 7) Fr.rf Ext.rf (hTo.at 3 rfl).2 (by decide) hrd_290 hup_291).1 tc (hTo.at 5 rfl).1 0 (hTo.at 5 rfl).2 1 (by decide)).trans hk_286
            have hk_295 : rd f_289 v 1 = .int (g9 q) := ((Fr.put (cs := [(7, 3)]) (a := v) (ci := 7) Fr.rf Ext.rf (hTo.at 3 rfl).2 (by decide) hrd_290 hup_291).1 v (hTo.at 3 rfl).1 7 (hTo.at 3 rfl).2 1 (by decide)).trans hk_287
            have hk_296 : rd f_289 v 2 = .int (fo q) := ((Fr.put (cs := [(7, 3)]) (a := v) (ci := 7) Fr.rf Ext.rf (hTo.at 3 rfl).2 (by decide) hrd_290 hup_291).1 v (hTo.at 3 rfl).1 7 (hTo.at 3 rfl).2 2 (by decide)).trans hk_288
            have hk_297 : rd f_289 v 3 = .int (mi q) := (hrd_290 v 3).trans (if_pos ⟨rfl, rfl⟩)
            have hOc1 := hOc1.put hrd_290 (by simp)
            have hEc1 := hEc1.tr hE1
            refine lv_aload_n hx hb dX1_reachesBy_169 rfl (lv_at hl 9 rfl) ?_
            refine lv_iload hx hb dX1_reachesBy_170 (lv_at hl 3 rfl) ?_
            have hTo := hT
            refine T_put (ci := 7) (v := .int (st q)) (ty := .int) (t := tI) (C := RX7) (T := TX7) (N := 8) hx hb hts inw_X1_reachesBy_7 tyX7 tyX7_ok nmX7 hown hK hP hD hS hT 3 rfl rfl 4 (by decide) (hts (.fieldLink RX1 94 "VatHouse$Vat" "state" "I") (List.mem_of_getElem? (i := 5) (by exact rfl))) (fun _ h9 => h9) rfl (tyX7_ok 4 (by decide)) rfl rfl rfl ⟨_, rfl⟩ dX1_reachesBy_172 (fun f_298 H locs hP hD hS hT hE1 hrd_299 hup_300 => ?_)
            have hO0 := OF.putN (a := v) (cj := 7) hO0 hE ((hE1 v (hT.at 3 rfl).1).2.symm.trans (hT.at 3 rfl).2) (by decide) hrd_299
            have hO7 := hO7.put hrd_299 (by rw [hvq]; exact tv_in hq6)
            have hF := Fr.put (a := v) (ci := 7) hF hE ((hE1 v (hT.at 3 rfl).1).2.symm.trans (hT.at 3 rfl).2) (by decide) hrd_299 hup_300
            have hE := hE.tr hE1
            have hk_301 : rd f_298 h0 3 = .int lw := ((Fr.put (cs := [(7, 4)]) (a := v) (ci := 7) Fr.rf Ext.rf (hTo.at 3 rfl).2 (by decide) hrd_299 hup_300).1 h0 (hTo.at 2 rfl).1 1 (hTo.at 2 rfl).2 3 (by decide)).trans hk_292
            have hk_302 : rd f_298 h0 4 = .int hg := ((Fr.put (cs := [(7, 4)]) (a := v) (ci := 7) Fr.rf Ext.rf (hTo.at 3 rfl).2 (by decide) hrd_299 hup_300).1 h0 (hTo.at 2 rfl).1 1 (hTo.at 2 rfl).2 4 (by decide)).trans hk_293
            have hk_303 : rd f_298 tc 1 = .int (w c9) := ((Fr.put (cs := [(7, 4)]) (a := v) (ci := 7) Fr.rf Ext.rf (hTo.at 3 rfl).2 (by decide) hrd_299 hup_300).1 tc (hTo.at 5 rfl).1 0 (hTo.at 5 rfl).2 1 (by decide)).trans hk_294
            have hk_304 : rd f_298 v 1 = .int (g9 q) := ((Fr.put (cs := [(7, 4)]) (a := v) (ci := 7) Fr.rf Ext.rf (hTo.at 3 rfl).2 (by decide) hrd_299 hup_300).1 v (hTo.at 3 rfl).1 7 (hTo.at 3 rfl).2 1 (by decide)).trans hk_295
            have hk_305 : rd f_298 v 2 = .int (fo q) := ((Fr.put (cs := [(7, 4)]) (a := v) (ci := 7) Fr.rf Ext.rf (hTo.at 3 rfl).2 (by decide) hrd_299 hup_300).1 v (hTo.at 3 rfl).1 7 (hTo.at 3 rfl).2 2 (by decide)).trans hk_296
            have hk_306 : rd f_298 v 3 = .int (mi q) := ((Fr.put (cs := [(7, 4)]) (a := v) (ci := 7) Fr.rf Ext.rf (hTo.at 3 rfl).2 (by decide) hrd_299 hup_300).1 v (hTo.at 3 rfl).1 7 (hTo.at 3 rfl).2 3 (by decide)).trans hk_297
            have hk_307 : rd f_298 v 4 = .int (st q) := (hrd_299 v 4).trans (if_pos ⟨rfl, rfl⟩)
            have hOc1 := hOc1.put hrd_299 (by simp)
            have hEc1 := hEc1.tr hE1
            refine lv_aload_n hx hb dX1_reachesBy_175 rfl (lv_at hl 8 rfl) ?_
            refine T_get (ci := 1) (C := RX1) (T := TX1) (N := 9) (t := (1, 0, 0, 0)) hx hb hts inw_X1_reachesBy_1 hown hK hP hT 2 rfl rfl 2 (by decide) (hts (.fieldLink RX1 22 "VatHouse$Planner" "trialCloth" "LVatHouse$Cloth;") (List.mem_of_getElem? (i := 1) (by exact rfl))) (fun _ h9 => h9) rfl dX1_reachesBy_176 (fun v_310 hv_308 hr_309 => ?_)
            obtain rfl : v_310 = .ref tc := hr_309.symm.trans ((hF.1 h0 (hT0.at 0 rfl).1 1 (hT0.at 0 rfl).2 2 (by decide)).trans h_tc)
            refine lv_iload hx hb dX1_reachesBy_179 (lv_at hl 2 rfl) ?_
            have hTo := hT
            refine T_put (ci := 0) (v := .int (lo c9)) (ty := .int) (t := tI) (C := RX0) (T := TX0) (N := 8) hx hb hts inw_X1_reachesBy_0 tyX0 tyX0_ok nmX0 hown hK hP hD hS hT 5 rfl rfl 2 (by decide) (hts (.fieldLink RX1 70 "VatHouse$Cloth" "loose" "I") (List.mem_of_getElem? (i := 6) (by exact rfl))) (fun _ h9 => h9) rfl (tyX0_ok 2 (by decide)) rfl rfl rfl ⟨_, rfl⟩ dX1_reachesBy_181 (fun f_311 H locs hP hD hS hT hE1 hrd_312 hup_313 => ?_)
            have hO0 := hO0.put hrd_312 (by simp)
            have hO7 := OF.putN (a := tc) (cj := 0) hO7 hE ((hE1 tc (hT.at 5 rfl).1).2.symm.trans (hT.at 5 rfl).2) (by decide) hrd_312
            have hF := Fr.put (a := tc) (ci := 0) hF hE ((hE1 tc (hT.at 5 rfl).1).2.symm.trans (hT.at 5 rfl).2) (by decide) hrd_312 hup_313
            have hE := hE.tr hE1
            have hk_314 : rd f_311 h0 3 = .int lw := ((Fr.put (cs := [(0, 2)]) (a := tc) (ci := 0) Fr.rf Ext.rf (hTo.at 5 rfl).2 (by decide) hrd_312 hup_313).1 h0 (hTo.at 2 rfl).1 1 (hTo.at 2 rfl).2 3 (by decide)).trans hk_301
            have hk_315 : rd f_311 h0 4 = .int hg := ((Fr.put (cs := [(0, 2)]) (a := tc) (ci := 0) Fr.rf Ext.rf (hTo.at 5 rfl).2 (by decide) hrd_312 hup_313).1 h0 (hTo.at 2 rfl).1 1 (hTo.at 2 rfl).2 4 (by decide)).trans hk_302
            have hk_316 : rd f_311 tc 1 = .int (w c9) := ((Fr.put (cs := [(0, 2)]) (a := tc) (ci := 0) Fr.rf Ext.rf (hTo.at 5 rfl).2 (by decide) hrd_312 hup_313).1 tc (hTo.at 5 rfl).1 0 (hTo.at 5 rfl).2 1 (by decide)).trans hk_303
            have hk_317 : rd f_311 v 1 = .int (g9 q) := ((Fr.put (cs := [(0, 2)]) (a := tc) (ci := 0) Fr.rf Ext.rf (hTo.at 5 rfl).2 (by decide) hrd_312 hup_313).1 v (hTo.at 3 rfl).1 7 (hTo.at 3 rfl).2 1 (by decide)).trans hk_304
            have hk_318 : rd f_311 v 2 = .int (fo q) := ((Fr.put (cs := [(0, 2)]) (a := tc) (ci := 0) Fr.rf Ext.rf (hTo.at 5 rfl).2 (by decide) hrd_312 hup_313).1 v (hTo.at 3 rfl).1 7 (hTo.at 3 rfl).2 2 (by decide)).trans hk_305
            have hk_319 : rd f_311 v 3 = .int (mi q) := ((Fr.put (cs := [(0, 2)]) (a := tc) (ci := 0) Fr.rf Ext.rf (hTo.at 5 rfl).2 (by decide) hrd_312 hup_313).1 v (hTo.at 3 rfl).1 7 (hTo.at 3 rfl).2 3 (by decide)).trans hk_306
            have hk_320 : rd f_311 v 4 = .int (st q) := ((Fr.put (cs := [(0, 2)]) (a := tc) (ci := 0) Fr.rf Ext.rf (hTo.at 5 rfl).2 (by decide) hrd_312 hup_313).1 v (hTo.at 3 rfl).1 7 (hTo.at 3 rfl).2 4 (by decide)).trans hk_307
            have hk_321 : rd f_311 tc 2 = .int (lo c9) := (hrd_312 tc 2).trans (if_pos ⟨rfl, rfl⟩)
            have hOc1 := OF.putN (a := tc) (cj := 0) hOc1 hEc1 ((hE1 tc (hT.at 5 rfl).1).2.symm.trans (hT.at 5 rfl).2) (by decide) hrd_312
            have hEc1 := hEc1.tr hE1
            refine lv_aload_n hx hb dX1_reachesBy_184 rfl (lv_at hl 8 rfl) ?_
            refine T_get (ci := 1) (C := RX1) (T := TX1) (N := 9) (t := (1, 0, 0, 0)) hx hb hts inw_X1_reachesBy_1 hown hK hP hT 2 rfl rfl 2 (by decide) (hts (.fieldLink RX1 22 "VatHouse$Planner" "trialCloth" "LVatHouse$Cloth;") (List.mem_of_getElem? (i := 1) (by exact rfl))) (fun _ h9 => h9) rfl dX1_reachesBy_185 (fun v_324 hv_322 hr_323 => ?_)
            obtain rfl : v_324 = .ref tc := hr_323.symm.trans ((hF.1 h0 (hT0.at 0 rfl).1 1 (hT0.at 0 rfl).2 2 (by decide)).trans h_tc)
            refine lv_iload hx hb dX1_reachesBy_188 (lv_at hl 1 rfl) ?_
            have hTo := hT
            refine T_put (ci := 0) (v := .int (fa c9)) (ty := .int) (t := tI) (C := RX0) (T := TX0) (N := 8) hx hb hts inw_X1_reachesBy_0 tyX0 tyX0_ok nmX0 hown hK hP hD hS hT 5 rfl rfl 3 (by decide) (hts (.fieldLink RX1 97 "VatHouse$Cloth" "fast" "I") (List.mem_of_getElem? (i := 7) (by exact rfl))) (fun _ h9 => h9) rfl (tyX0_ok 3 (by decide)) rfl rfl rfl ⟨_, rfl⟩ dX1_reachesBy_190 (fun f_325 H locs hP hD hS hT hE1 hrd_326 hup_327 => ?_)
            have hO0 := hO0.put hrd_326 (by simp)
            have hO7 := OF.putN (a := tc) (cj := 0) hO7 hE ((hE1 tc (hT.at 5 rfl).1).2.symm.trans (hT.at 5 rfl).2) (by decide) hrd_326
            have hF := Fr.put (a := tc) (ci := 0) hF hE ((hE1 tc (hT.at 5 rfl).1).2.symm.trans (hT.at 5 rfl).2) (by decide) hrd_326 hup_327
            have hE := hE.tr hE1
            have hk_328 : rd f_325 h0 3 = .int lw := ((Fr.put (cs := [(0, 3)]) (a := tc) (ci := 0) Fr.rf Ext.rf (hTo.at 5 rfl).2 (by decide) hrd_326 hup_327).1 h0 (hTo.at 2 rfl).1 1 (hTo.at 2 rfl).2 3 (by decide)).trans hk_314
            have hk_329 : rd f_325 h0 4 = .int hg := ((Fr.put (cs := [(0, 3)]) (a := tc) (ci := 0) Fr.rf Ext.rf (hTo.at 5 rfl).2 (by decide) hrd_326 hup_327).1 h0 (hTo.at 2 rfl).1 1 (hTo.at 2 rfl).2 4 (by decide)).trans hk_315
            have hk_330 : rd f_325 tc 1 = .int (w c9) := ((Fr.put (cs := [(0, 3)]) (a := tc) (ci := 0) Fr.rf Ext.rf (hTo.at 5 rfl).2 (by decide) hrd_326 hup_327).1 tc (hTo.at 5 rfl).1 0 (hTo.at 5 rfl).2 1 (by decide)).trans hk_316
            have hk_331 : rd f_325 v 1 = .int (g9 q) := ((Fr.put (cs := [(0, 3)]) (a := tc) (ci := 0) Fr.rf Ext.rf (hTo.at 5 rfl).2 (by decide) hrd_326 hup_327).1 v (hTo.at 3 rfl).1 7 (hTo.at 3 rfl).2 1 (by decide)).trans hk_317
            have hk_332 : rd f_325 v 2 = .int (fo q) := ((Fr.put (cs := [(0, 3)]) (a := tc) (ci := 0) Fr.rf Ext.rf (hTo.at 5 rfl).2 (by decide) hrd_326 hup_327).1 v (hTo.at 3 rfl).1 7 (hTo.at 3 rfl).2 2 (by decide)).trans hk_318
            have hk_333 : rd f_325 v 3 = .int (mi q) := ((Fr.put (cs := [(0, 3)]) (a := tc) (ci := 0) Fr.rf Ext.rf (hTo.at 5 rfl).2 (by decide) hrd_326 hup_327).1 v (hTo.at 3 rfl).1 7 (hTo.at 3 rfl).2 3 (by decide)).trans hk_319
            have hk_334 : rd f_325 v 4 = .int (st q) := ((Fr.put (cs := [(0, 3)]) (a := tc) (ci := 0) Fr.rf Ext.rf (hTo.at 5 rfl).2 (by decide) hrd_326 hup_327).1 v (hTo.at 3 rfl).1 7 (hTo.at 3 rfl).2 4 (by decide)).trans hk_320
            have hk_335 : rd f_325 tc 2 = .int (lo c9) := ((Fr.put (cs := [(0, 3)]) (a := tc) (ci := 0) Fr.rf Ext.rf (hTo.at 5 rfl).2 (by decide) hrd_326 hup_327).1 tc (hTo.at 5 rfl).1 0 (hTo.at 5 rfl).2 2 (by decide)).trans hk_321
            have hk_336 : rd f_325 tc 3 = .int (fa c9) := (hrd_326 tc 3).trans (if_pos ⟨rfl, rfl⟩)
            have hOc1 := OF.putN (a := tc) (cj := 0) hOc1 hEc1 ((hE1 tc (hT.at 5 rfl).1).2.symm.trans (hT.at 5 rfl).2) (by decide) hrd_326
            have hEc1 := hEc1.tr hE1
            refine lv_iload hx hb dX1_reachesBy_193 (lv_at hl 0 rfl) ?_
            exact K_z hx hb hr rfl hlocks hP hD hK hS hT hE ⟨Or.inl ⟨rfl, (fun g7 => hz2_263 g7.2.2)⟩, hF, hO0, hO7, TSp.put hex_268 hinj hq6 hvq htm_272 hOc1 (fun k9 h9 => ⟨(upd_nq h9).symm, (upd_nq h9).symm, (upd_nq h9).symm, (upd_nq h9).symm⟩) hk_331 hk_332 hk_333 hk_334 ((hF.1 tc (hT0.at 3 rfl).1 0 (hT0.at 3 rfl).2 1 (by decide)).trans hTS.2.1) hk_335 hk_336⟩ (by first | exact Nat.le_of_ble_eq_true rfl | (simp only [rm_X1_reachesByP]; omega) | omega) (by first | exact Nat.le_of_ble_eq_true rfl | (simp only [rm_X1_reachesByP]; omega) | omega) dX1_reachesBy_195
          · obtain ⟨hfr_337, hex_338⟩ := hw_262
            obtain ⟨hof_339, hof_340, hex_341⟩ := hex_338
            have hO0 := hO0.call hEo hof_339 (fun _ h9 => h9)
            have hO7 := hO7.call hEo hof_340 (fun _ h9 => h9)
            have hk_342 : rd f_261 h0 3 = .int lw := (hfr_337.1 h0 (hTo.at 2 rfl).1 1 (hTo.at 2 rfl).2 3 (by decide)).trans hk_163
            have hk_343 : rd f_261 h0 4 = .int hg := (hfr_337.1 h0 (hTo.at 2 rfl).1 1 (hTo.at 2 rfl).2 4 (by decide)).trans hk_164
            have hk_344 : rd f_261 tc 1 = .int (w c9) := (hfr_337.1 tc (hTo.at 5 rfl).1 0 (hTo.at 5 rfl).2 1 (by decide)).trans hk_169
            have htm_345 : ∀ k : Nat, k < 6 → tv k ∈ L_260 ∧ sh (f_261 (tv k)) = (0, 7, 0) := (fun k9 h9 => ⟨(hE _ (hTM k9 h9).1).1, (hE _ (hTM k9 h9).1).2.trans (hTM k9 h9).2⟩)
            have hEc1 : Ext L_260 f_261 L_260 f_261 := Ext.rf
            have hOc1 : OF 7 [v] L_260 f_261 f_261 := OF.rf
            refine W.eq (g2 := F0 m 141 ls [.int 1]) rfl ?_
            refine lv_if_eq (tgt := 148) hx hb dX1_reachesBy_141 (by decide) (fun c_346 => ?_) (fun c_346 => ?_)
            · exact absurd c_346 (by decide)
            refine lv_iconst (v := 1) hx hb dX1_reachesBy_144 (by decide) ?_
            refine lv_goto (tgt := 149) hx hb dX1_reachesBy_145 (by decide) ?_
            refine lv_istore (lv' := [(12, .int 1), (11, .int (fa c9)), (10, .int (lo c9)), (9, .int (st q)), (8, .int (mi q)), (7, .int (fo q)), (6, .int (g9 q)), (5, .int z_7), (0, .ref h0), (1, .ref v), (2, .int mm), (3, .int pl), (4, .int wa)]) hx hb dX1_reachesBy_149 hl (by decide) rfl (fun ls hl => ?_)
            refine lv_aload_n hx hb dX1_reachesBy_151 rfl (lv_at hl 9 rfl) ?_
            refine lv_iload hx hb dX1_reachesBy_152 (lv_at hl 6 rfl) ?_
            have hTo := hT
            refine T_put (ci := 7) (v := .int (g9 q)) (ty := .int) (t := tI) (C := RX7) (T := TX7) (N := 8) hx hb hts inw_X1_reachesBy_7 tyX7 tyX7_ok nmX7 hown hK hP hD hS hT 3 rfl rfl 1 (by decide) (hts (.fieldLink RX1 85 "VatHouse$Vat" "grains" "I") (List.mem_of_getElem? (i := 2) (by exact rfl))) (fun _ h9 => h9) rfl (tyX7_ok 1 (by decide)) rfl rfl rfl ⟨_, rfl⟩ dX1_reachesBy_154 (fun f_347 H locs hP hD hS hT hE1 hrd_348 hup_349 => ?_)
            have hO0 := OF.putN (a := v) (cj := 7) hO0 hE ((hE1 v (hT.at 3 rfl).1).2.symm.trans (hT.at 3 rfl).2) (by decide) hrd_348
            have hO7 := hO7.put hrd_348 (by rw [hvq]; exact tv_in hq6)
            have hF := Fr.put (a := v) (ci := 7) hF hE ((hE1 v (hT.at 3 rfl).1).2.symm.trans (hT.at 3 rfl).2) (by decide) hrd_348 hup_349
            have hE := hE.tr hE1
            have hk_350 : rd f_347 h0 3 = .int lw := ((Fr.put (cs := [(7, 1)]) (a := v) (ci := 7) Fr.rf Ext.rf (hTo.at 3 rfl).2 (by decide) hrd_348 hup_349).1 h0 (hTo.at 2 rfl).1 1 (hTo.at 2 rfl).2 3 (by decide)).trans hk_342
            have hk_351 : rd f_347 h0 4 = .int hg := ((Fr.put (cs := [(7, 1)]) (a := v) (ci := 7) Fr.rf Ext.rf (hTo.at 3 rfl).2 (by decide) hrd_348 hup_349).1 h0 (hTo.at 2 rfl).1 1 (hTo.at 2 rfl).2 4 (by decide)).trans hk_343
            have hk_352 : rd f_347 tc 1 = .int (w c9) := ((Fr.put (cs := [(7, 1)]) (a := v) (ci := 7) Fr.rf Ext.rf (hTo.at 3 rfl).2 (by decide) hrd_348 hup_349).1 tc (hTo.at 5 rfl).1 0 (hTo.at 5 rfl).2 1 (by decide)).trans hk_344
            have hk_353 : rd f_347 v 1 = .int (g9 q) := (hrd_348 v 1).trans (if_pos ⟨rfl, rfl⟩)
            have hOc1 := hOc1.put hrd_348 (by simp)
            have hEc1 := hEc1.tr hE1
            refine lv_aload_n hx hb dX1_reachesBy_157 rfl (lv_at hl 9 rfl) ?_
            refine lv_iload hx hb dX1_reachesBy_158 (lv_at hl 5 rfl) ?_
            have hTo := hT
            refine T_put (ci := 7) (v := .int (fo q)) (ty := .int) (t := tI) (C := RX7) (T := TX7) (N := 8) hx hb hts inw_X1_reachesBy_7 tyX7 tyX7_ok nmX7 hown hK hP hD hS hT 3 rfl rfl 2 (by decide) (hts (.fieldLink RX1 88 "VatHouse$Vat" "food" "I") (List.mem_of_getElem? (i := 3) (by exact rfl))) (fun _ h9 => h9) rfl (tyX7_ok 2 (by decide)) rfl rfl rfl ⟨_, rfl⟩ dX1_reachesBy_160 (fun f_354 H locs hP hD hS hT hE1 hrd_355 hup_356 => ?_)
            have hO0 := OF.putN (a := v) (cj := 7) hO0 hE ((hE1 v (hT.at 3 rfl).1).2.symm.trans (hT.at 3 rfl).2) (by decide) hrd_355
            have hO7 := hO7.put hrd_355 (by rw [hvq]; exact tv_in hq6)
            have hF := Fr.put (a := v) (ci := 7) hF hE ((hE1 v (hT.at 3 rfl).1).2.symm.trans (hT.at 3 rfl).2) (by decide) hrd_355 hup_356
            have hE := hE.tr hE1
            have hk_357 : rd f_354 h0 3 = .int lw := ((Fr.put (cs := [(7, 2)]) (a := v) (ci := 7) Fr.rf Ext.rf (hTo.at 3 rfl).2 (by decide) hrd_355 hup_356).1 h0 (hTo.at 2 rfl).1 1 (hTo.at 2 rfl).2 3 (by decide)).trans hk_350
            have hk_358 : rd f_354 h0 4 = .int hg := ((Fr.put (cs := [(7, 2)]) (a := v) (ci := 7) Fr.rf Ext.rf (hTo.at 3 rfl).2 (by decide) hrd_355 hup_356).1 h0 (hTo.at 2 rfl).1 1 (hTo.at 2 rfl).2 4 (by decide)).trans hk_351
            have hk_359 : rd f_354 tc 1 = .int (w c9) := ((Fr.put (cs := [(7, 2)]) (a := v) (ci := 7) Fr.rf Ext.rf (hTo.at 3 rfl).2 (by decide) hrd_355 hup_356).1 tc (hTo.at 5 rfl).1 0 (hTo.at 5 rfl).2 1 (by decide)).trans hk_352
            have hk_360 : rd f_354 v 1 = .int (g9 q) := ((Fr.put (cs := [(7, 2)]) (a := v) (ci := 7) Fr.rf Ext.rf (hTo.at 3 rfl).2 (by decide) hrd_355 hup_356).1 v (hTo.at 3 rfl).1 7 (hTo.at 3 rfl).2 1 (by decide)).trans hk_353
            have hk_361 : rd f_354 v 2 = .int (fo q) := (hrd_355 v 2).trans (if_pos ⟨rfl, rfl⟩)
            have hOc1 := hOc1.put hrd_355 (by simp)
            have hEc1 := hEc1.tr hE1
            refine lv_aload_n hx hb dX1_reachesBy_163 rfl (lv_at hl 9 rfl) ?_
            refine lv_iload hx hb dX1_reachesBy_164 (lv_at hl 4 rfl) ?_
            have hTo := hT
            refine T_put (ci := 7) (v := .int (mi q)) (ty := .int) (t := tI) (C := RX7) (T := TX7) (N := 8) hx hb hts inw_X1_reachesBy_7 tyX7 tyX7_ok nmX7 hown hK hP hD hS hT 3 rfl rfl 3 (by decide) (hts (.fieldLink RX1 91 "VatHouse$Vat" "minutes" "I") (List.mem_of_getElem? (i := 4) (by exact rfl))) (fun _ h9 => h9) rfl (tyX7_ok 3 (by decide)) rfl rfl rfl ⟨_, rfl⟩ dX1_reachesBy_166 (fun f_362 H locs hP hD hS hT hE1 hrd_363 hup_364 => ?_)
            have hO0 := OF.putN (a := v) (cj := 7) hO0 hE ((hE1 v (hT.at 3 rfl).1).2.symm.trans (hT.at 3 rfl).2) (by decide) hrd_363
            have hO7 := hO7.put hrd_363 (by rw [hvq]; exact tv_in hq6)
            have hF := Fr.put (a := v) (ci := 7) hF hE ((hE1 v (hT.at 3 rfl).1).2.symm.trans (hT.at 3 rfl).2) (by decide) hrd_363 hup_364
            have hE := hE.tr hE1
            have hk_365 : rd f_362 h0 3 = .int lw := ((Fr.put (cs := [(7, 3)]) (a := v) (ci := 7) Fr.rf Ext.rf (hTo.at 3 rfl).2 (by decide) hrd_363 hup_364).1 h0 (hTo.at 2 rfl).1 1 (hTo.at 2 rfl).2 3 (by decide)).trans hk_357
            have hk_366 : rd f_362 h0 4 = .int hg := ((Fr.put (cs := [(7, 3)]) (a := v) (ci := 7) Fr.rf Ext.rf (hTo.at 3 rfl).2 (by decide) hrd_363 hup_364).1 h0 (hTo.at 2 rfl).1 1 (hTo.at 2 rfl).2 4 (by decide)).trans hk_358
            have hk_367 : rd f_362 tc 1 = .int (w c9) := ((Fr.put (cs := [(7, 3)]) (a := v) (ci := 7) Fr.rf Ext.rf (hTo.at 3 rfl).2 (by decide) hrd_363 hup_364).1 tc (hTo.at 5 rfl).1 0 (hTo.at 5 rfl).2 1 (by decide)).trans hk_359
            have hk_368 : rd f_362 v 1 = .int (g9 q) := ((Fr.put (cs := [(7, 3)]) (a := v) (ci := 7) Fr.rf Ext.rf (hTo.at 3 rfl).2 (by decide) hrd_363 hup_364).1 v (hTo.at 3 rfl).1 7 (hTo.at 3 rfl).2 1 (by decide)).trans hk_360
            have hk_369 : rd f_362 v 2 = .int (fo q) := ((Fr.put (cs := [(7, 3)]) (a := v) (ci := 7) Fr.rf Ext.rf (hTo.at 3 rfl).2 (by decide) hrd_363 hup_364).1 v (hTo.at 3 rfl).1 7 (hTo.at 3 rfl).2 2 (by decide)).trans hk_361
            have hk_370 : rd f_362 v 3 = .int (mi q) := (hrd_363 v 3).trans (if_pos ⟨rfl, rfl⟩)
            have hOc1 := hOc1.put hrd_363 (by simp)
            have hEc1 := hEc1.tr hE1
            refine lv_aload_n hx hb dX1_reachesBy_169 rfl (lv_at hl 9 rfl) ?_
            refine lv_iload hx hb dX1_reachesBy_170 (lv_at hl 3 rfl) ?_
            have hTo := hT
            refine T_put (ci := 7) (v := .int (st q)) (ty := .int) (t := tI) (C := RX7) (T := TX7) (N := 8) hx hb hts inw_X1_reachesBy_7 tyX7 tyX7_ok nmX7 hown hK hP hD hS hT 3 rfl rfl 4 (by decide) (hts (.fieldLink RX1 94 "VatHouse$Vat" "state" "I") (List.mem_of_getElem? (i := 5) (by exact rfl))) (fun _ h9 => h9) rfl (tyX7_ok 4 (by decide)) rfl rfl rfl ⟨_, rfl⟩ dX1_reachesBy_172 (fun f_371 H locs hP hD hS hT hE1 hrd_372 hup_373 => ?_)
            have hO0 := OF.putN (a := v) (cj := 7) hO0 hE ((hE1 v (hT.at 3 rfl).1).2.symm.trans (hT.at 3 rfl).2) (by decide) hrd_372
            have hO7 := hO7.put hrd_372 (by rw [hvq]; exact tv_in hq6)
            have hF := Fr.put (a := v) (ci := 7) hF hE ((hE1 v (hT.at 3 rfl).1).2.symm.trans (hT.at 3 rfl).2) (by decide) hrd_372 hup_373
            have hE := hE.tr hE1
            have hk_374 : rd f_371 h0 3 = .int lw := ((Fr.put (cs := [(7, 4)]) (a := v) (ci := 7) Fr.rf Ext.rf (hTo.at 3 rfl).2 (by decide) hrd_372 hup_373).1 h0 (hTo.at 2 rfl).1 1 (hTo.at 2 rfl).2 3 (by decide)).trans hk_365
            have hk_375 : rd f_371 h0 4 = .int hg := ((Fr.put (cs := [(7, 4)]) (a := v) (ci := 7) Fr.rf Ext.rf (hTo.at 3 rfl).2 (by decide) hrd_372 hup_373).1 h0 (hTo.at 2 rfl).1 1 (hTo.at 2 rfl).2 4 (by decide)).trans hk_366
            have hk_376 : rd f_371 tc 1 = .int (w c9) := ((Fr.put (cs := [(7, 4)]) (a := v) (ci := 7) Fr.rf Ext.rf (hTo.at 3 rfl).2 (by decide) hrd_372 hup_373).1 tc (hTo.at 5 rfl).1 0 (hTo.at 5 rfl).2 1 (by decide)).trans hk_367
            have hk_377 : rd f_371 v 1 = .int (g9 q) := ((Fr.put (cs := [(7, 4)]) (a := v) (ci := 7) Fr.rf Ext.rf (hTo.at 3 rfl).2 (by decide) hrd_372 hup_373).1 v (hTo.at 3 rfl).1 7 (hTo.at 3 rfl).2 1 (by decide)).trans hk_368
            have hk_378 : rd f_371 v 2 = .int (fo q) := ((Fr.put (cs := [(7, 4)]) (a := v) (ci := 7) Fr.rf Ext.rf (hTo.at 3 rfl).2 (by decide) hrd_372 hup_373).1 v (hTo.at 3 rfl).1 7 (hTo.at 3 rfl).2 2 (by decide)).trans hk_369
            have hk_379 : rd f_371 v 3 = .int (mi q) := ((Fr.put (cs := [(7, 4)]) (a := v) (ci := 7) Fr.rf Ext.rf (hTo.at 3 rfl).2 (by decide) hrd_372 hup_373).1 v (hTo.at 3 rfl).1 7 (hTo.at 3 rfl).2 3 (by decide)).trans hk_370
            have hk_380 : rd f_371 v 4 = .int (st q) := (hrd_372 v 4).trans (if_pos ⟨rfl, rfl⟩)
            have hOc1 := hOc1.put hrd_372 (by simp)
            have hEc1 := hEc1.tr hE1
            refine lv_aload_n hx hb dX1_reachesBy_175 rfl (lv_at hl 8 rfl) ?_
            refine T_get (ci := 1) (C := RX1) (T := TX1) (N := 9) (t := (1, 0, 0, 0)) hx hb hts inw_X1_reachesBy_1 hown hK hP hT 2 rfl rfl 2 (by decide) (hts (.fieldLink RX1 22 "VatHouse$Planner" "trialCloth" "LVatHouse$Cloth;") (List.mem_of_getElem? (i := 1) (by exact rfl))) (fun _ h9 => h9) rfl dX1_reachesBy_176 (fun v_383 hv_381 hr_382 => ?_)
            obtain rfl : v_383 = .ref tc := hr_382.symm.trans ((hF.1 h0 (hT0.at 0 rfl).1 1 (hT0.at 0 rfl).2 2 (by decide)).trans h_tc)
            refine lv_iload hx hb dX1_reachesBy_179 (lv_at hl 2 rfl) ?_
            have hTo := hT
            refine T_put (ci := 0) (v := .int (lo c9)) (ty := .int) (t := tI) (C := RX0) (T := TX0) (N := 8) hx hb hts inw_X1_reachesBy_0 tyX0 tyX0_ok nmX0 hown hK hP hD hS hT 5 rfl rfl 2 (by decide) (hts (.fieldLink RX1 70 "VatHouse$Cloth" "loose" "I") (List.mem_of_getElem? (i := 6) (by exact rfl))) (fun _ h9 => h9) rfl (tyX0_ok 2 (by decide)) rfl rfl rfl ⟨_, rfl⟩ dX1_reachesBy_181 (fun f_384 H locs hP hD hS hT hE1 hrd_385 hup_386 => ?_)
            have hO0 := hO0.put hrd_385 (by simp)
            have hO7 := OF.putN (a := tc) (cj := 0) hO7 hE ((hE1 tc (hT.at 5 rfl).1).2.symm.trans (hT.at 5 rfl).2) (by decide) hrd_385
            have hF := Fr.put (a := tc) (ci := 0) hF hE ((hE1 tc (hT.at 5 rfl).1).2.symm.trans (hT.at 5 rfl).2) (by decide) hrd_385 hup_386
            have hE := hE.tr hE1
            have hk_387 : rd f_384 h0 3 = .int lw := ((Fr.put (cs := [(0, 2)]) (a := tc) (ci := 0) Fr.rf Ext.rf (hTo.at 5 rfl).2 (by decide) hrd_385 hup_386).1 h0 (hTo.at 2 rfl).1 1 (hTo.at 2 rfl).2 3 (by decide)).trans hk_374
            have hk_388 : rd f_384 h0 4 = .int hg := ((Fr.put (cs := [(0, 2)]) (a := tc) (ci := 0) Fr.rf Ext.rf (hTo.at 5 rfl).2 (by decide) hrd_385 hup_386).1 h0 (hTo.at 2 rfl).1 1 (hTo.at 2 rfl).2 4 (by decide)).trans hk_375
            have hk_389 : rd f_384 tc 1 = .int (w c9) := ((Fr.put (cs := [(0, 2)]) (a := tc) (ci := 0) Fr.rf Ext.rf (hTo.at 5 rfl).2 (by decide) hrd_385 hup_386).1 tc (hTo.at 5 rfl).1 0 (hTo.at 5 rfl).2 1 (by decide)).trans hk_376
            have hk_390 : rd f_384 v 1 = .int (g9 q) := ((Fr.put (cs := [(0, 2)]) (a := tc) (ci := 0) Fr.rf Ext.rf (hTo.at 5 rfl).2 (by decide) hrd_385 hup_386).1 v (hTo.at 3 rfl).1 7 (hTo.at 3 rfl).2 1 (by decide)).trans hk_377
            have hk_391 : rd f_384 v 2 = .int (fo q) := ((Fr.put (cs := [(0, 2)]) (a := tc) (ci := 0) Fr.rf Ext.rf (hTo.at 5 rfl).2 (by decide) hrd_385 hup_386).1 v (hTo.at 3 rfl).1 7 (hTo.at 3 rfl).2 2 (by decide)).trans hk_378
            have hk_392 : rd f_384 v 3 = .int (mi q) := ((Fr.put (cs := [(0, 2)]) (a := tc) (ci := 0) Fr.rf Ext.rf (hTo.at 5 rfl).2 (by decide) hrd_385 hup_386).1 v (hTo.at 3 rfl).1 7 (hTo.at 3 rfl).2 3 (by decide)).trans hk_379
            have hk_393 : rd f_384 v 4 = .int (st q) := ((Fr.put (cs := [(0, 2)]) (a := tc) (ci := 0) Fr.rf Ext.rf (hTo.at 5 rfl).2 (by decide) hrd_385 hup_386).1 v (hTo.at 3 rfl).1 7 (hTo.at 3 rfl).2 4 (by decide)).trans hk_380
            have hk_394 : rd f_384 tc 2 = .int (lo c9) := (hrd_385 tc 2).trans (if_pos ⟨rfl, rfl⟩)
            have hOc1 := OF.putN (a := tc) (cj := 0) hOc1 hEc1 ((hE1 tc (hT.at 5 rfl).1).2.symm.trans (hT.at 5 rfl).2) (by decide) hrd_385
            have hEc1 := hEc1.tr hE1
            refine lv_aload_n hx hb dX1_reachesBy_184 rfl (lv_at hl 8 rfl) ?_
            refine T_get (ci := 1) (C := RX1) (T := TX1) (N := 9) (t := (1, 0, 0, 0)) hx hb hts inw_X1_reachesBy_1 hown hK hP hT 2 rfl rfl 2 (by decide) (hts (.fieldLink RX1 22 "VatHouse$Planner" "trialCloth" "LVatHouse$Cloth;") (List.mem_of_getElem? (i := 1) (by exact rfl))) (fun _ h9 => h9) rfl dX1_reachesBy_185 (fun v_397 hv_395 hr_396 => ?_)
            obtain rfl : v_397 = .ref tc := hr_396.symm.trans ((hF.1 h0 (hT0.at 0 rfl).1 1 (hT0.at 0 rfl).2 2 (by decide)).trans h_tc)
            refine lv_iload hx hb dX1_reachesBy_188 (lv_at hl 1 rfl) ?_
            have hTo := hT
            refine T_put (ci := 0) (v := .int (fa c9)) (ty := .int) (t := tI) (C := RX0) (T := TX0) (N := 8) hx hb hts inw_X1_reachesBy_0 tyX0 tyX0_ok nmX0 hown hK hP hD hS hT 5 rfl rfl 3 (by decide) (hts (.fieldLink RX1 97 "VatHouse$Cloth" "fast" "I") (List.mem_of_getElem? (i := 7) (by exact rfl))) (fun _ h9 => h9) rfl (tyX0_ok 3 (by decide)) rfl rfl rfl ⟨_, rfl⟩ dX1_reachesBy_190 (fun f_398 H locs hP hD hS hT hE1 hrd_399 hup_400 => ?_)
            have hO0 := hO0.put hrd_399 (by simp)
            have hO7 := OF.putN (a := tc) (cj := 0) hO7 hE ((hE1 tc (hT.at 5 rfl).1).2.symm.trans (hT.at 5 rfl).2) (by decide) hrd_399
            have hF := Fr.put (a := tc) (ci := 0) hF hE ((hE1 tc (hT.at 5 rfl).1).2.symm.trans (hT.at 5 rfl).2) (by decide) hrd_399 hup_400
            have hE := hE.tr hE1
            have hk_401 : rd f_398 h0 3 = .int lw := ((Fr.put (cs := [(0, 3)]) (a := tc) (ci := 0) Fr.rf Ext.rf (hTo.at 5 rfl).2 (by decide) hrd_399 hup_400).1 h0 (hTo.at 2 rfl).1 1 (hTo.at 2 rfl).2 3 (by decide)).trans hk_387
            have hk_402 : rd f_398 h0 4 = .int hg := ((Fr.put (cs := [(0, 3)]) (a := tc) (ci := 0) Fr.rf Ext.rf (hTo.at 5 rfl).2 (by decide) hrd_399 hup_400).1 h0 (hTo.at 2 rfl).1 1 (hTo.at 2 rfl).2 4 (by decide)).trans hk_388
            have hk_403 : rd f_398 tc 1 = .int (w c9) := ((Fr.put (cs := [(0, 3)]) (a := tc) (ci := 0) Fr.rf Ext.rf (hTo.at 5 rfl).2 (by decide) hrd_399 hup_400).1 tc (hTo.at 5 rfl).1 0 (hTo.at 5 rfl).2 1 (by decide)).trans hk_389
            have hk_404 : rd f_398 v 1 = .int (g9 q) := ((Fr.put (cs := [(0, 3)]) (a := tc) (ci := 0) Fr.rf Ext.rf (hTo.at 5 rfl).2 (by decide) hrd_399 hup_400).1 v (hTo.at 3 rfl).1 7 (hTo.at 3 rfl).2 1 (by decide)).trans hk_390
            have hk_405 : rd f_398 v 2 = .int (fo q) := ((Fr.put (cs := [(0, 3)]) (a := tc) (ci := 0) Fr.rf Ext.rf (hTo.at 5 rfl).2 (by decide) hrd_399 hup_400).1 v (hTo.at 3 rfl).1 7 (hTo.at 3 rfl).2 2 (by decide)).trans hk_391
            have hk_406 : rd f_398 v 3 = .int (mi q) := ((Fr.put (cs := [(0, 3)]) (a := tc) (ci := 0) Fr.rf Ext.rf (hTo.at 5 rfl).2 (by decide) hrd_399 hup_400).1 v (hTo.at 3 rfl).1 7 (hTo.at 3 rfl).2 3 (by decide)).trans hk_392
            have hk_407 : rd f_398 v 4 = .int (st q) := ((Fr.put (cs := [(0, 3)]) (a := tc) (ci := 0) Fr.rf Ext.rf (hTo.at 5 rfl).2 (by decide) hrd_399 hup_400).1 v (hTo.at 3 rfl).1 7 (hTo.at 3 rfl).2 4 (by decide)).trans hk_393
            have hk_408 : rd f_398 tc 2 = .int (lo c9) := ((Fr.put (cs := [(0, 3)]) (a := tc) (ci := 0) Fr.rf Ext.rf (hTo.at 5 rfl).2 (by decide) hrd_399 hup_400).1 tc (hTo.at 5 rfl).1 0 (hTo.at 5 rfl).2 2 (by decide)).trans hk_394
            have hk_409 : rd f_398 tc 3 = .int (fa c9) := (hrd_399 tc 3).trans (if_pos ⟨rfl, rfl⟩)
            have hOc1 := OF.putN (a := tc) (cj := 0) hOc1 hEc1 ((hE1 tc (hT.at 5 rfl).1).2.symm.trans (hT.at 5 rfl).2) (by decide) hrd_399
            have hEc1 := hEc1.tr hE1
            refine lv_iload hx hb dX1_reachesBy_193 (lv_at hl 0 rfl) ?_
            exact K_z hx hb hr rfl hlocks hP hD hK hS hT hE ⟨Or.inr ⟨rfl, ⟨hns, hnz, hz2_263⟩⟩, hF, hO0, hO7, TSp.put hex_341 hinj hq6 hvq htm_345 hOc1 (fun k9 h9 => ⟨(upd_nq h9).symm, (upd_nq h9).symm, (upd_nq h9).symm, (upd_nq h9).symm⟩) hk_404 hk_405 hk_406 hk_407 ((hF.1 tc (hT0.at 3 rfl).1 0 (hT0.at 3 rfl).2 1 (by decide)).trans hTS.2.1) hk_408 hk_409⟩ (by first | exact Nat.le_of_ble_eq_true rfl | (simp only [rm_X1_reachesByP]; omega) | omega) (by first | exact Nat.le_of_ble_eq_true rfl | (simp only [rm_X1_reachesByP]; omega) | omega) dX1_reachesBy_195
      · refine lv_iconst (v := 0) hx hb dX1_reachesBy_26 (by decide) ?_
        exact K_z hx hb hr rfl hlocks hP hD hK hS hT hE ⟨Or.inl ⟨rfl, (absurd (show pl < 3 by rw [hd]; exact nI_lt (show d < 3 by omega) (by decide)) c_21)⟩, hF, hO0, hO7, hTSx⟩ (by first | exact Nat.le_of_ble_eq_true rfl | (simp only [rm_X1_reachesByP]; omega) | omega) (by first | exact Nat.le_of_ble_eq_true rfl | (simp only [rm_X1_reachesByP]; omega) | omega) dX1_reachesBy_27

set_option maxHeartbeats 3000000 in
set_option maxRecDepth 100000 in
theorem t_X1_reachesP (l : Launch) (dC : Nat → ClassId) (dI : Nat → Nat → Nat) (sa : Nat → Nat) (hlt : l.stackTraces = false) (g : Nat → Nat) (L : List Nat) (f : Nat → va_E) (j : Nat) (d : Nat) (tv : Nat → Nat) (k : Nat) (c9 : Nat) (g9 : Nat → Int32) (fo : Nat → Int32) (mi : Nat → Int32) (st : Nat → Int32) (w : Nat → Int32) (lo : Nat → Int32) (fa : Nat → Int32) (h0 : Nat) (pl : Int32) (wa : Int32) (tvr : Nat) (tc : Nat) (ks : Nat) (lw : Int32) (hg : Int32) (sz : Nat) (hT : TP g L f [(h0, (0, 1, 0)), (tvr, (2, g 10, 6)), (tc, (0, 0, 0)), (ks, (1, g 9, 3))]) (hm_lw : rd f h0 3 = .int lw) (hm_hg : rd f h0 4 = .int hg) (h_tvr : rd f h0 1 = .ref tvr) (h_tc : rd f h0 2 = .ref tc) (h_ks : rd f h0 8 = .ref ks) (hd : pl = nI d) (hdj : d + j = 3) (hwk : wa = nI (d + k)) (hk3 : d + k ≤ 3) (hTV : ∀ k : Nat, k < 6 → ra f tvr k = some (tv k)) (hTM : ∀ k : Nat, k < 6 → tv k ∈ L ∧ sh (f (tv k)) = (0, 7, 0)) (hinj : ∀ i j : Nat, i < 6 → j < 6 → tv i = tv j → i = j) (hTS : TSp f tv tc c9 g9 fo mi st w lo fa) (hIV : IVp g9 w lo fa c9) (IHY : ∀ (L : List Nat) (f : Nat → va_E) (tv : Nat → Nat) (k : Nat) (c9 : Nat) (g9 : Nat → Int32) (fo : Nat → Int32) (mi : Nat → Int32) (st : Nat → Int32) (w : Nat → Int32) (lo : Nat → Int32) (fa : Nat → Int32) (q : Nat) (h0 : Nat) (v : Nat) (mm : Int32) (pl : Int32) (wa : Int32) (tvr : Nat) (tc : Nat) (ks : Nat) (lw : Int32) (hg : Int32) (sz : Nat) (hT : TP g L f [(h0, (0, 1, 0)), (v, (0, 7, 0)), (tvr, (2, g 10, 6)), (tc, (0, 0, 0)), (ks, (1, g 9, 3))]) (hm_lw : rd f h0 3 = .int lw) (hm_hg : rd f h0 4 = .int hg) (h_tvr : rd f h0 1 = .ref tvr) (h_tc : rd f h0 2 = .ref tc) (h_ks : rd f h0 8 = .ref ks) (hd : pl = nI d) (hwk : wa = nI (d + (k + 1))) (hk3 : d + (k + 1) ≤ 3) (hTV : ∀ k : Nat, k < 6 → ra f tvr k = some (tv k)) (hTM : ∀ k : Nat, k < 6 → tv k ∈ L ∧ sh (f (tv k)) = (0, 7, 0)) (hinj : ∀ i j : Nat, i < 6 → j < 6 → tv i = tv j → i = j) (hTS : TSp f tv tc c9 g9 fo mi st w lo fa) (hIV : IVp g9 w lo fa c9) (hq6 : q < 6) (hvq : v = tv q) (hm4 : M4 mm), KC l dC dI sa g yX1_reachesBy wsX1_reachesBy (rm_X1_reachesByP j d tv k c9 g9 fo mi st w lo fa q) [.ref h0, .ref v, .int mm, .int pl, .int wa] L f sz (fun r L' f' => ((r = some (.int 0) ∧ (¬ GDr k g9 fo mi st w lo fa c9 lw hg q mm)) ∨ (r = some (.int 1) ∧ (GDr k g9 fo mi st w lo fa c9 lw hg q mm))) ∧ Fr [(0, 2), (0, 3), (7, 1), (7, 2), (7, 3), (7, 4), (100, 3)] L f f' ∧ (OF 0 [tc] L f f' ∧ OF 7 [(tv 0), (tv 1), (tv 2), (tv 3), (tv 4), (tv 5)] L f f' ∧ (TSp f' tv tc c9 g9 fo mi st w lo fa))) 0 0) : KC l dC dI sa g yX1_reaches wsX1_reaches (rm_X1_reachesP j d tv k c9 g9 fo mi st w lo fa) [.ref h0, .int pl, .int wa] L f sz (fun r L' f' => ((r = some (.int 0) ∧ (¬ ldR k g9 fo mi st w lo fa c9 lw hg)) ∨ (r = some (.int 1) ∧ (ldR k g9 fo mi st w lo fa c9 lw hg))) ∧ Fr [(0, 2), (0, 3), (7, 1), (7, 2), (7, 3), (7, 4), (100, 3)] L f f' ∧ (OF 0 [tc] L f f' ∧ OF 7 [(tv 0), (tv 1), (tv 2), (tv 3), (tv 4), (tv 5)] L f f' ∧ (TSp f' tv tc c9 g9 fo mi st w lo fa))) 0 0 := by
  refine CT.start (cc := cX1_reaches) (maxL := 5) (ret := (some .boolean)) (by decide) rfl (Nat.le_of_ble_eq_true rfl) ?_
  intro p e s m below meth c ls hst hP hK hD hev hS hl
  obtain ⟨hx, hb, hr, hml, hts, hown, hlocks, hin⟩ := hst
  have hown : s.vm.findClass RX1 = some m.cls := hown
  have hin : meth.name = yX1_reaches.name := hin
  have hA : ∀ q : Nat, s.heap.size ≤ q → va_A (va_pl L f) s.heap.size q := fun _ h => Or.inr h
  have hE : Ext L f L f := Ext.rf
  have hF : Fr [(0, 2), (0, 3), (7, 1), (7, 2), (7, 3), (7, 4), (100, 3)] L f f := Fr.rf
  have hO0 : OF 0 [tc] L f f := OF.rf
  have hO7 : OF 7 [(tv 0), (tv 1), (tv 2), (tv 3), (tv 4), (tv 5)] L f f := OF.rf
  have hl : lv_has ls 5 [(0, .ref h0), (1, .int pl), (2, .int wa)] := hl
  have hT0 := hT
  have ht1 := hTS.2.1
  have ht2 := hTS.2.2.1
  have ht3 := hTS.2.2.2
  have hTSc := hTS
  have hTMc := hTM
  refine lv_iload_n hx hb dX1_reaches_0 rfl (lv_at hl 1 rfl) ?_
  refine lv_iload_n hx hb dX1_reaches_1 rfl (lv_at hl 2 rfl) ?_
  refine lv_icmp_ge (tgt := 10) hx hb dX1_reaches_2 (by decide) (fun c_1 => ?_) (fun c_1 => ?_)
  · have hk0 := kz_of hd hwk hk3 c_1
    refine lv_aload_n hx hb dX1_reaches_10 rfl (lv_at hl 0 rfl) ?_
    refine T_get (ci := 1) (C := RX1) (T := TX1) (N := 9) (t := (1, 0, 0, 0)) hx hb hts inw_X1_reaches_1 hown hK hP hT 0 rfl rfl 2 (by decide) (hts (.fieldLink RX1 22 "VatHouse$Planner" "trialCloth" "LVatHouse$Cloth;") (List.mem_of_getElem? (i := 1) (by exact rfl))) (fun _ h9 => h9) rfl dX1_reaches_11 (fun v_4 hv_2 hr_3 => ?_)
    obtain rfl : v_4 = .ref tc := hr_3.symm.trans ((hF.1 h0 (hT0.at 0 rfl).1 1 (hT0.at 0 rfl).2 2 (by decide)).trans h_tc)
    refine T_get (ci := 0) (C := RX0) (T := TX0) (N := 8) (t := tI) hx hb hts inw_X1_reaches_0 hown hK hP hT 2 rfl rfl 2 (by decide) (hts (.fieldLink RX1 70 "VatHouse$Cloth" "loose" "I") (List.mem_of_getElem? (i := 2) (by exact rfl))) (fun _ h9 => h9) rfl dX1_reaches_14 (fun v_7 hv_5 hr_6 => ?_)
    obtain rfl : v_7 = .int (lo c9) := hr_6.symm.trans ht2
    refine lv_if_ne (tgt := 52) hx hb dX1_reaches_17 (by decide) (fun c_8 => ?_) (fun c_8 => ?_)
    · refine lv_iconst (v := 0) hx hb dX1_reaches_52 (by decide) ?_
      exact K_z hx hb hr rfl hlocks hP hD hK hS hT hE ⟨Or.inl ⟨rfl, (fun h9 => by rw [hk0] at h9; have h8 := ldR_z.mp h9; exact c_8 h8.1)⟩, hF, hO0, hO7, hTSc⟩ (by first | exact Nat.le_of_ble_eq_true rfl | (simp only [rm_X1_reachesP]; omega) | omega) (by first | exact Nat.le_of_ble_eq_true rfl | (simp only [rm_X1_reachesP]; omega) | omega) dX1_reaches_53
    · refine lv_aload_n hx hb dX1_reaches_20 rfl (lv_at hl 0 rfl) ?_
      refine T_get (ci := 1) (C := RX1) (T := TX1) (N := 9) (t := (1, 0, 0, 0)) hx hb hts inw_X1_reaches_1 hown hK hP hT 0 rfl rfl 2 (by decide) (hts (.fieldLink RX1 22 "VatHouse$Planner" "trialCloth" "LVatHouse$Cloth;") (List.mem_of_getElem? (i := 1) (by exact rfl))) (fun _ h9 => h9) rfl dX1_reaches_21 (fun v_11 hv_9 hr_10 => ?_)
      obtain rfl : v_11 = .ref tc := hr_10.symm.trans ((hF.1 h0 (hT0.at 0 rfl).1 1 (hT0.at 0 rfl).2 2 (by decide)).trans h_tc)
      have hTo := hT
      refine K_V ⟨hx, hb, hml, hown, hts⟩ (t_X0_shadeE l dC dI sa hlt g _ _ tc (w c9) (fa c9) _ (hT.sub [2] rfl)  ht1 ht3 ) (cwV 0 hts gX1_reaches_X0_shade rfl rfl rfl (by decide +kernel) ⟨(by first | exact Nat.le_of_ble_eq_true rfl | (simp only [rm_X0_shadeE, rm_X1_reachesP]; omega)), (by first | exact Nat.le_of_ble_eq_true rfl | (simp only [rm_X0_shadeE, rm_X1_reachesP]; omega))⟩) hP hD hK hS hA hev hT 2 0 rfl rfl rfl rfl hl.1 rfl (Nat.le_of_ble_eq_true rfl) dX1_reaches_24 ⟨(by first | exact Nat.le_of_ble_eq_true rfl | (simp only [rm_X1_reachesP]; omega) | omega), (by first | exact Nat.le_of_ble_eq_true rfl | (simp only [rm_X1_reachesP]; omega) | omega)⟩ (fun r L_12 f_13 H locs hw_14 hP hD hS hT hE1 => ?_)
      have hEo := hE
      have hO0 := hO0.call hE (OF.fr hw_14.2.1 (by decide)) (by simp)
      have hO7 := hO7.call hE (OF.fr hw_14.2.1 (by decide)) (by simp)
      have hF := Fr.call hF hE hw_14.2.1 (by decide)
      have hE := hE.tr hE1
      obtain ⟨⟨z_15, rfl⟩, hw_14⟩ := hw_14
      obtain ⟨hfr_16, hex_17⟩ := hw_14
      have hk_18 : rd f_13 h0 3 = .int lw := (hfr_16.1 h0 (hTo.at 0 rfl).1 1 (hTo.at 0 rfl).2 3 (by decide)).trans hm_lw
      have hk_19 : rd f_13 h0 4 = .int hg := (hfr_16.1 h0 (hTo.at 0 rfl).1 1 (hTo.at 0 rfl).2 4 (by decide)).trans hm_hg
      have hk_20 : rd f_13 tc 1 = .int (w c9) := (hfr_16.1 tc (hTo.at 2 rfl).1 0 (hTo.at 2 rfl).2 1 (by decide)).trans ht1
      have hk_21 : rd f_13 tc 2 = .int (lo c9) := (hfr_16.1 tc (hTo.at 2 rfl).1 0 (hTo.at 2 rfl).2 2 (by decide)).trans ht2
      have hk_22 : rd f_13 tc 3 = .int (fa c9) := (hfr_16.1 tc (hTo.at 2 rfl).1 0 (hTo.at 2 rfl).2 3 (by decide)).trans ht3
      have hTSc := hTSc.go hTMc (hTo.at 2 rfl) hfr_16 (by decide)
      have hTMc : ∀ k : Nat, k < 6 → tv k ∈ L_12 ∧ sh (f_13 (tv k)) = (0, 7, 0) := fun k9 h9 => ⟨(hE1 _ (hTMc k9 h9).1).1, (hE1 _ (hTMc k9 h9).1).2.trans (hTMc k9 h9).2⟩
      have hs_z_15 : z_15 = fa c9 / w c9 := (sv hex_17).trans (shC_d hIV.2.1.1)
      refine W.eq (g2 := F0 m 27 ls [.int z_15]) rfl ?_
      refine lv_aload_n hx hb dX1_reaches_27 rfl (lv_at hl 0 rfl) ?_
      refine T_get (ci := 1) (C := RX1) (T := TX1) (N := 9) (t := tI) hx hb hts inw_X1_reaches_1 hown hK hP hT 0 rfl rfl 3 (by decide) (hts (.fieldLink RX1 43 "VatHouse$Planner" "low" "I") (List.mem_of_getElem? (i := 3) (by exact rfl))) (fun _ h9 => h9) rfl dX1_reaches_28 (fun v_25 hv_23 hr_24 => ?_)
      obtain rfl : v_25 = .int lw := hr_24.symm.trans hk_18
      refine lv_icmp_lt (tgt := 52) hx hb dX1_reaches_31 (by decide) (fun c_26 => ?_) (fun c_26 => ?_)
      · refine lv_iconst (v := 0) hx hb dX1_reaches_52 (by decide) ?_
        exact K_z hx hb hr rfl hlocks hP hD hK hS hT hE ⟨Or.inl ⟨rfl, (fun h9 => by rw [hk0] at h9; have h8 := ldR_z.mp h9; exact le_nlt h8.2.1 (by rw [← hs_z_15]; exact c_26))⟩, hF, hO0, hO7, hTSc⟩ (by first | exact Nat.le_of_ble_eq_true rfl | (simp only [rm_X1_reachesP]; omega) | omega) (by first | exact Nat.le_of_ble_eq_true rfl | (simp only [rm_X1_reachesP]; omega) | omega) dX1_reaches_53
      · refine lv_aload_n hx hb dX1_reaches_34 rfl (lv_at hl 0 rfl) ?_
        refine T_get (ci := 1) (C := RX1) (T := TX1) (N := 9) (t := (1, 0, 0, 0)) hx hb hts inw_X1_reaches_1 hown hK hP hT 0 rfl rfl 2 (by decide) (hts (.fieldLink RX1 22 "VatHouse$Planner" "trialCloth" "LVatHouse$Cloth;") (List.mem_of_getElem? (i := 1) (by exact rfl))) (fun _ h9 => h9) rfl dX1_reaches_35 (fun v_29 hv_27 hr_28 => ?_)
        obtain rfl : v_29 = .ref tc := hr_28.symm.trans ((hF.1 h0 (hT0.at 0 rfl).1 1 (hT0.at 0 rfl).2 2 (by decide)).trans h_tc)
        have hTo := hT
        refine K_V ⟨hx, hb, hml, hown, hts⟩ (t_X0_shadeE l dC dI sa hlt g _ _ tc (w c9) (fa c9) _ (hT.sub [2] rfl)  hk_20 hk_22 ) (cwV 0 hts gX1_reaches_X0_shade rfl rfl rfl (by decide +kernel) ⟨(by first | exact Nat.le_of_ble_eq_true rfl | (simp only [rm_X0_shadeE, rm_X1_reachesP]; omega)), (by first | exact Nat.le_of_ble_eq_true rfl | (simp only [rm_X0_shadeE, rm_X1_reachesP]; omega))⟩) hP hD hK hS hA hev hT 2 0 rfl rfl rfl rfl hl.1 rfl (Nat.le_of_ble_eq_true rfl) dX1_reaches_38 ⟨(by first | exact Nat.le_of_ble_eq_true rfl | (simp only [rm_X1_reachesP]; omega) | omega), (by first | exact Nat.le_of_ble_eq_true rfl | (simp only [rm_X1_reachesP]; omega) | omega)⟩ (fun r L_30 f_31 H locs hw_32 hP hD hS hT hE1 => ?_)
        have hEo := hE
        have hO0 := hO0.call hE (OF.fr hw_32.2.1 (by decide)) (by simp)
        have hO7 := hO7.call hE (OF.fr hw_32.2.1 (by decide)) (by simp)
        have hF := Fr.call hF hE hw_32.2.1 (by decide)
        have hE := hE.tr hE1
        obtain ⟨⟨z_33, rfl⟩, hw_32⟩ := hw_32
        obtain ⟨hfr_34, hex_35⟩ := hw_32
        have hk_36 : rd f_31 h0 3 = .int lw := (hfr_34.1 h0 (hTo.at 0 rfl).1 1 (hTo.at 0 rfl).2 3 (by decide)).trans hk_18
        have hk_37 : rd f_31 h0 4 = .int hg := (hfr_34.1 h0 (hTo.at 0 rfl).1 1 (hTo.at 0 rfl).2 4 (by decide)).trans hk_19
        have hk_38 : rd f_31 tc 1 = .int (w c9) := (hfr_34.1 tc (hTo.at 2 rfl).1 0 (hTo.at 2 rfl).2 1 (by decide)).trans hk_20
        have hk_39 : rd f_31 tc 2 = .int (lo c9) := (hfr_34.1 tc (hTo.at 2 rfl).1 0 (hTo.at 2 rfl).2 2 (by decide)).trans hk_21
        have hk_40 : rd f_31 tc 3 = .int (fa c9) := (hfr_34.1 tc (hTo.at 2 rfl).1 0 (hTo.at 2 rfl).2 3 (by decide)).trans hk_22
        have hTSc := hTSc.go hTMc (hTo.at 2 rfl) hfr_34 (by decide)
        have hTMc : ∀ k : Nat, k < 6 → tv k ∈ L_30 ∧ sh (f_31 (tv k)) = (0, 7, 0) := fun k9 h9 => ⟨(hE1 _ (hTMc k9 h9).1).1, (hE1 _ (hTMc k9 h9).1).2.trans (hTMc k9 h9).2⟩
        have hs_z_33 : z_33 = fa c9 / w c9 := (sv hex_35).trans (shC_d hIV.2.1.1)
        refine W.eq (g2 := F0 m 41 ls [.int z_33]) rfl ?_
        refine lv_aload_n hx hb dX1_reaches_41 rfl (lv_at hl 0 rfl) ?_
        refine T_get (ci := 1) (C := RX1) (T := TX1) (N := 9) (t := tI) hx hb hts inw_X1_reaches_1 hown hK hP hT 0 rfl rfl 4 (by decide) (hts (.fieldLink RX1 47 "VatHouse$Planner" "high" "I") (List.mem_of_getElem? (i := 4) (by exact rfl))) (fun _ h9 => h9) rfl dX1_reaches_42 (fun v_43 hv_41 hr_42 => ?_)
        obtain rfl : v_43 = .int hg := hr_42.symm.trans hk_37
        refine lv_icmp_gt (tgt := 52) hx hb dX1_reaches_45 (by decide) (fun c_44 => ?_) (fun c_44 => ?_)
        · refine lv_iconst (v := 0) hx hb dX1_reaches_52 (by decide) ?_
          exact K_z hx hb hr rfl hlocks hP hD hK hS hT hE ⟨Or.inl ⟨rfl, (fun h9 => by rw [hk0] at h9; have h8 := ldR_z.mp h9; exact le_nlt h8.2.2 (by rw [← hs_z_33]; exact c_44))⟩, hF, hO0, hO7, hTSc⟩ (by first | exact Nat.le_of_ble_eq_true rfl | (simp only [rm_X1_reachesP]; omega) | omega) (by first | exact Nat.le_of_ble_eq_true rfl | (simp only [rm_X1_reachesP]; omega) | omega) dX1_reaches_53
        · refine lv_iconst (v := 1) hx hb dX1_reaches_48 (by decide) ?_
          refine lv_goto (tgt := 53) hx hb dX1_reaches_49 (by decide) ?_
          exact K_z hx hb hr rfl hlocks hP hD hK hS hT hE ⟨Or.inr ⟨rfl, (by rw [hk0]; exact ldR_z.mpr ⟨c_8, (by rw [← hs_z_15]; exact nlt_le c_26), (by rw [← hs_z_33]; exact nlt_le c_44)⟩)⟩, hF, hO0, hO7, hTSc⟩ (by first | exact Nat.le_of_ble_eq_true rfl | (simp only [rm_X1_reachesP]; omega) | omega) (by first | exact Nat.le_of_ble_eq_true rfl | (simp only [rm_X1_reachesP]; omega) | omega) dX1_reaches_53
  · refine lv_iload_n hx hb dX1_reaches_5 rfl (lv_at hl 1 rfl) ?_
    refine lv_iconst (v := 3) hx hb dX1_reaches_6 (by decide) ?_
    refine lv_icmp_lt (tgt := 54) hx hb dX1_reaches_7 (by decide) (fun c_45 => ?_) (fun c_45 => ?_)
    · obtain ⟨k1, hk1⟩ := k1_of hd hwk hk3 c_1
      refine lv_iconst (v := 0) hx hb dX1_reaches_54 (by decide) ?_
      refine lv_istore_n (lv' := [(3, .int 0), (0, .ref h0), (1, .int pl), (2, .int wa)]) hx hb dX1_reaches_55 rfl hl (by decide) rfl (fun ls hl => ?_)
      have lpO : ∀ (nO : Nat) (ii : Int32) (L1 : List Nat) (f1 : Nat → va_E) (H : Heap) (locs : List Loc) (ls : Array Slot), (∃ a : Nat, ii = nI a ∧ a ≤ 6 ∧ 6 < a + nO) → rd f1 h0 3 = .int lw → rd f1 h0 4 = .int hg → (OF 0 [tc] L f f1) → (OF 7 [(tv 0), (tv 1), (tv 2), (tv 3), (tv 4), (tv 5)] L f f1) → (TSp f1 tv tc c9 g9 fo mi st w lo fa) → (∀ k : Nat, k < 6 → tv k ∈ L1 ∧ sh (f1 (tv k)) = (0, 7, 0)) → (∃ a : Nat, ii = nI a ∧ a ≤ 6 ∧ NGv k1 g9 fo mi st w lo fa c9 lw hg a) → va_P (dC, dI) vwCl (va_pl L1 f1) H → va_D (va_A (va_pl L f) s.heap.size) (va_pl L1 f1) → va_S (va_A (va_pl L f) s.heap.size) s.heap H locs → TP g L1 f1 [(h0, (0, 1, 0)), (tvr, (2, g 10, 6)), (tc, (0, 0, 0)), (ks, (1, g 9, 3))] → Ext L f L1 f1 → Fr [(0, 2), (0, 3), (7, 1), (7, 2), (7, 3), (7, 4), (100, 3)] L f f1 → lv_has ls 5 [(3, .int ii), (0, .ref h0), (1, .int pl), (2, .int wa)] → W p l e (rm_X1_reachesP j d tv k c9 g9 fo mi st w lo fa) s m [.ref h0, .int pl, .int wa].toArray below meth c H locs 0 0 (MQ below (Qg (kpost g L f (fun r L' f' => ((r = some (.int 0) ∧ (¬ ldR k g9 fo mi st w lo fa c9 lw hg)) ∨ (r = some (.int 1) ∧ (ldR k g9 fo mi st w lo fa c9 lw hg))) ∧ Fr [(0, 2), (0, 3), (7, 1), (7, 2), (7, 3), (7, 4), (100, 3)] L f f' ∧ (OF 0 [tc] L f f' ∧ OF 7 [(tv 0), (tv 1), (tv 2), (tv 3), (tv 4), (tv 5)] L f f' ∧ (TSp f' tv tc c9 g9 fo mi st w lo fa)))) (fun (u : PL) t => QW dC dI (va_A (va_pl L f) s.heap.size) (va_pl u.1 u.2) [] t) (va_A (va_pl L f) s.heap.size)) [.ref h0, .int pl, .int wa].toArray s (0) (0) (va_A (va_pl L f) s.heap.size)) (F0 m 56 ls []) := by
        intro nO
        induction nO with
        | zero => intro ii L1 f1 H locs ls hmO hkO_h0_3 hkO_h0_4 hO0 hO7 hTSl hTMl hgO hP hD hS hT hE hF hl; exact absurd hmO (by rintro ⟨a, -, h1, h2⟩; omega)
        | succ nO ihO =>
          intro ii L1 f1 H locs ls hmO hkO_h0_3 hkO_h0_4 hO0 hO7 hTSl hTMl hgO hP hD hS hT hE hF hl
          refine lv_iload_n hx hb dX1_reaches_56 rfl (lv_at hl 0 rfl) ?_
          refine lv_aload_n hx hb dX1_reaches_57 rfl (lv_at hl 1 rfl) ?_
          refine T_get (ci := 1) (C := RX1) (T := TX1) (N := 9) (t := (1, 2, g 10, 6)) hx hb hts inw_X1_reaches_1 hown hK hP hT 0 rfl rfl 1 (by decide) (hts (.fieldLink RX1 11 "VatHouse$Planner" "trialVats" "[LVatHouse$Vat;") (List.mem_of_getElem? (i := 5) (by exact rfl))) (fun _ h9 => h9) rfl dX1_reaches_58 (fun v_48 hv_46 hr_47 => ?_)
          obtain rfl : v_48 = .ref tvr := hr_47.symm.trans ((hF.1 h0 (hT0.at 0 rfl).1 1 (hT0.at 0 rfl).2 1 (by decide)).trans h_tvr)
          refine T_alen hx hb hK hP hT 1 10 rfl rfl (v := 6) rfl dX1_reaches_61 ?_
          refine lv_icmp_ge (tgt := 109) hx hb dX1_reaches_62 (by decide) (fun c_49 => ?_) (fun c_49 => ?_)
          · refine lv_iconst (v := 0) hx hb dX1_reaches_109 (by decide) ?_
            exact K_z hx hb hr rfl hlocks hP hD hK hS hT hE ⟨Or.inl ⟨rfl, (by obtain ⟨q9, h1, h2, h3⟩ := hgO; obtain rfl : q9 = 6 := up_ge h1 h2 (by decide) c_49; rw [hk1]; exact h3.e)⟩, hF, hO0, hO7, hTSl⟩ (by first | exact Nat.le_of_ble_eq_true rfl | (simp only [rm_X1_reachesP]; omega) | omega) (by first | exact Nat.le_of_ble_eq_true rfl | (simp only [rm_X1_reachesP]; omega) | omega) dX1_reaches_110
          · refine lv_iconst (v := 1) hx hb dX1_reaches_65 (by decide) ?_
            refine lv_istore (lv' := [(4, .int 1), (3, .int ii), (0, .ref h0), (1, .int pl), (2, .int wa)]) hx hb dX1_reaches_66 hl (by decide) rfl (fun ls hl => ?_)
            have lp : ∀ (n : Nat) (mx : Int32) (L1 : List Nat) (f1 : Nat → va_E) (H : Heap) (locs : List Loc) (ls : Array Slot), (Dbl mx n) → rd f1 h0 3 = .int lw → rd f1 h0 4 = .int hg → (OF 0 [tc] L f f1) → (OF 7 [(tv 0), (tv 1), (tv 2), (tv 3), (tv 4), (tv 5)] L f f1) → (TSp f1 tv tc c9 g9 fo mi st w lo fa) → (∀ k : Nat, k < 6 → tv k ∈ L1 ∧ sh (f1 (tv k)) = (0, 7, 0)) → (∃ a : Nat, ii = nI a ∧ a < 6 ∧ NGv k1 g9 fo mi st w lo fa c9 lw hg a ∧ NGm k1 g9 fo mi st w lo fa c9 lw hg a mx) → va_P (dC, dI) vwCl (va_pl L1 f1) H → va_D (va_A (va_pl L f) s.heap.size) (va_pl L1 f1) → va_S (va_A (va_pl L f) s.heap.size) s.heap H locs → TP g L1 f1 [(h0, (0, 1, 0)), (tvr, (2, g 10, 6)), (tc, (0, 0, 0)), (ks, (1, g 9, 3))] → Ext L f L1 f1 → Fr [(0, 2), (0, 3), (7, 1), (7, 2), (7, 3), (7, 4), (100, 3)] L f f1 → lv_has ls 5 [(4, .int mx), (3, .int ii), (0, .ref h0), (1, .int pl), (2, .int wa)] → W p l e (rm_X1_reachesP j d tv k c9 g9 fo mi st w lo fa) s m [.ref h0, .int pl, .int wa].toArray below meth c H locs 0 0 (MQ below (Qg (kpost g L f (fun r L' f' => ((r = some (.int 0) ∧ (¬ ldR k g9 fo mi st w lo fa c9 lw hg)) ∨ (r = some (.int 1) ∧ (ldR k g9 fo mi st w lo fa c9 lw hg))) ∧ Fr [(0, 2), (0, 3), (7, 1), (7, 2), (7, 3), (7, 4), (100, 3)] L f f' ∧ (OF 0 [tc] L f f' ∧ OF 7 [(tv 0), (tv 1), (tv 2), (tv 3), (tv 4), (tv 5)] L f f' ∧ (TSp f' tv tc c9 g9 fo mi st w lo fa)))) (fun (u : PL) t => QW dC dI (va_A (va_pl L f) s.heap.size) (va_pl u.1 u.2) [] t) (va_A (va_pl L f) s.heap.size)) [.ref h0, .int pl, .int wa].toArray s (0) (0) (va_A (va_pl L f) s.heap.size)) (F0 m 68 ls []) := by
              intro n
              induction n with
              | zero => intro mx L1 f1 H locs ls hm hk_h0_3 hk_h0_4 hO0 hO7 hTSl hTMl hgI hP hD hS hT hE hF hl; exact hm.z.elim
              | succ n ih =>
                intro mx L1 f1 H locs ls hm hk_h0_3 hk_h0_4 hO0 hO7 hTSl hTMl hgI hP hD hS hT hE hF hl
                refine lv_iload hx hb dX1_reaches_68 (lv_at hl 0 rfl) ?_
                refine lv_bipush (v := 8) hx hb dX1_reaches_70 (by decide) ?_
                refine lv_icmp_gt (tgt := 103) hx hb dX1_reaches_72 (by decide) (fun c_50 => ?_) (fun c_50 => ?_)
                · refine lv_iinc (v := (ii + 1)) (lv' := [(3, .int (ii + 1)), (4, .int mx), (0, .ref h0), (1, .int pl), (2, .int wa)]) hx hb dX1_reaches_103 hl (k := 1) rfl rfl (by decide) rfl (fun ls hl => ?_)
                  refine lv_goto (tgt := 56) hx hb dX1_reaches_106 (by decide) ?_
                  exact ihO (ii + 1) _ _ _ _ _ (up_nx (by decide) hmO (by decide) c_49) hk_h0_3 hk_h0_4 (hO0) (hO7) (hTSl) (hTMl) (by obtain ⟨q9, h1, h2, h3, h4⟩ := hgI; exact ⟨q9 + 1, by rw [h1]; exact nI_1 q9, by omega, h4.e hm c_50 h3⟩) hP hD hS (hT.sub [0, 1, 2, 3] rfl) hE hF (lv_sub hl [0, 2, 3, 4] rfl)
                · refine lv_aload_n hx hb dX1_reaches_75 rfl (lv_at hl 2 rfl) ?_
                  refine lv_aload_n hx hb dX1_reaches_76 rfl (lv_at hl 2 rfl) ?_
                  refine T_get (ci := 1) (C := RX1) (T := TX1) (N := 9) (t := (1, 2, g 10, 6)) hx hb hts inw_X1_reaches_1 hown hK hP hT 0 rfl rfl 1 (by decide) (hts (.fieldLink RX1 11 "VatHouse$Planner" "trialVats" "[LVatHouse$Vat;") (List.mem_of_getElem? (i := 5) (by exact rfl))) (fun _ h9 => h9) rfl dX1_reaches_77 (fun v_53 hv_51 hr_52 => ?_)
                  obtain rfl : v_53 = .ref tvr := hr_52.symm.trans ((hF.1 h0 (hT0.at 0 rfl).1 1 (hT0.at 0 rfl).2 1 (by decide)).trans h_tvr)
                  refine lv_iload_n hx hb dX1_reaches_80 rfl (lv_at hl 1 rfl) ?_
                  refine T_vald hx hb hK hP hT 1 10 (Or.inr rfl) rfl rfl (up_in (by decide) hmO (by decide) c_49 (by decide) (by decide)) dX1_reaches_81 (fun b_54 hb9 hra => ?_)
                  have hT := hT.add hb9
                  obtain ⟨q, hq1, hq6, hgv, hgm⟩ := hgI
                  have hbq : b_54 = tv q := by
                    rw [hq1, nI_clamp (by omega), ra_eq (hF.2 tvr (hT0.at 1 rfl).1 1 _ _ (hT0.at 1 rfl).2 (by decide)), hTV q hq6] at hra
                    exact (Option.some.inj hra).symm
                  refine lv_iload hx hb dX1_reaches_82 (lv_at hl 0 rfl) ?_
                  refine lv_iload_n hx hb dX1_reaches_84 rfl (lv_at hl 3 rfl) ?_
                  refine lv_iload_n hx hb dX1_reaches_85 rfl (lv_at hl 4 rfl) ?_
                  have hTo := hT
                  refine K_V ⟨hx, hb, hml, hown, hts⟩ (IHY _ _ tv k1 c9 g9 fo mi st w lo fa q h0 b_54 mx pl wa tvr tc ks lw hg _ (hT.sub [1, 0, 2, 3, 4] rfl)  hk_h0_3 hk_h0_4 ((hF.1 h0 (hT0.at 0 rfl).1 1 (hT0.at 0 rfl).2 1 (by decide)).trans h_tvr) ((hF.1 h0 (hT0.at 0 rfl).1 1 (hT0.at 0 rfl).2 2 (by decide)).trans h_tc) ((hF.1 h0 (hT0.at 0 rfl).1 1 (hT0.at 0 rfl).2 8 (by decide)).trans h_ks) hd (by rw [hwk, hk1]) (by omega) (fun k9 h9 => by rw [ra_eq (hF.2 tvr (hT0.at 1 rfl).1 1 _ _ (hT0.at 1 rfl).2 (by decide))]; exact hTV k9 h9) hTMl hinj hTSl hIV hq6 hbq (hm.m4 c_50)) (cwV 4 hts gX1_reaches_X1_reachesBy rfl rfl rfl (by decide +kernel) ⟨(by first | exact Nat.le_of_ble_eq_true rfl | (simp only [rm_X1_reachesByP, rm_X1_reachesP]; omega)), (by first | exact Nat.le_of_ble_eq_true rfl | (simp only [rm_X1_reachesByP, rm_X1_reachesP]; omega))⟩) hP hD hK hS hA hev hT 1 1 rfl rfl rfl rfl hl.1 rfl (Nat.le_of_ble_eq_true rfl) dX1_reaches_86 ⟨(by first | exact Nat.le_of_ble_eq_true rfl | (simp only [rm_X1_reachesP]; omega) | omega), (by first | exact Nat.le_of_ble_eq_true rfl | (simp only [rm_X1_reachesP]; omega) | omega)⟩ (fun r L_55 f_56 H locs hw_57 hP hD hS hT hE1 => ?_)
                  have hEo := hE
                  have hF := Fr.call hF hE hw_57.2.1 (by decide)
                  have hE := hE.tr hE1
                  obtain ⟨⟨rfl, hz2_58⟩ | ⟨rfl, hz2_58⟩, hw_57⟩ := hw_57
                  · obtain ⟨hfr_59, hex_60⟩ := hw_57
                    obtain ⟨hof_61, hof_62, hex_63⟩ := hex_60
                    have hO0 := hO0.call hEo hof_61 (fun _ h9 => h9)
                    have hO7 := hO7.call hEo hof_62 (fun _ h9 => h9)
                    have hk_64 : rd f_56 h0 3 = .int lw := (hfr_59.1 h0 (hTo.at 1 rfl).1 1 (hTo.at 1 rfl).2 3 (by decide)).trans hk_h0_3
                    have hk_65 : rd f_56 h0 4 = .int hg := (hfr_59.1 h0 (hTo.at 1 rfl).1 1 (hTo.at 1 rfl).2 4 (by decide)).trans hk_h0_4
                    have htm_66 : ∀ k : Nat, k < 6 → tv k ∈ L_55 ∧ sh (f_56 (tv k)) = (0, 7, 0) := fun k9 h9 => ⟨(hE1 _ (hTMl k9 h9).1).1, (hE1 _ (hTMl k9 h9).1).2.trans (hTMl k9 h9).2⟩
                    refine W.eq (g2 := F0 m 89 ls [.int 0]) rfl ?_
                    refine lv_if_eq (tgt := 94) hx hb dX1_reaches_89 (by decide) (fun c_67 => ?_) (fun c_67 => ?_)
                    rotate_left
                    · exact absurd c_67 (by decide)
                    refine lv_iload hx hb dX1_reaches_94 (lv_at hl 0 rfl) ?_
                    refine lv_iconst (v := 2) hx hb dX1_reaches_96 (by decide) ?_
                    refine lv_imul hx hb dX1_reaches_97 ?_
                    refine lv_topi (fun z_68 ez_68 => ?_)
                    refine lv_istore (lv' := [(4, .int z_68), (3, .int ii), (0, .ref h0), (1, .int pl), (2, .int wa)]) hx hb dX1_reaches_98 hl (by decide) rfl (fun ls hl => ?_)
                    refine lv_goto (tgt := 68) hx hb dX1_reaches_100 (by decide) ?_
                    exact ih z_68 _ _ _ _ _ (hm.nx c_50 ez_68) hk_64 hk_65 (hO0) (hO7) (hex_63) (htm_66) (⟨q, hq1, hq6, hgv, hgm.nx hm c_50 hz2_58 ez_68⟩) hP hD hS (hT.sub [1, 2, 3, 4] rfl) hE hF (lv_sub hl [0, 1, 2, 3, 4] rfl)
                  · obtain ⟨hfr_69, hex_70⟩ := hw_57
                    obtain ⟨hof_71, hof_72, hex_73⟩ := hex_70
                    have hO0 := hO0.call hEo hof_71 (fun _ h9 => h9)
                    have hO7 := hO7.call hEo hof_72 (fun _ h9 => h9)
                    have hk_74 : rd f_56 h0 3 = .int lw := (hfr_69.1 h0 (hTo.at 1 rfl).1 1 (hTo.at 1 rfl).2 3 (by decide)).trans hk_h0_3
                    have hk_75 : rd f_56 h0 4 = .int hg := (hfr_69.1 h0 (hTo.at 1 rfl).1 1 (hTo.at 1 rfl).2 4 (by decide)).trans hk_h0_4
                    have htm_76 : ∀ k : Nat, k < 6 → tv k ∈ L_55 ∧ sh (f_56 (tv k)) = (0, 7, 0) := fun k9 h9 => ⟨(hE1 _ (hTMl k9 h9).1).1, (hE1 _ (hTMl k9 h9).1).2.trans (hTMl k9 h9).2⟩
                    refine W.eq (g2 := F0 m 89 ls [.int 1]) rfl ?_
                    refine lv_if_eq (tgt := 94) hx hb dX1_reaches_89 (by decide) (fun c_77 => ?_) (fun c_77 => ?_)
                    · exact absurd c_77 (by decide)
                    refine lv_iconst (v := 1) hx hb dX1_reaches_92 (by decide) ?_
                    exact K_z hx hb hr rfl hlocks hP hD hK hS hT hE ⟨Or.inr ⟨rfl, (by rw [hk1]; exact ldR_s.mpr ⟨q, mx, hq6, hm.m4 c_50, hz2_58⟩)⟩, hF, hO0, hO7, hex_73⟩ (by first | exact Nat.le_of_ble_eq_true rfl | (simp only [rm_X1_reachesP]; omega) | omega) (by first | exact Nat.le_of_ble_eq_true rfl | (simp only [rm_X1_reachesP]; omega) | omega) dX1_reaches_93
            exact lp 5 1 _ _ _ _ _ (Or.inl ⟨rfl, by omega⟩) hkO_h0_3 hkO_h0_4 (hO0) (hO7) (hTSl) (hTMl) (by obtain ⟨q9, h1, h2, h3⟩ := hgO; exact ⟨q9, h1, up_lt (by decide) h1 h2 (by decide) c_49, h3, NGm.o⟩) hP hD hS (hT.sub [0, 1, 2, 3] rfl) hE hF (lv_sub hl [0, 1, 2, 3, 4] rfl)
      exact lpO 7 0 _ _ _ _ _ (⟨0, nI_0.symm, by omega, by omega⟩) hm_lw hm_hg (hO0) (hO7) (hTSc) (hTMc) (⟨0, nI_0.symm, by omega, NGv.o⟩) hP hD hS (hT.sub [0, 1, 2, 3] rfl) hE hF (lv_sub hl [0, 1, 2, 3] rfl)
    · exact absurd (show pl < 3 by rw [hd]; exact nI_lt (show d < 3 by obtain ⟨k1, e9⟩ := k1_of hd hwk hk3 c_1; omega) (by decide)) c_45

theorem X1_reachesP_all (l : Launch) (dC : Nat → ClassId) (dI : Nat → Nat → Nat) (sa : Nat → Nat) (hlt : l.stackTraces = false) (g : Nat → Nat) : ∀ (j d : Nat), d + j = 3 → ∀ (L : List Nat) (f : Nat → va_E) (tv : Nat → Nat) (k : Nat) (c9 : Nat) (g9 : Nat → Int32) (fo : Nat → Int32) (mi : Nat → Int32) (st : Nat → Int32) (w : Nat → Int32) (lo : Nat → Int32) (fa : Nat → Int32) (h0 : Nat) (pl : Int32) (wa : Int32) (tvr : Nat) (tc : Nat) (ks : Nat) (lw : Int32) (hg : Int32) (sz : Nat) (hT : TP g L f [(h0, (0, 1, 0)), (tvr, (2, g 10, 6)), (tc, (0, 0, 0)), (ks, (1, g 9, 3))]) (hm_lw : rd f h0 3 = .int lw) (hm_hg : rd f h0 4 = .int hg) (h_tvr : rd f h0 1 = .ref tvr) (h_tc : rd f h0 2 = .ref tc) (h_ks : rd f h0 8 = .ref ks) (hd : pl = nI d) (hwk : wa = nI (d + k)) (hk3 : d + k ≤ 3) (hTV : ∀ k : Nat, k < 6 → ra f tvr k = some (tv k)) (hTM : ∀ k : Nat, k < 6 → tv k ∈ L ∧ sh (f (tv k)) = (0, 7, 0)) (hinj : ∀ i j : Nat, i < 6 → j < 6 → tv i = tv j → i = j) (hTS : TSp f tv tc c9 g9 fo mi st w lo fa) (hIV : IVp g9 w lo fa c9), KC l dC dI sa g yX1_reaches wsX1_reaches (rm_X1_reachesP j d tv k c9 g9 fo mi st w lo fa) [.ref h0, .int pl, .int wa] L f sz (fun r L' f' => ((r = some (.int 0) ∧ (¬ ldR k g9 fo mi st w lo fa c9 lw hg)) ∨ (r = some (.int 1) ∧ (ldR k g9 fo mi st w lo fa c9 lw hg))) ∧ Fr [(0, 2), (0, 3), (7, 1), (7, 2), (7, 3), (7, 4), (100, 3)] L f f' ∧ (OF 0 [tc] L f f' ∧ OF 7 [(tv 0), (tv 1), (tv 2), (tv 3), (tv 4), (tv 5)] L f f' ∧ (TSp f' tv tc c9 g9 fo mi st w lo fa))) 0 0 := by
  intro j
  induction j with
  | zero => exact fun d hdj L f tv k c9 g9 fo mi st w lo fa h0 pl wa tvr tc ks lw hg sz hT m1 m2 h1 h2 h3 hd hwk hk3 hTV hTM hinj hTS hIV => t_X1_reachesP l dC dI sa hlt g L f 0 d tv k c9 g9 fo mi st w lo fa h0 pl wa tvr tc ks lw hg sz hT m1 m2 h1 h2 h3 hd hdj hwk hk3 hTV hTM hinj hTS hIV (fun L f tv k c9 g9 fo mi st w lo fa q h0 v mm pl wa tvr tc ks lw hg sz hT m1 m2 h1 h2 h3 hd hwk hk3 hTV hTM hinj hTS hIV hq6 hvq hm4 => t_X1_reachesByP l dC dI sa hlt g L f 0 d tv k c9 g9 fo mi st w lo fa q h0 v mm pl wa tvr tc ks lw hg sz hT m1 m2 h1 h2 h3 hd hdj hwk hk3 hTV hTM hinj hTS hIV hq6 hvq hm4 (fun j' d' _ h => absurd h (by omega)))
  | succ j ih =>
    exact fun d hdj L f tv k c9 g9 fo mi st w lo fa h0 pl wa tvr tc ks lw hg sz hT m1 m2 h1 h2 h3 hd hwk hk3 hTV hTM hinj hTS hIV => t_X1_reachesP l dC dI sa hlt g L f (j + 1) d tv k c9 g9 fo mi st w lo fa h0 pl wa tvr tc ks lw hg sz hT m1 m2 h1 h2 h3 hd hdj hwk hk3 hTV hTM hinj hTS hIV (fun L f tv k c9 g9 fo mi st w lo fa q h0 v mm pl wa tvr tc ks lw hg sz hT m1 m2 h1 h2 h3 hd hwk hk3 hTV hTM hinj hTS hIV hq6 hvq hm4 => t_X1_reachesByP l dC dI sa hlt g L f (j + 1) d tv k c9 g9 fo mi st w lo fa q h0 v mm pl wa tvr tc ks lw hg sz hT m1 m2 h1 h2 h3 hd hdj hwk hk3 hTV hTM hinj hTS hIV hq6 hvq hm4 (fun j' d' hdj' hj => by
      obtain rfl : j = j' := by omega
      exact ih d' hdj'))
