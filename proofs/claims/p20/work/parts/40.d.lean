set_option maxHeartbeats 3000000 in
set_option maxRecDepth 100000 in
theorem t_X2_readStepT (l : Launch) (dC : Nat → ClassId) (dI : Nat → Nat → Nat) (sa : Nat → Nat) (hlt : l.stackTraces = false) (g : Nat → Nat) (L : List Nat) (f : Nat → va_E) (j : Nat) (d : Nat) (P : Nat) (tt : Nat → Int32) (ln : Nat) (M : Nat) (q : SG) (T : TT) (ad : Nat → Nat) (h0 : Nat) (dep : Int32) (tok : Nat) (ka : Nat) (sta : Nat) (vaa : Nat) (ax : Int32) (tn : Int32) (fa : Int32) (pw : Int32) (sg : Int32) (zz : Int32) (sz : Nat) (hT : TP g L f [(h0, (0, 2, 0)), (tok, (0, 6, 0)), (ka, (1, g 0, 1501)), (sta, (1, g 5, 1501)), (vaa, (1, g 6, 1501))]) (hm_ax : rd f h0 1 = .int ax) (hm_tn : rd f h0 2 = .int tn) (hm_fa : rd f h0 3 = .int fa) (hm_pw : rd f h0 4 = .int pw) (hm_sg : rd f h0 5 = .int sg) (hm_zz : rd f tok 3 = .int zz) (h_tok : rd f h0 0 = .ref tok) (h_ka : rd f tok 4 = .ref ka) (h_sta : rd f tok 5 = .ref sta) (h_vaa : rd f tok 6 = .ref vaa) (hd : dep = nI d) (hdj : d + j = 8) (hP0 : pot fa sg = P) (hs3 : sg.toInt ≤ 300) (hzz : zz = nI (M + 1)) (hTK : TKS f ka sta vaa tt ln M) (hRQ : RQ tt ln M q ax tn fa pw) (hnd : sg = nI q.2.1 ∧ q.2.1 ≤ 300) (IHR : ∀ j' d' : Nat, d' + j' = 8 → j = j' + 1 → ∀ (L : List Nat) (f : Nat → va_E) (P : Nat) (tt : Nat → Int32) (ln : Nat) (M : Nat) (q : SG) (T : TT) (ad : Nat → Nat) (h0 : Nat) (dep : Int32) (tok : Nat) (ka : Nat) (sta : Nat) (vaa : Nat) (ax : Int32) (tn : Int32) (fa : Int32) (pw : Int32) (sg : Int32) (zz : Int32) (sz : Nat) (hT : TP g L f [(h0, (0, 2, 0)), (tok, (0, 6, 0)), (ka, (1, g 0, 1501)), (sta, (1, g 5, 1501)), (vaa, (1, g 6, 1501))]) (hm_ax : rd f h0 1 = .int ax) (hm_tn : rd f h0 2 = .int tn) (hm_fa : rd f h0 3 = .int fa) (hm_pw : rd f h0 4 = .int pw) (hm_sg : rd f h0 5 = .int sg) (hm_zz : rd f tok 3 = .int zz) (h_tok : rd f h0 0 = .ref tok) (h_ka : rd f tok 4 = .ref ka) (h_sta : rd f tok 5 = .ref sta) (h_vaa : rd f tok 6 = .ref vaa) (hd : dep = nI d') (hP0 : pot fa sg = P) (hs3 : sg.toInt ≤ 300) (hzz : zz = nI (M + 1)) (hTK : TKS f ka sta vaa tt ln M) (hRQ : RQ tt ln M q ax tn fa pw) (hnd : sg = nI q.2.1 ∧ q.2.1 ≤ 300), KZ l dC dI sa g yX2_readSteps wsX2_readSteps (rm_X2_readStepsT j' d' P tt ln M q T ad) [.ref h0, .int dep] L f sz (fun r L' f' => (∃ v : Value, r = some v ∧ okv L' f' (2, 0, 5, 0) v) ∧ Fr [(2, 1), (2, 2), (2, 3), (2, 4), (5, 1), (5, 2), (5, 3), (5, 4), (5, 5), (5, 6), (5, 7), (2, 5)] L f f' ∧ (∃ ax' : Int32, ∃ tn' : Int32, ∃ fa' : Int32, ∃ pw' : Int32, ∃ sg' : Int32, rd f' h0 1 = .int ax' ∧ rd f' h0 2 = .int tn' ∧ rd f' h0 3 = .int fa' ∧ rd f' h0 4 = .int pw' ∧ rd f' h0 5 = .int sg' ∧ (True) ∧ (True) ∧ (True) ∧ (True) ∧ (sg'.toInt ≤ 300) ∧ (OF 5 [] L f f' ∧ (∃ (qn : SG) (T' : TT) (ad' : Nat → Nat), (Ev (Kp tt ln) (Vp tt ln) (nq tt ln) 0 d' q qn) ∧ RQ tt ln M qn ax' tn' fa' pw' ∧ (sg' = nI qn.2.1 ∧ qn.2.1 ≤ 300) ∧ (qn.2.2.1 = 0 → ∃ v9 : Value, r = some v9 ∧ PB (Kp tt ln) (Vp tt ln) (nq tt ln) 0 d' q qn T T' ad ad' L L' f' v9))))) (fun n f' => ∃ a b : Int32, rd f' h0 3 = .int a ∧ rd f' h0 5 = .int b ∧ n + pot a b ≤ P) P (8 * P)) (hf0 : fa = 0) (htn : ¬ tn < 1 ∧ ¬ 12 < tn) : KZ l dC dI sa g yX2_readStep wsX2_readStep (rm_X2_readStepT j d P tt ln M q T ad) [.ref h0, .int dep] L f sz (fun r L' f' => (∃ v : Value, r = some v ∧ okv L' f' (1, 0, 5, 0) v) ∧ Fr [(2, 1), (2, 2), (2, 3), (2, 4), (5, 1), (5, 2), (5, 3), (5, 4), (5, 5), (5, 6), (5, 7), (2, 5)] L f f' ∧ (∃ ax' : Int32, ∃ tn' : Int32, ∃ fa' : Int32, ∃ pw' : Int32, ∃ sg' : Int32, rd f' h0 1 = .int ax' ∧ rd f' h0 2 = .int tn' ∧ rd f' h0 3 = .int fa' ∧ rd f' h0 4 = .int pw' ∧ rd f' h0 5 = .int sg' ∧ (True) ∧ (True) ∧ (True) ∧ (True) ∧ (sg'.toInt ≤ 300) ∧ (OF 5 [] L f f' ∧ (∃ (qn : SG) (T' : TT) (ad' : Nat → Nat), (Ev (Kp tt ln) (Vp tt ln) (nq tt ln) 1 d q qn) ∧ RQ tt ln M qn ax' tn' fa' pw' ∧ (sg' = nI qn.2.1 ∧ qn.2.1 ≤ 300) ∧ (qn.2.2.1 = 0 → ∃ v9 : Value, r = some v9 ∧ PB (Kp tt ln) (Vp tt ln) (nq tt ln) 1 d q qn T T' ad ad' L L' f' v9))))) (fun n f' => ∃ a b : Int32, rd f' h0 3 = .int a ∧ rd f' h0 5 = .int b ∧ n + pot a b ≤ P) P (8 * P) := by
  refine KZ.start (cc := cX2_readStep) (maxL := 3) (ret := (some (.object "VatHouse$Step"))) (by decide) rfl (Nat.le_of_ble_eq_true rfl) ?_
  intro p e s m below meth c ls hst hP hK hD hev hS hl
  obtain ⟨hx, hb, hr, hml, hts, hown, hlocks, hin⟩ := hst
  have hown : s.vm.findClass RX2 = some m.cls := hown
  have hin : meth.name = yX2_readStep.name := hin
  have hA : ∀ q : Nat, s.heap.size ≤ q → va_A (va_pl L f) s.heap.size q := fun _ h => Or.inr h
  have hE : Ext L f L f := Ext.rf
  have hF : Fr [(2, 1), (2, 2), (2, 3), (2, 4), (5, 1), (5, 2), (5, 3), (5, 4), (5, 5), (5, 6), (5, 7), (2, 5)] L f f := Fr.rf
  have hO5 : OF 5 [] L f f := OF.rf
  have hl : lv_has ls 3 [(0, .ref h0), (1, .int dep)] := hl
  have hT0 := hT
  have hpp := pot_pos hf0 hs3
  have hTo := hT
  refine T_new (ci := 5) (fs := [.int 0, .int 0, .int 0, .int 0, .int 0, .null, .null, .null]) (C := RX5) (T := TX5) (N := 8) hx hb hts inw_X2_readStep_5 tyX5 tyX5_ok hown (hts (.classLink RX2 51 RX5) (List.mem_of_getElem? (i := 1) (by exact rfl))) (hts (.instantiable RX5 8) (List.mem_of_getElem? (i := 2) (by exact rfl))) (hts (.initialized RX5) (List.mem_of_getElem? (i := 3) (by exact rfl))) hK hP hD hS hA hT rfl nfX5 (okn_5 g) (by first | exact Nat.le_of_ble_eq_true rfl | (simp only [rm_X2_readStepT]; omega) | omega) (by first | exact Nat.le_of_ble_eq_true rfl | (simp only [rm_X2_readStepT]; omega) | omega) dX2_readStep_0 (fun q_1 L_2 f_3 H hq_4 hL_5 hP hD hS hT hE1 hrd_6 hrq_7 hup => ?_)
  have hO5 := hO5.new hE hq_4 hrd_6
  have hF := Fr.new hF hE hq_4 hrd_6 hup
  have hE := hE.tr hE1
  have hk_8 := (hrd_6 h0 1 (fun h9 => hq_4 (h9 ▸ (hTo.at 0 rfl).1))).trans hm_ax
  have hk_9 := (hrd_6 h0 2 (fun h9 => hq_4 (h9 ▸ (hTo.at 0 rfl).1))).trans hm_tn
  have hk_10 := (hrd_6 h0 3 (fun h9 => hq_4 (h9 ▸ (hTo.at 0 rfl).1))).trans hm_fa
  have hk_11 := (hrd_6 h0 4 (fun h9 => hq_4 (h9 ▸ (hTo.at 0 rfl).1))).trans hm_pw
  have hk_12 := (hrd_6 h0 5 (fun h9 => hq_4 (h9 ▸ (hTo.at 0 rfl).1))).trans hm_sg
  have hk_13 := (hrd_6 tok 3 (fun h9 => hq_4 (h9 ▸ (hTo.at 1 rfl).1))).trans hm_zz
  have hk_14 : rd f_3 q_1 1 = .int 0 := hrq_7 1
  have hk_15 : rd f_3 q_1 2 = .int 0 := hrq_7 2
  have hk_16 : rd f_3 q_1 3 = .int 0 := hrq_7 3
  have hk_17 : rd f_3 q_1 4 = .int 0 := hrq_7 4
  have htv_18 : rd f_3 q_1 5 = .null := hrq_7 5
  have htv_19 : rd f_3 q_1 6 = .null := hrq_7 6
  have htv_20 : rd f_3 q_1 7 = .null := hrq_7 7
  refine lv_dup hx hb dX2_readStep_3 rfl ?_
  refine lv_aload_n hx hb dX2_readStep_4 rfl (lv_at hl 0 rfl) ?_
  refine T_get (ci := 2) (C := RX2) (T := TX2) (N := 6) (t := tI) hx hb hts inw_X2_readStep_2 hown hK hP hT 1 rfl rfl 2 (by decide) (hts (.fieldLink RX2 44 "VatHouse$Reader" "token" "I") (List.mem_of_getElem? (i := 4) (by exact rfl))) (fun _ h9 => h9) rfl dX2_readStep_5 (fun v_23 hv_21 hr_22 => ?_)
  obtain rfl : v_23 = .int tn := hr_22.symm.trans hk_9
  have hTo := hT
  refine K_I ⟨hx, hb, hml, hown, hts⟩ (t_X5_initT l dC dI sa hlt g _ _ q_1 tn _ (hT.sub [0] rfl)  ) (cwI 1 hts gX2_readStep_X5_init rfl rfl rfl (hts (.initialized RX5) (List.mem_of_getElem? (i := 3) (by exact rfl))) (hts (.methodLink RX2 56 yX5_init) (List.mem_of_getElem? (i := 7) (by exact rfl))) (hts (.instanceMethod yX5_init) (List.mem_of_getElem? (i := 8) (by exact rfl))) rfl (by decide +kernel) ⟨(by first | exact Nat.le_of_ble_eq_true rfl | (simp only [rm_X5_initT, rm_X2_readStepT]; omega)), (by first | exact Nat.le_of_ble_eq_true rfl | (simp only [rm_X5_initT, rm_X2_readStepT]; omega))⟩) hP hD hK hS hA hev hT rfl hl.1 rfl (Nat.le_of_ble_eq_true rfl) dX2_readStep_8 ⟨(by first | exact Nat.le_of_ble_eq_true rfl | (simp only [rm_X2_readStepT]; omega) | omega), (by first | exact Nat.le_of_ble_eq_true rfl | (simp only [rm_X2_readStepT]; omega) | omega)⟩ (fun r L_24 f_25 H locs hw_26 hP hD hS hT hE1 => ?_)
  have hEo := hE
  have hF := Fr.fresh hF hE hq_4 (by obtain ⟨_, _, _, _, h9⟩ := hw_26.2.2; exact h9)
  have hE := hE.tr hE1
  obtain ⟨rfl, hw_26⟩ := hw_26
  obtain ⟨hfr_27, wd_28, hk_29, hrel_30, hex_31⟩ := hw_26
  obtain ⟨hof_32, hex_33⟩ := hex_31
  have hO5 := hO5.callF hEo hof_32 (fun a9 h9 => Or.inr (by rw [List.mem_singleton.mp h9]; exact hq_4))
  have hk_34 : rd f_25 h0 1 = .int ax := (hfr_27.1 h0 (hTo.at 1 rfl).1 2 (hTo.at 1 rfl).2 1 (by decide)).trans hk_8
  have hk_35 : rd f_25 h0 2 = .int tn := (hfr_27.1 h0 (hTo.at 1 rfl).1 2 (hTo.at 1 rfl).2 2 (by decide)).trans hk_9
  have hk_36 : rd f_25 h0 3 = .int fa := (hfr_27.1 h0 (hTo.at 1 rfl).1 2 (hTo.at 1 rfl).2 3 (by decide)).trans hk_10
  have hk_37 : rd f_25 h0 4 = .int pw := (hfr_27.1 h0 (hTo.at 1 rfl).1 2 (hTo.at 1 rfl).2 4 (by decide)).trans hk_11
  have hk_38 : rd f_25 h0 5 = .int sg := (hfr_27.1 h0 (hTo.at 1 rfl).1 2 (hTo.at 1 rfl).2 5 (by decide)).trans hk_12
  have hk_39 : rd f_25 tok 3 = .int zz := (hfr_27.1 tok (hTo.at 2 rfl).1 6 (hTo.at 2 rfl).2 3 (by decide)).trans hk_13
  have hk_40 : rd f_25 q_1 1 = .int 0 := (hfr_27.1 q_1 (hTo.at 0 rfl).1 5 (hTo.at 0 rfl).2 1 (by decide)).trans hk_14
  have hk_41 : rd f_25 q_1 2 = .int 0 := (hfr_27.1 q_1 (hTo.at 0 rfl).1 5 (hTo.at 0 rfl).2 2 (by decide)).trans hk_15
  have hk_42 : rd f_25 q_1 3 = .int 0 := (hfr_27.1 q_1 (hTo.at 0 rfl).1 5 (hTo.at 0 rfl).2 3 (by decide)).trans hk_16
  have hk_43 : rd f_25 q_1 4 = .int 0 := (hfr_27.1 q_1 (hTo.at 0 rfl).1 5 (hTo.at 0 rfl).2 4 (by decide)).trans hk_17
  have htv_44 : rd f_25 q_1 5 = .null := (hfr_27.1 q_1 (hTo.at 0 rfl).1 5 (hTo.at 0 rfl).2 5 (by decide)).trans htv_18
  have htv_45 : rd f_25 q_1 6 = .null := (hfr_27.1 q_1 (hTo.at 0 rfl).1 5 (hTo.at 0 rfl).2 6 (by decide)).trans htv_19
  have htv_46 : rd f_25 q_1 7 = .null := (hfr_27.1 q_1 (hTo.at 0 rfl).1 5 (hTo.at 0 rfl).2 7 (by decide)).trans htv_20
  refine W.eq (g2 := F0 m 11 ls [.ref q_1]) rfl ?_
  refine lv_astore_n (lv' := [(2, .ref q_1), (0, .ref h0), (1, .int dep)]) hx hb dX2_readStep_11 rfl hl (by decide) rfl (fun ls hl => ?_)
  have hw0 : wd_28 = tn := hrel_30
  refine lv_aload_n hx hb dX2_readStep_12 rfl (lv_at hl 1 rfl) ?_
  refine T_get (ci := 2) (C := RX2) (T := TX2) (N := 6) (t := tI) hx hb hts inw_X2_readStep_2 hown hK hP hT 1 rfl rfl 5 (by decide) (hts (.fieldLink RX2 31 "VatHouse$Reader" "steps" "I") (List.mem_of_getElem? (i := 5) (by exact rfl))) (fun _ h9 => h9) rfl dX2_readStep_13 (fun v_49 hv_47 hr_48 => ?_)
  obtain rfl : v_49 = .int sg := hr_48.symm.trans hk_38
  refine lv_sipush (v := 300) hx hb dX2_readStep_16 (by decide) ?_
  refine lv_icmp_lt (tgt := 29) hx hb dX2_readStep_19 (by decide) (fun c_50 => ?_) (fun c_50 => ?_)
  · refine lv_aload_n hx hb dX2_readStep_29 rfl (lv_at hl 1 rfl) ?_
    refine lv_dup hx hb dX2_readStep_30 rfl ?_
    refine T_get (ci := 2) (C := RX2) (T := TX2) (N := 6) (t := tI) hx hb hts inw_X2_readStep_2 hown hK hP hT 1 rfl rfl 5 (by decide) (hts (.fieldLink RX2 31 "VatHouse$Reader" "steps" "I") (List.mem_of_getElem? (i := 5) (by exact rfl))) (fun _ h9 => h9) rfl dX2_readStep_31 (fun v_53 hv_51 hr_52 => ?_)
    obtain rfl : v_53 = .int sg := hr_52.symm.trans hk_38
    refine lv_iconst (v := 1) hx hb dX2_readStep_34 (by decide) ?_
    refine lv_iadd hx hb dX2_readStep_35 ?_
    refine lv_topi (fun z_54 ez_54 => ?_)
    have hTo := hT
    refine T_put (ci := 2) (v := .int z_54) (ty := .int) (t := tI) (C := RX2) (T := TX2) (N := 6) hx hb hts inw_X2_readStep_2 tyX2 tyX2_ok nmX2 hown hK hP hD hS hT 1 rfl rfl 5 (by decide) (hts (.fieldLink RX2 31 "VatHouse$Reader" "steps" "I") (List.mem_of_getElem? (i := 5) (by exact rfl))) (fun _ h9 => h9) rfl (tyX2_ok 5 (by decide)) rfl rfl rfl ⟨_, rfl⟩ dX2_readStep_36 (fun f_55 H locs hP hD hS hT hE1 hrd_56 hup_57 => ?_)
    have hO5 := OF.putN (a := h0) (cj := 2) hO5 hE ((hE1 h0 (hT.at 1 rfl).1).2.symm.trans (hT.at 1 rfl).2) (by decide) hrd_56
    have hF := Fr.put (a := h0) (ci := 2) hF hE ((hE1 h0 (hT.at 1 rfl).1).2.symm.trans (hT.at 1 rfl).2) (by decide) hrd_56 hup_57
    have hE := hE.tr hE1
    have hk_58 : rd f_55 h0 1 = .int ax := ((Fr.put (cs := [(2, 5)]) (a := h0) (ci := 2) Fr.rf Ext.rf (hTo.at 1 rfl).2 (by decide) hrd_56 hup_57).1 h0 (hTo.at 1 rfl).1 2 (hTo.at 1 rfl).2 1 (by decide)).trans hk_34
    have hk_59 : rd f_55 h0 2 = .int tn := ((Fr.put (cs := [(2, 5)]) (a := h0) (ci := 2) Fr.rf Ext.rf (hTo.at 1 rfl).2 (by decide) hrd_56 hup_57).1 h0 (hTo.at 1 rfl).1 2 (hTo.at 1 rfl).2 2 (by decide)).trans hk_35
    have hk_60 : rd f_55 h0 3 = .int fa := ((Fr.put (cs := [(2, 5)]) (a := h0) (ci := 2) Fr.rf Ext.rf (hTo.at 1 rfl).2 (by decide) hrd_56 hup_57).1 h0 (hTo.at 1 rfl).1 2 (hTo.at 1 rfl).2 3 (by decide)).trans hk_36
    have hk_61 : rd f_55 h0 4 = .int pw := ((Fr.put (cs := [(2, 5)]) (a := h0) (ci := 2) Fr.rf Ext.rf (hTo.at 1 rfl).2 (by decide) hrd_56 hup_57).1 h0 (hTo.at 1 rfl).1 2 (hTo.at 1 rfl).2 4 (by decide)).trans hk_37
    have hk_62 : rd f_55 h0 5 = .int z_54 := (hrd_56 h0 5).trans (if_pos ⟨rfl, rfl⟩)
    have hk_63 : rd f_55 tok 3 = .int zz := ((Fr.put (cs := [(2, 5)]) (a := h0) (ci := 2) Fr.rf Ext.rf (hTo.at 1 rfl).2 (by decide) hrd_56 hup_57).1 tok (hTo.at 2 rfl).1 6 (hTo.at 2 rfl).2 3 (by decide)).trans hk_39
    have hk_64 : rd f_55 q_1 1 = .int 0 := ((Fr.put (cs := [(2, 5)]) (a := h0) (ci := 2) Fr.rf Ext.rf (hTo.at 1 rfl).2 (by decide) hrd_56 hup_57).1 q_1 (hTo.at 0 rfl).1 5 (hTo.at 0 rfl).2 1 (by decide)).trans hk_40
    have hk_65 : rd f_55 q_1 2 = .int 0 := ((Fr.put (cs := [(2, 5)]) (a := h0) (ci := 2) Fr.rf Ext.rf (hTo.at 1 rfl).2 (by decide) hrd_56 hup_57).1 q_1 (hTo.at 0 rfl).1 5 (hTo.at 0 rfl).2 2 (by decide)).trans hk_41
    have hk_66 : rd f_55 q_1 3 = .int 0 := ((Fr.put (cs := [(2, 5)]) (a := h0) (ci := 2) Fr.rf Ext.rf (hTo.at 1 rfl).2 (by decide) hrd_56 hup_57).1 q_1 (hTo.at 0 rfl).1 5 (hTo.at 0 rfl).2 3 (by decide)).trans hk_42
    have hk_67 : rd f_55 q_1 4 = .int 0 := ((Fr.put (cs := [(2, 5)]) (a := h0) (ci := 2) Fr.rf Ext.rf (hTo.at 1 rfl).2 (by decide) hrd_56 hup_57).1 q_1 (hTo.at 0 rfl).1 5 (hTo.at 0 rfl).2 4 (by decide)).trans hk_43
    have hk_68 : rd f_55 q_1 0 = .int wd_28 := ((Fr.put (cs := [(2, 5)]) (a := h0) (ci := 2) Fr.rf Ext.rf (hTo.at 1 rfl).2 (by decide) hrd_56 hup_57).1 q_1 (hTo.at 0 rfl).1 5 (hTo.at 0 rfl).2 0 (by decide)).trans hk_29
    have htv_69 : rd f_55 q_1 5 = .null := ((hrd_56 q_1 5).trans (if_neg (fun h9 => ne_sh (hT.at 0 rfl).2 (hT.at 1 rfl).2 (by intro h8; cases h8) h9.1))).trans htv_44
    have htv_70 : rd f_55 q_1 6 = .null := ((hrd_56 q_1 6).trans (if_neg (fun h9 => absurd h9.2 (by decide)))).trans htv_45
    have htv_71 : rd f_55 q_1 7 = .null := ((hrd_56 q_1 7).trans (if_neg (fun h9 => absurd h9.2 (by decide)))).trans htv_46
    obtain ⟨hinc, hz3⟩ := pot_inc hf0 c_50 ez_54
    obtain ⟨hng, h300⟩ := n299 hnd c_50 ez_54
    refine lv_aload_n hx hb dX2_readStep_39 rfl (lv_at hl 1 rfl) ?_
    refine lv_aload_n hx hb dX2_readStep_40 rfl (lv_at hl 0 rfl) ?_
    refine T_get (ci := 5) (C := RX5) (T := TX5) (N := 8) (t := tI) hx hb hts inw_X2_readStep_5 hown hK hP hT 0 rfl rfl 0 (by decide) (hts (.fieldLink RX2 61 "VatHouse$Step" "word" "I") (List.mem_of_getElem? (i := 6) (by exact rfl))) (fun _ h9 => h9) rfl dX2_readStep_41 (fun v_74 hv_72 hr_73 => ?_)
    obtain rfl : v_74 = .int wd_28 := hr_73.symm.trans hk_68
    have hTo := hT
    refine K_V ⟨hx, hb, hml, hown, hts⟩ (t_X2_pass l dC dI sa hlt g _ _ tt ln M q h0 wd_28 tok ka sta vaa ax tn fa pw zz _ (hT.sub [1, 2, 3, 4, 5] rfl)  hk_58 hk_59 hk_60 hk_61 hk_63 ((hF.1 h0 (hT0.at 0 rfl).1 2 (hT0.at 0 rfl).2 0 (by decide)).trans h_tok) ((hF.1 tok (hT0.at 1 rfl).1 6 (hT0.at 1 rfl).2 4 (by decide)).trans h_ka) ((hF.1 tok (hT0.at 1 rfl).1 6 (hT0.at 1 rfl).2 5 (by decide)).trans h_sta) ((hF.1 tok (hT0.at 1 rfl).1 6 (hT0.at 1 rfl).2 6 (by decide)).trans h_vaa) hzz (hTK.go (hF.2 ka (hT0.at 2 rfl).1 0 _ _ (hT0.at 2 rfl).2 (by decide)) (hF.2 sta (hT0.at 3 rfl).1 0 _ _ (hT0.at 3 rfl).2 (by decide)) (hF.2 vaa (hT0.at 4 rfl).1 0 _ _ (hT0.at 4 rfl).2 (by decide))) hRQ (Or.inl (by rw [hw0]; intro h9; exact htn.1 (h9 ▸ (by decide : (0 : Int32) < 1))))) (cwV 1 hts gX2_readStep_X2_pass rfl rfl rfl (by decide +kernel) ⟨(by first | exact Nat.le_of_ble_eq_true rfl | (simp only [rm_X2_pass, rm_X2_readStepT]; omega)), (by first | exact Nat.le_of_ble_eq_true rfl | (simp only [rm_X2_pass, rm_X2_readStepT]; omega))⟩) hP hD hK hS hA hev hT 1 2 rfl rfl rfl rfl hl.1 rfl (Nat.le_of_ble_eq_true rfl) dX2_readStep_44 ⟨(by first | exact Nat.le_of_ble_eq_true rfl | (simp only [rm_X2_readStepT]; omega) | omega), (by first | exact Nat.le_of_ble_eq_true rfl | (simp only [rm_X2_readStepT]; omega) | omega)⟩ (fun r L_75 f_76 H locs hw_77 hP hD hS hT hE1 => ?_)
    have hEo := hE
    have hO5 := hO5.call hE (OF.fr hw_77.2.1 (by decide)) (by simp)
    have hF := Fr.call hF hE hw_77.2.1 (by decide)
    have hE := hE.tr hE1
    obtain ⟨rfl, hw_77⟩ := hw_77
    obtain ⟨hfr_78, ax_79, tn_80, fa_81, pw_82, hk_83, hk_84, hk_85, hk_86, hrel_87, hrel_88, hrel_89, hrel_90, hex_91⟩ := hw_77
    have hk_92 : rd f_76 h0 5 = .int z_54 := (hfr_78.1 h0 (hTo.at 1 rfl).1 2 (hTo.at 1 rfl).2 5 (by decide)).trans hk_62
    have hk_93 : rd f_76 tok 3 = .int zz := (hfr_78.1 tok (hTo.at 2 rfl).1 6 (hTo.at 2 rfl).2 3 (by decide)).trans hk_63
    have hk_94 : rd f_76 q_1 1 = .int 0 := (hfr_78.1 q_1 (hTo.at 0 rfl).1 5 (hTo.at 0 rfl).2 1 (by decide)).trans hk_64
    have hk_95 : rd f_76 q_1 2 = .int 0 := (hfr_78.1 q_1 (hTo.at 0 rfl).1 5 (hTo.at 0 rfl).2 2 (by decide)).trans hk_65
    have hk_96 : rd f_76 q_1 3 = .int 0 := (hfr_78.1 q_1 (hTo.at 0 rfl).1 5 (hTo.at 0 rfl).2 3 (by decide)).trans hk_66
    have hk_97 : rd f_76 q_1 4 = .int 0 := (hfr_78.1 q_1 (hTo.at 0 rfl).1 5 (hTo.at 0 rfl).2 4 (by decide)).trans hk_67
    have hk_98 : rd f_76 q_1 0 = .int wd_28 := (hfr_78.1 q_1 (hTo.at 0 rfl).1 5 (hTo.at 0 rfl).2 0 (by decide)).trans hk_68
    have htv_99 : rd f_76 q_1 5 = .null := (hfr_78.1 q_1 (hTo.at 0 rfl).1 5 (hTo.at 0 rfl).2 5 (by decide)).trans htv_69
    have htv_100 : rd f_76 q_1 6 = .null := (hfr_78.1 q_1 (hTo.at 0 rfl).1 5 (hTo.at 0 rfl).2 6 (by decide)).trans htv_70
    have htv_101 : rd f_76 q_1 7 = .null := (hfr_78.1 q_1 (hTo.at 0 rfl).1 5 (hTo.at 0 rfl).2 7 (by decide)).trans htv_71
    have hq_102 : pot fa_81 z_54 ≤ pot fa z_54 := pot_le (fun h9 => (hrel_89 h9).1)
    have hrq_103 := hex_91
    refine W.eq (g2 := F0 m 47 ls []) rfl ?_
    have hrq_104 := hRQ.gad hf0 hw0 hrq_103
    refine lv_aload_n hx hb dX2_readStep_47 rfl (lv_at hl 0 rfl) ?_
    refine T_get (ci := 5) (C := RX5) (T := TX5) (N := 8) (t := tI) hx hb hts inw_X2_readStep_5 hown hK hP hT 0 rfl rfl 0 (by decide) (hts (.fieldLink RX2 61 "VatHouse$Step" "word" "I") (List.mem_of_getElem? (i := 6) (by exact rfl))) (fun _ h9 => h9) rfl dX2_readStep_48 (fun v_107 hv_105 hr_106 => ?_)
    obtain rfl : v_107 = .int wd_28 := hr_106.symm.trans hk_98
    refine lv_bipush (v := 8) hx hb dX2_readStep_51 (by decide) ?_
    refine lv_icmp_ge (tgt := 70) hx hb dX2_readStep_53 (by decide) (fun c_108 => ?_) (fun c_108 => ?_)
    · refine lv_aload_n hx hb dX2_readStep_70 rfl (lv_at hl 1 rfl) ?_
      refine lv_aload_n hx hb dX2_readStep_71 rfl (lv_at hl 0 rfl) ?_
      refine lv_iload_n hx hb dX2_readStep_72 rfl (lv_at hl 2 rfl) ?_
      have hmq_109 := (hT.at 0 rfl).1
      have hEc_110 := hE
      have hTo := hT
      refine K_VZ ⟨hx, hb, hml, hown, hts⟩ (t_X2_readBuiltT l dC dI sa hlt g _ _ j d (pot fa_81 z_54) tt ln M (gad (nq tt ln) q) (tnew T q.2.1 q.1) (adn ad q.2.1 q_1) q.2.1 h0 q_1 dep tok ka sta vaa ax_79 tn_80 fa_81 pw_82 z_54 zz wd_28 0 0 0 0 _ (hT.sub [1, 0, 2, 3, 4, 5] rfl)  hk_83 hk_84 hk_85 hk_86 hk_92 hk_93 hk_98 hk_94 hk_95 hk_96 hk_97 ((hF.1 h0 (hT0.at 0 rfl).1 2 (hT0.at 0 rfl).2 0 (by decide)).trans h_tok) ((hF.1 tok (hT0.at 1 rfl).1 6 (hT0.at 1 rfl).2 4 (by decide)).trans h_ka) ((hF.1 tok (hT0.at 1 rfl).1 6 (hT0.at 1 rfl).2 5 (by decide)).trans h_sta) ((hF.1 tok (hT0.at 1 rfl).1 6 (hT0.at 1 rfl).2 6 (by decide)).trans h_vaa) hd hdj rfl hz3 hzz (hTK.go (hF.2 ka (hT0.at 2 rfl).1 0 _ _ (hT0.at 2 rfl).2 (by decide)) (hF.2 sta (hT0.at 3 rfl).1 0 _ _ (hT0.at 3 rfl).2 (by decide)) (hF.2 vaa (hT0.at 4 rfl).1 0 _ _ (hT0.at 4 rfl).2 (by decide))) hrq_104 (by first | exact hng | (simp only [gpa_nd, gnu_nd, gpl_nd, gte_nd, gob_nd, grf_nd]; exact hng)) rfl (tnew_at.trans (if_neg (by decide))) htv_100 IHR) (cwV 2 hts gX2_readStep_X2_readBuilt rfl rfl rfl (by decide +kernel) ⟨(by first | exact Nat.le_of_ble_eq_true rfl | (simp only [rm_X2_readBuiltT, rm_X2_readStepT]; omega)), (by first | exact Nat.le_of_ble_eq_true rfl | (simp only [rm_X2_readBuiltT, rm_X2_readStepT]; omega))⟩) hP hD hK hS hA hev hT 1 2 rfl rfl rfl rfl hl.1 rfl (Nat.le_of_ble_eq_true rfl) dX2_readStep_73 ⟨(by first | exact Nat.le_of_ble_eq_true rfl | (simp only [rm_X2_readStepT]; omega) | omega), (by first | exact Nat.le_of_ble_eq_true rfl | (simp only [rm_X2_readStepT]; omega) | omega)⟩ (fun r L_111 f_112 n_114 H locs hw_113 hn_115 hP hD hS hT hE1 => ?_)
      have hEo := hE
      have hF := Fr.call hF hE hw_113.2.1 (by decide)
      have hE := hE.tr hE1
      obtain ⟨rfl, hw_113⟩ := hw_113
      obtain ⟨hfr_116, ax_117, tn_118, fa_119, pw_120, sg_121, vt_122, nu_123, lo_124, be_125, hk_126, hk_127, hk_128, hk_129, hk_130, hk_131, hk_132, hk_133, hk_134, hrel_135, hrel_136, hrel_137, hrel_138, hrel_139, hrel_140, hrel_141, hrel_142, hrel_143, hex_144⟩ := hw_113
      obtain ⟨hof_145, hex_146⟩ := hex_144
      have hO5 := hO5.callF hEo hof_145 (fun a9 h9 => Or.inr (by rw [List.mem_singleton.mp h9]; exact hq_4))
      have hk_147 : rd f_112 tok 3 = .int zz := (hfr_116.1 tok (hTo.at 2 rfl).1 6 (hTo.at 2 rfl).2 3 (by decide)).trans hk_93
      have hk_148 : rd f_112 q_1 0 = .int wd_28 := (hfr_116.1 q_1 (hTo.at 0 rfl).1 5 (hTo.at 0 rfl).2 0 (by decide)).trans hk_98
      have hq_149 : n_114 + pot fa_119 sg_121 ≤ pot fa_81 z_54 := by
        obtain ⟨a9, b9, g1, g2, g3⟩ := hn_115
        cases g1.symm.trans hk_128
        cases g2.symm.trans hk_130
        exact g3
      have hE9 := hE1
      obtain ⟨h7_160, qn_150, Tn_151, an_152, hev_153, hrq_154, hsg_155, hpk_156⟩ := hex_146
      have hO9__161 := hof_145
      have hE9__162 := hE9
      refine W.eq (g2 := F0 m 76 ls []) rfl ?_
      refine lv_aload_n hx hb dX2_readStep_76 rfl (lv_at hl 0 rfl) ?_
      exact K_aZ hx hb hr (Or.inl ⟨_, rfl⟩) (Or.inr ⟨_, rfl⟩) hlocks hP hD hK hS hT hE ⟨⟨_, rfl, _, rfl, hT.at 0 rfl⟩, hF, _, _, _, _, _, hk_126, hk_127, hk_128, hk_129, hk_130, trivial, trivial, trivial, trivial, hrel_139, hO5, ⟨qn_150, Tn_151, an_152, Ev.built h300 (by rw [← hRQ.K, ← hw0]; exact nlt_of_le c_108) (by rw [← hRQ.K, ← hw0]; exact hev_153), hrq_154, (by first | exact hsg_155 | (simp only [gpa_nd, gnu_nd, gpl_nd, gte_nd, gob_nd, grf_nd]; exact hsg_155)), fun h9 => ⟨_, rfl, by obtain ⟨g1, g2, g3⟩ := hpk_156 h9; rw [hw0, hRQ.K] at g1 g2 g3; exact PB.built h300 (by rw [← hRQ.K, ← hw0]; exact nlt_of_le c_108) hq_4 hmq_109 (fun b9 hb9 => (hEc_110 b9 hb9).1) (hT.at 0 rfl) (by rw [hk_148, hw0, hRQ.K]) hk_131 hk_132 hk_133 hk_134 g2 g3 (h7_160.trans htv_101) g1⟩⟩⟩ (⟨_, _, hk_128, hk_130, by omega⟩) (by first | exact Nat.le_of_ble_eq_true rfl | (simp only [rm_X2_readStepT]; omega) | omega) (by first | exact Nat.le_of_ble_eq_true rfl | (simp only [rm_X2_readStepT]; omega) | omega) (by first | exact Nat.le_of_ble_eq_true rfl | (simp only [rm_X2_readStepT]; omega) | omega) dX2_readStep_77
    · refine lv_aload_n hx hb dX2_readStep_56 rfl (lv_at hl 1 rfl) ?_
      refine lv_aload_n hx hb dX2_readStep_57 rfl (lv_at hl 0 rfl) ?_
      have hTo := hT
      refine K_V ⟨hx, hb, hml, hown, hts⟩ (t_X2_readPlainT l dC dI sa hlt g _ _ tt ln M (gad (nq tt ln) q) h0 q_1 tok ka sta vaa ax_79 tn_80 fa_81 pw_82 wd_28 zz 0 0 _ (hT.sub [1, 0, 2, 3, 4, 5] rfl)  hk_83 hk_84 hk_85 hk_86 hk_98 hk_93 hk_94 hk_95 ((hF.1 h0 (hT0.at 0 rfl).1 2 (hT0.at 0 rfl).2 0 (by decide)).trans h_tok) ((hF.1 tok (hT0.at 1 rfl).1 6 (hT0.at 1 rfl).2 4 (by decide)).trans h_ka) ((hF.1 tok (hT0.at 1 rfl).1 6 (hT0.at 1 rfl).2 5 (by decide)).trans h_sta) ((hF.1 tok (hT0.at 1 rfl).1 6 (hT0.at 1 rfl).2 6 (by decide)).trans h_vaa) hzz (hTK.go (hF.2 ka (hT0.at 2 rfl).1 0 _ _ (hT0.at 2 rfl).2 (by decide)) (hF.2 sta (hT0.at 3 rfl).1 0 _ _ (hT0.at 3 rfl).2 (by decide)) (hF.2 vaa (hT0.at 4 rfl).1 0 _ _ (hT0.at 4 rfl).2 (by decide))) hrq_104) (cwV 1 hts gX2_readStep_X2_readPlain rfl rfl rfl (by decide +kernel) ⟨(by first | exact Nat.le_of_ble_eq_true rfl | (simp only [rm_X2_readPlainT, rm_X2_readStepT]; omega)), (by first | exact Nat.le_of_ble_eq_true rfl | (simp only [rm_X2_readPlainT, rm_X2_readStepT]; omega))⟩) hP hD hK hS hA hev hT 1 2 rfl rfl rfl rfl hl.1 rfl (Nat.le_of_ble_eq_true rfl) dX2_readStep_58 ⟨(by first | exact Nat.le_of_ble_eq_true rfl | (simp only [rm_X2_readStepT]; omega) | omega), (by first | exact Nat.le_of_ble_eq_true rfl | (simp only [rm_X2_readStepT]; omega) | omega)⟩ (fun r L_163 f_164 H locs hw_165 hP hD hS hT hE1 => ?_)
      have hEo := hE
      have hF := Fr.call hF hE hw_165.2.1 (by decide)
      have hE := hE.tr hE1
      obtain ⟨rfl, hw_165⟩ := hw_165
      obtain ⟨hfr_166, ax_167, tn_168, fa_169, pw_170, vt_171, nu_172, hk_173, hk_174, hk_175, hk_176, hk_177, hk_178, hrel_179, hrel_180, hrel_181, hrel_182, hrel_183, hrel_184, hex_185⟩ := hw_165
      obtain ⟨hof_186, hex_187⟩ := hex_185
      have hO5 := hO5.callF hEo hof_186 (fun a9 h9 => Or.inr (by rw [List.mem_singleton.mp h9]; exact hq_4))
      have hk_188 : rd f_164 h0 5 = .int z_54 := (hfr_166.1 h0 (hTo.at 1 rfl).1 2 (hTo.at 1 rfl).2 5 (by decide)).trans hk_92
      have hk_189 : rd f_164 tok 3 = .int zz := (hfr_166.1 tok (hTo.at 2 rfl).1 6 (hTo.at 2 rfl).2 3 (by decide)).trans hk_93
      have hk_190 : rd f_164 q_1 3 = .int 0 := (hfr_166.1 q_1 (hTo.at 0 rfl).1 5 (hTo.at 0 rfl).2 3 (by decide)).trans hk_96
      have hk_191 : rd f_164 q_1 4 = .int 0 := (hfr_166.1 q_1 (hTo.at 0 rfl).1 5 (hTo.at 0 rfl).2 4 (by decide)).trans hk_97
      have hk_192 : rd f_164 q_1 0 = .int wd_28 := (hfr_166.1 q_1 (hTo.at 0 rfl).1 5 (hTo.at 0 rfl).2 0 (by decide)).trans hk_98
      have htv_193 : rd f_164 q_1 5 = .null := (hfr_166.1 q_1 (hTo.at 0 rfl).1 5 (hTo.at 0 rfl).2 5 (by decide)).trans htv_99
      have htv_194 : rd f_164 q_1 6 = .null := (hfr_166.1 q_1 (hTo.at 0 rfl).1 5 (hTo.at 0 rfl).2 6 (by decide)).trans htv_100
      have htv_195 : rd f_164 q_1 7 = .null := (hfr_166.1 q_1 (hTo.at 0 rfl).1 5 (hTo.at 0 rfl).2 7 (by decide)).trans htv_101
      have hq_196 : pot fa_169 z_54 ≤ pot fa_81 z_54 := pot_le (fun h9 => (hrel_181 h9))
      have hrq_197 := hex_187.1
      refine W.eq (g2 := F0 m 61 ls []) rfl ?_
      refine lv_aload_n hx hb dX2_readStep_61 rfl (lv_at hl 1 rfl) ?_
      refine lv_bipush (v := 59) hx hb dX2_readStep_62 (by decide) ?_
      have hTo := hT
      refine K_V ⟨hx, hb, hml, hown, hts⟩ (t_X2_pass l dC dI sa hlt g _ _ tt ln M (gpl (Kp tt ln) (Vp tt ln) (nq tt ln) wd_28 (gad (nq tt ln) q)) h0 59 tok ka sta vaa ax_167 tn_168 fa_169 pw_170 zz _ (hT.sub [1, 2, 3, 4, 5] rfl)  hk_173 hk_174 hk_175 hk_176 hk_189 ((hF.1 h0 (hT0.at 0 rfl).1 2 (hT0.at 0 rfl).2 0 (by decide)).trans h_tok) ((hF.1 tok (hT0.at 1 rfl).1 6 (hT0.at 1 rfl).2 4 (by decide)).trans h_ka) ((hF.1 tok (hT0.at 1 rfl).1 6 (hT0.at 1 rfl).2 5 (by decide)).trans h_sta) ((hF.1 tok (hT0.at 1 rfl).1 6 (hT0.at 1 rfl).2 6 (by decide)).trans h_vaa) hzz (hTK.go (hF.2 ka (hT0.at 2 rfl).1 0 _ _ (hT0.at 2 rfl).2 (by decide)) (hF.2 sta (hT0.at 3 rfl).1 0 _ _ (hT0.at 3 rfl).2 (by decide)) (hF.2 vaa (hT0.at 4 rfl).1 0 _ _ (hT0.at 4 rfl).2 (by decide))) hrq_197 (Or.inl (by decide))) (cwV 1 hts gX2_readStep_X2_pass rfl rfl rfl (by decide +kernel) ⟨(by first | exact Nat.le_of_ble_eq_true rfl | (simp only [rm_X2_pass, rm_X2_readStepT]; omega)), (by first | exact Nat.le_of_ble_eq_true rfl | (simp only [rm_X2_pass, rm_X2_readStepT]; omega))⟩) hP hD hK hS hA hev hT 1 2 rfl rfl rfl rfl hl.1 rfl (Nat.le_of_ble_eq_true rfl) dX2_readStep_64 ⟨(by first | exact Nat.le_of_ble_eq_true rfl | (simp only [rm_X2_readStepT]; omega) | omega), (by first | exact Nat.le_of_ble_eq_true rfl | (simp only [rm_X2_readStepT]; omega) | omega)⟩ (fun r L_198 f_199 H locs hw_200 hP hD hS hT hE1 => ?_)
      have hEo := hE
      have hO5 := hO5.call hE (OF.fr hw_200.2.1 (by decide)) (by simp)
      have hF := Fr.call hF hE hw_200.2.1 (by decide)
      have hE := hE.tr hE1
      obtain ⟨rfl, hw_200⟩ := hw_200
      obtain ⟨hfr_201, ax_202, tn_203, fa_204, pw_205, hk_206, hk_207, hk_208, hk_209, hrel_210, hrel_211, hrel_212, hrel_213, hex_214⟩ := hw_200
      have hk_215 : rd f_199 h0 5 = .int z_54 := (hfr_201.1 h0 (hTo.at 1 rfl).1 2 (hTo.at 1 rfl).2 5 (by decide)).trans hk_188
      have hk_216 : rd f_199 tok 3 = .int zz := (hfr_201.1 tok (hTo.at 2 rfl).1 6 (hTo.at 2 rfl).2 3 (by decide)).trans hk_189
      have hk_217 : rd f_199 q_1 1 = .int vt_171 := (hfr_201.1 q_1 (hTo.at 0 rfl).1 5 (hTo.at 0 rfl).2 1 (by decide)).trans hk_177
      have hk_218 : rd f_199 q_1 2 = .int nu_172 := (hfr_201.1 q_1 (hTo.at 0 rfl).1 5 (hTo.at 0 rfl).2 2 (by decide)).trans hk_178
      have hk_219 : rd f_199 q_1 3 = .int 0 := (hfr_201.1 q_1 (hTo.at 0 rfl).1 5 (hTo.at 0 rfl).2 3 (by decide)).trans hk_190
      have hk_220 : rd f_199 q_1 4 = .int 0 := (hfr_201.1 q_1 (hTo.at 0 rfl).1 5 (hTo.at 0 rfl).2 4 (by decide)).trans hk_191
      have hk_221 : rd f_199 q_1 0 = .int wd_28 := (hfr_201.1 q_1 (hTo.at 0 rfl).1 5 (hTo.at 0 rfl).2 0 (by decide)).trans hk_192
      have htv_222 : rd f_199 q_1 5 = .null := (hfr_201.1 q_1 (hTo.at 0 rfl).1 5 (hTo.at 0 rfl).2 5 (by decide)).trans htv_193
      have htv_223 : rd f_199 q_1 6 = .null := (hfr_201.1 q_1 (hTo.at 0 rfl).1 5 (hTo.at 0 rfl).2 6 (by decide)).trans htv_194
      have htv_224 : rd f_199 q_1 7 = .null := (hfr_201.1 q_1 (hTo.at 0 rfl).1 5 (hTo.at 0 rfl).2 7 (by decide)).trans htv_195
      have hq_225 : pot fa_204 z_54 ≤ pot fa_169 z_54 := pot_le (fun h9 => (hrel_212 h9).1)
      have hrq_226 := hex_214
      refine W.eq (g2 := F0 m 67 ls []) rfl ?_
      refine lv_goto (tgt := 76) hx hb dX2_readStep_67 (by decide) ?_
      refine lv_aload_n hx hb dX2_readStep_76 rfl (lv_at hl 0 rfl) ?_
      exact K_aZ hx hb hr (Or.inl ⟨_, rfl⟩) (Or.inr ⟨_, rfl⟩) hlocks hP hD hK hS hT hE ⟨⟨_, rfl, _, rfl, hT.at 0 rfl⟩, hF, _, _, _, _, _, hk_206, hk_207, hk_208, hk_209, hk_215, trivial, trivial, trivial, trivial, hz3, hO5, ⟨(gpa (Kp tt ln) (nq tt ln) 59 (gpl (Kp tt ln) (Vp tt ln) (nq tt ln) wd_28 (gad (nq tt ln) q))), (tnew T q.2.1 q.1), (adn ad q.2.1 q_1), (by rw [hw0, hRQ.K]; exact Ev.plain h300 (by rw [← hRQ.K, ← hw0]; exact nle_lt c_108)), hrq_226, (by first | exact hng | (simp only [gpa_nd, gnu_nd, gpl_nd, gte_nd, gob_nd, grf_nd]; exact hng)), fun h9 => ⟨_, rfl, by rw [hw0, hRQ.K] at h9 ⊢; exact PB.plain h300 (by rw [← hRQ.K, ← hw0]; exact nle_lt c_108) hq_4 (hT.at 0 rfl) (by rw [hk_221, hw0, hRQ.K]) hk_217 hk_218 hk_219 hk_220 (by have h8 := hex_187.2; rw [hw0, hRQ.K] at h8; exact h8) htv_222 htv_223 htv_224 h9⟩⟩⟩ (⟨_, _, hk_208, hk_215, by omega⟩) (by first | exact Nat.le_of_ble_eq_true rfl | (simp only [rm_X2_readStepT]; omega) | omega) (by first | exact Nat.le_of_ble_eq_true rfl | (simp only [rm_X2_readStepT]; omega) | omega) (by first | exact Nat.le_of_ble_eq_true rfl | (simp only [rm_X2_readStepT]; omega) | omega) dX2_readStep_77
  · refine lv_aload_n hx hb dX2_readStep_22 rfl (lv_at hl 1 rfl) ?_
    refine lv_iconst (v := 2) hx hb dX2_readStep_23 (by decide) ?_
    have hTo := hT
    refine K_V ⟨hx, hb, hml, hown, hts⟩ (t_X2_refuse l dC dI sa hlt g _ _ tt ln M q h0 2 tok ka sta vaa ax tn fa pw _ (hT.sub [1, 2, 3, 4, 5] rfl)  hk_34 hk_35 hk_36 hk_37 ((hF.1 h0 (hT0.at 0 rfl).1 2 (hT0.at 0 rfl).2 0 (by decide)).trans h_tok) ((hF.1 tok (hT0.at 1 rfl).1 6 (hT0.at 1 rfl).2 4 (by decide)).trans h_ka) ((hF.1 tok (hT0.at 1 rfl).1 6 (hT0.at 1 rfl).2 5 (by decide)).trans h_sta) ((hF.1 tok (hT0.at 1 rfl).1 6 (hT0.at 1 rfl).2 6 (by decide)).trans h_vaa) (by decide) (hTK.go (hF.2 ka (hT0.at 2 rfl).1 0 _ _ (hT0.at 2 rfl).2 (by decide)) (hF.2 sta (hT0.at 3 rfl).1 0 _ _ (hT0.at 3 rfl).2 (by decide)) (hF.2 vaa (hT0.at 4 rfl).1 0 _ _ (hT0.at 4 rfl).2 (by decide))) hRQ) (cwV 1 hts gX2_readStep_X2_refuse rfl rfl rfl (by decide +kernel) ⟨(by first | exact Nat.le_of_ble_eq_true rfl | (simp only [rm_X2_refuse, rm_X2_readStepT]; omega)), (by first | exact Nat.le_of_ble_eq_true rfl | (simp only [rm_X2_refuse, rm_X2_readStepT]; omega))⟩) hP hD hK hS hA hev hT 1 2 rfl rfl rfl rfl hl.1 rfl (Nat.le_of_ble_eq_true rfl) dX2_readStep_24 ⟨(by first | exact Nat.le_of_ble_eq_true rfl | (simp only [rm_X2_readStepT]; omega) | omega), (by first | exact Nat.le_of_ble_eq_true rfl | (simp only [rm_X2_readStepT]; omega) | omega)⟩ (fun r L_227 f_228 H locs hw_229 hP hD hS hT hE1 => ?_)
    have hEo := hE
    have hO5 := hO5.call hE (OF.fr hw_229.2.1 (by decide)) (by simp)
    have hF := Fr.call hF hE hw_229.2.1 (by decide)
    have hE := hE.tr hE1
    obtain ⟨rfl, hw_229⟩ := hw_229
    obtain ⟨hfr_230, fa_231, pw_232, hk_233, hk_234, hrel_235, hrel_236, hex_237⟩ := hw_229
    have hk_238 : rd f_228 h0 1 = .int ax := (hfr_230.1 h0 (hTo.at 1 rfl).1 2 (hTo.at 1 rfl).2 1 (by decide)).trans hk_34
    have hk_239 : rd f_228 h0 2 = .int tn := (hfr_230.1 h0 (hTo.at 1 rfl).1 2 (hTo.at 1 rfl).2 2 (by decide)).trans hk_35
    have hk_240 : rd f_228 h0 5 = .int sg := (hfr_230.1 h0 (hTo.at 1 rfl).1 2 (hTo.at 1 rfl).2 5 (by decide)).trans hk_38
    have hk_241 : rd f_228 tok 3 = .int zz := (hfr_230.1 tok (hTo.at 2 rfl).1 6 (hTo.at 2 rfl).2 3 (by decide)).trans hk_39
    have hk_242 : rd f_228 q_1 1 = .int 0 := (hfr_230.1 q_1 (hTo.at 0 rfl).1 5 (hTo.at 0 rfl).2 1 (by decide)).trans hk_40
    have hk_243 : rd f_228 q_1 2 = .int 0 := (hfr_230.1 q_1 (hTo.at 0 rfl).1 5 (hTo.at 0 rfl).2 2 (by decide)).trans hk_41
    have hk_244 : rd f_228 q_1 3 = .int 0 := (hfr_230.1 q_1 (hTo.at 0 rfl).1 5 (hTo.at 0 rfl).2 3 (by decide)).trans hk_42
    have hk_245 : rd f_228 q_1 4 = .int 0 := (hfr_230.1 q_1 (hTo.at 0 rfl).1 5 (hTo.at 0 rfl).2 4 (by decide)).trans hk_43
    have hk_246 : rd f_228 q_1 0 = .int wd_28 := (hfr_230.1 q_1 (hTo.at 0 rfl).1 5 (hTo.at 0 rfl).2 0 (by decide)).trans hk_29
    have htv_247 : rd f_228 q_1 5 = .null := (hfr_230.1 q_1 (hTo.at 0 rfl).1 5 (hTo.at 0 rfl).2 5 (by decide)).trans htv_44
    have htv_248 : rd f_228 q_1 6 = .null := (hfr_230.1 q_1 (hTo.at 0 rfl).1 5 (hTo.at 0 rfl).2 6 (by decide)).trans htv_45
    have htv_249 : rd f_228 q_1 7 = .null := (hfr_230.1 q_1 (hTo.at 0 rfl).1 5 (hTo.at 0 rfl).2 7 (by decide)).trans htv_46
    have hq_250 := pot_ne sg hrel_235
    have hrq_251 := hex_237
    refine W.eq (g2 := F0 m 27 ls []) rfl ?_
    refine lv_aload_n hx hb dX2_readStep_27 rfl (lv_at hl 0 rfl) ?_
    exact K_aZ hx hb hr (Or.inl ⟨_, rfl⟩) (Or.inr ⟨_, rfl⟩) hlocks hP hD hK hS hT hE ⟨⟨_, rfl, _, rfl, hT.at 0 rfl⟩, hF, _, _, _, _, _, hk_238, hk_239, hk_233, hk_234, hk_240, trivial, trivial, trivial, trivial, hs3, hO5, ⟨(grf 2 q), T, ad, Ev.full (n300 hnd c_50), hrq_251, (by first | exact hnd | (simp only [gpa_nd, gnu_nd, gpl_nd, gte_nd, gob_nd, grf_nd]; exact hnd)), fun h9 => (grf_ok (by decide) h9).elim⟩⟩ (⟨_, _, hk_233, hk_240, by omega⟩) (by first | exact Nat.le_of_ble_eq_true rfl | (simp only [rm_X2_readStepT]; omega) | omega) (by first | exact Nat.le_of_ble_eq_true rfl | (simp only [rm_X2_readStepT]; omega) | omega) (by first | exact Nat.le_of_ble_eq_true rfl | (simp only [rm_X2_readStepT]; omega) | omega) dX2_readStep_28

set_option maxHeartbeats 3000000 in
set_option maxRecDepth 100000 in
theorem t_X2_readStepsT (l : Launch) (dC : Nat → ClassId) (dI : Nat → Nat → Nat) (sa : Nat → Nat) (hlt : l.stackTraces = false) (g : Nat → Nat) (L : List Nat) (f : Nat → va_E) (j : Nat) (d : Nat) (P : Nat) (tt : Nat → Int32) (ln : Nat) (M : Nat) (q : SG) (T : TT) (ad : Nat → Nat) (h0 : Nat) (dep : Int32) (tok : Nat) (ka : Nat) (sta : Nat) (vaa : Nat) (ax : Int32) (tn : Int32) (fa : Int32) (pw : Int32) (sg : Int32) (zz : Int32) (sz : Nat) (hT : TP g L f [(h0, (0, 2, 0)), (tok, (0, 6, 0)), (ka, (1, g 0, 1501)), (sta, (1, g 5, 1501)), (vaa, (1, g 6, 1501))]) (hm_ax : rd f h0 1 = .int ax) (hm_tn : rd f h0 2 = .int tn) (hm_fa : rd f h0 3 = .int fa) (hm_pw : rd f h0 4 = .int pw) (hm_sg : rd f h0 5 = .int sg) (hm_zz : rd f tok 3 = .int zz) (h_tok : rd f h0 0 = .ref tok) (h_ka : rd f tok 4 = .ref ka) (h_sta : rd f tok 5 = .ref sta) (h_vaa : rd f tok 6 = .ref vaa) (hd : dep = nI d) (hdj : d + j = 8) (hP0 : pot fa sg = P) (hs3 : sg.toInt ≤ 300) (hzz : zz = nI (M + 1)) (hTK : TKS f ka sta vaa tt ln M) (hRQ : RQ tt ln M q ax tn fa pw) (hnd : sg = nI q.2.1 ∧ q.2.1 ≤ 300) (IHR : ∀ j' d' : Nat, d' + j' = 8 → j = j' + 1 → ∀ (L : List Nat) (f : Nat → va_E) (P : Nat) (tt : Nat → Int32) (ln : Nat) (M : Nat) (q : SG) (T : TT) (ad : Nat → Nat) (h0 : Nat) (dep : Int32) (tok : Nat) (ka : Nat) (sta : Nat) (vaa : Nat) (ax : Int32) (tn : Int32) (fa : Int32) (pw : Int32) (sg : Int32) (zz : Int32) (sz : Nat) (hT : TP g L f [(h0, (0, 2, 0)), (tok, (0, 6, 0)), (ka, (1, g 0, 1501)), (sta, (1, g 5, 1501)), (vaa, (1, g 6, 1501))]) (hm_ax : rd f h0 1 = .int ax) (hm_tn : rd f h0 2 = .int tn) (hm_fa : rd f h0 3 = .int fa) (hm_pw : rd f h0 4 = .int pw) (hm_sg : rd f h0 5 = .int sg) (hm_zz : rd f tok 3 = .int zz) (h_tok : rd f h0 0 = .ref tok) (h_ka : rd f tok 4 = .ref ka) (h_sta : rd f tok 5 = .ref sta) (h_vaa : rd f tok 6 = .ref vaa) (hd : dep = nI d') (hP0 : pot fa sg = P) (hs3 : sg.toInt ≤ 300) (hzz : zz = nI (M + 1)) (hTK : TKS f ka sta vaa tt ln M) (hRQ : RQ tt ln M q ax tn fa pw) (hnd : sg = nI q.2.1 ∧ q.2.1 ≤ 300), KZ l dC dI sa g yX2_readSteps wsX2_readSteps (rm_X2_readStepsT j' d' P tt ln M q T ad) [.ref h0, .int dep] L f sz (fun r L' f' => (∃ v : Value, r = some v ∧ okv L' f' (2, 0, 5, 0) v) ∧ Fr [(2, 1), (2, 2), (2, 3), (2, 4), (5, 1), (5, 2), (5, 3), (5, 4), (5, 5), (5, 6), (5, 7), (2, 5)] L f f' ∧ (∃ ax' : Int32, ∃ tn' : Int32, ∃ fa' : Int32, ∃ pw' : Int32, ∃ sg' : Int32, rd f' h0 1 = .int ax' ∧ rd f' h0 2 = .int tn' ∧ rd f' h0 3 = .int fa' ∧ rd f' h0 4 = .int pw' ∧ rd f' h0 5 = .int sg' ∧ (True) ∧ (True) ∧ (True) ∧ (True) ∧ (sg'.toInt ≤ 300) ∧ (OF 5 [] L f f' ∧ (∃ (qn : SG) (T' : TT) (ad' : Nat → Nat), (Ev (Kp tt ln) (Vp tt ln) (nq tt ln) 0 d' q qn) ∧ RQ tt ln M qn ax' tn' fa' pw' ∧ (sg' = nI qn.2.1 ∧ qn.2.1 ≤ 300) ∧ (qn.2.2.1 = 0 → ∃ v9 : Value, r = some v9 ∧ PB (Kp tt ln) (Vp tt ln) (nq tt ln) 0 d' q qn T T' ad ad' L L' f' v9))))) (fun n f' => ∃ a b : Int32, rd f' h0 3 = .int a ∧ rd f' h0 5 = .int b ∧ n + pot a b ≤ P) P (8 * P)) : KZ l dC dI sa g yX2_readSteps wsX2_readSteps (rm_X2_readStepsT j d P tt ln M q T ad) [.ref h0, .int dep] L f sz (fun r L' f' => (∃ v : Value, r = some v ∧ okv L' f' (2, 0, 5, 0) v) ∧ Fr [(2, 1), (2, 2), (2, 3), (2, 4), (5, 1), (5, 2), (5, 3), (5, 4), (5, 5), (5, 6), (5, 7), (2, 5)] L f f' ∧ (∃ ax' : Int32, ∃ tn' : Int32, ∃ fa' : Int32, ∃ pw' : Int32, ∃ sg' : Int32, rd f' h0 1 = .int ax' ∧ rd f' h0 2 = .int tn' ∧ rd f' h0 3 = .int fa' ∧ rd f' h0 4 = .int pw' ∧ rd f' h0 5 = .int sg' ∧ (True) ∧ (True) ∧ (True) ∧ (True) ∧ (sg'.toInt ≤ 300) ∧ (OF 5 [] L f f' ∧ (∃ (qn : SG) (T' : TT) (ad' : Nat → Nat), (Ev (Kp tt ln) (Vp tt ln) (nq tt ln) 0 d q qn) ∧ RQ tt ln M qn ax' tn' fa' pw' ∧ (sg' = nI qn.2.1 ∧ qn.2.1 ≤ 300) ∧ (qn.2.2.1 = 0 → ∃ v9 : Value, r = some v9 ∧ PB (Kp tt ln) (Vp tt ln) (nq tt ln) 0 d q qn T T' ad ad' L L' f' v9))))) (fun n f' => ∃ a b : Int32, rd f' h0 3 = .int a ∧ rd f' h0 5 = .int b ∧ n + pot a b ≤ P) P (8 * P) := by
  refine KZ.start (cc := cX2_readSteps) (maxL := 6) (ret := (some (.object "VatHouse$Step"))) (by decide) rfl (Nat.le_of_ble_eq_true rfl) ?_
  intro p e s m below meth c ls hst hP hK hD hev hS hl
  obtain ⟨hx, hb, hr, hml, hts, hown, hlocks, hin⟩ := hst
  have hown : s.vm.findClass RX2 = some m.cls := hown
  have hin : meth.name = yX2_readSteps.name := hin
  have hA : ∀ q : Nat, s.heap.size ≤ q → va_A (va_pl L f) s.heap.size q := fun _ h => Or.inr h
  have hE : Ext L f L f := Ext.rf
  have hF : Fr [(2, 1), (2, 2), (2, 3), (2, 4), (5, 1), (5, 2), (5, 3), (5, 4), (5, 5), (5, 6), (5, 7), (2, 5)] L f f := Fr.rf
  have hO5 : OF 5 [] L f f := OF.rf
  have hl : lv_has ls 6 [(0, .ref h0), (1, .int dep)] := hl
  have hT0 := hT
  refine lv_null hx hb dX2_readSteps_0 ?_
  refine lv_astore_nN (lv' := [(2, .null), (0, .ref h0), (1, .int dep)]) hx hb dX2_readSteps_1 rfl hl (by decide) rfl (fun ls hl => ?_)
  refine lv_null hx hb dX2_readSteps_2 ?_
  refine lv_astore_nN (lv' := [(3, .null), (2, .null), (0, .ref h0), (1, .int dep)]) hx hb dX2_readSteps_3 rfl hl (by decide) rfl (fun ls hl => ?_)
  refine lv_iconst (v := 0) hx hb dX2_readSteps_4 (by decide) ?_
  refine lv_istore (lv' := [(4, .int 0), (3, .null), (2, .null), (0, .ref h0), (1, .int dep)]) hx hb dX2_readSteps_5 hl (by decide) rfl (fun ls hl => ?_)
  have lp : ∀ (n : Nat) (fi : Value) (la : Value) (ii : Int32) (k1 : Int32) (k2 : Int32) (k3 : Int32) (k4 : Int32) (k5 : Int32) (kc : Nat) (L1 : List Nat) (f1 : Nat → va_E) (H : Heap) (locs : List Loc) (ls : Array Slot), (∃ a : Nat, ii = nI a ∧ a ≤ 300 + 1 ∧ 300 + 1 < a + n) → okv L1 f1 (2, 0, 5, 0) fi → okv L1 f1 (2, 0, 5, 0) la → rd f1 h0 1 = .int k1 → rd f1 h0 2 = .int k2 → rd f1 h0 3 = .int k3 → rd f1 h0 4 = .int k4 → rd f1 h0 5 = .int k5 → rd f1 tok 3 = .int zz → (kc + pot k3 k5 ≤ P) → (k5.toInt ≤ 300) → (∃ (q1 : SG) (T1 : TT) (ad1 : Nat → Nat) (la1 : Nat), RQ tt ln M q1 k1 k2 k3 k4 ∧ (k5 = nI q1.2.1 ∧ q1.2.1 ≤ 300) ∧ (∀ r9 : SG, Ev (Kp tt ln) (Vp tt ln) (nq tt ln) 0 d q1 r9 → Ev (Kp tt ln) (Vp tt ln) (nq tt ln) 0 d q r9) ∧ (k3 = 0 → ∃ a : Nat, ii = nI a ∧ a ≤ q1.2.1 ∧ a ≤ 301) ∧ (k3 = 0 → LPk (Kp tt ln) (Vp tt ln) (nq tt ln) d q q1 T T1 ad ad1 la1 L L1 f1 fi la)) → (OF 5 [] L f f1) → va_P (dC, dI) vwCl (va_pl L1 f1) H → va_D (va_A (va_pl L f) s.heap.size) (va_pl L1 f1) → va_S (va_A (va_pl L f) s.heap.size) s.heap H locs → TP g L1 f1 [(h0, (0, 2, 0)), (tok, (0, 6, 0)), (ka, (1, g 0, 1501)), (sta, (1, g 5, 1501)), (vaa, (1, g 6, 1501))] → Ext L f L1 f1 → Fr [(2, 1), (2, 2), (2, 3), (2, 4), (5, 1), (5, 2), (5, 3), (5, 4), (5, 5), (5, 6), (5, 7), (2, 5)] L f f1 → lv_has ls 6 [(2, fi), (3, la), (4, .int ii), (0, .ref h0), (1, .int dep)] → W p l e (rm_X2_readStepsT j d P tt ln M q T ad) s m [.ref h0, .int dep].toArray below meth c H locs kc (8 * kc) (MQ below (Qz dC dI g L f (va_A (va_pl L f) s.heap.size) (fun r L' f' => (∃ v : Value, r = some v ∧ okv L' f' (2, 0, 5, 0) v) ∧ Fr [(2, 1), (2, 2), (2, 3), (2, 4), (5, 1), (5, 2), (5, 3), (5, 4), (5, 5), (5, 6), (5, 7), (2, 5)] L f f' ∧ (∃ ax' : Int32, ∃ tn' : Int32, ∃ fa' : Int32, ∃ pw' : Int32, ∃ sg' : Int32, rd f' h0 1 = .int ax' ∧ rd f' h0 2 = .int tn' ∧ rd f' h0 3 = .int fa' ∧ rd f' h0 4 = .int pw' ∧ rd f' h0 5 = .int sg' ∧ (True) ∧ (True) ∧ (True) ∧ (True) ∧ (sg'.toInt ≤ 300) ∧ (OF 5 [] L f f' ∧ (∃ (qn : SG) (T' : TT) (ad' : Nat → Nat), (Ev (Kp tt ln) (Vp tt ln) (nq tt ln) 0 d q qn) ∧ RQ tt ln M qn ax' tn' fa' pw' ∧ (sg' = nI qn.2.1 ∧ qn.2.1 ≤ 300) ∧ (qn.2.2.1 = 0 → ∃ v9 : Value, r = some v9 ∧ PB (Kp tt ln) (Vp tt ln) (nq tt ln) 0 d q qn T T' ad ad' L L' f' v9))))) (fun n f' => ∃ a b : Int32, rd f' h0 3 = .int a ∧ rd f' h0 5 = .int b ∧ n + pot a b ≤ P)) [.ref h0, .int dep].toArray s (P) (8 * P) (va_A (va_pl L f) s.heap.size)) (F0 m 7 ls []) := by
    intro n
    induction n with
    | zero => intro fi la ii k1 k2 k3 k4 k5 kc L1 f1 H locs ls hm hn_fi hn_la hk_h0_1 hk_h0_2 hk_h0_3 hk_h0_4 hk_h0_5 hk_tok_3 hkc hk5 hR hO5 hP hD hS hT hE hF hl; exact absurd hm (by rintro ⟨a, -, h1, h2⟩; omega)
    | succ n ih =>
      intro fi la ii k1 k2 k3 k4 k5 kc L1 f1 H locs ls hm hn_fi hn_la hk_h0_1 hk_h0_2 hk_h0_3 hk_h0_4 hk_h0_5 hk_tok_3 hkc hk5 hR hO5 hP hD hS hT hE hF hl
      rcases hn_fi with rfl | ⟨b_1, rfl, hb9⟩
      · rcases hn_la with rfl | ⟨b_2, rfl, hb9⟩
        · have hl : lv_has ls 6 [(2, .null), (3, .null), (4, .int ii), (0, .ref h0), (1, .int dep)] := hl
          refine lv_iload hx hb dX2_readSteps_7 (lv_at hl 2 rfl) ?_
          obtain ⟨q1, T1, ad1, la1, hrq1, hnd1, hall, hcnt, hlp⟩ := hR
          refine lv_sipush (v := 300) hx hb dX2_readSteps_9 (by decide) ?_
          refine lv_icmp_gt (tgt := 71) hx hb dX2_readSteps_12 (by decide) (fun c_3 => ?_) (fun c_3 => ?_)
          · refine lv_aload_nN hx hb dX2_readSteps_71 rfl (lv_at hl 0 rfl) ?_
            exact K_aZ hx hb hr (Or.inl ⟨_, rfl⟩) (Or.inl rfl) hlocks hP hD hK hS hT hE ⟨⟨_, rfl, Or.inl rfl⟩, hF, _, _, _, _, _, hk_h0_1, hk_h0_2, hk_h0_3, hk_h0_4, hk_h0_5, trivial, trivial, trivial, trivial, hk5, hO5, ⟨q1, T1, ad1, hall _ (Ev.stop (fun h8 => ss_301 hnd1.2 hcnt (hrq1.F.trans h8.1) c_3)), hrq1, (by first | exact hnd1 | (simp only [gpa_nd, gnu_nd, gpl_nd, gte_nd, gob_nd, grf_nd]; exact hnd1)), fun h9 => ⟨_, rfl, (hlp (hrq1.F.trans h9)).e (fun h8 => ss_301 hnd1.2 hcnt (hrq1.F.trans h8.1) c_3)⟩⟩⟩ (⟨_, _, hk_h0_3, hk_h0_5, by omega⟩) (by first | exact Nat.le_of_ble_eq_true rfl | (simp only [rm_X2_readStepsT]; omega) | omega) (by first | exact Nat.le_of_ble_eq_true rfl | (simp only [rm_X2_readStepsT]; omega) | omega) (by first | exact Nat.le_of_ble_eq_true rfl | (simp only [rm_X2_readStepsT]; omega) | omega) dX2_readSteps_72
          · refine lv_aload_n hx hb dX2_readSteps_15 rfl (lv_at hl 3 rfl) ?_
            refine T_get (ci := 2) (C := RX2) (T := TX2) (N := 6) (t := tI) hx hb hts inw_X2_readSteps_2 hown hK hP hT 0 rfl rfl 3 (by decide) (hts (.fieldLink RX2 28 "VatHouse$Reader" "fault" "I") (List.mem_of_getElem? (i := 1) (by exact rfl))) (fun _ h9 => h9) rfl dX2_readSteps_16 (fun v_6 hv_4 hr_5 => ?_)
            obtain rfl : v_6 = .int k3 := hr_5.symm.trans hk_h0_3
            refine lv_if_ne (tgt := 71) hx hb dX2_readSteps_19 (by decide) (fun c_7 => ?_) (fun c_7 => ?_)
            · refine lv_aload_nN hx hb dX2_readSteps_71 rfl (lv_at hl 0 rfl) ?_
              exact K_aZ hx hb hr (Or.inl ⟨_, rfl⟩) (Or.inl rfl) hlocks hP hD hK hS hT hE ⟨⟨_, rfl, Or.inl rfl⟩, hF, _, _, _, _, _, hk_h0_1, hk_h0_2, hk_h0_3, hk_h0_4, hk_h0_5, trivial, trivial, trivial, trivial, hk5, hO5, ⟨q1, T1, ad1, hall _ (Ev.stop (fun h8 => c_7 (hrq1.F.trans h8.1))), hrq1, (by first | exact hnd1 | (simp only [gpa_nd, gnu_nd, gpl_nd, gte_nd, gob_nd, grf_nd]; exact hnd1)), fun h9 => ⟨_, rfl, (hlp (hrq1.F.trans h9)).e (fun h8 => c_7 (hrq1.F.trans h8.1))⟩⟩⟩ (⟨_, _, hk_h0_3, hk_h0_5, by omega⟩) (by first | exact Nat.le_of_ble_eq_true rfl | (simp only [rm_X2_readStepsT]; omega) | omega) (by first | exact Nat.le_of_ble_eq_true rfl | (simp only [rm_X2_readStepsT]; omega) | omega) (by first | exact Nat.le_of_ble_eq_true rfl | (simp only [rm_X2_readStepsT]; omega) | omega) dX2_readSteps_72
            · refine lv_aload_n hx hb dX2_readSteps_22 rfl (lv_at hl 3 rfl) ?_
              refine T_get (ci := 2) (C := RX2) (T := TX2) (N := 6) (t := tI) hx hb hts inw_X2_readSteps_2 hown hK hP hT 0 rfl rfl 2 (by decide) (hts (.fieldLink RX2 44 "VatHouse$Reader" "token" "I") (List.mem_of_getElem? (i := 2) (by exact rfl))) (fun _ h9 => h9) rfl dX2_readSteps_23 (fun v_10 hv_8 hr_9 => ?_)
              obtain rfl : v_10 = .int k2 := hr_9.symm.trans hk_h0_2
              refine lv_iconst (v := 1) hx hb dX2_readSteps_26 (by decide) ?_
              refine lv_icmp_lt (tgt := 71) hx hb dX2_readSteps_27 (by decide) (fun c_11 => ?_) (fun c_11 => ?_)
              · refine lv_aload_nN hx hb dX2_readSteps_71 rfl (lv_at hl 0 rfl) ?_
                exact K_aZ hx hb hr (Or.inl ⟨_, rfl⟩) (Or.inl rfl) hlocks hP hD hK hS hT hE ⟨⟨_, rfl, Or.inl rfl⟩, hF, _, _, _, _, _, hk_h0_1, hk_h0_2, hk_h0_3, hk_h0_4, hk_h0_5, trivial, trivial, trivial, trivial, hk5, hO5, ⟨q1, T1, ad1, hall _ (Ev.stop (fun h8 => nlt_of_le h8.2.1 (by rw [← hrq1.K]; exact c_11))), hrq1, (by first | exact hnd1 | (simp only [gpa_nd, gnu_nd, gpl_nd, gte_nd, gob_nd, grf_nd]; exact hnd1)), fun h9 => ⟨_, rfl, (hlp (hrq1.F.trans h9)).e (fun h8 => nlt_of_le h8.2.1 (by rw [← hrq1.K]; exact c_11))⟩⟩⟩ (⟨_, _, hk_h0_3, hk_h0_5, by omega⟩) (by first | exact Nat.le_of_ble_eq_true rfl | (simp only [rm_X2_readStepsT]; omega) | omega) (by first | exact Nat.le_of_ble_eq_true rfl | (simp only [rm_X2_readStepsT]; omega) | omega) (by first | exact Nat.le_of_ble_eq_true rfl | (simp only [rm_X2_readStepsT]; omega) | omega) dX2_readSteps_72
              · refine lv_aload_n hx hb dX2_readSteps_30 rfl (lv_at hl 3 rfl) ?_
                refine T_get (ci := 2) (C := RX2) (T := TX2) (N := 6) (t := tI) hx hb hts inw_X2_readSteps_2 hown hK hP hT 0 rfl rfl 2 (by decide) (hts (.fieldLink RX2 44 "VatHouse$Reader" "token" "I") (List.mem_of_getElem? (i := 2) (by exact rfl))) (fun _ h9 => h9) rfl dX2_readSteps_31 (fun v_14 hv_12 hr_13 => ?_)
                obtain rfl : v_14 = .int k2 := hr_13.symm.trans hk_h0_2
                refine lv_bipush (v := 12) hx hb dX2_readSteps_34 (by decide) ?_
                refine lv_icmp_gt (tgt := 71) hx hb dX2_readSteps_36 (by decide) (fun c_15 => ?_) (fun c_15 => ?_)
                · refine lv_aload_nN hx hb dX2_readSteps_71 rfl (lv_at hl 0 rfl) ?_
                  exact K_aZ hx hb hr (Or.inl ⟨_, rfl⟩) (Or.inl rfl) hlocks hP hD hK hS hT hE ⟨⟨_, rfl, Or.inl rfl⟩, hF, _, _, _, _, _, hk_h0_1, hk_h0_2, hk_h0_3, hk_h0_4, hk_h0_5, trivial, trivial, trivial, trivial, hk5, hO5, ⟨q1, T1, ad1, hall _ (Ev.stop (fun h8 => nlt_of_le h8.2.2 (by rw [← hrq1.K]; exact c_15))), hrq1, (by first | exact hnd1 | (simp only [gpa_nd, gnu_nd, gpl_nd, gte_nd, gob_nd, grf_nd]; exact hnd1)), fun h9 => ⟨_, rfl, (hlp (hrq1.F.trans h9)).e (fun h8 => nlt_of_le h8.2.2 (by rw [← hrq1.K]; exact c_15))⟩⟩⟩ (⟨_, _, hk_h0_3, hk_h0_5, by omega⟩) (by first | exact Nat.le_of_ble_eq_true rfl | (simp only [rm_X2_readStepsT]; omega) | omega) (by first | exact Nat.le_of_ble_eq_true rfl | (simp only [rm_X2_readStepsT]; omega) | omega) (by first | exact Nat.le_of_ble_eq_true rfl | (simp only [rm_X2_readStepsT]; omega) | omega) dX2_readSteps_72
                · refine lv_aload_n hx hb dX2_readSteps_39 rfl (lv_at hl 3 rfl) ?_
                  refine lv_iload_n hx hb dX2_readSteps_40 rfl (lv_at hl 4 rfl) ?_
                  have hEc_16 := hE
                  have hTo := hT
                  refine K_VZ ⟨hx, hb, hml, hown, hts⟩ (t_X2_readStepT l dC dI sa hlt g _ _ j d (pot k3 k5) tt ln M q1 T1 ad1 h0 dep tok ka sta vaa k1 k2 k3 k4 k5 zz _ (hT.sub [0, 1, 2, 3, 4] rfl)  hk_h0_1 hk_h0_2 hk_h0_3 hk_h0_4 hk_h0_5 hk_tok_3 ((hF.1 h0 (hT0.at 0 rfl).1 2 (hT0.at 0 rfl).2 0 (by decide)).trans h_tok) ((hF.1 tok (hT0.at 1 rfl).1 6 (hT0.at 1 rfl).2 4 (by decide)).trans h_ka) ((hF.1 tok (hT0.at 1 rfl).1 6 (hT0.at 1 rfl).2 5 (by decide)).trans h_sta) ((hF.1 tok (hT0.at 1 rfl).1 6 (hT0.at 1 rfl).2 6 (by decide)).trans h_vaa) hd hdj rfl hk5 hzz (hTK.go (hF.2 ka (hT0.at 2 rfl).1 0 _ _ (hT0.at 2 rfl).2 (by decide)) (hF.2 sta (hT0.at 3 rfl).1 0 _ _ (hT0.at 3 rfl).2 (by decide)) (hF.2 vaa (hT0.at 4 rfl).1 0 _ _ (hT0.at 4 rfl).2 (by decide))) hrq1 (by first | exact hnd1 | (simp only [gpa_nd, gnu_nd, gpl_nd, gte_nd, gob_nd, grf_nd]; exact hnd1)) IHR c_7 ⟨c_11, c_15⟩) (cwV 1 hts gX2_readSteps_X2_readStep rfl rfl rfl (by decide +kernel) ⟨(by first | exact Nat.le_of_ble_eq_true rfl | (simp only [rm_X2_readStepT, rm_X2_readStepsT]; omega)), (by first | exact Nat.le_of_ble_eq_true rfl | (simp only [rm_X2_readStepT, rm_X2_readStepsT]; omega))⟩) hP hD hK hS hA hev hT 0 2 rfl rfl rfl rfl hl.1 rfl (Nat.le_of_ble_eq_true rfl) dX2_readSteps_41 ⟨(by first | exact Nat.le_of_ble_eq_true rfl | (simp only [rm_X2_readStepsT]; omega) | omega), (by first | exact Nat.le_of_ble_eq_true rfl | (simp only [rm_X2_readStepsT]; omega) | omega)⟩ (fun r L_17 f_18 n_20 H locs hw_19 hn_21 hP hD hS hT hE1 => ?_)
                  have hEo := hE
                  have hF := Fr.call hF hE hw_19.2.1 (by decide)
                  have hE := hE.tr hE1
                  obtain ⟨⟨v_22, rfl, hv9⟩, hw_19⟩ := hw_19
                  obtain ⟨b_23, rfl, hb9⟩ := hv9
                  have hT := hT.add hb9
                  obtain ⟨hfr_24, ax_25, tn_26, fa_27, pw_28, sg_29, hk_30, hk_31, hk_32, hk_33, hk_34, hrel_35, hrel_36, hrel_37, hrel_38, hrel_39, hex_40⟩ := hw_19
                  obtain ⟨hof_41, hex_42⟩ := hex_40
                  have hO5 := hO5.call hEo hof_41 (by simp)
                  have hk_43 : rd f_18 tok 3 = .int zz := (hfr_24.1 tok (hTo.at 1 rfl).1 6 (hTo.at 1 rfl).2 3 (by decide)).trans hk_tok_3
                  have hq_44 : n_20 + pot fa_27 sg_29 ≤ pot k3 k5 := by
                    obtain ⟨a9, b9, g1, g2, g3⟩ := hn_21
                    cases g1.symm.trans hk_32
                    cases g2.symm.trans hk_34
                    exact g3
                  have hE9 := hE1
                  obtain ⟨qn_45, Tn_46, an_47, hev_48, hrq_49, hsg_50, hpk_51⟩ := hex_42
                  have hpk_52 : qn_45.2.2.1 = 0 → PB (Kp tt ln) (Vp tt ln) (nq tt ln) 1 d q1 qn_45 T1 Tn_46 ad1 an_47 L1 L_17 f_18 (.ref b_23) := fun h9 => by
                    obtain ⟨v9, e9, g9⟩ := hpk_51 h9
                    cases e9
                    exact g9
                  have hO9__53 := hof_41
                  have hE9__54 := hE9
                  refine W.eq (g2 := F0 m 44 ls [.ref b_23]) rfl ?_
                  refine lv_astore (lv' := [(5, .ref b_23), (2, .null), (3, .null), (4, .int ii), (0, .ref h0), (1, .int dep)]) hx hb dX2_readSteps_44 hl (by decide) rfl (fun ls hl => ?_)
                  refine lv_aload_nN hx hb dX2_readSteps_46 rfl (lv_at hl 2 rfl) ?_
                  refine lv_ifnonnullN hx hb dX2_readSteps_47 ?_
                  refine lv_aload hx hb dX2_readSteps_50 (lv_at hl 0 rfl) ?_
                  refine lv_astore_n (lv' := [(2, .ref b_23), (5, .ref b_23), (3, .null), (4, .int ii), (0, .ref h0), (1, .int dep)]) hx hb dX2_readSteps_52 rfl hl (by decide) rfl (fun ls hl => ?_)
                  refine lv_goto (tgt := 62) hx hb dX2_readSteps_53 (by decide) ?_
                  refine lv_aload hx hb dX2_readSteps_62 (lv_at hl 1 rfl) ?_
                  refine lv_astore_n (lv' := [(3, .ref b_23), (2, .ref b_23), (5, .ref b_23), (4, .int ii), (0, .ref h0), (1, .int dep)]) hx hb dX2_readSteps_64 rfl hl (by decide) rfl (fun ls hl => ?_)
                  refine lv_iinc (v := (ii + 1)) (lv' := [(4, .int (ii + 1)), (3, .ref b_23), (2, .ref b_23), (5, .ref b_23), (0, .ref h0), (1, .int dep)]) hx hb dX2_readSteps_65 hl (k := 3) rfl rfl (by decide) rfl (fun ls hl => ?_)
                  refine lv_goto (tgt := 7) hx hb dX2_readSteps_68 (by decide) ?_
                  exact W.widen (by first | exact Nat.le_of_ble_eq_true rfl | (simp only [rm_X2_readStepsT]; omega) | omega) (by first | exact Nat.le_of_ble_eq_true rfl | (simp only [rm_X2_readStepsT]; omega) | omega) (ih (.ref b_23) (.ref b_23) (ii + 1) ax_25 tn_26 fa_27 pw_28 sg_29 (kc + n_20) _ _ _ _ _ (up_le (by decide) hm c_3) (Or.inr ⟨_, rfl, hT.at 0 rfl⟩) (Or.inr ⟨_, rfl, hT.at 0 rfl⟩) hk_30 hk_31 hk_32 hk_33 hk_34 hk_43 (by omega) (hrel_39) (⟨qn_45, tnx Tn_46 la1 q1.2.1, an_47, q1.2.1 + 1, hrq_49, hsg_50, fun r9 h9 => hall r9 (Ev.go ⟨hrq1.F.symm.trans c_7, tn_rg hrq1.K c_11 c_15⟩ hev_48 h9), fun h9 => ss_cnt hev_48 c_7 hnd1.2 hcnt (hrq_49.F.symm.trans h9), fun h9 => (hlp c_7).nx0 (hpk_52 (hrq_49.F.symm.trans h9)) (hrq_49.F.symm.trans h9) ⟨hrq1.F.symm.trans c_7, tn_rg hrq1.K c_11 c_15⟩ (fun b9 hb9 => (hEc_16 b9 hb9).1) hE9__54 hO9__53⟩) (hO5) hP hD hS (hT.sub [1, 2, 3, 4, 5] rfl) hE hF (lv_sub hl [2, 1, 0, 4, 5] rfl))
        · have hT := hT.add hb9
          have hl : lv_has ls 6 [(2, .null), (3, .ref b_2), (4, .int ii), (0, .ref h0), (1, .int dep)] := hl
          refine lv_iload hx hb dX2_readSteps_7 (lv_at hl 2 rfl) ?_
          obtain ⟨q1, T1, ad1, la1, hrq1, hnd1, hall, hcnt, hlp⟩ := hR
          refine lv_sipush (v := 300) hx hb dX2_readSteps_9 (by decide) ?_
          refine lv_icmp_gt (tgt := 71) hx hb dX2_readSteps_12 (by decide) (fun c_55 => ?_) (fun c_55 => ?_)
          · refine lv_aload_nN hx hb dX2_readSteps_71 rfl (lv_at hl 0 rfl) ?_
            exact K_aZ hx hb hr (Or.inl ⟨_, rfl⟩) (Or.inl rfl) hlocks hP hD hK hS hT hE ⟨⟨_, rfl, Or.inl rfl⟩, hF, _, _, _, _, _, hk_h0_1, hk_h0_2, hk_h0_3, hk_h0_4, hk_h0_5, trivial, trivial, trivial, trivial, hk5, hO5, ⟨q1, T1, ad1, hall _ (Ev.stop (fun h8 => ss_301 hnd1.2 hcnt (hrq1.F.trans h8.1) c_55)), hrq1, (by first | exact hnd1 | (simp only [gpa_nd, gnu_nd, gpl_nd, gte_nd, gob_nd, grf_nd]; exact hnd1)), fun h9 => ⟨_, rfl, (hlp (hrq1.F.trans h9)).e (fun h8 => ss_301 hnd1.2 hcnt (hrq1.F.trans h8.1) c_55)⟩⟩⟩ (⟨_, _, hk_h0_3, hk_h0_5, by omega⟩) (by first | exact Nat.le_of_ble_eq_true rfl | (simp only [rm_X2_readStepsT]; omega) | omega) (by first | exact Nat.le_of_ble_eq_true rfl | (simp only [rm_X2_readStepsT]; omega) | omega) (by first | exact Nat.le_of_ble_eq_true rfl | (simp only [rm_X2_readStepsT]; omega) | omega) dX2_readSteps_72
          · refine lv_aload_n hx hb dX2_readSteps_15 rfl (lv_at hl 3 rfl) ?_
            refine T_get (ci := 2) (C := RX2) (T := TX2) (N := 6) (t := tI) hx hb hts inw_X2_readSteps_2 hown hK hP hT 1 rfl rfl 3 (by decide) (hts (.fieldLink RX2 28 "VatHouse$Reader" "fault" "I") (List.mem_of_getElem? (i := 1) (by exact rfl))) (fun _ h9 => h9) rfl dX2_readSteps_16 (fun v_58 hv_56 hr_57 => ?_)
            obtain rfl : v_58 = .int k3 := hr_57.symm.trans hk_h0_3
            refine lv_if_ne (tgt := 71) hx hb dX2_readSteps_19 (by decide) (fun c_59 => ?_) (fun c_59 => ?_)
            · refine lv_aload_nN hx hb dX2_readSteps_71 rfl (lv_at hl 0 rfl) ?_
              exact K_aZ hx hb hr (Or.inl ⟨_, rfl⟩) (Or.inl rfl) hlocks hP hD hK hS hT hE ⟨⟨_, rfl, Or.inl rfl⟩, hF, _, _, _, _, _, hk_h0_1, hk_h0_2, hk_h0_3, hk_h0_4, hk_h0_5, trivial, trivial, trivial, trivial, hk5, hO5, ⟨q1, T1, ad1, hall _ (Ev.stop (fun h8 => c_59 (hrq1.F.trans h8.1))), hrq1, (by first | exact hnd1 | (simp only [gpa_nd, gnu_nd, gpl_nd, gte_nd, gob_nd, grf_nd]; exact hnd1)), fun h9 => ⟨_, rfl, (hlp (hrq1.F.trans h9)).e (fun h8 => c_59 (hrq1.F.trans h8.1))⟩⟩⟩ (⟨_, _, hk_h0_3, hk_h0_5, by omega⟩) (by first | exact Nat.le_of_ble_eq_true rfl | (simp only [rm_X2_readStepsT]; omega) | omega) (by first | exact Nat.le_of_ble_eq_true rfl | (simp only [rm_X2_readStepsT]; omega) | omega) (by first | exact Nat.le_of_ble_eq_true rfl | (simp only [rm_X2_readStepsT]; omega) | omega) dX2_readSteps_72
            · refine lv_aload_n hx hb dX2_readSteps_22 rfl (lv_at hl 3 rfl) ?_
              refine T_get (ci := 2) (C := RX2) (T := TX2) (N := 6) (t := tI) hx hb hts inw_X2_readSteps_2 hown hK hP hT 1 rfl rfl 2 (by decide) (hts (.fieldLink RX2 44 "VatHouse$Reader" "token" "I") (List.mem_of_getElem? (i := 2) (by exact rfl))) (fun _ h9 => h9) rfl dX2_readSteps_23 (fun v_62 hv_60 hr_61 => ?_)
              obtain rfl : v_62 = .int k2 := hr_61.symm.trans hk_h0_2
              refine lv_iconst (v := 1) hx hb dX2_readSteps_26 (by decide) ?_
              refine lv_icmp_lt (tgt := 71) hx hb dX2_readSteps_27 (by decide) (fun c_63 => ?_) (fun c_63 => ?_)
              · refine lv_aload_nN hx hb dX2_readSteps_71 rfl (lv_at hl 0 rfl) ?_
                exact K_aZ hx hb hr (Or.inl ⟨_, rfl⟩) (Or.inl rfl) hlocks hP hD hK hS hT hE ⟨⟨_, rfl, Or.inl rfl⟩, hF, _, _, _, _, _, hk_h0_1, hk_h0_2, hk_h0_3, hk_h0_4, hk_h0_5, trivial, trivial, trivial, trivial, hk5, hO5, ⟨q1, T1, ad1, hall _ (Ev.stop (fun h8 => nlt_of_le h8.2.1 (by rw [← hrq1.K]; exact c_63))), hrq1, (by first | exact hnd1 | (simp only [gpa_nd, gnu_nd, gpl_nd, gte_nd, gob_nd, grf_nd]; exact hnd1)), fun h9 => ⟨_, rfl, (hlp (hrq1.F.trans h9)).e (fun h8 => nlt_of_le h8.2.1 (by rw [← hrq1.K]; exact c_63))⟩⟩⟩ (⟨_, _, hk_h0_3, hk_h0_5, by omega⟩) (by first | exact Nat.le_of_ble_eq_true rfl | (simp only [rm_X2_readStepsT]; omega) | omega) (by first | exact Nat.le_of_ble_eq_true rfl | (simp only [rm_X2_readStepsT]; omega) | omega) (by first | exact Nat.le_of_ble_eq_true rfl | (simp only [rm_X2_readStepsT]; omega) | omega) dX2_readSteps_72
              · refine lv_aload_n hx hb dX2_readSteps_30 rfl (lv_at hl 3 rfl) ?_
                refine T_get (ci := 2) (C := RX2) (T := TX2) (N := 6) (t := tI) hx hb hts inw_X2_readSteps_2 hown hK hP hT 1 rfl rfl 2 (by decide) (hts (.fieldLink RX2 44 "VatHouse$Reader" "token" "I") (List.mem_of_getElem? (i := 2) (by exact rfl))) (fun _ h9 => h9) rfl dX2_readSteps_31 (fun v_66 hv_64 hr_65 => ?_)
                obtain rfl : v_66 = .int k2 := hr_65.symm.trans hk_h0_2
                refine lv_bipush (v := 12) hx hb dX2_readSteps_34 (by decide) ?_
                refine lv_icmp_gt (tgt := 71) hx hb dX2_readSteps_36 (by decide) (fun c_67 => ?_) (fun c_67 => ?_)
                · refine lv_aload_nN hx hb dX2_readSteps_71 rfl (lv_at hl 0 rfl) ?_
                  exact K_aZ hx hb hr (Or.inl ⟨_, rfl⟩) (Or.inl rfl) hlocks hP hD hK hS hT hE ⟨⟨_, rfl, Or.inl rfl⟩, hF, _, _, _, _, _, hk_h0_1, hk_h0_2, hk_h0_3, hk_h0_4, hk_h0_5, trivial, trivial, trivial, trivial, hk5, hO5, ⟨q1, T1, ad1, hall _ (Ev.stop (fun h8 => nlt_of_le h8.2.2 (by rw [← hrq1.K]; exact c_67))), hrq1, (by first | exact hnd1 | (simp only [gpa_nd, gnu_nd, gpl_nd, gte_nd, gob_nd, grf_nd]; exact hnd1)), fun h9 => ⟨_, rfl, (hlp (hrq1.F.trans h9)).e (fun h8 => nlt_of_le h8.2.2 (by rw [← hrq1.K]; exact c_67))⟩⟩⟩ (⟨_, _, hk_h0_3, hk_h0_5, by omega⟩) (by first | exact Nat.le_of_ble_eq_true rfl | (simp only [rm_X2_readStepsT]; omega) | omega) (by first | exact Nat.le_of_ble_eq_true rfl | (simp only [rm_X2_readStepsT]; omega) | omega) (by first | exact Nat.le_of_ble_eq_true rfl | (simp only [rm_X2_readStepsT]; omega) | omega) dX2_readSteps_72
                · refine lv_aload_n hx hb dX2_readSteps_39 rfl (lv_at hl 3 rfl) ?_
                  refine lv_iload_n hx hb dX2_readSteps_40 rfl (lv_at hl 4 rfl) ?_
                  have hEc_68 := hE
                  have hTo := hT
                  refine K_VZ ⟨hx, hb, hml, hown, hts⟩ (t_X2_readStepT l dC dI sa hlt g _ _ j d (pot k3 k5) tt ln M q1 T1 ad1 h0 dep tok ka sta vaa k1 k2 k3 k4 k5 zz _ (hT.sub [1, 2, 3, 4, 5] rfl)  hk_h0_1 hk_h0_2 hk_h0_3 hk_h0_4 hk_h0_5 hk_tok_3 ((hF.1 h0 (hT0.at 0 rfl).1 2 (hT0.at 0 rfl).2 0 (by decide)).trans h_tok) ((hF.1 tok (hT0.at 1 rfl).1 6 (hT0.at 1 rfl).2 4 (by decide)).trans h_ka) ((hF.1 tok (hT0.at 1 rfl).1 6 (hT0.at 1 rfl).2 5 (by decide)).trans h_sta) ((hF.1 tok (hT0.at 1 rfl).1 6 (hT0.at 1 rfl).2 6 (by decide)).trans h_vaa) hd hdj rfl hk5 hzz (hTK.go (hF.2 ka (hT0.at 2 rfl).1 0 _ _ (hT0.at 2 rfl).2 (by decide)) (hF.2 sta (hT0.at 3 rfl).1 0 _ _ (hT0.at 3 rfl).2 (by decide)) (hF.2 vaa (hT0.at 4 rfl).1 0 _ _ (hT0.at 4 rfl).2 (by decide))) hrq1 (by first | exact hnd1 | (simp only [gpa_nd, gnu_nd, gpl_nd, gte_nd, gob_nd, grf_nd]; exact hnd1)) IHR c_59 ⟨c_63, c_67⟩) (cwV 1 hts gX2_readSteps_X2_readStep rfl rfl rfl (by decide +kernel) ⟨(by first | exact Nat.le_of_ble_eq_true rfl | (simp only [rm_X2_readStepT, rm_X2_readStepsT]; omega)), (by first | exact Nat.le_of_ble_eq_true rfl | (simp only [rm_X2_readStepT, rm_X2_readStepsT]; omega))⟩) hP hD hK hS hA hev hT 1 2 rfl rfl rfl rfl hl.1 rfl (Nat.le_of_ble_eq_true rfl) dX2_readSteps_41 ⟨(by first | exact Nat.le_of_ble_eq_true rfl | (simp only [rm_X2_readStepsT]; omega) | omega), (by first | exact Nat.le_of_ble_eq_true rfl | (simp only [rm_X2_readStepsT]; omega) | omega)⟩ (fun r L_69 f_70 n_72 H locs hw_71 hn_73 hP hD hS hT hE1 => ?_)
                  have hEo := hE
                  have hF := Fr.call hF hE hw_71.2.1 (by decide)
                  have hE := hE.tr hE1
                  obtain ⟨⟨v_74, rfl, hv9⟩, hw_71⟩ := hw_71
                  obtain ⟨b_75, rfl, hb9⟩ := hv9
                  have hT := hT.add hb9
                  obtain ⟨hfr_76, ax_77, tn_78, fa_79, pw_80, sg_81, hk_82, hk_83, hk_84, hk_85, hk_86, hrel_87, hrel_88, hrel_89, hrel_90, hrel_91, hex_92⟩ := hw_71
                  obtain ⟨hof_93, hex_94⟩ := hex_92
                  have hO5 := hO5.call hEo hof_93 (by simp)
                  have hk_95 : rd f_70 tok 3 = .int zz := (hfr_76.1 tok (hTo.at 2 rfl).1 6 (hTo.at 2 rfl).2 3 (by decide)).trans hk_tok_3
                  have hq_96 : n_72 + pot fa_79 sg_81 ≤ pot k3 k5 := by
                    obtain ⟨a9, b9, g1, g2, g3⟩ := hn_73
                    cases g1.symm.trans hk_84
                    cases g2.symm.trans hk_86
                    exact g3
                  have hE9 := hE1
                  obtain ⟨qn_97, Tn_98, an_99, hev_100, hrq_101, hsg_102, hpk_103⟩ := hex_94
                  have hpk_104 : qn_97.2.2.1 = 0 → PB (Kp tt ln) (Vp tt ln) (nq tt ln) 1 d q1 qn_97 T1 Tn_98 ad1 an_99 L1 L_69 f_70 (.ref b_75) := fun h9 => by
                    obtain ⟨v9, e9, g9⟩ := hpk_103 h9
                    cases e9
                    exact g9
                  have hO9__105 := hof_93
                  have hE9__106 := hE9
                  refine W.eq (g2 := F0 m 44 ls [.ref b_75]) rfl ?_
                  refine lv_astore (lv' := [(5, .ref b_75), (2, .null), (3, .ref b_2), (4, .int ii), (0, .ref h0), (1, .int dep)]) hx hb dX2_readSteps_44 hl (by decide) rfl (fun ls hl => ?_)
                  refine lv_aload_n hx hb dX2_readSteps_46 rfl (lv_at hl 2 rfl) ?_
                  refine lv_ifnonnull (tgt := 56) hx hb dX2_readSteps_47 (by decide) ?_
                  refine lv_aload_n hx hb dX2_readSteps_56 rfl (lv_at hl 2 rfl) ?_
                  refine lv_aload hx hb dX2_readSteps_57 (lv_at hl 0 rfl) ?_
                  have hTo := hT
                  refine T_put (ci := 5) (v := .ref b_75) (ty := .object "VatHouse$Step") (t := (2, 0, 5, 0)) (C := RX5) (T := TX5) (N := 8) hx hb hts inw_X2_readSteps_5 tyX5 tyX5_ok nmX5 hown hK hP hD hS hT 1 rfl rfl 7 (by decide) (hts (.fieldLink RX2 50 "VatHouse$Step" "next" "LVatHouse$Step;") (List.mem_of_getElem? (i := 3) (by exact rfl))) (fun _ h9 => h9) rfl (tyX5_ok 7 (by decide)) rfl rfl rfl (Or.inr ⟨_, rfl, hT.at 0 rfl⟩) dX2_readSteps_59 (fun f_107 H locs hP hD hS hT hE1 hrd_108 hup_109 => ?_)
                  have hO5 := hO5.putF hrd_108 ((hlp c_59).fr)
                  have hF := Fr.put (a := b_2) (ci := 5) hF hE ((hE1 b_2 (hT.at 1 rfl).1).2.symm.trans (hT.at 1 rfl).2) (by decide) hrd_108 hup_109
                  have hE := hE.tr hE1
                  have hk_110 : rd f_107 h0 1 = .int ax_77 := ((Fr.put (cs := [(5, 7)]) (a := b_2) (ci := 5) Fr.rf Ext.rf (hTo.at 1 rfl).2 (by decide) hrd_108 hup_109).1 h0 (hTo.at 2 rfl).1 2 (hTo.at 2 rfl).2 1 (by decide)).trans hk_82
                  have hk_111 : rd f_107 h0 2 = .int tn_78 := ((Fr.put (cs := [(5, 7)]) (a := b_2) (ci := 5) Fr.rf Ext.rf (hTo.at 1 rfl).2 (by decide) hrd_108 hup_109).1 h0 (hTo.at 2 rfl).1 2 (hTo.at 2 rfl).2 2 (by decide)).trans hk_83
                  have hk_112 : rd f_107 h0 3 = .int fa_79 := ((Fr.put (cs := [(5, 7)]) (a := b_2) (ci := 5) Fr.rf Ext.rf (hTo.at 1 rfl).2 (by decide) hrd_108 hup_109).1 h0 (hTo.at 2 rfl).1 2 (hTo.at 2 rfl).2 3 (by decide)).trans hk_84
                  have hk_113 : rd f_107 h0 4 = .int pw_80 := ((Fr.put (cs := [(5, 7)]) (a := b_2) (ci := 5) Fr.rf Ext.rf (hTo.at 1 rfl).2 (by decide) hrd_108 hup_109).1 h0 (hTo.at 2 rfl).1 2 (hTo.at 2 rfl).2 4 (by decide)).trans hk_85
                  have hk_114 : rd f_107 h0 5 = .int sg_81 := ((Fr.put (cs := [(5, 7)]) (a := b_2) (ci := 5) Fr.rf Ext.rf (hTo.at 1 rfl).2 (by decide) hrd_108 hup_109).1 h0 (hTo.at 2 rfl).1 2 (hTo.at 2 rfl).2 5 (by decide)).trans hk_86
                  have hk_115 : rd f_107 tok 3 = .int zz := ((Fr.put (cs := [(5, 7)]) (a := b_2) (ci := 5) Fr.rf Ext.rf (hTo.at 1 rfl).2 (by decide) hrd_108 hup_109).1 tok (hTo.at 3 rfl).1 6 (hTo.at 3 rfl).2 3 (by decide)).trans hk_95
                  refine lv_aload hx hb dX2_readSteps_62 (lv_at hl 0 rfl) ?_
                  refine lv_astore_n (lv' := [(3, .ref b_75), (5, .ref b_75), (2, .null), (4, .int ii), (0, .ref h0), (1, .int dep)]) hx hb dX2_readSteps_64 rfl hl (by decide) rfl (fun ls hl => ?_)
                  refine lv_iinc (v := (ii + 1)) (lv' := [(4, .int (ii + 1)), (3, .ref b_75), (5, .ref b_75), (2, .null), (0, .ref h0), (1, .int dep)]) hx hb dX2_readSteps_65 hl (k := 3) rfl rfl (by decide) rfl (fun ls hl => ?_)
                  refine lv_goto (tgt := 7) hx hb dX2_readSteps_68 (by decide) ?_
                  exact W.widen (by first | exact Nat.le_of_ble_eq_true rfl | (simp only [rm_X2_readStepsT]; omega) | omega) (by first | exact Nat.le_of_ble_eq_true rfl | (simp only [rm_X2_readStepsT]; omega) | omega) (ih .null (.ref b_75) (ii + 1) ax_77 tn_78 fa_79 pw_80 sg_81 (kc + n_72) _ _ _ _ _ (up_le (by decide) hm c_55) (Or.inl rfl) (Or.inr ⟨_, rfl, hT.at 0 rfl⟩) hk_110 hk_111 hk_112 hk_113 hk_114 hk_115 (by omega) (hrel_91) (⟨qn_97, tnx Tn_98 la1 q1.2.1, an_99, q1.2.1 + 1, hrq_101, hsg_102, fun r9 h9 => hall r9 (Ev.go ⟨hrq1.F.symm.trans c_59, tn_rg hrq1.K c_63 c_67⟩ hev_100 h9), fun h9 => ss_cnt hev_100 c_59 hnd1.2 hcnt (hrq_101.F.symm.trans h9), fun h9 => (hlp c_59).nx1 (hpk_104 (hrq_101.F.symm.trans h9)) (hrq_101.F.symm.trans h9) ⟨hrq1.F.symm.trans c_59, tn_rg hrq1.K c_63 c_67⟩ (fun b9 hb9 => (hEc_68 b9 hb9).1) hE9__106 hO9__105 hE1 hrd_108⟩) (hO5) hP hD hS (hT.sub [2, 3, 4, 5, 6] rfl) hE hF (lv_sub hl [3, 1, 0, 4, 5] rfl))
      · have hT := hT.add hb9
        rcases hn_la with rfl | ⟨b_116, rfl, hb9⟩
        · have hl : lv_has ls 6 [(2, .ref b_1), (3, .null), (4, .int ii), (0, .ref h0), (1, .int dep)] := hl
          refine lv_iload hx hb dX2_readSteps_7 (lv_at hl 2 rfl) ?_
          obtain ⟨q1, T1, ad1, la1, hrq1, hnd1, hall, hcnt, hlp⟩ := hR
          refine lv_sipush (v := 300) hx hb dX2_readSteps_9 (by decide) ?_
          refine lv_icmp_gt (tgt := 71) hx hb dX2_readSteps_12 (by decide) (fun c_117 => ?_) (fun c_117 => ?_)
          · refine lv_aload_n hx hb dX2_readSteps_71 rfl (lv_at hl 0 rfl) ?_
            exact K_aZ hx hb hr (Or.inl ⟨_, rfl⟩) (Or.inr ⟨_, rfl⟩) hlocks hP hD hK hS hT hE ⟨⟨_, rfl, Or.inr ⟨_, rfl, hT.at 0 rfl⟩⟩, hF, _, _, _, _, _, hk_h0_1, hk_h0_2, hk_h0_3, hk_h0_4, hk_h0_5, trivial, trivial, trivial, trivial, hk5, hO5, ⟨q1, T1, ad1, hall _ (Ev.stop (fun h8 => ss_301 hnd1.2 hcnt (hrq1.F.trans h8.1) c_117)), hrq1, (by first | exact hnd1 | (simp only [gpa_nd, gnu_nd, gpl_nd, gte_nd, gob_nd, grf_nd]; exact hnd1)), fun h9 => ⟨_, rfl, (hlp (hrq1.F.trans h9)).e (fun h8 => ss_301 hnd1.2 hcnt (hrq1.F.trans h8.1) c_117)⟩⟩⟩ (⟨_, _, hk_h0_3, hk_h0_5, by omega⟩) (by first | exact Nat.le_of_ble_eq_true rfl | (simp only [rm_X2_readStepsT]; omega) | omega) (by first | exact Nat.le_of_ble_eq_true rfl | (simp only [rm_X2_readStepsT]; omega) | omega) (by first | exact Nat.le_of_ble_eq_true rfl | (simp only [rm_X2_readStepsT]; omega) | omega) dX2_readSteps_72
          · refine lv_aload_n hx hb dX2_readSteps_15 rfl (lv_at hl 3 rfl) ?_
            refine T_get (ci := 2) (C := RX2) (T := TX2) (N := 6) (t := tI) hx hb hts inw_X2_readSteps_2 hown hK hP hT 1 rfl rfl 3 (by decide) (hts (.fieldLink RX2 28 "VatHouse$Reader" "fault" "I") (List.mem_of_getElem? (i := 1) (by exact rfl))) (fun _ h9 => h9) rfl dX2_readSteps_16 (fun v_120 hv_118 hr_119 => ?_)
            obtain rfl : v_120 = .int k3 := hr_119.symm.trans hk_h0_3
            refine lv_if_ne (tgt := 71) hx hb dX2_readSteps_19 (by decide) (fun c_121 => ?_) (fun c_121 => ?_)
            · refine lv_aload_n hx hb dX2_readSteps_71 rfl (lv_at hl 0 rfl) ?_
              exact K_aZ hx hb hr (Or.inl ⟨_, rfl⟩) (Or.inr ⟨_, rfl⟩) hlocks hP hD hK hS hT hE ⟨⟨_, rfl, Or.inr ⟨_, rfl, hT.at 0 rfl⟩⟩, hF, _, _, _, _, _, hk_h0_1, hk_h0_2, hk_h0_3, hk_h0_4, hk_h0_5, trivial, trivial, trivial, trivial, hk5, hO5, ⟨q1, T1, ad1, hall _ (Ev.stop (fun h8 => c_121 (hrq1.F.trans h8.1))), hrq1, (by first | exact hnd1 | (simp only [gpa_nd, gnu_nd, gpl_nd, gte_nd, gob_nd, grf_nd]; exact hnd1)), fun h9 => ⟨_, rfl, (hlp (hrq1.F.trans h9)).e (fun h8 => c_121 (hrq1.F.trans h8.1))⟩⟩⟩ (⟨_, _, hk_h0_3, hk_h0_5, by omega⟩) (by first | exact Nat.le_of_ble_eq_true rfl | (simp only [rm_X2_readStepsT]; omega) | omega) (by first | exact Nat.le_of_ble_eq_true rfl | (simp only [rm_X2_readStepsT]; omega) | omega) (by first | exact Nat.le_of_ble_eq_true rfl | (simp only [rm_X2_readStepsT]; omega) | omega) dX2_readSteps_72
            · refine lv_aload_n hx hb dX2_readSteps_22 rfl (lv_at hl 3 rfl) ?_
              refine T_get (ci := 2) (C := RX2) (T := TX2) (N := 6) (t := tI) hx hb hts inw_X2_readSteps_2 hown hK hP hT 1 rfl rfl 2 (by decide) (hts (.fieldLink RX2 44 "VatHouse$Reader" "token" "I") (List.mem_of_getElem? (i := 2) (by exact rfl))) (fun _ h9 => h9) rfl dX2_readSteps_23 (fun v_124 hv_122 hr_123 => ?_)
              obtain rfl : v_124 = .int k2 := hr_123.symm.trans hk_h0_2
              refine lv_iconst (v := 1) hx hb dX2_readSteps_26 (by decide) ?_
              refine lv_icmp_lt (tgt := 71) hx hb dX2_readSteps_27 (by decide) (fun c_125 => ?_) (fun c_125 => ?_)
              · refine lv_aload_n hx hb dX2_readSteps_71 rfl (lv_at hl 0 rfl) ?_
                exact K_aZ hx hb hr (Or.inl ⟨_, rfl⟩) (Or.inr ⟨_, rfl⟩) hlocks hP hD hK hS hT hE ⟨⟨_, rfl, Or.inr ⟨_, rfl, hT.at 0 rfl⟩⟩, hF, _, _, _, _, _, hk_h0_1, hk_h0_2, hk_h0_3, hk_h0_4, hk_h0_5, trivial, trivial, trivial, trivial, hk5, hO5, ⟨q1, T1, ad1, hall _ (Ev.stop (fun h8 => nlt_of_le h8.2.1 (by rw [← hrq1.K]; exact c_125))), hrq1, (by first | exact hnd1 | (simp only [gpa_nd, gnu_nd, gpl_nd, gte_nd, gob_nd, grf_nd]; exact hnd1)), fun h9 => ⟨_, rfl, (hlp (hrq1.F.trans h9)).e (fun h8 => nlt_of_le h8.2.1 (by rw [← hrq1.K]; exact c_125))⟩⟩⟩ (⟨_, _, hk_h0_3, hk_h0_5, by omega⟩) (by first | exact Nat.le_of_ble_eq_true rfl | (simp only [rm_X2_readStepsT]; omega) | omega) (by first | exact Nat.le_of_ble_eq_true rfl | (simp only [rm_X2_readStepsT]; omega) | omega) (by first | exact Nat.le_of_ble_eq_true rfl | (simp only [rm_X2_readStepsT]; omega) | omega) dX2_readSteps_72
              · refine lv_aload_n hx hb dX2_readSteps_30 rfl (lv_at hl 3 rfl) ?_
                refine T_get (ci := 2) (C := RX2) (T := TX2) (N := 6) (t := tI) hx hb hts inw_X2_readSteps_2 hown hK hP hT 1 rfl rfl 2 (by decide) (hts (.fieldLink RX2 44 "VatHouse$Reader" "token" "I") (List.mem_of_getElem? (i := 2) (by exact rfl))) (fun _ h9 => h9) rfl dX2_readSteps_31 (fun v_128 hv_126 hr_127 => ?_)
                obtain rfl : v_128 = .int k2 := hr_127.symm.trans hk_h0_2
                refine lv_bipush (v := 12) hx hb dX2_readSteps_34 (by decide) ?_
                refine lv_icmp_gt (tgt := 71) hx hb dX2_readSteps_36 (by decide) (fun c_129 => ?_) (fun c_129 => ?_)
                · refine lv_aload_n hx hb dX2_readSteps_71 rfl (lv_at hl 0 rfl) ?_
                  exact K_aZ hx hb hr (Or.inl ⟨_, rfl⟩) (Or.inr ⟨_, rfl⟩) hlocks hP hD hK hS hT hE ⟨⟨_, rfl, Or.inr ⟨_, rfl, hT.at 0 rfl⟩⟩, hF, _, _, _, _, _, hk_h0_1, hk_h0_2, hk_h0_3, hk_h0_4, hk_h0_5, trivial, trivial, trivial, trivial, hk5, hO5, ⟨q1, T1, ad1, hall _ (Ev.stop (fun h8 => nlt_of_le h8.2.2 (by rw [← hrq1.K]; exact c_129))), hrq1, (by first | exact hnd1 | (simp only [gpa_nd, gnu_nd, gpl_nd, gte_nd, gob_nd, grf_nd]; exact hnd1)), fun h9 => ⟨_, rfl, (hlp (hrq1.F.trans h9)).e (fun h8 => nlt_of_le h8.2.2 (by rw [← hrq1.K]; exact c_129))⟩⟩⟩ (⟨_, _, hk_h0_3, hk_h0_5, by omega⟩) (by first | exact Nat.le_of_ble_eq_true rfl | (simp only [rm_X2_readStepsT]; omega) | omega) (by first | exact Nat.le_of_ble_eq_true rfl | (simp only [rm_X2_readStepsT]; omega) | omega) (by first | exact Nat.le_of_ble_eq_true rfl | (simp only [rm_X2_readStepsT]; omega) | omega) dX2_readSteps_72
                · refine lv_aload_n hx hb dX2_readSteps_39 rfl (lv_at hl 3 rfl) ?_
                  refine lv_iload_n hx hb dX2_readSteps_40 rfl (lv_at hl 4 rfl) ?_
                  have hEc_130 := hE
                  have hTo := hT
                  refine K_VZ ⟨hx, hb, hml, hown, hts⟩ (t_X2_readStepT l dC dI sa hlt g _ _ j d (pot k3 k5) tt ln M q1 T1 ad1 h0 dep tok ka sta vaa k1 k2 k3 k4 k5 zz _ (hT.sub [1, 2, 3, 4, 5] rfl)  hk_h0_1 hk_h0_2 hk_h0_3 hk_h0_4 hk_h0_5 hk_tok_3 ((hF.1 h0 (hT0.at 0 rfl).1 2 (hT0.at 0 rfl).2 0 (by decide)).trans h_tok) ((hF.1 tok (hT0.at 1 rfl).1 6 (hT0.at 1 rfl).2 4 (by decide)).trans h_ka) ((hF.1 tok (hT0.at 1 rfl).1 6 (hT0.at 1 rfl).2 5 (by decide)).trans h_sta) ((hF.1 tok (hT0.at 1 rfl).1 6 (hT0.at 1 rfl).2 6 (by decide)).trans h_vaa) hd hdj rfl hk5 hzz (hTK.go (hF.2 ka (hT0.at 2 rfl).1 0 _ _ (hT0.at 2 rfl).2 (by decide)) (hF.2 sta (hT0.at 3 rfl).1 0 _ _ (hT0.at 3 rfl).2 (by decide)) (hF.2 vaa (hT0.at 4 rfl).1 0 _ _ (hT0.at 4 rfl).2 (by decide))) hrq1 (by first | exact hnd1 | (simp only [gpa_nd, gnu_nd, gpl_nd, gte_nd, gob_nd, grf_nd]; exact hnd1)) IHR c_121 ⟨c_125, c_129⟩) (cwV 1 hts gX2_readSteps_X2_readStep rfl rfl rfl (by decide +kernel) ⟨(by first | exact Nat.le_of_ble_eq_true rfl | (simp only [rm_X2_readStepT, rm_X2_readStepsT]; omega)), (by first | exact Nat.le_of_ble_eq_true rfl | (simp only [rm_X2_readStepT, rm_X2_readStepsT]; omega))⟩) hP hD hK hS hA hev hT 1 2 rfl rfl rfl rfl hl.1 rfl (Nat.le_of_ble_eq_true rfl) dX2_readSteps_41 ⟨(by first | exact Nat.le_of_ble_eq_true rfl | (simp only [rm_X2_readStepsT]; omega) | omega), (by first | exact Nat.le_of_ble_eq_true rfl | (simp only [rm_X2_readStepsT]; omega) | omega)⟩ (fun r L_131 f_132 n_134 H locs hw_133 hn_135 hP hD hS hT hE1 => ?_)
                  have hEo := hE
                  have hF := Fr.call hF hE hw_133.2.1 (by decide)
                  have hE := hE.tr hE1
                  obtain ⟨⟨v_136, rfl, hv9⟩, hw_133⟩ := hw_133
                  obtain ⟨b_137, rfl, hb9⟩ := hv9
                  have hT := hT.add hb9
                  obtain ⟨hfr_138, ax_139, tn_140, fa_141, pw_142, sg_143, hk_144, hk_145, hk_146, hk_147, hk_148, hrel_149, hrel_150, hrel_151, hrel_152, hrel_153, hex_154⟩ := hw_133
                  obtain ⟨hof_155, hex_156⟩ := hex_154
                  have hO5 := hO5.call hEo hof_155 (by simp)
                  have hk_157 : rd f_132 tok 3 = .int zz := (hfr_138.1 tok (hTo.at 2 rfl).1 6 (hTo.at 2 rfl).2 3 (by decide)).trans hk_tok_3
                  have hq_158 : n_134 + pot fa_141 sg_143 ≤ pot k3 k5 := by
                    obtain ⟨a9, b9, g1, g2, g3⟩ := hn_135
                    cases g1.symm.trans hk_146
                    cases g2.symm.trans hk_148
                    exact g3
                  have hE9 := hE1
                  obtain ⟨qn_159, Tn_160, an_161, hev_162, hrq_163, hsg_164, hpk_165⟩ := hex_156
                  have hpk_166 : qn_159.2.2.1 = 0 → PB (Kp tt ln) (Vp tt ln) (nq tt ln) 1 d q1 qn_159 T1 Tn_160 ad1 an_161 L1 L_131 f_132 (.ref b_137) := fun h9 => by
                    obtain ⟨v9, e9, g9⟩ := hpk_165 h9
                    cases e9
                    exact g9
                  have hO9__167 := hof_155
                  have hE9__168 := hE9
                  refine W.eq (g2 := F0 m 44 ls [.ref b_137]) rfl ?_
                  refine lv_astore (lv' := [(5, .ref b_137), (2, .ref b_1), (3, .null), (4, .int ii), (0, .ref h0), (1, .int dep)]) hx hb dX2_readSteps_44 hl (by decide) rfl (fun ls hl => ?_)
                  refine lv_aload_nN hx hb dX2_readSteps_46 rfl (lv_at hl 2 rfl) ?_
                  refine lv_ifnonnullN hx hb dX2_readSteps_47 ?_
                  refine lv_aload hx hb dX2_readSteps_50 (lv_at hl 0 rfl) ?_
                  refine lv_astore_n (lv' := [(2, .ref b_137), (5, .ref b_137), (3, .null), (4, .int ii), (0, .ref h0), (1, .int dep)]) hx hb dX2_readSteps_52 rfl hl (by decide) rfl (fun ls hl => ?_)
                  refine lv_goto (tgt := 62) hx hb dX2_readSteps_53 (by decide) ?_
                  refine lv_aload hx hb dX2_readSteps_62 (lv_at hl 1 rfl) ?_
                  refine lv_astore_n (lv' := [(3, .ref b_137), (2, .ref b_137), (5, .ref b_137), (4, .int ii), (0, .ref h0), (1, .int dep)]) hx hb dX2_readSteps_64 rfl hl (by decide) rfl (fun ls hl => ?_)
                  refine lv_iinc (v := (ii + 1)) (lv' := [(4, .int (ii + 1)), (3, .ref b_137), (2, .ref b_137), (5, .ref b_137), (0, .ref h0), (1, .int dep)]) hx hb dX2_readSteps_65 hl (k := 3) rfl rfl (by decide) rfl (fun ls hl => ?_)
                  refine lv_goto (tgt := 7) hx hb dX2_readSteps_68 (by decide) ?_
                  exact W.widen (by first | exact Nat.le_of_ble_eq_true rfl | (simp only [rm_X2_readStepsT]; omega) | omega) (by first | exact Nat.le_of_ble_eq_true rfl | (simp only [rm_X2_readStepsT]; omega) | omega) (ih (.ref b_137) (.ref b_137) (ii + 1) ax_139 tn_140 fa_141 pw_142 sg_143 (kc + n_134) _ _ _ _ _ (up_le (by decide) hm c_117) (Or.inr ⟨_, rfl, hT.at 0 rfl⟩) (Or.inr ⟨_, rfl, hT.at 0 rfl⟩) hk_144 hk_145 hk_146 hk_147 hk_148 hk_157 (by omega) (hrel_153) (⟨qn_159, tnx Tn_160 la1 q1.2.1, an_161, q1.2.1 + 1, hrq_163, hsg_164, fun r9 h9 => hall r9 (Ev.go ⟨hrq1.F.symm.trans c_121, tn_rg hrq1.K c_125 c_129⟩ hev_162 h9), fun h9 => ss_cnt hev_162 c_121 hnd1.2 hcnt (hrq_163.F.symm.trans h9), fun h9 => (hlp c_121).nx0 (hpk_166 (hrq_163.F.symm.trans h9)) (hrq_163.F.symm.trans h9) ⟨hrq1.F.symm.trans c_121, tn_rg hrq1.K c_125 c_129⟩ (fun b9 hb9 => (hEc_130 b9 hb9).1) hE9__168 hO9__167⟩) (hO5) hP hD hS (hT.sub [2, 3, 4, 5, 6] rfl) hE hF (lv_sub hl [2, 1, 0, 4, 5] rfl))
        · have hT := hT.add hb9
          have hl : lv_has ls 6 [(2, .ref b_1), (3, .ref b_116), (4, .int ii), (0, .ref h0), (1, .int dep)] := hl
          refine lv_iload hx hb dX2_readSteps_7 (lv_at hl 2 rfl) ?_
          obtain ⟨q1, T1, ad1, la1, hrq1, hnd1, hall, hcnt, hlp⟩ := hR
          refine lv_sipush (v := 300) hx hb dX2_readSteps_9 (by decide) ?_
          refine lv_icmp_gt (tgt := 71) hx hb dX2_readSteps_12 (by decide) (fun c_169 => ?_) (fun c_169 => ?_)
          · refine lv_aload_n hx hb dX2_readSteps_71 rfl (lv_at hl 0 rfl) ?_
            exact K_aZ hx hb hr (Or.inl ⟨_, rfl⟩) (Or.inr ⟨_, rfl⟩) hlocks hP hD hK hS hT hE ⟨⟨_, rfl, Or.inr ⟨_, rfl, hT.at 1 rfl⟩⟩, hF, _, _, _, _, _, hk_h0_1, hk_h0_2, hk_h0_3, hk_h0_4, hk_h0_5, trivial, trivial, trivial, trivial, hk5, hO5, ⟨q1, T1, ad1, hall _ (Ev.stop (fun h8 => ss_301 hnd1.2 hcnt (hrq1.F.trans h8.1) c_169)), hrq1, (by first | exact hnd1 | (simp only [gpa_nd, gnu_nd, gpl_nd, gte_nd, gob_nd, grf_nd]; exact hnd1)), fun h9 => ⟨_, rfl, (hlp (hrq1.F.trans h9)).e (fun h8 => ss_301 hnd1.2 hcnt (hrq1.F.trans h8.1) c_169)⟩⟩⟩ (⟨_, _, hk_h0_3, hk_h0_5, by omega⟩) (by first | exact Nat.le_of_ble_eq_true rfl | (simp only [rm_X2_readStepsT]; omega) | omega) (by first | exact Nat.le_of_ble_eq_true rfl | (simp only [rm_X2_readStepsT]; omega) | omega) (by first | exact Nat.le_of_ble_eq_true rfl | (simp only [rm_X2_readStepsT]; omega) | omega) dX2_readSteps_72
          · refine lv_aload_n hx hb dX2_readSteps_15 rfl (lv_at hl 3 rfl) ?_
            refine T_get (ci := 2) (C := RX2) (T := TX2) (N := 6) (t := tI) hx hb hts inw_X2_readSteps_2 hown hK hP hT 2 rfl rfl 3 (by decide) (hts (.fieldLink RX2 28 "VatHouse$Reader" "fault" "I") (List.mem_of_getElem? (i := 1) (by exact rfl))) (fun _ h9 => h9) rfl dX2_readSteps_16 (fun v_172 hv_170 hr_171 => ?_)
            obtain rfl : v_172 = .int k3 := hr_171.symm.trans hk_h0_3
            refine lv_if_ne (tgt := 71) hx hb dX2_readSteps_19 (by decide) (fun c_173 => ?_) (fun c_173 => ?_)
            · refine lv_aload_n hx hb dX2_readSteps_71 rfl (lv_at hl 0 rfl) ?_
              exact K_aZ hx hb hr (Or.inl ⟨_, rfl⟩) (Or.inr ⟨_, rfl⟩) hlocks hP hD hK hS hT hE ⟨⟨_, rfl, Or.inr ⟨_, rfl, hT.at 1 rfl⟩⟩, hF, _, _, _, _, _, hk_h0_1, hk_h0_2, hk_h0_3, hk_h0_4, hk_h0_5, trivial, trivial, trivial, trivial, hk5, hO5, ⟨q1, T1, ad1, hall _ (Ev.stop (fun h8 => c_173 (hrq1.F.trans h8.1))), hrq1, (by first | exact hnd1 | (simp only [gpa_nd, gnu_nd, gpl_nd, gte_nd, gob_nd, grf_nd]; exact hnd1)), fun h9 => ⟨_, rfl, (hlp (hrq1.F.trans h9)).e (fun h8 => c_173 (hrq1.F.trans h8.1))⟩⟩⟩ (⟨_, _, hk_h0_3, hk_h0_5, by omega⟩) (by first | exact Nat.le_of_ble_eq_true rfl | (simp only [rm_X2_readStepsT]; omega) | omega) (by first | exact Nat.le_of_ble_eq_true rfl | (simp only [rm_X2_readStepsT]; omega) | omega) (by first | exact Nat.le_of_ble_eq_true rfl | (simp only [rm_X2_readStepsT]; omega) | omega) dX2_readSteps_72
            · refine lv_aload_n hx hb dX2_readSteps_22 rfl (lv_at hl 3 rfl) ?_
              refine T_get (ci := 2) (C := RX2) (T := TX2) (N := 6) (t := tI) hx hb hts inw_X2_readSteps_2 hown hK hP hT 2 rfl rfl 2 (by decide) (hts (.fieldLink RX2 44 "VatHouse$Reader" "token" "I") (List.mem_of_getElem? (i := 2) (by exact rfl))) (fun _ h9 => h9) rfl dX2_readSteps_23 (fun v_176 hv_174 hr_175 => ?_)
              obtain rfl : v_176 = .int k2 := hr_175.symm.trans hk_h0_2
              refine lv_iconst (v := 1) hx hb dX2_readSteps_26 (by decide) ?_
              refine lv_icmp_lt (tgt := 71) hx hb dX2_readSteps_27 (by decide) (fun c_177 => ?_) (fun c_177 => ?_)
              · refine lv_aload_n hx hb dX2_readSteps_71 rfl (lv_at hl 0 rfl) ?_
                exact K_aZ hx hb hr (Or.inl ⟨_, rfl⟩) (Or.inr ⟨_, rfl⟩) hlocks hP hD hK hS hT hE ⟨⟨_, rfl, Or.inr ⟨_, rfl, hT.at 1 rfl⟩⟩, hF, _, _, _, _, _, hk_h0_1, hk_h0_2, hk_h0_3, hk_h0_4, hk_h0_5, trivial, trivial, trivial, trivial, hk5, hO5, ⟨q1, T1, ad1, hall _ (Ev.stop (fun h8 => nlt_of_le h8.2.1 (by rw [← hrq1.K]; exact c_177))), hrq1, (by first | exact hnd1 | (simp only [gpa_nd, gnu_nd, gpl_nd, gte_nd, gob_nd, grf_nd]; exact hnd1)), fun h9 => ⟨_, rfl, (hlp (hrq1.F.trans h9)).e (fun h8 => nlt_of_le h8.2.1 (by rw [← hrq1.K]; exact c_177))⟩⟩⟩ (⟨_, _, hk_h0_3, hk_h0_5, by omega⟩) (by first | exact Nat.le_of_ble_eq_true rfl | (simp only [rm_X2_readStepsT]; omega) | omega) (by first | exact Nat.le_of_ble_eq_true rfl | (simp only [rm_X2_readStepsT]; omega) | omega) (by first | exact Nat.le_of_ble_eq_true rfl | (simp only [rm_X2_readStepsT]; omega) | omega) dX2_readSteps_72
              · refine lv_aload_n hx hb dX2_readSteps_30 rfl (lv_at hl 3 rfl) ?_
                refine T_get (ci := 2) (C := RX2) (T := TX2) (N := 6) (t := tI) hx hb hts inw_X2_readSteps_2 hown hK hP hT 2 rfl rfl 2 (by decide) (hts (.fieldLink RX2 44 "VatHouse$Reader" "token" "I") (List.mem_of_getElem? (i := 2) (by exact rfl))) (fun _ h9 => h9) rfl dX2_readSteps_31 (fun v_180 hv_178 hr_179 => ?_)
                obtain rfl : v_180 = .int k2 := hr_179.symm.trans hk_h0_2
                refine lv_bipush (v := 12) hx hb dX2_readSteps_34 (by decide) ?_
                refine lv_icmp_gt (tgt := 71) hx hb dX2_readSteps_36 (by decide) (fun c_181 => ?_) (fun c_181 => ?_)
                · refine lv_aload_n hx hb dX2_readSteps_71 rfl (lv_at hl 0 rfl) ?_
                  exact K_aZ hx hb hr (Or.inl ⟨_, rfl⟩) (Or.inr ⟨_, rfl⟩) hlocks hP hD hK hS hT hE ⟨⟨_, rfl, Or.inr ⟨_, rfl, hT.at 1 rfl⟩⟩, hF, _, _, _, _, _, hk_h0_1, hk_h0_2, hk_h0_3, hk_h0_4, hk_h0_5, trivial, trivial, trivial, trivial, hk5, hO5, ⟨q1, T1, ad1, hall _ (Ev.stop (fun h8 => nlt_of_le h8.2.2 (by rw [← hrq1.K]; exact c_181))), hrq1, (by first | exact hnd1 | (simp only [gpa_nd, gnu_nd, gpl_nd, gte_nd, gob_nd, grf_nd]; exact hnd1)), fun h9 => ⟨_, rfl, (hlp (hrq1.F.trans h9)).e (fun h8 => nlt_of_le h8.2.2 (by rw [← hrq1.K]; exact c_181))⟩⟩⟩ (⟨_, _, hk_h0_3, hk_h0_5, by omega⟩) (by first | exact Nat.le_of_ble_eq_true rfl | (simp only [rm_X2_readStepsT]; omega) | omega) (by first | exact Nat.le_of_ble_eq_true rfl | (simp only [rm_X2_readStepsT]; omega) | omega) (by first | exact Nat.le_of_ble_eq_true rfl | (simp only [rm_X2_readStepsT]; omega) | omega) dX2_readSteps_72
                · refine lv_aload_n hx hb dX2_readSteps_39 rfl (lv_at hl 3 rfl) ?_
                  refine lv_iload_n hx hb dX2_readSteps_40 rfl (lv_at hl 4 rfl) ?_
                  have hEc_182 := hE
                  have hTo := hT
                  refine K_VZ ⟨hx, hb, hml, hown, hts⟩ (t_X2_readStepT l dC dI sa hlt g _ _ j d (pot k3 k5) tt ln M q1 T1 ad1 h0 dep tok ka sta vaa k1 k2 k3 k4 k5 zz _ (hT.sub [2, 3, 4, 5, 6] rfl)  hk_h0_1 hk_h0_2 hk_h0_3 hk_h0_4 hk_h0_5 hk_tok_3 ((hF.1 h0 (hT0.at 0 rfl).1 2 (hT0.at 0 rfl).2 0 (by decide)).trans h_tok) ((hF.1 tok (hT0.at 1 rfl).1 6 (hT0.at 1 rfl).2 4 (by decide)).trans h_ka) ((hF.1 tok (hT0.at 1 rfl).1 6 (hT0.at 1 rfl).2 5 (by decide)).trans h_sta) ((hF.1 tok (hT0.at 1 rfl).1 6 (hT0.at 1 rfl).2 6 (by decide)).trans h_vaa) hd hdj rfl hk5 hzz (hTK.go (hF.2 ka (hT0.at 2 rfl).1 0 _ _ (hT0.at 2 rfl).2 (by decide)) (hF.2 sta (hT0.at 3 rfl).1 0 _ _ (hT0.at 3 rfl).2 (by decide)) (hF.2 vaa (hT0.at 4 rfl).1 0 _ _ (hT0.at 4 rfl).2 (by decide))) hrq1 (by first | exact hnd1 | (simp only [gpa_nd, gnu_nd, gpl_nd, gte_nd, gob_nd, grf_nd]; exact hnd1)) IHR c_173 ⟨c_177, c_181⟩) (cwV 1 hts gX2_readSteps_X2_readStep rfl rfl rfl (by decide +kernel) ⟨(by first | exact Nat.le_of_ble_eq_true rfl | (simp only [rm_X2_readStepT, rm_X2_readStepsT]; omega)), (by first | exact Nat.le_of_ble_eq_true rfl | (simp only [rm_X2_readStepT, rm_X2_readStepsT]; omega))⟩) hP hD hK hS hA hev hT 2 2 rfl rfl rfl rfl hl.1 rfl (Nat.le_of_ble_eq_true rfl) dX2_readSteps_41 ⟨(by first | exact Nat.le_of_ble_eq_true rfl | (simp only [rm_X2_readStepsT]; omega) | omega), (by first | exact Nat.le_of_ble_eq_true rfl | (simp only [rm_X2_readStepsT]; omega) | omega)⟩ (fun r L_183 f_184 n_186 H locs hw_185 hn_187 hP hD hS hT hE1 => ?_)
                  have hEo := hE
                  have hF := Fr.call hF hE hw_185.2.1 (by decide)
                  have hE := hE.tr hE1
                  obtain ⟨⟨v_188, rfl, hv9⟩, hw_185⟩ := hw_185
                  obtain ⟨b_189, rfl, hb9⟩ := hv9
                  have hT := hT.add hb9
                  obtain ⟨hfr_190, ax_191, tn_192, fa_193, pw_194, sg_195, hk_196, hk_197, hk_198, hk_199, hk_200, hrel_201, hrel_202, hrel_203, hrel_204, hrel_205, hex_206⟩ := hw_185
                  obtain ⟨hof_207, hex_208⟩ := hex_206
                  have hO5 := hO5.call hEo hof_207 (by simp)
                  have hk_209 : rd f_184 tok 3 = .int zz := (hfr_190.1 tok (hTo.at 3 rfl).1 6 (hTo.at 3 rfl).2 3 (by decide)).trans hk_tok_3
                  have hq_210 : n_186 + pot fa_193 sg_195 ≤ pot k3 k5 := by
                    obtain ⟨a9, b9, g1, g2, g3⟩ := hn_187
                    cases g1.symm.trans hk_198
                    cases g2.symm.trans hk_200
                    exact g3
                  have hE9 := hE1
                  obtain ⟨qn_211, Tn_212, an_213, hev_214, hrq_215, hsg_216, hpk_217⟩ := hex_208
                  have hpk_218 : qn_211.2.2.1 = 0 → PB (Kp tt ln) (Vp tt ln) (nq tt ln) 1 d q1 qn_211 T1 Tn_212 ad1 an_213 L1 L_183 f_184 (.ref b_189) := fun h9 => by
                    obtain ⟨v9, e9, g9⟩ := hpk_217 h9
                    cases e9
                    exact g9
                  have hO9__219 := hof_207
                  have hE9__220 := hE9
                  refine W.eq (g2 := F0 m 44 ls [.ref b_189]) rfl ?_
                  refine lv_astore (lv' := [(5, .ref b_189), (2, .ref b_1), (3, .ref b_116), (4, .int ii), (0, .ref h0), (1, .int dep)]) hx hb dX2_readSteps_44 hl (by decide) rfl (fun ls hl => ?_)
                  refine lv_aload_n hx hb dX2_readSteps_46 rfl (lv_at hl 2 rfl) ?_
                  refine lv_ifnonnull (tgt := 56) hx hb dX2_readSteps_47 (by decide) ?_
                  refine lv_aload_n hx hb dX2_readSteps_56 rfl (lv_at hl 2 rfl) ?_
                  refine lv_aload hx hb dX2_readSteps_57 (lv_at hl 0 rfl) ?_
                  have hTo := hT
                  refine T_put (ci := 5) (v := .ref b_189) (ty := .object "VatHouse$Step") (t := (2, 0, 5, 0)) (C := RX5) (T := TX5) (N := 8) hx hb hts inw_X2_readSteps_5 tyX5 tyX5_ok nmX5 hown hK hP hD hS hT 1 rfl rfl 7 (by decide) (hts (.fieldLink RX2 50 "VatHouse$Step" "next" "LVatHouse$Step;") (List.mem_of_getElem? (i := 3) (by exact rfl))) (fun _ h9 => h9) rfl (tyX5_ok 7 (by decide)) rfl rfl rfl (Or.inr ⟨_, rfl, hT.at 0 rfl⟩) dX2_readSteps_59 (fun f_221 H locs hP hD hS hT hE1 hrd_222 hup_223 => ?_)
                  have hO5 := hO5.putF hrd_222 ((hlp c_173).fr)
                  have hF := Fr.put (a := b_116) (ci := 5) hF hE ((hE1 b_116 (hT.at 1 rfl).1).2.symm.trans (hT.at 1 rfl).2) (by decide) hrd_222 hup_223
                  have hE := hE.tr hE1
                  have hk_224 : rd f_221 h0 1 = .int ax_191 := ((Fr.put (cs := [(5, 7)]) (a := b_116) (ci := 5) Fr.rf Ext.rf (hTo.at 1 rfl).2 (by decide) hrd_222 hup_223).1 h0 (hTo.at 3 rfl).1 2 (hTo.at 3 rfl).2 1 (by decide)).trans hk_196
                  have hk_225 : rd f_221 h0 2 = .int tn_192 := ((Fr.put (cs := [(5, 7)]) (a := b_116) (ci := 5) Fr.rf Ext.rf (hTo.at 1 rfl).2 (by decide) hrd_222 hup_223).1 h0 (hTo.at 3 rfl).1 2 (hTo.at 3 rfl).2 2 (by decide)).trans hk_197
                  have hk_226 : rd f_221 h0 3 = .int fa_193 := ((Fr.put (cs := [(5, 7)]) (a := b_116) (ci := 5) Fr.rf Ext.rf (hTo.at 1 rfl).2 (by decide) hrd_222 hup_223).1 h0 (hTo.at 3 rfl).1 2 (hTo.at 3 rfl).2 3 (by decide)).trans hk_198
                  have hk_227 : rd f_221 h0 4 = .int pw_194 := ((Fr.put (cs := [(5, 7)]) (a := b_116) (ci := 5) Fr.rf Ext.rf (hTo.at 1 rfl).2 (by decide) hrd_222 hup_223).1 h0 (hTo.at 3 rfl).1 2 (hTo.at 3 rfl).2 4 (by decide)).trans hk_199
                  have hk_228 : rd f_221 h0 5 = .int sg_195 := ((Fr.put (cs := [(5, 7)]) (a := b_116) (ci := 5) Fr.rf Ext.rf (hTo.at 1 rfl).2 (by decide) hrd_222 hup_223).1 h0 (hTo.at 3 rfl).1 2 (hTo.at 3 rfl).2 5 (by decide)).trans hk_200
                  have hk_229 : rd f_221 tok 3 = .int zz := ((Fr.put (cs := [(5, 7)]) (a := b_116) (ci := 5) Fr.rf Ext.rf (hTo.at 1 rfl).2 (by decide) hrd_222 hup_223).1 tok (hTo.at 4 rfl).1 6 (hTo.at 4 rfl).2 3 (by decide)).trans hk_209
                  refine lv_aload hx hb dX2_readSteps_62 (lv_at hl 0 rfl) ?_
                  refine lv_astore_n (lv' := [(3, .ref b_189), (5, .ref b_189), (2, .ref b_1), (4, .int ii), (0, .ref h0), (1, .int dep)]) hx hb dX2_readSteps_64 rfl hl (by decide) rfl (fun ls hl => ?_)
                  refine lv_iinc (v := (ii + 1)) (lv' := [(4, .int (ii + 1)), (3, .ref b_189), (5, .ref b_189), (2, .ref b_1), (0, .ref h0), (1, .int dep)]) hx hb dX2_readSteps_65 hl (k := 3) rfl rfl (by decide) rfl (fun ls hl => ?_)
                  refine lv_goto (tgt := 7) hx hb dX2_readSteps_68 (by decide) ?_
                  exact W.widen (by first | exact Nat.le_of_ble_eq_true rfl | (simp only [rm_X2_readStepsT]; omega) | omega) (by first | exact Nat.le_of_ble_eq_true rfl | (simp only [rm_X2_readStepsT]; omega) | omega) (ih (.ref b_1) (.ref b_189) (ii + 1) ax_191 tn_192 fa_193 pw_194 sg_195 (kc + n_186) _ _ _ _ _ (up_le (by decide) hm c_169) (Or.inr ⟨_, rfl, hT.at 2 rfl⟩) (Or.inr ⟨_, rfl, hT.at 0 rfl⟩) hk_224 hk_225 hk_226 hk_227 hk_228 hk_229 (by omega) (hrel_205) (⟨qn_211, tnx Tn_212 la1 q1.2.1, an_213, q1.2.1 + 1, hrq_215, hsg_216, fun r9 h9 => hall r9 (Ev.go ⟨hrq1.F.symm.trans c_173, tn_rg hrq1.K c_177 c_181⟩ hev_214 h9), fun h9 => ss_cnt hev_214 c_173 hnd1.2 hcnt (hrq_215.F.symm.trans h9), fun h9 => (hlp c_173).nx1 (hpk_218 (hrq_215.F.symm.trans h9)) (hrq_215.F.symm.trans h9) ⟨hrq1.F.symm.trans c_173, tn_rg hrq1.K c_177 c_181⟩ (fun b9 hb9 => (hEc_182 b9 hb9).1) hE9__220 hO9__219 hE1 hrd_222⟩) (hO5) hP hD hS (hT.sub [3, 4, 5, 6, 7] rfl) hE hF (lv_sub hl [3, 1, 0, 4, 5] rfl))
  exact W.widen (by first | exact Nat.le_of_ble_eq_true rfl | (simp only [rm_X2_readStepsT]; omega) | omega) (by first | exact Nat.le_of_ble_eq_true rfl | (simp only [rm_X2_readStepsT]; omega) | omega) (lp 302 .null .null 0 ax tn fa pw sg (0) _ _ _ _ _ (⟨0, nI_0.symm, by omega, by omega⟩) (Or.inl rfl) (Or.inl rfl) hm_ax hm_tn hm_fa hm_pw hm_sg hm_zz (by omega) (hs3) (⟨q, T, ad, 0, hRQ, hnd, fun _ h9 => h9, fun _ => ⟨0, nI_0.symm, by omega, by omega⟩, fun _ => LPk.st⟩) (hO5) hP hD hS (hT.sub [0, 1, 2, 3, 4] rfl) hE hF (lv_sub hl [2, 1, 0, 3, 4] rfl))

theorem X2_readStepsT_all (l : Launch) (dC : Nat → ClassId) (dI : Nat → Nat → Nat) (sa : Nat → Nat) (hlt : l.stackTraces = false) (g : Nat → Nat) : ∀ (j d : Nat), d + j = 8 → ∀ (L : List Nat) (f : Nat → va_E) (P : Nat) (tt : Nat → Int32) (ln : Nat) (M : Nat) (q : SG) (T : TT) (ad : Nat → Nat) (h0 : Nat) (dep : Int32) (tok : Nat) (ka : Nat) (sta : Nat) (vaa : Nat) (ax : Int32) (tn : Int32) (fa : Int32) (pw : Int32) (sg : Int32) (zz : Int32) (sz : Nat) (hT : TP g L f [(h0, (0, 2, 0)), (tok, (0, 6, 0)), (ka, (1, g 0, 1501)), (sta, (1, g 5, 1501)), (vaa, (1, g 6, 1501))]) (hm_ax : rd f h0 1 = .int ax) (hm_tn : rd f h0 2 = .int tn) (hm_fa : rd f h0 3 = .int fa) (hm_pw : rd f h0 4 = .int pw) (hm_sg : rd f h0 5 = .int sg) (hm_zz : rd f tok 3 = .int zz) (h_tok : rd f h0 0 = .ref tok) (h_ka : rd f tok 4 = .ref ka) (h_sta : rd f tok 5 = .ref sta) (h_vaa : rd f tok 6 = .ref vaa) (hd : dep = nI d) (hP0 : pot fa sg = P) (hs3 : sg.toInt ≤ 300) (hzz : zz = nI (M + 1)) (hTK : TKS f ka sta vaa tt ln M) (hRQ : RQ tt ln M q ax tn fa pw) (hnd : sg = nI q.2.1 ∧ q.2.1 ≤ 300), KZ l dC dI sa g yX2_readSteps wsX2_readSteps (rm_X2_readStepsT j d P tt ln M q T ad) [.ref h0, .int dep] L f sz (fun r L' f' => (∃ v : Value, r = some v ∧ okv L' f' (2, 0, 5, 0) v) ∧ Fr [(2, 1), (2, 2), (2, 3), (2, 4), (5, 1), (5, 2), (5, 3), (5, 4), (5, 5), (5, 6), (5, 7), (2, 5)] L f f' ∧ (∃ ax' : Int32, ∃ tn' : Int32, ∃ fa' : Int32, ∃ pw' : Int32, ∃ sg' : Int32, rd f' h0 1 = .int ax' ∧ rd f' h0 2 = .int tn' ∧ rd f' h0 3 = .int fa' ∧ rd f' h0 4 = .int pw' ∧ rd f' h0 5 = .int sg' ∧ (True) ∧ (True) ∧ (True) ∧ (True) ∧ (sg'.toInt ≤ 300) ∧ (OF 5 [] L f f' ∧ (∃ (qn : SG) (T' : TT) (ad' : Nat → Nat), (Ev (Kp tt ln) (Vp tt ln) (nq tt ln) 0 d q qn) ∧ RQ tt ln M qn ax' tn' fa' pw' ∧ (sg' = nI qn.2.1 ∧ qn.2.1 ≤ 300) ∧ (qn.2.2.1 = 0 → ∃ v9 : Value, r = some v9 ∧ PB (Kp tt ln) (Vp tt ln) (nq tt ln) 0 d q qn T T' ad ad' L L' f' v9))))) (fun n f' => ∃ a b : Int32, rd f' h0 3 = .int a ∧ rd f' h0 5 = .int b ∧ n + pot a b ≤ P) P (8 * P) := by
  intro j
  induction j with
  | zero => exact fun d hdj L f P tt ln M q T ad h0 dep tok ka sta vaa ax tn fa pw sg zz sz hT hm1 hm2 hm3 hm4 hm5 hm6 hr1 hr2 hr3 hr4 hd hP0 hs3 hzz hTK hRQ hnd => t_X2_readStepsT l dC dI sa hlt g L f 0 d P tt ln M q T ad h0 dep tok ka sta vaa ax tn fa pw sg zz sz hT hm1 hm2 hm3 hm4 hm5 hm6 hr1 hr2 hr3 hr4 hd hdj hP0 hs3 hzz hTK hRQ hnd (fun j' d' _ h => absurd h (by omega))
  | succ j ih =>
    exact fun d hdj L f P tt ln M q T ad h0 dep tok ka sta vaa ax tn fa pw sg zz sz hT hm1 hm2 hm3 hm4 hm5 hm6 hr1 hr2 hr3 hr4 hd hP0 hs3 hzz hTK hRQ hnd => t_X2_readStepsT l dC dI sa hlt g L f (j + 1) d P tt ln M q T ad h0 dep tok ka sta vaa ax tn fa pw sg zz sz hT hm1 hm2 hm3 hm4 hm5 hm6 hr1 hr2 hr3 hr4 hd hdj hP0 hs3 hzz hTK hRQ hnd (fun j' d' hdj' hj => by
      obtain rfl : j = j' := by omega
      exact ih d' hdj')

noncomputable abbrev rm_X2_readRecipeT (tt : Nat → Int32) (ln : Nat) (T : TT) (ad : Nat → Nat) : Room := { frames := 80, cells := 301, slots := 2408, locals := 2400 }
set_option maxHeartbeats 800000 in
set_option maxRecDepth 100000 in
theorem t_X2_readRecipeT (l : Launch) (dC : Nat → ClassId) (dI : Nat → Nat → Nat) (sa : Nat → Nat) (hlt : l.stackTraces = false) (g : Nat → Nat) (L : List Nat) (f : Nat → va_E) (tt : Nat → Int32) (ln : Nat) (T : TT) (ad : Nat → Nat) (h0 : Nat) (nn : Int32) (tok : Nat) (tp : Nat) (ka : Nat) (sta : Nat) (vaa : Nat) (sz : Nat) (hT : TP g L f [(h0, (0, 2, 0)), (tok, (0, 6, 0)), (tp, (1, g 1, 1500)), (ka, (1, g 0, 1501)), (sta, (1, g 5, 1501)), (vaa, (1, g 6, 1501))]) (h_tok : rd f h0 0 = .ref tok) (h_tp : rd f tok 0 = .ref tp) (h_ka : rd f tok 4 = .ref ka) (h_sta : rd f tok 5 = .ref sta) (h_vaa : rd f tok 6 = .ref vaa) (hta : ia f tp = tt) (hnn : nn = nI ln ∧ ln ≤ 1500) (hds : ka ≠ sta ∧ ka ≠ vaa ∧ sta ≠ vaa) : KC l dC dI sa g yX2_readRecipe wsX2_readRecipe (rm_X2_readRecipeT tt ln T ad) [.ref h0, .int nn] L f sz (fun r L' f' => (∃ v : Value, r = some v ∧ okv L' f' (2, 0, 5, 0) v) ∧ Fr [(2, 1), (2, 2), (2, 3), (2, 4), (2, 5), (5, 1), (5, 2), (5, 3), (5, 4), (5, 5), (5, 6), (5, 7), (6, 1), (6, 2), (6, 3), (100, 1501)] L f f' ∧ (∃ fa' : Int32, ∃ pw' : Int32, ∃ sg' : Int32, rd f' h0 3 = .int fa' ∧ rd f' h0 4 = .int pw' ∧ rd f' h0 5 = .int sg' ∧ (True) ∧ (True) ∧ (True) ∧ (OF 5 [] L f f' ∧ (∃ (qn : SG) (T' : TT) (ad' : Nat → Nat), Ev (Kp tt ln) (Vp tt ln) (nq tt ln) 0 0 (Sj tt ln 0, 0, 0, -1) qn ∧ fa' = (gpa (Kp tt ln) (nq tt ln) 0 qn).2.2.1 ∧ pw' = (gpa (Kp tt ln) (nq tt ln) 0 qn).2.2.2 ∧ (fa' = 0 → sg' = nI qn.2.1 ∧ qn.2.1 ≤ 300 ∧ ∃ v9 : Value, r = some v9 ∧ PB (Kp tt ln) (Vp tt ln) (nq tt ln) 0 0 (Sj tt ln 0, 0, 0, -1) qn T T' ad ad' L L' f' v9))))) 301 2408 := by
  refine CT.start (cc := cX2_readRecipe) (maxL := 3) (ret := (some (.object "VatHouse$Step"))) (by decide) rfl (Nat.le_of_ble_eq_true rfl) ?_
  intro p e s m below meth c ls hst hP hK hD hev hS hl
  obtain ⟨hx, hb, hr, hml, hts, hown, hlocks, hin⟩ := hst
  have hown : s.vm.findClass RX2 = some m.cls := hown
  have hin : meth.name = yX2_readRecipe.name := hin
  have hA : ∀ q : Nat, s.heap.size ≤ q → va_A (va_pl L f) s.heap.size q := fun _ h => Or.inr h
  have hE : Ext L f L f := Ext.rf
  have hF : Fr [(2, 1), (2, 2), (2, 3), (2, 4), (2, 5), (5, 1), (5, 2), (5, 3), (5, 4), (5, 5), (5, 6), (5, 7), (6, 1), (6, 2), (6, 3), (100, 1501)] L f f := Fr.rf
  have hO5 : OF 5 [] L f f := OF.rf
  have hl : lv_has ls 3 [(0, .ref h0), (1, .int nn)] := hl
  have hT0 := hT
  have hp00 : pot 0 0 = 301 := by decide
  refine lv_aload_n hx hb dX2_readRecipe_0 rfl (lv_at hl 0 rfl) ?_
  refine T_get (ci := 2) (C := RX2) (T := TX2) (N := 6) (t := (1, 0, 6, 0)) hx hb hts inw_X2_readRecipe_2 hown hK hP hT 0 rfl rfl 0 (by decide) (hts (.fieldLink RX2 20 "VatHouse$Reader" "tokens" "LVatHouse$Tokens;") (List.mem_of_getElem? (i := 1) (by exact rfl))) (fun _ h9 => h9) rfl dX2_readRecipe_1 (fun v_3 hv_1 hr_2 => ?_)
  obtain rfl : v_3 = .ref tok := hr_2.symm.trans ((hF.1 h0 (hT0.at 0 rfl).1 2 (hT0.at 0 rfl).2 0 (by decide)).trans h_tok)
  refine lv_iload_n hx hb dX2_readRecipe_4 rfl (lv_at hl 1 rfl) ?_
  refine K_V ⟨hx, hb, hml, hown, hts⟩ (t_X6_split l dC dI sa hlt g _ _ tt ln tok nn tp ka sta vaa _ (hT.sub [1, 2, 3, 4, 5] rfl)  ((hF.1 tok (hT0.at 1 rfl).1 6 (hT0.at 1 rfl).2 0 (by decide)).trans h_tp) ((hF.1 tok (hT0.at 1 rfl).1 6 (hT0.at 1 rfl).2 4 (by decide)).trans h_ka) ((hF.1 tok (hT0.at 1 rfl).1 6 (hT0.at 1 rfl).2 5 (by decide)).trans h_sta) ((hF.1 tok (hT0.at 1 rfl).1 6 (hT0.at 1 rfl).2 6 (by decide)).trans h_vaa) ((ia_eq (hF.2 tp (hT0.at 2 rfl).1 0 _ _ (hT0.at 2 rfl).2 (by decide))).trans hta) hnn hds) (cwV 1 hts gX2_readRecipe_X6_split rfl rfl rfl (by decide +kernel) ⟨(by first | exact Nat.le_of_ble_eq_true rfl | (simp only [rm_X6_split, rm_X2_readRecipeT]; omega)), (by first | exact Nat.le_of_ble_eq_true rfl | (simp only [rm_X6_split, rm_X2_readRecipeT]; omega))⟩) hP hD hK hS hA hev hT 1 6 rfl rfl rfl rfl hl.1 rfl (Nat.le_of_ble_eq_true rfl) dX2_readRecipe_5 ⟨(by first | exact Nat.le_of_ble_eq_true rfl | (simp only [rm_X2_readRecipeT]; omega) | omega), (by first | exact Nat.le_of_ble_eq_true rfl | (simp only [rm_X2_readRecipeT]; omega) | omega)⟩ (fun r L_4 f_5 H locs hw_6 hP hD hS hT hE1 => ?_)
  have hEo := hE
  have hO5 := hO5.call hE (OF.fr hw_6.2.1 (by decide)) (by simp)
  have hF := Fr.call hF hE hw_6.2.1 (by decide)
  have hE := hE.tr hE1
  obtain ⟨rfl, hw_6⟩ := hw_6
  obtain ⟨hfr_7, zz_8, hk_9, hrel_10, hex_11⟩ := hw_6
  obtain ⟨M, hM1, hM2, hM3, hzz⟩ := hex_11
  have hTK9 : TKS f_5 ka sta vaa tt ln M := ⟨hM3, hM1, hM2⟩
  refine W.eq (g2 := F0 m 8 ls []) rfl ?_
  refine lv_aload_n hx hb dX2_readRecipe_8 rfl (lv_at hl 0 rfl) ?_
  refine lv_iconst (v := 0) hx hb dX2_readRecipe_9 (by decide) ?_
  have hTo := hT
  refine T_put (ci := 2) (v := .int 0) (ty := .int) (t := tI) (C := RX2) (T := TX2) (N := 6) hx hb hts inw_X2_readRecipe_2 tyX2 tyX2_ok nmX2 hown hK hP hD hS hT 0 rfl rfl 3 (by decide) (hts (.fieldLink RX2 28 "VatHouse$Reader" "fault" "I") (List.mem_of_getElem? (i := 2) (by exact rfl))) (fun _ h9 => h9) rfl (tyX2_ok 3 (by decide)) rfl rfl rfl ⟨_, rfl⟩ dX2_readRecipe_10 (fun f_12 H locs hP hD hS hT hE1 hrd_13 hup_14 => ?_)
  have hO5 := OF.putN (a := h0) (cj := 2) hO5 hE ((hE1 h0 (hT.at 0 rfl).1).2.symm.trans (hT.at 0 rfl).2) (by decide) hrd_13
  have hF := Fr.put (a := h0) (ci := 2) hF hE ((hE1 h0 (hT.at 0 rfl).1).2.symm.trans (hT.at 0 rfl).2) (by decide) hrd_13 hup_14
  have hE := hE.tr hE1
  have hk_15 : rd f_12 tok 3 = .int zz_8 := ((Fr.put (cs := [(2, 3)]) (a := h0) (ci := 2) Fr.rf Ext.rf (hTo.at 0 rfl).2 (by decide) hrd_13 hup_14).1 tok (hTo.at 1 rfl).1 6 (hTo.at 1 rfl).2 3 (by decide)).trans hk_9
  have hk_16 : rd f_12 h0 3 = .int 0 := (hrd_13 h0 3).trans (if_pos ⟨rfl, rfl⟩)
  have hak_17 : f_12 ka = f_5 ka := (hup_14 ka (ne_sh (hT0.at 3 rfl).2 (hT0.at 0 rfl).2 (by intro h9; cases h9))).trans rfl
  have hak_18 : f_12 sta = f_5 sta := (hup_14 sta (ne_sh (hT0.at 4 rfl).2 (hT0.at 0 rfl).2 (by intro h9; cases h9))).trans rfl
  have hak_19 : f_12 vaa = f_5 vaa := (hup_14 vaa (ne_sh (hT0.at 5 rfl).2 (hT0.at 0 rfl).2 (by intro h9; cases h9))).trans rfl
  refine lv_aload_n hx hb dX2_readRecipe_13 rfl (lv_at hl 0 rfl) ?_
  refine lv_iconst (v := (-1)) hx hb dX2_readRecipe_14 (by decide) ?_
  have hTo := hT
  refine T_put (ci := 2) (v := .int (-1)) (ty := .int) (t := tI) (C := RX2) (T := TX2) (N := 6) hx hb hts inw_X2_readRecipe_2 tyX2 tyX2_ok nmX2 hown hK hP hD hS hT 0 rfl rfl 4 (by decide) (hts (.fieldLink RX2 9 "VatHouse$Reader" "place" "I") (List.mem_of_getElem? (i := 3) (by exact rfl))) (fun _ h9 => h9) rfl (tyX2_ok 4 (by decide)) rfl rfl rfl ⟨_, rfl⟩ dX2_readRecipe_15 (fun f_20 H locs hP hD hS hT hE1 hrd_21 hup_22 => ?_)
  have hO5 := OF.putN (a := h0) (cj := 2) hO5 hE ((hE1 h0 (hT.at 0 rfl).1).2.symm.trans (hT.at 0 rfl).2) (by decide) hrd_21
  have hF := Fr.put (a := h0) (ci := 2) hF hE ((hE1 h0 (hT.at 0 rfl).1).2.symm.trans (hT.at 0 rfl).2) (by decide) hrd_21 hup_22
  have hE := hE.tr hE1
  have hk_23 : rd f_20 tok 3 = .int zz_8 := ((Fr.put (cs := [(2, 4)]) (a := h0) (ci := 2) Fr.rf Ext.rf (hTo.at 0 rfl).2 (by decide) hrd_21 hup_22).1 tok (hTo.at 1 rfl).1 6 (hTo.at 1 rfl).2 3 (by decide)).trans hk_15
  have hk_24 : rd f_20 h0 3 = .int 0 := ((Fr.put (cs := [(2, 4)]) (a := h0) (ci := 2) Fr.rf Ext.rf (hTo.at 0 rfl).2 (by decide) hrd_21 hup_22).1 h0 (hTo.at 0 rfl).1 2 (hTo.at 0 rfl).2 3 (by decide)).trans hk_16
  have hk_25 : rd f_20 h0 4 = .int (-1) := (hrd_21 h0 4).trans (if_pos ⟨rfl, rfl⟩)
  have hak_26 : f_20 ka = f_5 ka := (hup_22 ka (ne_sh (hT0.at 3 rfl).2 (hT0.at 0 rfl).2 (by intro h9; cases h9))).trans hak_17
  have hak_27 : f_20 sta = f_5 sta := (hup_22 sta (ne_sh (hT0.at 4 rfl).2 (hT0.at 0 rfl).2 (by intro h9; cases h9))).trans hak_18
  have hak_28 : f_20 vaa = f_5 vaa := (hup_22 vaa (ne_sh (hT0.at 5 rfl).2 (hT0.at 0 rfl).2 (by intro h9; cases h9))).trans hak_19
  refine lv_aload_n hx hb dX2_readRecipe_18 rfl (lv_at hl 0 rfl) ?_
  refine lv_iconst (v := 0) hx hb dX2_readRecipe_19 (by decide) ?_
  have hTo := hT
  refine T_put (ci := 2) (v := .int 0) (ty := .int) (t := tI) (C := RX2) (T := TX2) (N := 6) hx hb hts inw_X2_readRecipe_2 tyX2 tyX2_ok nmX2 hown hK hP hD hS hT 0 rfl rfl 5 (by decide) (hts (.fieldLink RX2 31 "VatHouse$Reader" "steps" "I") (List.mem_of_getElem? (i := 4) (by exact rfl))) (fun _ h9 => h9) rfl (tyX2_ok 5 (by decide)) rfl rfl rfl ⟨_, rfl⟩ dX2_readRecipe_20 (fun f_29 H locs hP hD hS hT hE1 hrd_30 hup_31 => ?_)
  have hO5 := OF.putN (a := h0) (cj := 2) hO5 hE ((hE1 h0 (hT.at 0 rfl).1).2.symm.trans (hT.at 0 rfl).2) (by decide) hrd_30
  have hF := Fr.put (a := h0) (ci := 2) hF hE ((hE1 h0 (hT.at 0 rfl).1).2.symm.trans (hT.at 0 rfl).2) (by decide) hrd_30 hup_31
  have hE := hE.tr hE1
  have hk_32 : rd f_29 tok 3 = .int zz_8 := ((Fr.put (cs := [(2, 5)]) (a := h0) (ci := 2) Fr.rf Ext.rf (hTo.at 0 rfl).2 (by decide) hrd_30 hup_31).1 tok (hTo.at 1 rfl).1 6 (hTo.at 1 rfl).2 3 (by decide)).trans hk_23
  have hk_33 : rd f_29 h0 3 = .int 0 := ((Fr.put (cs := [(2, 5)]) (a := h0) (ci := 2) Fr.rf Ext.rf (hTo.at 0 rfl).2 (by decide) hrd_30 hup_31).1 h0 (hTo.at 0 rfl).1 2 (hTo.at 0 rfl).2 3 (by decide)).trans hk_24
  have hk_34 : rd f_29 h0 4 = .int (-1) := ((Fr.put (cs := [(2, 5)]) (a := h0) (ci := 2) Fr.rf Ext.rf (hTo.at 0 rfl).2 (by decide) hrd_30 hup_31).1 h0 (hTo.at 0 rfl).1 2 (hTo.at 0 rfl).2 4 (by decide)).trans hk_25
  have hk_35 : rd f_29 h0 5 = .int 0 := (hrd_30 h0 5).trans (if_pos ⟨rfl, rfl⟩)
  have hak_36 : f_29 ka = f_5 ka := (hup_31 ka (ne_sh (hT0.at 3 rfl).2 (hT0.at 0 rfl).2 (by intro h9; cases h9))).trans hak_26
  have hak_37 : f_29 sta = f_5 sta := (hup_31 sta (ne_sh (hT0.at 4 rfl).2 (hT0.at 0 rfl).2 (by intro h9; cases h9))).trans hak_27
  have hak_38 : f_29 vaa = f_5 vaa := (hup_31 vaa (ne_sh (hT0.at 5 rfl).2 (hT0.at 0 rfl).2 (by intro h9; cases h9))).trans hak_28
  refine lv_aload_n hx hb dX2_readRecipe_23 rfl (lv_at hl 0 rfl) ?_
  refine lv_iconst (v := 0) hx hb dX2_readRecipe_24 (by decide) ?_
  have hTo := hT
  refine K_V ⟨hx, hb, hml, hown, hts⟩ (t_X2_moveTo l dC dI sa hlt g _ _ tt ln M h0 0 tok ka sta vaa zz_8 _ (hT.sub [0, 1, 3, 4, 5] rfl)  hk_32 ((hF.1 h0 (hT0.at 0 rfl).1 2 (hT0.at 0 rfl).2 0 (by decide)).trans h_tok) ((hF.1 tok (hT0.at 1 rfl).1 6 (hT0.at 1 rfl).2 4 (by decide)).trans h_ka) ((hF.1 tok (hT0.at 1 rfl).1 6 (hT0.at 1 rfl).2 5 (by decide)).trans h_sta) ((hF.1 tok (hT0.at 1 rfl).1 6 (hT0.at 1 rfl).2 6 (by decide)).trans h_vaa) hzz (hTK9.go hak_36 hak_37 hak_38)) (cwV 1 hts gX2_readRecipe_X2_moveTo rfl rfl rfl (by decide +kernel) ⟨(by first | exact Nat.le_of_ble_eq_true rfl | (simp only [rm_X2_moveTo, rm_X2_readRecipeT]; omega)), (by first | exact Nat.le_of_ble_eq_true rfl | (simp only [rm_X2_moveTo, rm_X2_readRecipeT]; omega))⟩) hP hD hK hS hA hev hT 0 2 rfl rfl rfl rfl hl.1 rfl (Nat.le_of_ble_eq_true rfl) dX2_readRecipe_25 ⟨(by first | exact Nat.le_of_ble_eq_true rfl | (simp only [rm_X2_readRecipeT]; omega) | omega), (by first | exact Nat.le_of_ble_eq_true rfl | (simp only [rm_X2_readRecipeT]; omega) | omega)⟩ (fun r L_39 f_40 H locs hw_41 hP hD hS hT hE1 => ?_)
  have hEo := hE
  have hO5 := hO5.call hE (OF.fr hw_41.2.1 (by decide)) (by simp)
  have hF := Fr.call hF hE hw_41.2.1 (by decide)
  have hE := hE.tr hE1
  obtain ⟨rfl, hw_41⟩ := hw_41
  obtain ⟨hfr_42, ax_43, tn_44, hk_45, hk_46, hrel_47, hrel_48, hex_49⟩ := hw_41
  have hk_50 : rd f_40 tok 3 = .int zz_8 := (hfr_42.1 tok (hTo.at 1 rfl).1 6 (hTo.at 1 rfl).2 3 (by decide)).trans hk_32
  have hk_51 : rd f_40 h0 3 = .int 0 := (hfr_42.1 h0 (hTo.at 0 rfl).1 2 (hTo.at 0 rfl).2 3 (by decide)).trans hk_33
  have hk_52 : rd f_40 h0 4 = .int (-1) := (hfr_42.1 h0 (hTo.at 0 rfl).1 2 (hTo.at 0 rfl).2 4 (by decide)).trans hk_34
  have hk_53 : rd f_40 h0 5 = .int 0 := (hfr_42.1 h0 (hTo.at 0 rfl).1 2 (hTo.at 0 rfl).2 5 (by decide)).trans hk_35
  have hak_54 : f_40 ka = f_5 ka := (hfr_42.2 ka (hTo.at 3 rfl).1 _ _ _ (hTo.at 3 rfl).2 (by decide)).trans hak_36
  have hak_55 : f_40 sta = f_5 sta := (hfr_42.2 sta (hTo.at 4 rfl).1 _ _ _ (hTo.at 4 rfl).2 (by decide)).trans hak_37
  have hak_56 : f_40 vaa = f_5 vaa := (hfr_42.2 vaa (hTo.at 5 rfl).1 _ _ _ (hTo.at 5 rfl).2 (by decide)).trans hak_38
  have hrq0 : RQ tt ln M (Sj tt ln 0, 0, 0, -1) ax_43 tn_44 0 (-1) := ⟨⟨0, hex_49.1.trans nI_0.symm, Nat.zero_le _, rfl⟩, hex_49.2 0 (Nat.zero_le _) nI_0.symm, rfl, rfl⟩
  refine W.eq (g2 := F0 m 28 ls []) rfl ?_
  refine lv_aload_n hx hb dX2_readRecipe_28 rfl (lv_at hl 0 rfl) ?_
  refine lv_iconst (v := 0) hx hb dX2_readRecipe_29 (by decide) ?_
  have hEc_57 := hE
  have hTo := hT
  refine K_VZ ⟨hx, hb, hml, hown, hts⟩ (X2_readStepsT_all l dC dI sa hlt g 8 0 rfl _ _ (pot 0 0) tt ln M (Sj tt ln 0, 0, 0, -1) T ad h0 0 tok ka sta vaa ax_43 tn_44 0 (-1) 0 zz_8 _ (hT.sub [0, 1, 3, 4, 5] rfl)  hk_45 hk_46 hk_51 hk_52 hk_53 hk_50 ((hF.1 h0 (hT0.at 0 rfl).1 2 (hT0.at 0 rfl).2 0 (by decide)).trans h_tok) ((hF.1 tok (hT0.at 1 rfl).1 6 (hT0.at 1 rfl).2 4 (by decide)).trans h_ka) ((hF.1 tok (hT0.at 1 rfl).1 6 (hT0.at 1 rfl).2 5 (by decide)).trans h_sta) ((hF.1 tok (hT0.at 1 rfl).1 6 (hT0.at 1 rfl).2 6 (by decide)).trans h_vaa) nI_0.symm rfl (by decide) hzz (hTK9.go hak_54 hak_55 hak_56) hrq0 ⟨nI_0.symm, Nat.zero_le _⟩) (cwV 1 hts gX2_readRecipe_X2_readSteps rfl rfl rfl (by decide +kernel) ⟨(by first | exact Nat.le_of_ble_eq_true rfl | (simp only [rm_X2_readStepsT, rm_X2_readRecipeT]; omega)), (by first | exact Nat.le_of_ble_eq_true rfl | (simp only [rm_X2_readStepsT, rm_X2_readRecipeT]; omega))⟩) hP hD hK hS hA hev hT 0 2 rfl rfl rfl rfl hl.1 rfl (Nat.le_of_ble_eq_true rfl) dX2_readRecipe_30 ⟨(by first | exact Nat.le_of_ble_eq_true rfl | (simp only [rm_X2_readRecipeT]; omega) | omega), (by first | exact Nat.le_of_ble_eq_true rfl | (simp only [rm_X2_readRecipeT]; omega) | omega)⟩ (fun r L_58 f_59 n_61 H locs hw_60 hn_62 hP hD hS hT hE1 => ?_)
  have hEo := hE
  have hF := Fr.call hF hE hw_60.2.1 (by decide)
  have hE := hE.tr hE1
  obtain ⟨⟨v_63, rfl, hv9⟩, hw_60⟩ := hw_60
  rcases hv9 with rfl | ⟨b_64, rfl, hb9⟩
  · obtain ⟨hfr_65, ax_66, tn_67, fa_68, pw_69, sg_70, hk_71, hk_72, hk_73, hk_74, hk_75, hrel_76, hrel_77, hrel_78, hrel_79, hrel_80, hex_81⟩ := hw_60
    obtain ⟨hof_82, hex_83⟩ := hex_81
    have hO5 := hO5.call hEo hof_82 (by simp)
    have hk_84 : rd f_59 tok 3 = .int zz_8 := (hfr_65.1 tok (hTo.at 1 rfl).1 6 (hTo.at 1 rfl).2 3 (by decide)).trans hk_50
    have hak_85 : f_59 ka = f_5 ka := (hfr_65.2 ka (hTo.at 3 rfl).1 _ _ _ (hTo.at 3 rfl).2 (by decide)).trans hak_54
    have hak_86 : f_59 sta = f_5 sta := (hfr_65.2 sta (hTo.at 4 rfl).1 _ _ _ (hTo.at 4 rfl).2 (by decide)).trans hak_55
    have hak_87 : f_59 vaa = f_5 vaa := (hfr_65.2 vaa (hTo.at 5 rfl).1 _ _ _ (hTo.at 5 rfl).2 (by decide)).trans hak_56
    have hq_88 : n_61 + pot fa_68 sg_70 ≤ pot 0 0 := by
      obtain ⟨a9, b9, g1, g2, g3⟩ := hn_62
      cases g1.symm.trans hk_73
      cases g2.symm.trans hk_75
      exact g3
    have hE9 := hE1
    obtain ⟨qn_89, Tn_90, an_91, hev_92, hrq_93, hsg_94, hpk_95⟩ := hex_83
    have hpk_96 : qn_89.2.2.1 = 0 → PB (Kp tt ln) (Vp tt ln) (nq tt ln) 0 0 (Sj tt ln 0, 0, 0, -1) qn_89 T Tn_90 ad an_91 L_39 L_58 f_59 (.null) := fun h9 => by
      obtain ⟨v9, e9, g9⟩ := hpk_95 h9
      cases e9
      exact g9
    have hEb0 : Ext L_58 f_59 L_58 f_59 := Ext.rf
    have hOb0 : OF 5 [] L_58 f_59 f_59 := OF.rf
    have hO9__97 := hof_82
    have hE9__98 := hE9
    refine W.eq (g2 := F0 m 33 ls [.null]) rfl ?_
    refine lv_astore_nN (lv' := [(2, .null), (0, .ref h0), (1, .int nn)]) hx hb dX2_readRecipe_33 rfl hl (by decide) rfl (fun ls hl => ?_)
    refine lv_aload_n hx hb dX2_readRecipe_34 rfl (lv_at hl 1 rfl) ?_
    refine lv_iconst (v := 0) hx hb dX2_readRecipe_35 (by decide) ?_
    have hTo := hT
    refine K_V ⟨hx, hb, hml, hown, hts⟩ (t_X2_passE l dC dI sa hlt g _ _ tt ln M qn_89 h0 0 tok ka sta vaa ax_66 tn_67 fa_68 pw_69 zz_8 _ (hT.sub [0, 1, 3, 4, 5] rfl)  hk_71 hk_72 hk_73 hk_74 hk_84 ((hF.1 h0 (hT0.at 0 rfl).1 2 (hT0.at 0 rfl).2 0 (by decide)).trans h_tok) ((hF.1 tok (hT0.at 1 rfl).1 6 (hT0.at 1 rfl).2 4 (by decide)).trans h_ka) ((hF.1 tok (hT0.at 1 rfl).1 6 (hT0.at 1 rfl).2 5 (by decide)).trans h_sta) ((hF.1 tok (hT0.at 1 rfl).1 6 (hT0.at 1 rfl).2 6 (by decide)).trans h_vaa) hzz (hTK9.go hak_85 hak_86 hak_87) hrq_93 rfl) (cwV 1 hts gX2_readRecipe_X2_pass rfl rfl rfl (by decide +kernel) ⟨(by first | exact Nat.le_of_ble_eq_true rfl | (simp only [rm_X2_passE, rm_X2_readRecipeT]; omega)), (by first | exact Nat.le_of_ble_eq_true rfl | (simp only [rm_X2_passE, rm_X2_readRecipeT]; omega))⟩) hP hD hK hS hA hev hT 0 2 rfl rfl rfl rfl hl.1 rfl (Nat.le_of_ble_eq_true rfl) dX2_readRecipe_36 ⟨(by first | exact Nat.le_of_ble_eq_true rfl | (simp only [rm_X2_readRecipeT]; omega) | omega), (by first | exact Nat.le_of_ble_eq_true rfl | (simp only [rm_X2_readRecipeT]; omega) | omega)⟩ (fun r L_99 f_100 H locs hw_101 hP hD hS hT hE1 => ?_)
    have hEo := hE
    have hO5 := hO5.call hE (OF.fr hw_101.2.1 (by decide)) (by simp)
    have hF := Fr.call hF hE hw_101.2.1 (by decide)
    have hE := hE.tr hE1
    obtain ⟨rfl, hw_101⟩ := hw_101
    obtain ⟨hfr_102, ax_103, tn_104, fa_105, pw_106, hk_107, hk_108, hk_109, hk_110, hrel_111, hrel_112, hrel_113, hrel_114, hex_115⟩ := hw_101
    have hk_116 : rd f_100 tok 3 = .int zz_8 := (hfr_102.1 tok (hTo.at 1 rfl).1 6 (hTo.at 1 rfl).2 3 (by decide)).trans hk_84
    have hk_117 : rd f_100 h0 5 = .int sg_70 := (hfr_102.1 h0 (hTo.at 0 rfl).1 2 (hTo.at 0 rfl).2 5 (by decide)).trans hk_75
    have hak_118 : f_100 ka = f_5 ka := (hfr_102.2 ka (hTo.at 3 rfl).1 _ _ _ (hTo.at 3 rfl).2 (by decide)).trans hak_85
    have hak_119 : f_100 sta = f_5 sta := (hfr_102.2 sta (hTo.at 4 rfl).1 _ _ _ (hTo.at 4 rfl).2 (by decide)).trans hak_86
    have hak_120 : f_100 vaa = f_5 vaa := (hfr_102.2 vaa (hTo.at 5 rfl).1 _ _ _ (hTo.at 5 rfl).2 (by decide)).trans hak_87
    have hOb0 := hOb0.call hEb0 (OF.fr hfr_102 (by decide)) (by simp)
    have hEb0 := hEb0.tr hE1
    refine W.eq (g2 := F0 m 39 ls []) rfl ?_
    refine lv_aload_nN hx hb dX2_readRecipe_39 rfl (lv_at hl 0 rfl) ?_
    exact K_a hx hb hr (Or.inl ⟨_, rfl⟩) (Or.inl rfl) hlocks hP hD hK hS hT hE ⟨⟨_, rfl, Or.inl rfl⟩, hF, _, _, _, hk_109, hk_110, hk_117, trivial, trivial, trivial, hO5, ⟨qn_89, Tn_90, an_91, hev_92, hex_115.1, hex_115.2, fun h9 => ⟨(hsg_94).1, (hsg_94).2, _, rfl, (hpk_96 (gpa_ok (hex_115.1.symm.trans h9)).1).mo (fun b9 hb9 => (hEc_57 b9 hb9).1) hEb0 hOb0⟩⟩⟩ (by first | exact Nat.le_of_ble_eq_true rfl | (simp only [rm_X2_readRecipeT]; omega) | omega) (by first | exact Nat.le_of_ble_eq_true rfl | (simp only [rm_X2_readRecipeT]; omega) | omega) dX2_readRecipe_40
  · have hT := hT.add hb9
    obtain ⟨hfr_121, ax_122, tn_123, fa_124, pw_125, sg_126, hk_127, hk_128, hk_129, hk_130, hk_131, hrel_132, hrel_133, hrel_134, hrel_135, hrel_136, hex_137⟩ := hw_60
    obtain ⟨hof_138, hex_139⟩ := hex_137
    have hO5 := hO5.call hEo hof_138 (by simp)
    have hk_140 : rd f_59 tok 3 = .int zz_8 := (hfr_121.1 tok (hTo.at 1 rfl).1 6 (hTo.at 1 rfl).2 3 (by decide)).trans hk_50
    have hak_141 : f_59 ka = f_5 ka := (hfr_121.2 ka (hTo.at 3 rfl).1 _ _ _ (hTo.at 3 rfl).2 (by decide)).trans hak_54
    have hak_142 : f_59 sta = f_5 sta := (hfr_121.2 sta (hTo.at 4 rfl).1 _ _ _ (hTo.at 4 rfl).2 (by decide)).trans hak_55
    have hak_143 : f_59 vaa = f_5 vaa := (hfr_121.2 vaa (hTo.at 5 rfl).1 _ _ _ (hTo.at 5 rfl).2 (by decide)).trans hak_56
    have hq_144 : n_61 + pot fa_124 sg_126 ≤ pot 0 0 := by
      obtain ⟨a9, b9, g1, g2, g3⟩ := hn_62
      cases g1.symm.trans hk_129
      cases g2.symm.trans hk_131
      exact g3
    have hE9 := hE1
    obtain ⟨qn_145, Tn_146, an_147, hev_148, hrq_149, hsg_150, hpk_151⟩ := hex_139
    have hpk_152 : qn_145.2.2.1 = 0 → PB (Kp tt ln) (Vp tt ln) (nq tt ln) 0 0 (Sj tt ln 0, 0, 0, -1) qn_145 T Tn_146 ad an_147 L_39 L_58 f_59 (.ref b_64) := fun h9 => by
      obtain ⟨v9, e9, g9⟩ := hpk_151 h9
      cases e9
      exact g9
    have hEb0 : Ext L_58 f_59 L_58 f_59 := Ext.rf
    have hOb0 : OF 5 [] L_58 f_59 f_59 := OF.rf
    have hO9__153 := hof_138
    have hE9__154 := hE9
    refine W.eq (g2 := F0 m 33 ls [.ref b_64]) rfl ?_
    refine lv_astore_n (lv' := [(2, .ref b_64), (0, .ref h0), (1, .int nn)]) hx hb dX2_readRecipe_33 rfl hl (by decide) rfl (fun ls hl => ?_)
    refine lv_aload_n hx hb dX2_readRecipe_34 rfl (lv_at hl 1 rfl) ?_
    refine lv_iconst (v := 0) hx hb dX2_readRecipe_35 (by decide) ?_
    have hTo := hT
    refine K_V ⟨hx, hb, hml, hown, hts⟩ (t_X2_passE l dC dI sa hlt g _ _ tt ln M qn_145 h0 0 tok ka sta vaa ax_122 tn_123 fa_124 pw_125 zz_8 _ (hT.sub [1, 2, 4, 5, 6] rfl)  hk_127 hk_128 hk_129 hk_130 hk_140 ((hF.1 h0 (hT0.at 0 rfl).1 2 (hT0.at 0 rfl).2 0 (by decide)).trans h_tok) ((hF.1 tok (hT0.at 1 rfl).1 6 (hT0.at 1 rfl).2 4 (by decide)).trans h_ka) ((hF.1 tok (hT0.at 1 rfl).1 6 (hT0.at 1 rfl).2 5 (by decide)).trans h_sta) ((hF.1 tok (hT0.at 1 rfl).1 6 (hT0.at 1 rfl).2 6 (by decide)).trans h_vaa) hzz (hTK9.go hak_141 hak_142 hak_143) hrq_149 rfl) (cwV 1 hts gX2_readRecipe_X2_pass rfl rfl rfl (by decide +kernel) ⟨(by first | exact Nat.le_of_ble_eq_true rfl | (simp only [rm_X2_passE, rm_X2_readRecipeT]; omega)), (by first | exact Nat.le_of_ble_eq_true rfl | (simp only [rm_X2_passE, rm_X2_readRecipeT]; omega))⟩) hP hD hK hS hA hev hT 1 2 rfl rfl rfl rfl hl.1 rfl (Nat.le_of_ble_eq_true rfl) dX2_readRecipe_36 ⟨(by first | exact Nat.le_of_ble_eq_true rfl | (simp only [rm_X2_readRecipeT]; omega) | omega), (by first | exact Nat.le_of_ble_eq_true rfl | (simp only [rm_X2_readRecipeT]; omega) | omega)⟩ (fun r L_155 f_156 H locs hw_157 hP hD hS hT hE1 => ?_)
    have hEo := hE
    have hO5 := hO5.call hE (OF.fr hw_157.2.1 (by decide)) (by simp)
    have hF := Fr.call hF hE hw_157.2.1 (by decide)
    have hE := hE.tr hE1
    obtain ⟨rfl, hw_157⟩ := hw_157
    obtain ⟨hfr_158, ax_159, tn_160, fa_161, pw_162, hk_163, hk_164, hk_165, hk_166, hrel_167, hrel_168, hrel_169, hrel_170, hex_171⟩ := hw_157
    have hk_172 : rd f_156 tok 3 = .int zz_8 := (hfr_158.1 tok (hTo.at 2 rfl).1 6 (hTo.at 2 rfl).2 3 (by decide)).trans hk_140
    have hk_173 : rd f_156 h0 5 = .int sg_126 := (hfr_158.1 h0 (hTo.at 1 rfl).1 2 (hTo.at 1 rfl).2 5 (by decide)).trans hk_131
    have hak_174 : f_156 ka = f_5 ka := (hfr_158.2 ka (hTo.at 4 rfl).1 _ _ _ (hTo.at 4 rfl).2 (by decide)).trans hak_141
    have hak_175 : f_156 sta = f_5 sta := (hfr_158.2 sta (hTo.at 5 rfl).1 _ _ _ (hTo.at 5 rfl).2 (by decide)).trans hak_142
    have hak_176 : f_156 vaa = f_5 vaa := (hfr_158.2 vaa (hTo.at 6 rfl).1 _ _ _ (hTo.at 6 rfl).2 (by decide)).trans hak_143
    have hOb0 := hOb0.call hEb0 (OF.fr hfr_158 (by decide)) (by simp)
    have hEb0 := hEb0.tr hE1
    refine W.eq (g2 := F0 m 39 ls []) rfl ?_
    refine lv_aload_n hx hb dX2_readRecipe_39 rfl (lv_at hl 0 rfl) ?_
    exact K_a hx hb hr (Or.inl ⟨_, rfl⟩) (Or.inr ⟨_, rfl⟩) hlocks hP hD hK hS hT hE ⟨⟨_, rfl, Or.inr ⟨_, rfl, hT.at 0 rfl⟩⟩, hF, _, _, _, hk_165, hk_166, hk_173, trivial, trivial, trivial, hO5, ⟨qn_145, Tn_146, an_147, hev_148, hex_171.1, hex_171.2, fun h9 => ⟨(hsg_150).1, (hsg_150).2, _, rfl, (hpk_152 (gpa_ok (hex_171.1.symm.trans h9)).1).mo (fun b9 hb9 => (hEc_57 b9 hb9).1) hEb0 hOb0⟩⟩⟩ (by first | exact Nat.le_of_ble_eq_true rfl | (simp only [rm_X2_readRecipeT]; omega) | omega) (by first | exact Nat.le_of_ble_eq_true rfl | (simp only [rm_X2_readRecipeT]; omega) | omega) dX2_readRecipe_40
