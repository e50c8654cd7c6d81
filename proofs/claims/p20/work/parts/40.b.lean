noncomputable abbrev rm_X2_readPlainT : Room := { frames := 3, cells := 0, slots := 0, locals := 65 }
set_option maxHeartbeats 800000 in
set_option maxRecDepth 100000 in
theorem t_X2_readPlainT (l : Launch) (dC : Nat → ClassId) (dI : Nat → Nat → Nat) (sa : Nat → Nat) (hlt : l.stackTraces = false) (g : Nat → Nat) (L : List Nat) (f : Nat → va_E) (tt : Nat → Int32) (ln : Nat) (M : Nat) (q : SG) (h0 : Nat) (o : Nat) (tok : Nat) (ka : Nat) (sta : Nat) (vaa : Nat) (ax : Int32) (tn : Int32) (fa : Int32) (pw : Int32) (wd : Int32) (zz : Int32) (vt : Int32) (nu : Int32) (sz : Nat) (hT : TP g L f [(h0, (0, 2, 0)), (o, (0, 5, 0)), (tok, (0, 6, 0)), (ka, (1, g 0, 1501)), (sta, (1, g 5, 1501)), (vaa, (1, g 6, 1501))]) (hm_ax : rd f h0 1 = .int ax) (hm_tn : rd f h0 2 = .int tn) (hm_fa : rd f h0 3 = .int fa) (hm_pw : rd f h0 4 = .int pw) (hm_wd : rd f o 0 = .int wd) (hm_zz : rd f tok 3 = .int zz) (hm_vt : rd f o 1 = .int vt) (hm_nu : rd f o 2 = .int nu) (h_tok : rd f h0 0 = .ref tok) (h_ka : rd f tok 4 = .ref ka) (h_sta : rd f tok 5 = .ref sta) (h_vaa : rd f tok 6 = .ref vaa) (hzz : zz = nI (M + 1)) (hTK : TKS f ka sta vaa tt ln M) (hRQ : RQ tt ln M q ax tn fa pw) : KC l dC dI sa g yX2_readPlain wsX2_readPlain rm_X2_readPlainT [.ref h0, .ref o] L f sz (fun r L' f' => (r = none) ∧ Fr [(2, 1), (2, 2), (2, 3), (2, 4), (5, 1), (5, 2)] L f f' ∧ (∃ ax' : Int32, ∃ tn' : Int32, ∃ fa' : Int32, ∃ pw' : Int32, ∃ vt' : Int32, ∃ nu' : Int32, rd f' h0 1 = .int ax' ∧ rd f' h0 2 = .int tn' ∧ rd f' h0 3 = .int fa' ∧ rd f' h0 4 = .int pw' ∧ rd f' o 1 = .int vt' ∧ rd f' o 2 = .int nu' ∧ (True) ∧ (True) ∧ (fa' = 0 → fa = 0) ∧ (True) ∧ (True) ∧ (True) ∧ (OF 5 [o] L f f' ∧ (RQ tt ln M (gpl (Kp tt ln) (Vp tt ln) (nq tt ln) wd q) ax' tn' fa' pw' ∧ ctP (Kp tt ln) (Vp tt ln) (nq tt ln) wd q vt' nu')))) 0 0 := by
  refine CT.start (cc := cX2_readPlain) (maxL := 2) (ret := none) (by decide) rfl (Nat.le_of_ble_eq_true rfl) ?_
  intro p e s m below meth c ls hst hP hK hD hev hS hl
  obtain ⟨hx, hb, hr, hml, hts, hown, hlocks, hin⟩ := hst
  have hown : s.vm.findClass RX2 = some m.cls := hown
  have hin : meth.name = yX2_readPlain.name := hin
  have hA : ∀ q : Nat, s.heap.size ≤ q → va_A (va_pl L f) s.heap.size q := fun _ h => Or.inr h
  have hE : Ext L f L f := Ext.rf
  have hF : Fr [(2, 1), (2, 2), (2, 3), (2, 4), (5, 1), (5, 2)] L f f := Fr.rf
  have hO5 : OF 5 [o] L f f := OF.rf
  have hl : lv_has ls 2 [(0, .ref h0), (1, .ref o)] := hl
  have hT0 := hT
  refine lv_aload_n hx hb dX2_readPlain_0 rfl (lv_at hl 1 rfl) ?_
  refine T_get (ci := 5) (C := RX5) (T := TX5) (N := 8) (t := tI) hx hb hts inw_X2_readPlain_5 hown hK hP hT 1 rfl rfl 0 (by decide) (hts (.fieldLink RX2 61 "VatHouse$Step" "word" "I") (List.mem_of_getElem? (i := 1) (by exact rfl))) (fun _ h9 => h9) rfl dX2_readPlain_1 (fun v_3 hv_1 hr_2 => ?_)
  obtain rfl : v_3 = .int wd := hr_2.symm.trans hm_wd
  by_cases c_4 : wd = 1
  · refine lv_tableIn (tgt := 48) hx hb dX2_readPlain_4 (by rw [c_4]; decide) (by rw [c_4]; decide) (by rw [c_4]; rfl) (by decide) ?_
    refine lv_aload_n hx hb dX2_readPlain_48 rfl (lv_at hl 1 rfl) ?_
    refine lv_aload_n hx hb dX2_readPlain_49 rfl (lv_at hl 0 rfl) ?_
    refine lv_iconst (v := 0) hx hb dX2_readPlain_50 (by decide) ?_
    refine lv_iconst (v := 5) hx hb dX2_readPlain_51 (by decide) ?_
    have hTo := hT
    refine K_V ⟨hx, hb, hml, hown, hts⟩ (t_X2_readNumber l dC dI sa hlt g _ _ tt ln M q h0 0 5 tok ka sta vaa ax tn fa pw zz _ (hT.sub [0, 2, 3, 4, 5] rfl)  hm_ax hm_tn hm_fa hm_pw hm_zz ((hF.1 h0 (hT0.at 0 rfl).1 2 (hT0.at 0 rfl).2 0 (by decide)).trans h_tok) ((hF.1 tok (hT0.at 2 rfl).1 6 (hT0.at 2 rfl).2 4 (by decide)).trans h_ka) ((hF.1 tok (hT0.at 2 rfl).1 6 (hT0.at 2 rfl).2 5 (by decide)).trans h_sta) ((hF.1 tok (hT0.at 2 rfl).1 6 (hT0.at 2 rfl).2 6 (by decide)).trans h_vaa) hzz (hTK.go (hF.2 ka (hT0.at 3 rfl).1 0 _ _ (hT0.at 3 rfl).2 (by decide)) (hF.2 sta (hT0.at 4 rfl).1 0 _ _ (hT0.at 4 rfl).2 (by decide)) (hF.2 vaa (hT0.at 5 rfl).1 0 _ _ (hT0.at 5 rfl).2 (by decide))) hRQ) (cwV 2 hts gX2_readPlain_X2_readNumber rfl rfl rfl (by decide +kernel) ⟨Nat.le_of_ble_eq_true rfl, Nat.le_of_ble_eq_true rfl⟩) hP hD hK hS hA hev hT 0 2 rfl rfl rfl rfl hl.1 rfl (Nat.le_of_ble_eq_true rfl) dX2_readPlain_52 ⟨Nat.le_of_ble_eq_true rfl, Nat.le_of_ble_eq_true rfl⟩ (fun r L_5 f_6 H locs hw_7 hP hD hS hT hE1 => ?_)
    have hEo := hE
    have hO5 := hO5.call hE (OF.fr hw_7.2.1 (by decide)) (by simp)
    have hF := Fr.call hF hE hw_7.2.1 (by decide)
    have hE := hE.tr hE1
    obtain ⟨⟨z_8, rfl⟩, hw_7⟩ := hw_7
    obtain ⟨hfr_9, ax_10, tn_11, fa_12, pw_13, hk_14, hk_15, hk_16, hk_17, hrel_18, hrel_19, hrel_20, hrel_21, hex_22⟩ := hw_7
    have hk_23 : rd f_6 o 0 = .int wd := (hfr_9.1 o (hTo.at 1 rfl).1 5 (hTo.at 1 rfl).2 0 (by decide)).trans hm_wd
    have hk_24 : rd f_6 tok 3 = .int zz := (hfr_9.1 tok (hTo.at 2 rfl).1 6 (hTo.at 2 rfl).2 3 (by decide)).trans hm_zz
    have hk_25 : rd f_6 o 1 = .int vt := (hfr_9.1 o (hTo.at 1 rfl).1 5 (hTo.at 1 rfl).2 1 (by decide)).trans hm_vt
    have hk_26 : rd f_6 o 2 = .int nu := (hfr_9.1 o (hTo.at 1 rfl).1 5 (hTo.at 1 rfl).2 2 (by decide)).trans hm_nu
    have hzv_27 : z_8 = Vp tt ln q.1 := sv hex_22.1
    have hrq_28 := hex_22.2
    refine W.eq (g2 := F0 m 55 ls [.int z_8, .ref o]) rfl ?_
    have hTo := hT
    refine T_put (ci := 5) (v := .int z_8) (ty := .int) (t := tI) (C := RX5) (T := TX5) (N := 8) hx hb hts inw_X2_readPlain_5 tyX5 tyX5_ok nmX5 hown hK hP hD hS hT 1 rfl rfl 1 (by decide) (hts (.fieldLink RX2 76 "VatHouse$Step" "vat" "I") (List.mem_of_getElem? (i := 2) (by exact rfl))) (fun _ h9 => h9) rfl (tyX5_ok 1 (by decide)) rfl rfl rfl ⟨_, rfl⟩ dX2_readPlain_55 (fun f_29 H locs hP hD hS hT hE1 hrd_30 hup_31 => ?_)
    have hO5 := hO5.put hrd_30 (by simp)
    have hF := Fr.put (a := o) (ci := 5) hF hE ((hE1 o (hT.at 1 rfl).1).2.symm.trans (hT.at 1 rfl).2) (by decide) hrd_30 hup_31
    have hE := hE.tr hE1
    have hk_32 : rd f_29 h0 1 = .int ax_10 := ((Fr.put (cs := [(5, 1)]) (a := o) (ci := 5) Fr.rf Ext.rf (hTo.at 1 rfl).2 (by decide) hrd_30 hup_31).1 h0 (hTo.at 0 rfl).1 2 (hTo.at 0 rfl).2 1 (by decide)).trans hk_14
    have hk_33 : rd f_29 h0 2 = .int tn_11 := ((Fr.put (cs := [(5, 1)]) (a := o) (ci := 5) Fr.rf Ext.rf (hTo.at 1 rfl).2 (by decide) hrd_30 hup_31).1 h0 (hTo.at 0 rfl).1 2 (hTo.at 0 rfl).2 2 (by decide)).trans hk_15
    have hk_34 : rd f_29 h0 3 = .int fa_12 := ((Fr.put (cs := [(5, 1)]) (a := o) (ci := 5) Fr.rf Ext.rf (hTo.at 1 rfl).2 (by decide) hrd_30 hup_31).1 h0 (hTo.at 0 rfl).1 2 (hTo.at 0 rfl).2 3 (by decide)).trans hk_16
    have hk_35 : rd f_29 h0 4 = .int pw_13 := ((Fr.put (cs := [(5, 1)]) (a := o) (ci := 5) Fr.rf Ext.rf (hTo.at 1 rfl).2 (by decide) hrd_30 hup_31).1 h0 (hTo.at 0 rfl).1 2 (hTo.at 0 rfl).2 4 (by decide)).trans hk_17
    have hk_36 : rd f_29 o 0 = .int wd := ((Fr.put (cs := [(5, 1)]) (a := o) (ci := 5) Fr.rf Ext.rf (hTo.at 1 rfl).2 (by decide) hrd_30 hup_31).1 o (hTo.at 1 rfl).1 5 (hTo.at 1 rfl).2 0 (by decide)).trans hk_23
    have hk_37 : rd f_29 tok 3 = .int zz := ((Fr.put (cs := [(5, 1)]) (a := o) (ci := 5) Fr.rf Ext.rf (hTo.at 1 rfl).2 (by decide) hrd_30 hup_31).1 tok (hTo.at 2 rfl).1 6 (hTo.at 2 rfl).2 3 (by decide)).trans hk_24
    have hk_38 : rd f_29 o 1 = .int z_8 := (hrd_30 o 1).trans (if_pos ⟨rfl, rfl⟩)
    have hk_39 : rd f_29 o 2 = .int nu := ((Fr.put (cs := [(5, 1)]) (a := o) (ci := 5) Fr.rf Ext.rf (hTo.at 1 rfl).2 (by decide) hrd_30 hup_31).1 o (hTo.at 1 rfl).1 5 (hTo.at 1 rfl).2 2 (by decide)).trans hk_26
    refine lv_aload_n hx hb dX2_readPlain_58 rfl (lv_at hl 1 rfl) ?_
    refine lv_aload_n hx hb dX2_readPlain_59 rfl (lv_at hl 0 rfl) ?_
    refine lv_iconst (v := 1) hx hb dX2_readPlain_60 (by decide) ?_
    refine lv_bipush (v := 20) hx hb dX2_readPlain_61 (by decide) ?_
    have hTo := hT
    refine K_V ⟨hx, hb, hml, hown, hts⟩ (t_X2_readNumber l dC dI sa hlt g _ _ tt ln M (gnu (Kp tt ln) (Vp tt ln) (nq tt ln) 0 5 q) h0 1 20 tok ka sta vaa ax_10 tn_11 fa_12 pw_13 zz _ (hT.sub [0, 2, 3, 4, 5] rfl)  hk_32 hk_33 hk_34 hk_35 hk_37 ((hF.1 h0 (hT0.at 0 rfl).1 2 (hT0.at 0 rfl).2 0 (by decide)).trans h_tok) ((hF.1 tok (hT0.at 2 rfl).1 6 (hT0.at 2 rfl).2 4 (by decide)).trans h_ka) ((hF.1 tok (hT0.at 2 rfl).1 6 (hT0.at 2 rfl).2 5 (by decide)).trans h_sta) ((hF.1 tok (hT0.at 2 rfl).1 6 (hT0.at 2 rfl).2 6 (by decide)).trans h_vaa) hzz (hTK.go (hF.2 ka (hT0.at 3 rfl).1 0 _ _ (hT0.at 3 rfl).2 (by decide)) (hF.2 sta (hT0.at 4 rfl).1 0 _ _ (hT0.at 4 rfl).2 (by decide)) (hF.2 vaa (hT0.at 5 rfl).1 0 _ _ (hT0.at 5 rfl).2 (by decide))) hrq_28) (cwV 2 hts gX2_readPlain_X2_readNumber rfl rfl rfl (by decide +kernel) ⟨Nat.le_of_ble_eq_true rfl, Nat.le_of_ble_eq_true rfl⟩) hP hD hK hS hA hev hT 0 2 rfl rfl rfl rfl hl.1 rfl (Nat.le_of_ble_eq_true rfl) dX2_readPlain_63 ⟨Nat.le_of_ble_eq_true rfl, Nat.le_of_ble_eq_true rfl⟩ (fun r L_40 f_41 H locs hw_42 hP hD hS hT hE1 => ?_)
    have hEo := hE
    have hO5 := hO5.call hE (OF.fr hw_42.2.1 (by decide)) (by simp)
    have hF := Fr.call hF hE hw_42.2.1 (by decide)
    have hE := hE.tr hE1
    obtain ⟨⟨z_43, rfl⟩, hw_42⟩ := hw_42
    obtain ⟨hfr_44, ax_45, tn_46, fa_47, pw_48, hk_49, hk_50, hk_51, hk_52, hrel_53, hrel_54, hrel_55, hrel_56, hex_57⟩ := hw_42
    have hk_58 : rd f_41 o 0 = .int wd := (hfr_44.1 o (hTo.at 1 rfl).1 5 (hTo.at 1 rfl).2 0 (by decide)).trans hk_36
    have hk_59 : rd f_41 tok 3 = .int zz := (hfr_44.1 tok (hTo.at 2 rfl).1 6 (hTo.at 2 rfl).2 3 (by decide)).trans hk_37
    have hk_60 : rd f_41 o 1 = .int z_8 := (hfr_44.1 o (hTo.at 1 rfl).1 5 (hTo.at 1 rfl).2 1 (by decide)).trans hk_38
    have hk_61 : rd f_41 o 2 = .int nu := (hfr_44.1 o (hTo.at 1 rfl).1 5 (hTo.at 1 rfl).2 2 (by decide)).trans hk_39
    have hzv_62 : z_43 = Vp tt ln (gnu (Kp tt ln) (Vp tt ln) (nq tt ln) 0 5 q).1 := sv hex_57.1
    have hrq_63 := hex_57.2
    refine W.eq (g2 := F0 m 66 ls [.int z_43, .ref o]) rfl ?_
    have hTo := hT
    refine T_put (ci := 5) (v := .int z_43) (ty := .int) (t := tI) (C := RX5) (T := TX5) (N := 8) hx hb hts inw_X2_readPlain_5 tyX5 tyX5_ok nmX5 hown hK hP hD hS hT 1 rfl rfl 2 (by decide) (hts (.fieldLink RX2 79 "VatHouse$Step" "number" "I") (List.mem_of_getElem? (i := 3) (by exact rfl))) (fun _ h9 => h9) rfl (tyX5_ok 2 (by decide)) rfl rfl rfl ⟨_, rfl⟩ dX2_readPlain_66 (fun f_64 H locs hP hD hS hT hE1 hrd_65 hup_66 => ?_)
    have hO5 := hO5.put hrd_65 (by simp)
    have hF := Fr.put (a := o) (ci := 5) hF hE ((hE1 o (hT.at 1 rfl).1).2.symm.trans (hT.at 1 rfl).2) (by decide) hrd_65 hup_66
    have hE := hE.tr hE1
    have hk_67 : rd f_64 h0 1 = .int ax_45 := ((Fr.put (cs := [(5, 2)]) (a := o) (ci := 5) Fr.rf Ext.rf (hTo.at 1 rfl).2 (by decide) hrd_65 hup_66).1 h0 (hTo.at 0 rfl).1 2 (hTo.at 0 rfl).2 1 (by decide)).trans hk_49
    have hk_68 : rd f_64 h0 2 = .int tn_46 := ((Fr.put (cs := [(5, 2)]) (a := o) (ci := 5) Fr.rf Ext.rf (hTo.at 1 rfl).2 (by decide) hrd_65 hup_66).1 h0 (hTo.at 0 rfl).1 2 (hTo.at 0 rfl).2 2 (by decide)).trans hk_50
    have hk_69 : rd f_64 h0 3 = .int fa_47 := ((Fr.put (cs := [(5, 2)]) (a := o) (ci := 5) Fr.rf Ext.rf (hTo.at 1 rfl).2 (by decide) hrd_65 hup_66).1 h0 (hTo.at 0 rfl).1 2 (hTo.at 0 rfl).2 3 (by decide)).trans hk_51
    have hk_70 : rd f_64 h0 4 = .int pw_48 := ((Fr.put (cs := [(5, 2)]) (a := o) (ci := 5) Fr.rf Ext.rf (hTo.at 1 rfl).2 (by decide) hrd_65 hup_66).1 h0 (hTo.at 0 rfl).1 2 (hTo.at 0 rfl).2 4 (by decide)).trans hk_52
    have hk_71 : rd f_64 o 0 = .int wd := ((Fr.put (cs := [(5, 2)]) (a := o) (ci := 5) Fr.rf Ext.rf (hTo.at 1 rfl).2 (by decide) hrd_65 hup_66).1 o (hTo.at 1 rfl).1 5 (hTo.at 1 rfl).2 0 (by decide)).trans hk_58
    have hk_72 : rd f_64 tok 3 = .int zz := ((Fr.put (cs := [(5, 2)]) (a := o) (ci := 5) Fr.rf Ext.rf (hTo.at 1 rfl).2 (by decide) hrd_65 hup_66).1 tok (hTo.at 2 rfl).1 6 (hTo.at 2 rfl).2 3 (by decide)).trans hk_59
    have hk_73 : rd f_64 o 1 = .int z_8 := ((Fr.put (cs := [(5, 2)]) (a := o) (ci := 5) Fr.rf Ext.rf (hTo.at 1 rfl).2 (by decide) hrd_65 hup_66).1 o (hTo.at 1 rfl).1 5 (hTo.at 1 rfl).2 1 (by decide)).trans hk_60
    have hk_74 : rd f_64 o 2 = .int z_43 := (hrd_65 o 2).trans (if_pos ⟨rfl, rfl⟩)
    refine lv_goto (tgt := 139) hx hb dX2_readPlain_69 (by decide) ?_
    exact K_v hx hb hr hlocks hP hD hK hS hT hE ⟨rfl, hF, _, _, _, _, _, _, hk_67, hk_68, hk_69, hk_70, hk_73, hk_74, trivial, trivial, fun h9 => (hrel_20 (hrel_55 h9)), trivial, trivial, trivial, hO5, (by have e9 : gpl (Kp tt ln) (Vp tt ln) (nq tt ln) wd q = (gnu (Kp tt ln) (Vp tt ln) (nq tt ln) 1 20 (gnu (Kp tt ln) (Vp tt ln) (nq tt ln) 0 5 q)) := (by rw [c_4]; rfl); rw [e9]; exact hrq_63), ctP_2 (Or.inl c_4) hzv_27 hzv_62⟩ (Nat.le_of_ble_eq_true rfl) (Nat.le_of_ble_eq_true rfl) dX2_readPlain_139
  by_cases c_75 : wd = 2
  · refine lv_tableIn (tgt := 139) hx hb dX2_readPlain_4 (by rw [c_75]; decide) (by rw [c_75]; decide) (by rw [c_75]; rfl) (by decide) ?_
    exact K_v hx hb hr hlocks hP hD hK hS hT hE ⟨rfl, hF, _, _, _, _, _, _, hm_ax, hm_tn, hm_fa, hm_pw, hm_vt, hm_nu, trivial, trivial, fun h9 => h9, trivial, trivial, trivial, hO5, (by have e9 : gpl (Kp tt ln) (Vp tt ln) (nq tt ln) wd q = q := (by rw [c_75]; rfl); rw [e9]; exact hRQ), ctP_0 (by rw [c_75]; decide) (by rw [c_75]; decide) (by rw [c_75]; decide) (by rw [c_75]; decide) (by rw [c_75]; decide)⟩ (Nat.le_of_ble_eq_true rfl) (Nat.le_of_ble_eq_true rfl) dX2_readPlain_139
  by_cases c_76 : wd = 3
  · refine lv_tableIn (tgt := 139) hx hb dX2_readPlain_4 (by rw [c_76]; decide) (by rw [c_76]; decide) (by rw [c_76]; rfl) (by decide) ?_
    exact K_v hx hb hr hlocks hP hD hK hS hT hE ⟨rfl, hF, _, _, _, _, _, _, hm_ax, hm_tn, hm_fa, hm_pw, hm_vt, hm_nu, trivial, trivial, fun h9 => h9, trivial, trivial, trivial, hO5, (by have e9 : gpl (Kp tt ln) (Vp tt ln) (nq tt ln) wd q = q := (by rw [c_76]; rfl); rw [e9]; exact hRQ), ctP_0 (by rw [c_76]; decide) (by rw [c_76]; decide) (by rw [c_76]; decide) (by rw [c_76]; decide) (by rw [c_76]; decide)⟩ (Nat.le_of_ble_eq_true rfl) (Nat.le_of_ble_eq_true rfl) dX2_readPlain_139
  by_cases c_77 : wd = 4
  · refine lv_tableIn (tgt := 72) hx hb dX2_readPlain_4 (by rw [c_77]; decide) (by rw [c_77]; decide) (by rw [c_77]; rfl) (by decide) ?_
    refine lv_aload_n hx hb dX2_readPlain_72 rfl (lv_at hl 1 rfl) ?_
    refine lv_aload_n hx hb dX2_readPlain_73 rfl (lv_at hl 0 rfl) ?_
    refine lv_iconst (v := 1) hx hb dX2_readPlain_74 (by decide) ?_
    refine lv_sipush (v := 200) hx hb dX2_readPlain_75 (by decide) ?_
    have hTo := hT
    refine K_V ⟨hx, hb, hml, hown, hts⟩ (t_X2_readNumber l dC dI sa hlt g _ _ tt ln M q h0 1 200 tok ka sta vaa ax tn fa pw zz _ (hT.sub [0, 2, 3, 4, 5] rfl)  hm_ax hm_tn hm_fa hm_pw hm_zz ((hF.1 h0 (hT0.at 0 rfl).1 2 (hT0.at 0 rfl).2 0 (by decide)).trans h_tok) ((hF.1 tok (hT0.at 2 rfl).1 6 (hT0.at 2 rfl).2 4 (by decide)).trans h_ka) ((hF.1 tok (hT0.at 2 rfl).1 6 (hT0.at 2 rfl).2 5 (by decide)).trans h_sta) ((hF.1 tok (hT0.at 2 rfl).1 6 (hT0.at 2 rfl).2 6 (by decide)).trans h_vaa) hzz (hTK.go (hF.2 ka (hT0.at 3 rfl).1 0 _ _ (hT0.at 3 rfl).2 (by decide)) (hF.2 sta (hT0.at 4 rfl).1 0 _ _ (hT0.at 4 rfl).2 (by decide)) (hF.2 vaa (hT0.at 5 rfl).1 0 _ _ (hT0.at 5 rfl).2 (by decide))) hRQ) (cwV 2 hts gX2_readPlain_X2_readNumber rfl rfl rfl (by decide +kernel) ⟨Nat.le_of_ble_eq_true rfl, Nat.le_of_ble_eq_true rfl⟩) hP hD hK hS hA hev hT 0 2 rfl rfl rfl rfl hl.1 rfl (Nat.le_of_ble_eq_true rfl) dX2_readPlain_78 ⟨Nat.le_of_ble_eq_true rfl, Nat.le_of_ble_eq_true rfl⟩ (fun r L_78 f_79 H locs hw_80 hP hD hS hT hE1 => ?_)
    have hEo := hE
    have hO5 := hO5.call hE (OF.fr hw_80.2.1 (by decide)) (by simp)
    have hF := Fr.call hF hE hw_80.2.1 (by decide)
    have hE := hE.tr hE1
    obtain ⟨⟨z_81, rfl⟩, hw_80⟩ := hw_80
    obtain ⟨hfr_82, ax_83, tn_84, fa_85, pw_86, hk_87, hk_88, hk_89, hk_90, hrel_91, hrel_92, hrel_93, hrel_94, hex_95⟩ := hw_80
    have hk_96 : rd f_79 o 0 = .int wd := (hfr_82.1 o (hTo.at 1 rfl).1 5 (hTo.at 1 rfl).2 0 (by decide)).trans hm_wd
    have hk_97 : rd f_79 tok 3 = .int zz := (hfr_82.1 tok (hTo.at 2 rfl).1 6 (hTo.at 2 rfl).2 3 (by decide)).trans hm_zz
    have hk_98 : rd f_79 o 1 = .int vt := (hfr_82.1 o (hTo.at 1 rfl).1 5 (hTo.at 1 rfl).2 1 (by decide)).trans hm_vt
    have hk_99 : rd f_79 o 2 = .int nu := (hfr_82.1 o (hTo.at 1 rfl).1 5 (hTo.at 1 rfl).2 2 (by decide)).trans hm_nu
    have hzv_100 : z_81 = Vp tt ln q.1 := sv hex_95.1
    have hrq_101 := hex_95.2
    refine W.eq (g2 := F0 m 81 ls [.int z_81, .ref o]) rfl ?_
    have hTo := hT
    refine T_put (ci := 5) (v := .int z_81) (ty := .int) (t := tI) (C := RX5) (T := TX5) (N := 8) hx hb hts inw_X2_readPlain_5 tyX5 tyX5_ok nmX5 hown hK hP hD hS hT 1 rfl rfl 2 (by decide) (hts (.fieldLink RX2 79 "VatHouse$Step" "number" "I") (List.mem_of_getElem? (i := 3) (by exact rfl))) (fun _ h9 => h9) rfl (tyX5_ok 2 (by decide)) rfl rfl rfl ⟨_, rfl⟩ dX2_readPlain_81 (fun f_102 H locs hP hD hS hT hE1 hrd_103 hup_104 => ?_)
    have hO5 := hO5.put hrd_103 (by simp)
    have hF := Fr.put (a := o) (ci := 5) hF hE ((hE1 o (hT.at 1 rfl).1).2.symm.trans (hT.at 1 rfl).2) (by decide) hrd_103 hup_104
    have hE := hE.tr hE1
    have hk_105 : rd f_102 h0 1 = .int ax_83 := ((Fr.put (cs := [(5, 2)]) (a := o) (ci := 5) Fr.rf Ext.rf (hTo.at 1 rfl).2 (by decide) hrd_103 hup_104).1 h0 (hTo.at 0 rfl).1 2 (hTo.at 0 rfl).2 1 (by decide)).trans hk_87
    have hk_106 : rd f_102 h0 2 = .int tn_84 := ((Fr.put (cs := [(5, 2)]) (a := o) (ci := 5) Fr.rf Ext.rf (hTo.at 1 rfl).2 (by decide) hrd_103 hup_104).1 h0 (hTo.at 0 rfl).1 2 (hTo.at 0 rfl).2 2 (by decide)).trans hk_88
    have hk_107 : rd f_102 h0 3 = .int fa_85 := ((Fr.put (cs := [(5, 2)]) (a := o) (ci := 5) Fr.rf Ext.rf (hTo.at 1 rfl).2 (by decide) hrd_103 hup_104).1 h0 (hTo.at 0 rfl).1 2 (hTo.at 0 rfl).2 3 (by decide)).trans hk_89
    have hk_108 : rd f_102 h0 4 = .int pw_86 := ((Fr.put (cs := [(5, 2)]) (a := o) (ci := 5) Fr.rf Ext.rf (hTo.at 1 rfl).2 (by decide) hrd_103 hup_104).1 h0 (hTo.at 0 rfl).1 2 (hTo.at 0 rfl).2 4 (by decide)).trans hk_90
    have hk_109 : rd f_102 o 0 = .int wd := ((Fr.put (cs := [(5, 2)]) (a := o) (ci := 5) Fr.rf Ext.rf (hTo.at 1 rfl).2 (by decide) hrd_103 hup_104).1 o (hTo.at 1 rfl).1 5 (hTo.at 1 rfl).2 0 (by decide)).trans hk_96
    have hk_110 : rd f_102 tok 3 = .int zz := ((Fr.put (cs := [(5, 2)]) (a := o) (ci := 5) Fr.rf Ext.rf (hTo.at 1 rfl).2 (by decide) hrd_103 hup_104).1 tok (hTo.at 2 rfl).1 6 (hTo.at 2 rfl).2 3 (by decide)).trans hk_97
    have hk_111 : rd f_102 o 1 = .int vt := ((Fr.put (cs := [(5, 2)]) (a := o) (ci := 5) Fr.rf Ext.rf (hTo.at 1 rfl).2 (by decide) hrd_103 hup_104).1 o (hTo.at 1 rfl).1 5 (hTo.at 1 rfl).2 1 (by decide)).trans hk_98
    have hk_112 : rd f_102 o 2 = .int z_81 := (hrd_103 o 2).trans (if_pos ⟨rfl, rfl⟩)
    refine lv_goto (tgt := 139) hx hb dX2_readPlain_84 (by decide) ?_
    exact K_v hx hb hr hlocks hP hD hK hS hT hE ⟨rfl, hF, _, _, _, _, _, _, hk_105, hk_106, hk_107, hk_108, hk_111, hk_112, trivial, trivial, fun h9 => (hrel_93 h9), trivial, trivial, trivial, hO5, (by have e9 : gpl (Kp tt ln) (Vp tt ln) (nq tt ln) wd q = (gnu (Kp tt ln) (Vp tt ln) (nq tt ln) 1 200 q) := (by rw [c_77]; rfl); rw [e9]; exact hrq_101), ctP_1 (Or.inl c_77) hzv_100⟩ (Nat.le_of_ble_eq_true rfl) (Nat.le_of_ble_eq_true rfl) dX2_readPlain_139
  by_cases c_113 : wd = 5
  · refine lv_tableIn (tgt := 87) hx hb dX2_readPlain_4 (by rw [c_113]; decide) (by rw [c_113]; decide) (by rw [c_113]; rfl) (by decide) ?_
    refine lv_aload_n hx hb dX2_readPlain_87 rfl (lv_at hl 1 rfl) ?_
    refine lv_aload_n hx hb dX2_readPlain_88 rfl (lv_at hl 0 rfl) ?_
    refine lv_iconst (v := 0) hx hb dX2_readPlain_89 (by decide) ?_
    refine lv_iconst (v := 5) hx hb dX2_readPlain_90 (by decide) ?_
    have hTo := hT
    refine K_V ⟨hx, hb, hml, hown, hts⟩ (t_X2_readNumber l dC dI sa hlt g _ _ tt ln M q h0 0 5 tok ka sta vaa ax tn fa pw zz _ (hT.sub [0, 2, 3, 4, 5] rfl)  hm_ax hm_tn hm_fa hm_pw hm_zz ((hF.1 h0 (hT0.at 0 rfl).1 2 (hT0.at 0 rfl).2 0 (by decide)).trans h_tok) ((hF.1 tok (hT0.at 2 rfl).1 6 (hT0.at 2 rfl).2 4 (by decide)).trans h_ka) ((hF.1 tok (hT0.at 2 rfl).1 6 (hT0.at 2 rfl).2 5 (by decide)).trans h_sta) ((hF.1 tok (hT0.at 2 rfl).1 6 (hT0.at 2 rfl).2 6 (by decide)).trans h_vaa) hzz (hTK.go (hF.2 ka (hT0.at 3 rfl).1 0 _ _ (hT0.at 3 rfl).2 (by decide)) (hF.2 sta (hT0.at 4 rfl).1 0 _ _ (hT0.at 4 rfl).2 (by decide)) (hF.2 vaa (hT0.at 5 rfl).1 0 _ _ (hT0.at 5 rfl).2 (by decide))) hRQ) (cwV 2 hts gX2_readPlain_X2_readNumber rfl rfl rfl (by decide +kernel) ⟨Nat.le_of_ble_eq_true rfl, Nat.le_of_ble_eq_true rfl⟩) hP hD hK hS hA hev hT 0 2 rfl rfl rfl rfl hl.1 rfl (Nat.le_of_ble_eq_true rfl) dX2_readPlain_91 ⟨Nat.le_of_ble_eq_true rfl, Nat.le_of_ble_eq_true rfl⟩ (fun r L_114 f_115 H locs hw_116 hP hD hS hT hE1 => ?_)
    have hEo := hE
    have hO5 := hO5.call hE (OF.fr hw_116.2.1 (by decide)) (by simp)
    have hF := Fr.call hF hE hw_116.2.1 (by decide)
    have hE := hE.tr hE1
    obtain ⟨⟨z_117, rfl⟩, hw_116⟩ := hw_116
    obtain ⟨hfr_118, ax_119, tn_120, fa_121, pw_122, hk_123, hk_124, hk_125, hk_126, hrel_127, hrel_128, hrel_129, hrel_130, hex_131⟩ := hw_116
    have hk_132 : rd f_115 o 0 = .int wd := (hfr_118.1 o (hTo.at 1 rfl).1 5 (hTo.at 1 rfl).2 0 (by decide)).trans hm_wd
    have hk_133 : rd f_115 tok 3 = .int zz := (hfr_118.1 tok (hTo.at 2 rfl).1 6 (hTo.at 2 rfl).2 3 (by decide)).trans hm_zz
    have hk_134 : rd f_115 o 1 = .int vt := (hfr_118.1 o (hTo.at 1 rfl).1 5 (hTo.at 1 rfl).2 1 (by decide)).trans hm_vt
    have hk_135 : rd f_115 o 2 = .int nu := (hfr_118.1 o (hTo.at 1 rfl).1 5 (hTo.at 1 rfl).2 2 (by decide)).trans hm_nu
    have hzv_136 : z_117 = Vp tt ln q.1 := sv hex_131.1
    have hrq_137 := hex_131.2
    refine W.eq (g2 := F0 m 94 ls [.int z_117, .ref o]) rfl ?_
    have hTo := hT
    refine T_put (ci := 5) (v := .int z_117) (ty := .int) (t := tI) (C := RX5) (T := TX5) (N := 8) hx hb hts inw_X2_readPlain_5 tyX5 tyX5_ok nmX5 hown hK hP hD hS hT 1 rfl rfl 1 (by decide) (hts (.fieldLink RX2 76 "VatHouse$Step" "vat" "I") (List.mem_of_getElem? (i := 2) (by exact rfl))) (fun _ h9 => h9) rfl (tyX5_ok 1 (by decide)) rfl rfl rfl ⟨_, rfl⟩ dX2_readPlain_94 (fun f_138 H locs hP hD hS hT hE1 hrd_139 hup_140 => ?_)
    have hO5 := hO5.put hrd_139 (by simp)
    have hF := Fr.put (a := o) (ci := 5) hF hE ((hE1 o (hT.at 1 rfl).1).2.symm.trans (hT.at 1 rfl).2) (by decide) hrd_139 hup_140
    have hE := hE.tr hE1
    have hk_141 : rd f_138 h0 1 = .int ax_119 := ((Fr.put (cs := [(5, 1)]) (a := o) (ci := 5) Fr.rf Ext.rf (hTo.at 1 rfl).2 (by decide) hrd_139 hup_140).1 h0 (hTo.at 0 rfl).1 2 (hTo.at 0 rfl).2 1 (by decide)).trans hk_123
    have hk_142 : rd f_138 h0 2 = .int tn_120 := ((Fr.put (cs := [(5, 1)]) (a := o) (ci := 5) Fr.rf Ext.rf (hTo.at 1 rfl).2 (by decide) hrd_139 hup_140).1 h0 (hTo.at 0 rfl).1 2 (hTo.at 0 rfl).2 2 (by decide)).trans hk_124
    have hk_143 : rd f_138 h0 3 = .int fa_121 := ((Fr.put (cs := [(5, 1)]) (a := o) (ci := 5) Fr.rf Ext.rf (hTo.at 1 rfl).2 (by decide) hrd_139 hup_140).1 h0 (hTo.at 0 rfl).1 2 (hTo.at 0 rfl).2 3 (by decide)).trans hk_125
    have hk_144 : rd f_138 h0 4 = .int pw_122 := ((Fr.put (cs := [(5, 1)]) (a := o) (ci := 5) Fr.rf Ext.rf (hTo.at 1 rfl).2 (by decide) hrd_139 hup_140).1 h0 (hTo.at 0 rfl).1 2 (hTo.at 0 rfl).2 4 (by decide)).trans hk_126
    have hk_145 : rd f_138 o 0 = .int wd := ((Fr.put (cs := [(5, 1)]) (a := o) (ci := 5) Fr.rf Ext.rf (hTo.at 1 rfl).2 (by decide) hrd_139 hup_140).1 o (hTo.at 1 rfl).1 5 (hTo.at 1 rfl).2 0 (by decide)).trans hk_132
    have hk_146 : rd f_138 tok 3 = .int zz := ((Fr.put (cs := [(5, 1)]) (a := o) (ci := 5) Fr.rf Ext.rf (hTo.at 1 rfl).2 (by decide) hrd_139 hup_140).1 tok (hTo.at 2 rfl).1 6 (hTo.at 2 rfl).2 3 (by decide)).trans hk_133
    have hk_147 : rd f_138 o 1 = .int z_117 := (hrd_139 o 1).trans (if_pos ⟨rfl, rfl⟩)
    have hk_148 : rd f_138 o 2 = .int nu := ((Fr.put (cs := [(5, 1)]) (a := o) (ci := 5) Fr.rf Ext.rf (hTo.at 1 rfl).2 (by decide) hrd_139 hup_140).1 o (hTo.at 1 rfl).1 5 (hTo.at 1 rfl).2 2 (by decide)).trans hk_135
    refine lv_aload_n hx hb dX2_readPlain_97 rfl (lv_at hl 1 rfl) ?_
    refine lv_aload_n hx hb dX2_readPlain_98 rfl (lv_at hl 0 rfl) ?_
    refine lv_iconst (v := 1) hx hb dX2_readPlain_99 (by decide) ?_
    refine lv_sipush (v := 1000) hx hb dX2_readPlain_100 (by decide) ?_
    have hTo := hT
    refine K_V ⟨hx, hb, hml, hown, hts⟩ (t_X2_readNumber l dC dI sa hlt g _ _ tt ln M (gnu (Kp tt ln) (Vp tt ln) (nq tt ln) 0 5 q) h0 1 1000 tok ka sta vaa ax_119 tn_120 fa_121 pw_122 zz _ (hT.sub [0, 2, 3, 4, 5] rfl)  hk_141 hk_142 hk_143 hk_144 hk_146 ((hF.1 h0 (hT0.at 0 rfl).1 2 (hT0.at 0 rfl).2 0 (by decide)).trans h_tok) ((hF.1 tok (hT0.at 2 rfl).1 6 (hT0.at 2 rfl).2 4 (by decide)).trans h_ka) ((hF.1 tok (hT0.at 2 rfl).1 6 (hT0.at 2 rfl).2 5 (by decide)).trans h_sta) ((hF.1 tok (hT0.at 2 rfl).1 6 (hT0.at 2 rfl).2 6 (by decide)).trans h_vaa) hzz (hTK.go (hF.2 ka (hT0.at 3 rfl).1 0 _ _ (hT0.at 3 rfl).2 (by decide)) (hF.2 sta (hT0.at 4 rfl).1 0 _ _ (hT0.at 4 rfl).2 (by decide)) (hF.2 vaa (hT0.at 5 rfl).1 0 _ _ (hT0.at 5 rfl).2 (by decide))) hrq_137) (cwV 2 hts gX2_readPlain_X2_readNumber rfl rfl rfl (by decide +kernel) ⟨Nat.le_of_ble_eq_true rfl, Nat.le_of_ble_eq_true rfl⟩) hP hD hK hS hA hev hT 0 2 rfl rfl rfl rfl hl.1 rfl (Nat.le_of_ble_eq_true rfl) dX2_readPlain_103 ⟨Nat.le_of_ble_eq_true rfl, Nat.le_of_ble_eq_true rfl⟩ (fun r L_149 f_150 H locs hw_151 hP hD hS hT hE1 => ?_)
    have hEo := hE
    have hO5 := hO5.call hE (OF.fr hw_151.2.1 (by decide)) (by simp)
    have hF := Fr.call hF hE hw_151.2.1 (by decide)
    have hE := hE.tr hE1
    obtain ⟨⟨z_152, rfl⟩, hw_151⟩ := hw_151
    obtain ⟨hfr_153, ax_154, tn_155, fa_156, pw_157, hk_158, hk_159, hk_160, hk_161, hrel_162, hrel_163, hrel_164, hrel_165, hex_166⟩ := hw_151
    have hk_167 : rd f_150 o 0 = .int wd := (hfr_153.1 o (hTo.at 1 rfl).1 5 (hTo.at 1 rfl).2 0 (by decide)).trans hk_145
    have hk_168 : rd f_150 tok 3 = .int zz := (hfr_153.1 tok (hTo.at 2 rfl).1 6 (hTo.at 2 rfl).2 3 (by decide)).trans hk_146
    have hk_169 : rd f_150 o 1 = .int z_117 := (hfr_153.1 o (hTo.at 1 rfl).1 5 (hTo.at 1 rfl).2 1 (by decide)).trans hk_147
    have hk_170 : rd f_150 o 2 = .int nu := (hfr_153.1 o (hTo.at 1 rfl).1 5 (hTo.at 1 rfl).2 2 (by decide)).trans hk_148
    have hzv_171 : z_152 = Vp tt ln (gnu (Kp tt ln) (Vp tt ln) (nq tt ln) 0 5 q).1 := sv hex_166.1
    have hrq_172 := hex_166.2
    refine W.eq (g2 := F0 m 106 ls [.int z_152, .ref o]) rfl ?_
    have hTo := hT
    refine T_put (ci := 5) (v := .int z_152) (ty := .int) (t := tI) (C := RX5) (T := TX5) (N := 8) hx hb hts inw_X2_readPlain_5 tyX5 tyX5_ok nmX5 hown hK hP hD hS hT 1 rfl rfl 2 (by decide) (hts (.fieldLink RX2 79 "VatHouse$Step" "number" "I") (List.mem_of_getElem? (i := 3) (by exact rfl))) (fun _ h9 => h9) rfl (tyX5_ok 2 (by decide)) rfl rfl rfl ⟨_, rfl⟩ dX2_readPlain_106 (fun f_173 H locs hP hD hS hT hE1 hrd_174 hup_175 => ?_)
    have hO5 := hO5.put hrd_174 (by simp)
    have hF := Fr.put (a := o) (ci := 5) hF hE ((hE1 o (hT.at 1 rfl).1).2.symm.trans (hT.at 1 rfl).2) (by decide) hrd_174 hup_175
    have hE := hE.tr hE1
    have hk_176 : rd f_173 h0 1 = .int ax_154 := ((Fr.put (cs := [(5, 2)]) (a := o) (ci := 5) Fr.rf Ext.rf (hTo.at 1 rfl).2 (by decide) hrd_174 hup_175).1 h0 (hTo.at 0 rfl).1 2 (hTo.at 0 rfl).2 1 (by decide)).trans hk_158
    have hk_177 : rd f_173 h0 2 = .int tn_155 := ((Fr.put (cs := [(5, 2)]) (a := o) (ci := 5) Fr.rf Ext.rf (hTo.at 1 rfl).2 (by decide) hrd_174 hup_175).1 h0 (hTo.at 0 rfl).1 2 (hTo.at 0 rfl).2 2 (by decide)).trans hk_159
    have hk_178 : rd f_173 h0 3 = .int fa_156 := ((Fr.put (cs := [(5, 2)]) (a := o) (ci := 5) Fr.rf Ext.rf (hTo.at 1 rfl).2 (by decide) hrd_174 hup_175).1 h0 (hTo.at 0 rfl).1 2 (hTo.at 0 rfl).2 3 (by decide)).trans hk_160
    have hk_179 : rd f_173 h0 4 = .int pw_157 := ((Fr.put (cs := [(5, 2)]) (a := o) (ci := 5) Fr.rf Ext.rf (hTo.at 1 rfl).2 (by decide) hrd_174 hup_175).1 h0 (hTo.at 0 rfl).1 2 (hTo.at 0 rfl).2 4 (by decide)).trans hk_161
    have hk_180 : rd f_173 o 0 = .int wd := ((Fr.put (cs := [(5, 2)]) (a := o) (ci := 5) Fr.rf Ext.rf (hTo.at 1 rfl).2 (by decide) hrd_174 hup_175).1 o (hTo.at 1 rfl).1 5 (hTo.at 1 rfl).2 0 (by decide)).trans hk_167
    have hk_181 : rd f_173 tok 3 = .int zz := ((Fr.put (cs := [(5, 2)]) (a := o) (ci := 5) Fr.rf Ext.rf (hTo.at 1 rfl).2 (by decide) hrd_174 hup_175).1 tok (hTo.at 2 rfl).1 6 (hTo.at 2 rfl).2 3 (by decide)).trans hk_168
    have hk_182 : rd f_173 o 1 = .int z_117 := ((Fr.put (cs := [(5, 2)]) (a := o) (ci := 5) Fr.rf Ext.rf (hTo.at 1 rfl).2 (by decide) hrd_174 hup_175).1 o (hTo.at 1 rfl).1 5 (hTo.at 1 rfl).2 1 (by decide)).trans hk_169
    have hk_183 : rd f_173 o 2 = .int z_152 := (hrd_174 o 2).trans (if_pos ⟨rfl, rfl⟩)
    refine lv_goto (tgt := 139) hx hb dX2_readPlain_109 (by decide) ?_
    exact K_v hx hb hr hlocks hP hD hK hS hT hE ⟨rfl, hF, _, _, _, _, _, _, hk_176, hk_177, hk_178, hk_179, hk_182, hk_183, trivial, trivial, fun h9 => (hrel_129 (hrel_164 h9)), trivial, trivial, trivial, hO5, (by have e9 : gpl (Kp tt ln) (Vp tt ln) (nq tt ln) wd q = (gnu (Kp tt ln) (Vp tt ln) (nq tt ln) 1 1000 (gnu (Kp tt ln) (Vp tt ln) (nq tt ln) 0 5 q)) := (by rw [c_113]; rfl); rw [e9]; exact hrq_172), ctP_2 (Or.inr c_113) hzv_136 hzv_171⟩ (Nat.le_of_ble_eq_true rfl) (Nat.le_of_ble_eq_true rfl) dX2_readPlain_139
  by_cases c_184 : wd = 6
  · refine lv_tableIn (tgt := 112) hx hb dX2_readPlain_4 (by rw [c_184]; decide) (by rw [c_184]; decide) (by rw [c_184]; rfl) (by decide) ?_
    refine lv_aload_n hx hb dX2_readPlain_112 rfl (lv_at hl 1 rfl) ?_
    refine lv_aload_n hx hb dX2_readPlain_113 rfl (lv_at hl 0 rfl) ?_
    refine lv_iconst (v := 0) hx hb dX2_readPlain_114 (by decide) ?_
    refine lv_iconst (v := 5) hx hb dX2_readPlain_115 (by decide) ?_
    have hTo := hT
    refine K_V ⟨hx, hb, hml, hown, hts⟩ (t_X2_readNumber l dC dI sa hlt g _ _ tt ln M q h0 0 5 tok ka sta vaa ax tn fa pw zz _ (hT.sub [0, 2, 3, 4, 5] rfl)  hm_ax hm_tn hm_fa hm_pw hm_zz ((hF.1 h0 (hT0.at 0 rfl).1 2 (hT0.at 0 rfl).2 0 (by decide)).trans h_tok) ((hF.1 tok (hT0.at 2 rfl).1 6 (hT0.at 2 rfl).2 4 (by decide)).trans h_ka) ((hF.1 tok (hT0.at 2 rfl).1 6 (hT0.at 2 rfl).2 5 (by decide)).trans h_sta) ((hF.1 tok (hT0.at 2 rfl).1 6 (hT0.at 2 rfl).2 6 (by decide)).trans h_vaa) hzz (hTK.go (hF.2 ka (hT0.at 3 rfl).1 0 _ _ (hT0.at 3 rfl).2 (by decide)) (hF.2 sta (hT0.at 4 rfl).1 0 _ _ (hT0.at 4 rfl).2 (by decide)) (hF.2 vaa (hT0.at 5 rfl).1 0 _ _ (hT0.at 5 rfl).2 (by decide))) hRQ) (cwV 2 hts gX2_readPlain_X2_readNumber rfl rfl rfl (by decide +kernel) ⟨Nat.le_of_ble_eq_true rfl, Nat.le_of_ble_eq_true rfl⟩) hP hD hK hS hA hev hT 0 2 rfl rfl rfl rfl hl.1 rfl (Nat.le_of_ble_eq_true rfl) dX2_readPlain_116 ⟨Nat.le_of_ble_eq_true rfl, Nat.le_of_ble_eq_true rfl⟩ (fun r L_185 f_186 H locs hw_187 hP hD hS hT hE1 => ?_)
    have hEo := hE
    have hO5 := hO5.call hE (OF.fr hw_187.2.1 (by decide)) (by simp)
    have hF := Fr.call hF hE hw_187.2.1 (by decide)
    have hE := hE.tr hE1
    obtain ⟨⟨z_188, rfl⟩, hw_187⟩ := hw_187
    obtain ⟨hfr_189, ax_190, tn_191, fa_192, pw_193, hk_194, hk_195, hk_196, hk_197, hrel_198, hrel_199, hrel_200, hrel_201, hex_202⟩ := hw_187
    have hk_203 : rd f_186 o 0 = .int wd := (hfr_189.1 o (hTo.at 1 rfl).1 5 (hTo.at 1 rfl).2 0 (by decide)).trans hm_wd
    have hk_204 : rd f_186 tok 3 = .int zz := (hfr_189.1 tok (hTo.at 2 rfl).1 6 (hTo.at 2 rfl).2 3 (by decide)).trans hm_zz
    have hk_205 : rd f_186 o 1 = .int vt := (hfr_189.1 o (hTo.at 1 rfl).1 5 (hTo.at 1 rfl).2 1 (by decide)).trans hm_vt
    have hk_206 : rd f_186 o 2 = .int nu := (hfr_189.1 o (hTo.at 1 rfl).1 5 (hTo.at 1 rfl).2 2 (by decide)).trans hm_nu
    have hzv_207 : z_188 = Vp tt ln q.1 := sv hex_202.1
    have hrq_208 := hex_202.2
    refine W.eq (g2 := F0 m 119 ls [.int z_188, .ref o]) rfl ?_
    have hTo := hT
    refine T_put (ci := 5) (v := .int z_188) (ty := .int) (t := tI) (C := RX5) (T := TX5) (N := 8) hx hb hts inw_X2_readPlain_5 tyX5 tyX5_ok nmX5 hown hK hP hD hS hT 1 rfl rfl 1 (by decide) (hts (.fieldLink RX2 76 "VatHouse$Step" "vat" "I") (List.mem_of_getElem? (i := 2) (by exact rfl))) (fun _ h9 => h9) rfl (tyX5_ok 1 (by decide)) rfl rfl rfl ⟨_, rfl⟩ dX2_readPlain_119 (fun f_209 H locs hP hD hS hT hE1 hrd_210 hup_211 => ?_)
    have hO5 := hO5.put hrd_210 (by simp)
    have hF := Fr.put (a := o) (ci := 5) hF hE ((hE1 o (hT.at 1 rfl).1).2.symm.trans (hT.at 1 rfl).2) (by decide) hrd_210 hup_211
    have hE := hE.tr hE1
    have hk_212 : rd f_209 h0 1 = .int ax_190 := ((Fr.put (cs := [(5, 1)]) (a := o) (ci := 5) Fr.rf Ext.rf (hTo.at 1 rfl).2 (by decide) hrd_210 hup_211).1 h0 (hTo.at 0 rfl).1 2 (hTo.at 0 rfl).2 1 (by decide)).trans hk_194
    have hk_213 : rd f_209 h0 2 = .int tn_191 := ((Fr.put (cs := [(5, 1)]) (a := o) (ci := 5) Fr.rf Ext.rf (hTo.at 1 rfl).2 (by decide) hrd_210 hup_211).1 h0 (hTo.at 0 rfl).1 2 (hTo.at 0 rfl).2 2 (by decide)).trans hk_195
    have hk_214 : rd f_209 h0 3 = .int fa_192 := ((Fr.put (cs := [(5, 1)]) (a := o) (ci := 5) Fr.rf Ext.rf (hTo.at 1 rfl).2 (by decide) hrd_210 hup_211).1 h0 (hTo.at 0 rfl).1 2 (hTo.at 0 rfl).2 3 (by decide)).trans hk_196
    have hk_215 : rd f_209 h0 4 = .int pw_193 := ((Fr.put (cs := [(5, 1)]) (a := o) (ci := 5) Fr.rf Ext.rf (hTo.at 1 rfl).2 (by decide) hrd_210 hup_211).1 h0 (hTo.at 0 rfl).1 2 (hTo.at 0 rfl).2 4 (by decide)).trans hk_197
    have hk_216 : rd f_209 o 0 = .int wd := ((Fr.put (cs := [(5, 1)]) (a := o) (ci := 5) Fr.rf Ext.rf (hTo.at 1 rfl).2 (by decide) hrd_210 hup_211).1 o (hTo.at 1 rfl).1 5 (hTo.at 1 rfl).2 0 (by decide)).trans hk_203
    have hk_217 : rd f_209 tok 3 = .int zz := ((Fr.put (cs := [(5, 1)]) (a := o) (ci := 5) Fr.rf Ext.rf (hTo.at 1 rfl).2 (by decide) hrd_210 hup_211).1 tok (hTo.at 2 rfl).1 6 (hTo.at 2 rfl).2 3 (by decide)).trans hk_204
    have hk_218 : rd f_209 o 1 = .int z_188 := (hrd_210 o 1).trans (if_pos ⟨rfl, rfl⟩)
    have hk_219 : rd f_209 o 2 = .int nu := ((Fr.put (cs := [(5, 1)]) (a := o) (ci := 5) Fr.rf Ext.rf (hTo.at 1 rfl).2 (by decide) hrd_210 hup_211).1 o (hTo.at 1 rfl).1 5 (hTo.at 1 rfl).2 2 (by decide)).trans hk_206
    refine lv_goto (tgt := 139) hx hb dX2_readPlain_122 (by decide) ?_
    exact K_v hx hb hr hlocks hP hD hK hS hT hE ⟨rfl, hF, _, _, _, _, _, _, hk_212, hk_213, hk_214, hk_215, hk_218, hk_219, trivial, trivial, fun h9 => (hrel_200 h9), trivial, trivial, trivial, hO5, (by have e9 : gpl (Kp tt ln) (Vp tt ln) (nq tt ln) wd q = (gnu (Kp tt ln) (Vp tt ln) (nq tt ln) 0 5 q) := (by rw [c_184]; rfl); rw [e9]; exact hrq_208), ctP_6 c_184 hzv_207⟩ (Nat.le_of_ble_eq_true rfl) (Nat.le_of_ble_eq_true rfl) dX2_readPlain_139
  by_cases c_220 : wd = 7
  · refine lv_tableIn (tgt := 125) hx hb dX2_readPlain_4 (by rw [c_220]; decide) (by rw [c_220]; decide) (by rw [c_220]; rfl) (by decide) ?_
    refine lv_aload_n hx hb dX2_readPlain_125 rfl (lv_at hl 1 rfl) ?_
    refine lv_aload_n hx hb dX2_readPlain_126 rfl (lv_at hl 0 rfl) ?_
    refine lv_iconst (v := 1) hx hb dX2_readPlain_127 (by decide) ?_
    refine lv_bipush (v := 99) hx hb dX2_readPlain_128 (by decide) ?_
    have hTo := hT
    refine K_V ⟨hx, hb, hml, hown, hts⟩ (t_X2_readNumber l dC dI sa hlt g _ _ tt ln M q h0 1 99 tok ka sta vaa ax tn fa pw zz _ (hT.sub [0, 2, 3, 4, 5] rfl)  hm_ax hm_tn hm_fa hm_pw hm_zz ((hF.1 h0 (hT0.at 0 rfl).1 2 (hT0.at 0 rfl).2 0 (by decide)).trans h_tok) ((hF.1 tok (hT0.at 2 rfl).1 6 (hT0.at 2 rfl).2 4 (by decide)).trans h_ka) ((hF.1 tok (hT0.at 2 rfl).1 6 (hT0.at 2 rfl).2 5 (by decide)).trans h_sta) ((hF.1 tok (hT0.at 2 rfl).1 6 (hT0.at 2 rfl).2 6 (by decide)).trans h_vaa) hzz (hTK.go (hF.2 ka (hT0.at 3 rfl).1 0 _ _ (hT0.at 3 rfl).2 (by decide)) (hF.2 sta (hT0.at 4 rfl).1 0 _ _ (hT0.at 4 rfl).2 (by decide)) (hF.2 vaa (hT0.at 5 rfl).1 0 _ _ (hT0.at 5 rfl).2 (by decide))) hRQ) (cwV 2 hts gX2_readPlain_X2_readNumber rfl rfl rfl (by decide +kernel) ⟨Nat.le_of_ble_eq_true rfl, Nat.le_of_ble_eq_true rfl⟩) hP hD hK hS hA hev hT 0 2 rfl rfl rfl rfl hl.1 rfl (Nat.le_of_ble_eq_true rfl) dX2_readPlain_130 ⟨Nat.le_of_ble_eq_true rfl, Nat.le_of_ble_eq_true rfl⟩ (fun r L_221 f_222 H locs hw_223 hP hD hS hT hE1 => ?_)
    have hEo := hE
    have hO5 := hO5.call hE (OF.fr hw_223.2.1 (by decide)) (by simp)
    have hF := Fr.call hF hE hw_223.2.1 (by decide)
    have hE := hE.tr hE1
    obtain ⟨⟨z_224, rfl⟩, hw_223⟩ := hw_223
    obtain ⟨hfr_225, ax_226, tn_227, fa_228, pw_229, hk_230, hk_231, hk_232, hk_233, hrel_234, hrel_235, hrel_236, hrel_237, hex_238⟩ := hw_223
    have hk_239 : rd f_222 o 0 = .int wd := (hfr_225.1 o (hTo.at 1 rfl).1 5 (hTo.at 1 rfl).2 0 (by decide)).trans hm_wd
    have hk_240 : rd f_222 tok 3 = .int zz := (hfr_225.1 tok (hTo.at 2 rfl).1 6 (hTo.at 2 rfl).2 3 (by decide)).trans hm_zz
    have hk_241 : rd f_222 o 1 = .int vt := (hfr_225.1 o (hTo.at 1 rfl).1 5 (hTo.at 1 rfl).2 1 (by decide)).trans hm_vt
    have hk_242 : rd f_222 o 2 = .int nu := (hfr_225.1 o (hTo.at 1 rfl).1 5 (hTo.at 1 rfl).2 2 (by decide)).trans hm_nu
    have hzv_243 : z_224 = Vp tt ln q.1 := sv hex_238.1
    have hrq_244 := hex_238.2
    refine W.eq (g2 := F0 m 133 ls [.int z_224, .ref o]) rfl ?_
    have hTo := hT
    refine T_put (ci := 5) (v := .int z_224) (ty := .int) (t := tI) (C := RX5) (T := TX5) (N := 8) hx hb hts inw_X2_readPlain_5 tyX5 tyX5_ok nmX5 hown hK hP hD hS hT 1 rfl rfl 2 (by decide) (hts (.fieldLink RX2 79 "VatHouse$Step" "number" "I") (List.mem_of_getElem? (i := 3) (by exact rfl))) (fun _ h9 => h9) rfl (tyX5_ok 2 (by decide)) rfl rfl rfl ⟨_, rfl⟩ dX2_readPlain_133 (fun f_245 H locs hP hD hS hT hE1 hrd_246 hup_247 => ?_)
    have hO5 := hO5.put hrd_246 (by simp)
    have hF := Fr.put (a := o) (ci := 5) hF hE ((hE1 o (hT.at 1 rfl).1).2.symm.trans (hT.at 1 rfl).2) (by decide) hrd_246 hup_247
    have hE := hE.tr hE1
    have hk_248 : rd f_245 h0 1 = .int ax_226 := ((Fr.put (cs := [(5, 2)]) (a := o) (ci := 5) Fr.rf Ext.rf (hTo.at 1 rfl).2 (by decide) hrd_246 hup_247).1 h0 (hTo.at 0 rfl).1 2 (hTo.at 0 rfl).2 1 (by decide)).trans hk_230
    have hk_249 : rd f_245 h0 2 = .int tn_227 := ((Fr.put (cs := [(5, 2)]) (a := o) (ci := 5) Fr.rf Ext.rf (hTo.at 1 rfl).2 (by decide) hrd_246 hup_247).1 h0 (hTo.at 0 rfl).1 2 (hTo.at 0 rfl).2 2 (by decide)).trans hk_231
    have hk_250 : rd f_245 h0 3 = .int fa_228 := ((Fr.put (cs := [(5, 2)]) (a := o) (ci := 5) Fr.rf Ext.rf (hTo.at 1 rfl).2 (by decide) hrd_246 hup_247).1 h0 (hTo.at 0 rfl).1 2 (hTo.at 0 rfl).2 3 (by decide)).trans hk_232
    have hk_251 : rd f_245 h0 4 = .int pw_229 := ((Fr.put (cs := [(5, 2)]) (a := o) (ci := 5) Fr.rf Ext.rf (hTo.at 1 rfl).2 (by decide) hrd_246 hup_247).1 h0 (hTo.at 0 rfl).1 2 (hTo.at 0 rfl).2 4 (by decide)).trans hk_233
    have hk_252 : rd f_245 o 0 = .int wd := ((Fr.put (cs := [(5, 2)]) (a := o) (ci := 5) Fr.rf Ext.rf (hTo.at 1 rfl).2 (by decide) hrd_246 hup_247).1 o (hTo.at 1 rfl).1 5 (hTo.at 1 rfl).2 0 (by decide)).trans hk_239
    have hk_253 : rd f_245 tok 3 = .int zz := ((Fr.put (cs := [(5, 2)]) (a := o) (ci := 5) Fr.rf Ext.rf (hTo.at 1 rfl).2 (by decide) hrd_246 hup_247).1 tok (hTo.at 2 rfl).1 6 (hTo.at 2 rfl).2 3 (by decide)).trans hk_240
    have hk_254 : rd f_245 o 1 = .int vt := ((Fr.put (cs := [(5, 2)]) (a := o) (ci := 5) Fr.rf Ext.rf (hTo.at 1 rfl).2 (by decide) hrd_246 hup_247).1 o (hTo.at 1 rfl).1 5 (hTo.at 1 rfl).2 1 (by decide)).trans hk_241
    have hk_255 : rd f_245 o 2 = .int z_224 := (hrd_246 o 2).trans (if_pos ⟨rfl, rfl⟩)
    refine lv_goto (tgt := 139) hx hb dX2_readPlain_136 (by decide) ?_
    exact K_v hx hb hr hlocks hP hD hK hS hT hE ⟨rfl, hF, _, _, _, _, _, _, hk_248, hk_249, hk_250, hk_251, hk_254, hk_255, trivial, trivial, fun h9 => (hrel_236 h9), trivial, trivial, trivial, hO5, (by have e9 : gpl (Kp tt ln) (Vp tt ln) (nq tt ln) wd q = (gnu (Kp tt ln) (Vp tt ln) (nq tt ln) 1 99 q) := (by rw [c_220]; rfl); rw [e9]; exact hrq_244), ctP_1 (Or.inr c_220) hzv_243⟩ (Nat.le_of_ble_eq_true rfl) (Nat.le_of_ble_eq_true rfl) dX2_readPlain_139
  refine lv_tableOut (tgt := 139) hx hb dX2_readPlain_4 (tab_out_1_7 c_4 c_75 c_76 c_77 c_113 c_184 c_220) (by decide) ?_
  exact K_v hx hb hr hlocks hP hD hK hS hT hE ⟨rfl, hF, _, _, _, _, _, _, hm_ax, hm_tn, hm_fa, hm_pw, hm_vt, hm_nu, trivial, trivial, fun h9 => h9, trivial, trivial, trivial, hO5, (by have e9 : gpl (Kp tt ln) (Vp tt ln) (nq tt ln) wd q = q := (by unfold gpl; rw [if_neg c_4, if_neg c_77, if_neg c_113, if_neg c_184, if_neg c_220]); rw [e9]; exact hRQ), ctP_0 c_4 c_77 c_113 c_184 c_220⟩ (Nat.le_of_ble_eq_true rfl) (Nat.le_of_ble_eq_true rfl) dX2_readPlain_139

noncomputable abbrev rm_X2_readTestT : Room := { frames := 3, cells := 0, slots := 0, locals := 65 }
set_option maxHeartbeats 800000 in
set_option maxRecDepth 100000 in
theorem t_X2_readTestT (l : Launch) (dC : Nat → ClassId) (dI : Nat → Nat → Nat) (sa : Nat → Nat) (hlt : l.stackTraces = false) (g : Nat → Nat) (L : List Nat) (f : Nat → va_E) (tt : Nat → Int32) (ln : Nat) (M : Nat) (q : SG) (h0 : Nat) (o : Nat) (tok : Nat) (ka : Nat) (sta : Nat) (vaa : Nat) (ax : Int32) (tn : Int32) (fa : Int32) (pw : Int32) (zz : Int32) (vt : Int32) (nu : Int32) (lo : Int32) (be : Int32) (sz : Nat) (hT : TP g L f [(h0, (0, 2, 0)), (o, (0, 5, 0)), (tok, (0, 6, 0)), (ka, (1, g 0, 1501)), (sta, (1, g 5, 1501)), (vaa, (1, g 6, 1501))]) (hm_ax : rd f h0 1 = .int ax) (hm_tn : rd f h0 2 = .int tn) (hm_fa : rd f h0 3 = .int fa) (hm_pw : rd f h0 4 = .int pw) (hm_zz : rd f tok 3 = .int zz) (hm_vt : rd f o 1 = .int vt) (hm_nu : rd f o 2 = .int nu) (hm_lo : rd f o 3 = .int lo) (hm_be : rd f o 4 = .int be) (h_tok : rd f h0 0 = .ref tok) (h_ka : rd f tok 4 = .ref ka) (h_sta : rd f tok 5 = .ref sta) (h_vaa : rd f tok 6 = .ref vaa) (hzz : zz = nI (M + 1)) (hTK : TKS f ka sta vaa tt ln M) (hRQ : RQ tt ln M q ax tn fa pw) : KC l dC dI sa g yX2_readTest wsX2_readTest rm_X2_readTestT [.ref h0, .ref o] L f sz (fun r L' f' => (r = none) ∧ Fr [(2, 1), (2, 2), (2, 3), (2, 4), (5, 1), (5, 2), (5, 3), (5, 4)] L f f' ∧ (∃ ax' : Int32, ∃ tn' : Int32, ∃ fa' : Int32, ∃ pw' : Int32, ∃ vt' : Int32, ∃ nu' : Int32, ∃ lo' : Int32, ∃ be' : Int32, rd f' h0 1 = .int ax' ∧ rd f' h0 2 = .int tn' ∧ rd f' h0 3 = .int fa' ∧ rd f' h0 4 = .int pw' ∧ rd f' o 1 = .int vt' ∧ rd f' o 2 = .int nu' ∧ rd f' o 3 = .int lo' ∧ rd f' o 4 = .int be' ∧ (True) ∧ (True) ∧ (fa' = 0 → fa = 0) ∧ (True) ∧ (True) ∧ (True) ∧ (True) ∧ (True) ∧ (OF 5 [o] L f f' ∧ (RQ tt ln M (gte (Kp tt ln) (Vp tt ln) (nq tt ln) q) ax' tn' fa' pw' ∧ ((gte (Kp tt ln) (Vp tt ln) (nq tt ln) q).2.2.1 = 0 → ctT (Kp tt ln) (Vp tt ln) (nq tt ln) q.1 vt' nu' lo' be'))))) 0 0 := by
  refine CT.start (cc := cX2_readTest) (maxL := 2) (ret := none) (by decide) rfl (Nat.le_of_ble_eq_true rfl) ?_
  intro p e s m below meth c ls hst hP hK hD hev hS hl
  obtain ⟨hx, hb, hr, hml, hts, hown, hlocks, hin⟩ := hst
  have hown : s.vm.findClass RX2 = some m.cls := hown
  have hin : meth.name = yX2_readTest.name := hin
  have hA : ∀ q : Nat, s.heap.size ≤ q → va_A (va_pl L f) s.heap.size q := fun _ h => Or.inr h
  have hE : Ext L f L f := Ext.rf
  have hF : Fr [(2, 1), (2, 2), (2, 3), (2, 4), (5, 1), (5, 2), (5, 3), (5, 4)] L f f := Fr.rf
  have hO5 : OF 5 [o] L f f := OF.rf
  have hl : lv_has ls 2 [(0, .ref h0), (1, .ref o)] := hl
  have hT0 := hT
  refine lv_aload_n hx hb dX2_readTest_0 rfl (lv_at hl 0 rfl) ?_
  refine T_get (ci := 2) (C := RX2) (T := TX2) (N := 6) (t := tI) hx hb hts inw_X2_readTest_2 hown hK hP hT 0 rfl rfl 2 (by decide) (hts (.fieldLink RX2 44 "VatHouse$Reader" "token" "I") (List.mem_of_getElem? (i := 1) (by exact rfl))) (fun _ h9 => h9) rfl dX2_readTest_1 (fun v_3 hv_1 hr_2 => ?_)
  obtain rfl : v_3 = .int tn := hr_2.symm.trans hm_tn
  refine lv_bipush (v := 15) hx hb dX2_readTest_4 (by decide) ?_
  refine lv_icmp_lt (tgt := 18) hx hb dX2_readTest_6 (by decide) (fun c_4 => ?_) (fun c_4 => ?_)
  · refine lv_aload_n hx hb dX2_readTest_18 rfl (lv_at hl 0 rfl) ?_
    refine lv_iconst (v := 1) hx hb dX2_readTest_19 (by decide) ?_
    have hTo := hT
    refine K_V ⟨hx, hb, hml, hown, hts⟩ (t_X2_refuse l dC dI sa hlt g _ _ tt ln M q h0 1 tok ka sta vaa ax tn fa pw _ (hT.sub [0, 2, 3, 4, 5] rfl)  hm_ax hm_tn hm_fa hm_pw ((hF.1 h0 (hT0.at 0 rfl).1 2 (hT0.at 0 rfl).2 0 (by decide)).trans h_tok) ((hF.1 tok (hT0.at 2 rfl).1 6 (hT0.at 2 rfl).2 4 (by decide)).trans h_ka) ((hF.1 tok (hT0.at 2 rfl).1 6 (hT0.at 2 rfl).2 5 (by decide)).trans h_sta) ((hF.1 tok (hT0.at 2 rfl).1 6 (hT0.at 2 rfl).2 6 (by decide)).trans h_vaa) (by decide) (hTK.go (hF.2 ka (hT0.at 3 rfl).1 0 _ _ (hT0.at 3 rfl).2 (by decide)) (hF.2 sta (hT0.at 4 rfl).1 0 _ _ (hT0.at 4 rfl).2 (by decide)) (hF.2 vaa (hT0.at 5 rfl).1 0 _ _ (hT0.at 5 rfl).2 (by decide))) hRQ) (cwV 1 hts gX2_readTest_X2_refuse rfl rfl rfl (by decide +kernel) ⟨Nat.le_of_ble_eq_true rfl, Nat.le_of_ble_eq_true rfl⟩) hP hD hK hS hA hev hT 0 2 rfl rfl rfl rfl hl.1 rfl (Nat.le_of_ble_eq_true rfl) dX2_readTest_20 ⟨Nat.le_of_ble_eq_true rfl, Nat.le_of_ble_eq_true rfl⟩ (fun r L_5 f_6 H locs hw_7 hP hD hS hT hE1 => ?_)
    have hEo := hE
    have hO5 := hO5.call hE (OF.fr hw_7.2.1 (by decide)) (by simp)
    have hF := Fr.call hF hE hw_7.2.1 (by decide)
    have hE := hE.tr hE1
    obtain ⟨rfl, hw_7⟩ := hw_7
    obtain ⟨hfr_8, fa_9, pw_10, hk_11, hk_12, hrel_13, hrel_14, hex_15⟩ := hw_7
    have hk_16 : rd f_6 h0 1 = .int ax := (hfr_8.1 h0 (hTo.at 0 rfl).1 2 (hTo.at 0 rfl).2 1 (by decide)).trans hm_ax
    have hk_17 : rd f_6 h0 2 = .int tn := (hfr_8.1 h0 (hTo.at 0 rfl).1 2 (hTo.at 0 rfl).2 2 (by decide)).trans hm_tn
    have hk_18 : rd f_6 tok 3 = .int zz := (hfr_8.1 tok (hTo.at 2 rfl).1 6 (hTo.at 2 rfl).2 3 (by decide)).trans hm_zz
    have hk_19 : rd f_6 o 1 = .int vt := (hfr_8.1 o (hTo.at 1 rfl).1 5 (hTo.at 1 rfl).2 1 (by decide)).trans hm_vt
    have hk_20 : rd f_6 o 2 = .int nu := (hfr_8.1 o (hTo.at 1 rfl).1 5 (hTo.at 1 rfl).2 2 (by decide)).trans hm_nu
    have hk_21 : rd f_6 o 3 = .int lo := (hfr_8.1 o (hTo.at 1 rfl).1 5 (hTo.at 1 rfl).2 3 (by decide)).trans hm_lo
    have hk_22 : rd f_6 o 4 = .int be := (hfr_8.1 o (hTo.at 1 rfl).1 5 (hTo.at 1 rfl).2 4 (by decide)).trans hm_be
    have hrq_23 := hex_15
    refine W.eq (g2 := F0 m 23 ls []) rfl ?_
    have hg1 : (if Kp tt ln q.1 < 15 ∨ 19 < Kp tt ln q.1 then grf 1 q else q) = (grf 1 q) := if_pos (Or.inl (by rw [← hRQ.K]; exact c_4))
    refine lv_aload_n hx hb dX2_readTest_23 rfl (lv_at hl 1 rfl) ?_
    refine lv_aload_n hx hb dX2_readTest_24 rfl (lv_at hl 0 rfl) ?_
    refine T_get (ci := 2) (C := RX2) (T := TX2) (N := 6) (t := tI) hx hb hts inw_X2_readTest_2 hown hK hP hT 0 rfl rfl 2 (by decide) (hts (.fieldLink RX2 44 "VatHouse$Reader" "token" "I") (List.mem_of_getElem? (i := 1) (by exact rfl))) (fun _ h9 => h9) rfl dX2_readTest_25 (fun v_26 hv_24 hr_25 => ?_)
    obtain rfl : v_26 = .int tn := hr_25.symm.trans hk_17
    have hTo := hT
    refine T_put (ci := 5) (v := .int tn) (ty := .int) (t := tI) (C := RX5) (T := TX5) (N := 8) hx hb hts inw_X2_readTest_5 tyX5 tyX5_ok nmX5 hown hK hP hD hS hT 1 rfl rfl 3 (by decide) (hts (.fieldLink RX2 94 "VatHouse$Step" "look" "I") (List.mem_of_getElem? (i := 2) (by exact rfl))) (fun _ h9 => h9) rfl (tyX5_ok 3 (by decide)) rfl rfl rfl ⟨_, rfl⟩ dX2_readTest_28 (fun f_27 H locs hP hD hS hT hE1 hrd_28 hup_29 => ?_)
    have hO5 := hO5.put hrd_28 (by simp)
    have hF := Fr.put (a := o) (ci := 5) hF hE ((hE1 o (hT.at 1 rfl).1).2.symm.trans (hT.at 1 rfl).2) (by decide) hrd_28 hup_29
    have hE := hE.tr hE1
    have hk_30 : rd f_27 h0 1 = .int ax := ((Fr.put (cs := [(5, 3)]) (a := o) (ci := 5) Fr.rf Ext.rf (hTo.at 1 rfl).2 (by decide) hrd_28 hup_29).1 h0 (hTo.at 0 rfl).1 2 (hTo.at 0 rfl).2 1 (by decide)).trans hk_16
    have hk_31 : rd f_27 h0 2 = .int tn := ((Fr.put (cs := [(5, 3)]) (a := o) (ci := 5) Fr.rf Ext.rf (hTo.at 1 rfl).2 (by decide) hrd_28 hup_29).1 h0 (hTo.at 0 rfl).1 2 (hTo.at 0 rfl).2 2 (by decide)).trans hk_17
    have hk_32 : rd f_27 h0 3 = .int fa_9 := ((Fr.put (cs := [(5, 3)]) (a := o) (ci := 5) Fr.rf Ext.rf (hTo.at 1 rfl).2 (by decide) hrd_28 hup_29).1 h0 (hTo.at 0 rfl).1 2 (hTo.at 0 rfl).2 3 (by decide)).trans hk_11
    have hk_33 : rd f_27 h0 4 = .int pw_10 := ((Fr.put (cs := [(5, 3)]) (a := o) (ci := 5) Fr.rf Ext.rf (hTo.at 1 rfl).2 (by decide) hrd_28 hup_29).1 h0 (hTo.at 0 rfl).1 2 (hTo.at 0 rfl).2 4 (by decide)).trans hk_12
    have hk_34 : rd f_27 tok 3 = .int zz := ((Fr.put (cs := [(5, 3)]) (a := o) (ci := 5) Fr.rf Ext.rf (hTo.at 1 rfl).2 (by decide) hrd_28 hup_29).1 tok (hTo.at 2 rfl).1 6 (hTo.at 2 rfl).2 3 (by decide)).trans hk_18
    have hk_35 : rd f_27 o 1 = .int vt := ((Fr.put (cs := [(5, 3)]) (a := o) (ci := 5) Fr.rf Ext.rf (hTo.at 1 rfl).2 (by decide) hrd_28 hup_29).1 o (hTo.at 1 rfl).1 5 (hTo.at 1 rfl).2 1 (by decide)).trans hk_19
    have hk_36 : rd f_27 o 2 = .int nu := ((Fr.put (cs := [(5, 3)]) (a := o) (ci := 5) Fr.rf Ext.rf (hTo.at 1 rfl).2 (by decide) hrd_28 hup_29).1 o (hTo.at 1 rfl).1 5 (hTo.at 1 rfl).2 2 (by decide)).trans hk_20
    have hk_37 : rd f_27 o 3 = .int tn := (hrd_28 o 3).trans (if_pos ⟨rfl, rfl⟩)
    have hk_38 : rd f_27 o 4 = .int be := ((Fr.put (cs := [(5, 3)]) (a := o) (ci := 5) Fr.rf Ext.rf (hTo.at 1 rfl).2 (by decide) hrd_28 hup_29).1 o (hTo.at 1 rfl).1 5 (hTo.at 1 rfl).2 4 (by decide)).trans hk_22
    refine lv_aload_n hx hb dX2_readTest_31 rfl (lv_at hl 0 rfl) ?_
    refine lv_aload_n hx hb dX2_readTest_32 rfl (lv_at hl 0 rfl) ?_
    refine T_get (ci := 2) (C := RX2) (T := TX2) (N := 6) (t := tI) hx hb hts inw_X2_readTest_2 hown hK hP hT 0 rfl rfl 2 (by decide) (hts (.fieldLink RX2 44 "VatHouse$Reader" "token" "I") (List.mem_of_getElem? (i := 1) (by exact rfl))) (fun _ h9 => h9) rfl dX2_readTest_33 (fun v_41 hv_39 hr_40 => ?_)
    obtain rfl : v_41 = .int tn := hr_40.symm.trans hk_31
    have hTo := hT
    refine K_V ⟨hx, hb, hml, hown, hts⟩ (t_X2_pass l dC dI sa hlt g _ _ tt ln M (grf 1 q) h0 tn tok ka sta vaa ax tn fa_9 pw_10 zz _ (hT.sub [0, 2, 3, 4, 5] rfl)  hk_30 hk_31 hk_32 hk_33 hk_34 ((hF.1 h0 (hT0.at 0 rfl).1 2 (hT0.at 0 rfl).2 0 (by decide)).trans h_tok) ((hF.1 tok (hT0.at 2 rfl).1 6 (hT0.at 2 rfl).2 4 (by decide)).trans h_ka) ((hF.1 tok (hT0.at 2 rfl).1 6 (hT0.at 2 rfl).2 5 (by decide)).trans h_sta) ((hF.1 tok (hT0.at 2 rfl).1 6 (hT0.at 2 rfl).2 6 (by decide)).trans h_vaa) hzz (hTK.go (hF.2 ka (hT0.at 3 rfl).1 0 _ _ (hT0.at 3 rfl).2 (by decide)) (hF.2 sta (hT0.at 4 rfl).1 0 _ _ (hT0.at 4 rfl).2 (by decide)) (hF.2 vaa (hT0.at 5 rfl).1 0 _ _ (hT0.at 5 rfl).2 (by decide))) hrq_23 (Or.inr hrel_13)) (cwV 1 hts gX2_readTest_X2_pass rfl rfl rfl (by decide +kernel) ⟨Nat.le_of_ble_eq_true rfl, Nat.le_of_ble_eq_true rfl⟩) hP hD hK hS hA hev hT 0 2 rfl rfl rfl rfl hl.1 rfl (Nat.le_of_ble_eq_true rfl) dX2_readTest_36 ⟨Nat.le_of_ble_eq_true rfl, Nat.le_of_ble_eq_true rfl⟩ (fun r L_42 f_43 H locs hw_44 hP hD hS hT hE1 => ?_)
    have hEo := hE
    have hO5 := hO5.call hE (OF.fr hw_44.2.1 (by decide)) (by simp)
    have hF := Fr.call hF hE hw_44.2.1 (by decide)
    have hE := hE.tr hE1
    obtain ⟨rfl, hw_44⟩ := hw_44
    obtain ⟨hfr_45, ax_46, tn_47, fa_48, pw_49, hk_50, hk_51, hk_52, hk_53, hrel_54, hrel_55, hrel_56, hrel_57, hex_58⟩ := hw_44
    have hk_59 : rd f_43 tok 3 = .int zz := (hfr_45.1 tok (hTo.at 2 rfl).1 6 (hTo.at 2 rfl).2 3 (by decide)).trans hk_34
    have hk_60 : rd f_43 o 1 = .int vt := (hfr_45.1 o (hTo.at 1 rfl).1 5 (hTo.at 1 rfl).2 1 (by decide)).trans hk_35
    have hk_61 : rd f_43 o 2 = .int nu := (hfr_45.1 o (hTo.at 1 rfl).1 5 (hTo.at 1 rfl).2 2 (by decide)).trans hk_36
    have hk_62 : rd f_43 o 3 = .int tn := (hfr_45.1 o (hTo.at 1 rfl).1 5 (hTo.at 1 rfl).2 3 (by decide)).trans hk_37
    have hk_63 : rd f_43 o 4 = .int be := (hfr_45.1 o (hTo.at 1 rfl).1 5 (hTo.at 1 rfl).2 4 (by decide)).trans hk_38
    have hrq_64 : RQ tt ln M (gpa (Kp tt ln) (nq tt ln) (Kp tt ln q.1) (grf 1 q)) ax_46 tn_47 fa_48 pw_49 := hRQ.K ▸ hex_58
    refine W.eq (g2 := F0 m 39 ls []) rfl ?_
    refine lv_aload_n hx hb dX2_readTest_39 rfl (lv_at hl 1 rfl) ?_
    refine T_get (ci := 5) (C := RX5) (T := TX5) (N := 8) (t := tI) hx hb hts inw_X2_readTest_5 hown hK hP hT 1 rfl rfl 3 (by decide) (hts (.fieldLink RX2 94 "VatHouse$Step" "look" "I") (List.mem_of_getElem? (i := 2) (by exact rfl))) (fun _ h9 => h9) rfl dX2_readTest_40 (fun v_67 hv_65 hr_66 => ?_)
    obtain rfl : v_67 = .int tn := hr_66.symm.trans hk_62
    refine lv_bipush (v := 17) hx hb dX2_readTest_43 (by decide) ?_
    refine lv_icmp_eq (tgt := 57) hx hb dX2_readTest_45 (by decide) (fun c_68 => ?_) (fun c_68 => ?_)
    · refine lv_aload_n hx hb dX2_readTest_57 rfl (lv_at hl 1 rfl) ?_
      refine lv_aload_n hx hb dX2_readTest_58 rfl (lv_at hl 0 rfl) ?_
      refine lv_iconst (v := 0) hx hb dX2_readTest_59 (by decide) ?_
      refine lv_iconst (v := 5) hx hb dX2_readTest_60 (by decide) ?_
      have hTo := hT
      refine K_V ⟨hx, hb, hml, hown, hts⟩ (t_X2_readNumber l dC dI sa hlt g _ _ tt ln M (gpa (Kp tt ln) (nq tt ln) (Kp tt ln q.1) (grf 1 q)) h0 0 5 tok ka sta vaa ax_46 tn_47 fa_48 pw_49 zz _ (hT.sub [0, 2, 3, 4, 5] rfl)  hk_50 hk_51 hk_52 hk_53 hk_59 ((hF.1 h0 (hT0.at 0 rfl).1 2 (hT0.at 0 rfl).2 0 (by decide)).trans h_tok) ((hF.1 tok (hT0.at 2 rfl).1 6 (hT0.at 2 rfl).2 4 (by decide)).trans h_ka) ((hF.1 tok (hT0.at 2 rfl).1 6 (hT0.at 2 rfl).2 5 (by decide)).trans h_sta) ((hF.1 tok (hT0.at 2 rfl).1 6 (hT0.at 2 rfl).2 6 (by decide)).trans h_vaa) hzz (hTK.go (hF.2 ka (hT0.at 3 rfl).1 0 _ _ (hT0.at 3 rfl).2 (by decide)) (hF.2 sta (hT0.at 4 rfl).1 0 _ _ (hT0.at 4 rfl).2 (by decide)) (hF.2 vaa (hT0.at 5 rfl).1 0 _ _ (hT0.at 5 rfl).2 (by decide))) hrq_64) (cwV 2 hts gX2_readTest_X2_readNumber rfl rfl rfl (by decide +kernel) ⟨Nat.le_of_ble_eq_true rfl, Nat.le_of_ble_eq_true rfl⟩) hP hD hK hS hA hev hT 0 2 rfl rfl rfl rfl hl.1 rfl (Nat.le_of_ble_eq_true rfl) dX2_readTest_61 ⟨Nat.le_of_ble_eq_true rfl, Nat.le_of_ble_eq_true rfl⟩ (fun r L_69 f_70 H locs hw_71 hP hD hS hT hE1 => ?_)
      have hEo := hE
      have hO5 := hO5.call hE (OF.fr hw_71.2.1 (by decide)) (by simp)
      have hF := Fr.call hF hE hw_71.2.1 (by decide)
      have hE := hE.tr hE1
      obtain ⟨⟨z_72, rfl⟩, hw_71⟩ := hw_71
      obtain ⟨hfr_73, ax_74, tn_75, fa_76, pw_77, hk_78, hk_79, hk_80, hk_81, hrel_82, hrel_83, hrel_84, hrel_85, hex_86⟩ := hw_71
      have hk_87 : rd f_70 tok 3 = .int zz := (hfr_73.1 tok (hTo.at 2 rfl).1 6 (hTo.at 2 rfl).2 3 (by decide)).trans hk_59
      have hk_88 : rd f_70 o 1 = .int vt := (hfr_73.1 o (hTo.at 1 rfl).1 5 (hTo.at 1 rfl).2 1 (by decide)).trans hk_60
      have hk_89 : rd f_70 o 2 = .int nu := (hfr_73.1 o (hTo.at 1 rfl).1 5 (hTo.at 1 rfl).2 2 (by decide)).trans hk_61
      have hk_90 : rd f_70 o 3 = .int tn := (hfr_73.1 o (hTo.at 1 rfl).1 5 (hTo.at 1 rfl).2 3 (by decide)).trans hk_62
      have hk_91 : rd f_70 o 4 = .int be := (hfr_73.1 o (hTo.at 1 rfl).1 5 (hTo.at 1 rfl).2 4 (by decide)).trans hk_63
      have hzv_92 : z_72 = Vp tt ln (gpa (Kp tt ln) (nq tt ln) (Kp tt ln q.1) (grf 1 q)).1 := sv hex_86.1
      have hrq_93 := hex_86.2
      refine W.eq (g2 := F0 m 64 ls [.int z_72, .ref o]) rfl ?_
      have hTo := hT
      refine T_put (ci := 5) (v := .int z_72) (ty := .int) (t := tI) (C := RX5) (T := TX5) (N := 8) hx hb hts inw_X2_readTest_5 tyX5 tyX5_ok nmX5 hown hK hP hD hS hT 1 rfl rfl 1 (by decide) (hts (.fieldLink RX2 76 "VatHouse$Step" "vat" "I") (List.mem_of_getElem? (i := 3) (by exact rfl))) (fun _ h9 => h9) rfl (tyX5_ok 1 (by decide)) rfl rfl rfl ⟨_, rfl⟩ dX2_readTest_64 (fun f_94 H locs hP hD hS hT hE1 hrd_95 hup_96 => ?_)
      have hO5 := hO5.put hrd_95 (by simp)
      have hF := Fr.put (a := o) (ci := 5) hF hE ((hE1 o (hT.at 1 rfl).1).2.symm.trans (hT.at 1 rfl).2) (by decide) hrd_95 hup_96
      have hE := hE.tr hE1
      have hk_97 : rd f_94 h0 1 = .int ax_74 := ((Fr.put (cs := [(5, 1)]) (a := o) (ci := 5) Fr.rf Ext.rf (hTo.at 1 rfl).2 (by decide) hrd_95 hup_96).1 h0 (hTo.at 0 rfl).1 2 (hTo.at 0 rfl).2 1 (by decide)).trans hk_78
      have hk_98 : rd f_94 h0 2 = .int tn_75 := ((Fr.put (cs := [(5, 1)]) (a := o) (ci := 5) Fr.rf Ext.rf (hTo.at 1 rfl).2 (by decide) hrd_95 hup_96).1 h0 (hTo.at 0 rfl).1 2 (hTo.at 0 rfl).2 2 (by decide)).trans hk_79
      have hk_99 : rd f_94 h0 3 = .int fa_76 := ((Fr.put (cs := [(5, 1)]) (a := o) (ci := 5) Fr.rf Ext.rf (hTo.at 1 rfl).2 (by decide) hrd_95 hup_96).1 h0 (hTo.at 0 rfl).1 2 (hTo.at 0 rfl).2 3 (by decide)).trans hk_80
      have hk_100 : rd f_94 h0 4 = .int pw_77 := ((Fr.put (cs := [(5, 1)]) (a := o) (ci := 5) Fr.rf Ext.rf (hTo.at 1 rfl).2 (by decide) hrd_95 hup_96).1 h0 (hTo.at 0 rfl).1 2 (hTo.at 0 rfl).2 4 (by decide)).trans hk_81
      have hk_101 : rd f_94 tok 3 = .int zz := ((Fr.put (cs := [(5, 1)]) (a := o) (ci := 5) Fr.rf Ext.rf (hTo.at 1 rfl).2 (by decide) hrd_95 hup_96).1 tok (hTo.at 2 rfl).1 6 (hTo.at 2 rfl).2 3 (by decide)).trans hk_87
      have hk_102 : rd f_94 o 1 = .int z_72 := (hrd_95 o 1).trans (if_pos ⟨rfl, rfl⟩)
      have hk_103 : rd f_94 o 2 = .int nu := ((Fr.put (cs := [(5, 1)]) (a := o) (ci := 5) Fr.rf Ext.rf (hTo.at 1 rfl).2 (by decide) hrd_95 hup_96).1 o (hTo.at 1 rfl).1 5 (hTo.at 1 rfl).2 2 (by decide)).trans hk_89
      have hk_104 : rd f_94 o 3 = .int tn := ((Fr.put (cs := [(5, 1)]) (a := o) (ci := 5) Fr.rf Ext.rf (hTo.at 1 rfl).2 (by decide) hrd_95 hup_96).1 o (hTo.at 1 rfl).1 5 (hTo.at 1 rfl).2 3 (by decide)).trans hk_90
      have hk_105 : rd f_94 o 4 = .int be := ((Fr.put (cs := [(5, 1)]) (a := o) (ci := 5) Fr.rf Ext.rf (hTo.at 1 rfl).2 (by decide) hrd_95 hup_96).1 o (hTo.at 1 rfl).1 5 (hTo.at 1 rfl).2 4 (by decide)).trans hk_91
      have hg2 : gte2 (Kp tt ln) (Vp tt ln) (nq tt ln) (Kp tt ln q.1) (gpa (Kp tt ln) (nq tt ln) (Kp tt ln q.1) (grf 1 q)) = (gnu (Kp tt ln) (Vp tt ln) (nq tt ln) 0 5 (gpa (Kp tt ln) (nq tt ln) (Kp tt ln q.1) (grf 1 q))) := if_pos (Or.inl (by rw [← hRQ.K]; exact c_68))
      refine lv_aload_n hx hb dX2_readTest_67 rfl (lv_at hl 1 rfl) ?_
      refine lv_aload_n hx hb dX2_readTest_68 rfl (lv_at hl 0 rfl) ?_
      refine T_get (ci := 2) (C := RX2) (T := TX2) (N := 6) (t := tI) hx hb hts inw_X2_readTest_2 hown hK hP hT 0 rfl rfl 2 (by decide) (hts (.fieldLink RX2 44 "VatHouse$Reader" "token" "I") (List.mem_of_getElem? (i := 1) (by exact rfl))) (fun _ h9 => h9) rfl dX2_readTest_69 (fun v_108 hv_106 hr_107 => ?_)
      obtain rfl : v_108 = .int tn_75 := hr_107.symm.trans hk_98
      refine lv_bipush (v := 60) hx hb dX2_readTest_72 (by decide) ?_
      refine lv_icmp_ne (tgt := 81) hx hb dX2_readTest_74 (by decide) (fun c_109 => ?_) (fun c_109 => ?_)
      · refine lv_iconst (v := 0) hx hb dX2_readTest_81 (by decide) ?_
        have hTo := hT
        refine T_put (ci := 5) (v := .int 0) (ty := .boolean) (t := tI) (C := RX5) (T := TX5) (N := 8) hx hb hts inw_X2_readTest_5 tyX5 tyX5_ok nmX5 hown hK hP hD hS hT 1 rfl rfl 4 (by decide) (hts (.fieldLink RX2 97 "VatHouse$Step" "below" "Z") (List.mem_of_getElem? (i := 4) (by exact rfl))) (fun _ h9 => h9) rfl (tyX5_ok 4 (by decide)) rfl rfl rfl ⟨_, rfl⟩ dX2_readTest_82 (fun f_110 H locs hP hD hS hT hE1 hrd_111 hup_112 => ?_)
        have hO5 := hO5.put hrd_111 (by simp)
        have hF := Fr.put (a := o) (ci := 5) hF hE ((hE1 o (hT.at 1 rfl).1).2.symm.trans (hT.at 1 rfl).2) (by decide) hrd_111 hup_112
        have hE := hE.tr hE1
        have hk_113 : rd f_110 h0 1 = .int ax_74 := ((Fr.put (cs := [(5, 4)]) (a := o) (ci := 5) Fr.rf Ext.rf (hTo.at 1 rfl).2 (by decide) hrd_111 hup_112).1 h0 (hTo.at 0 rfl).1 2 (hTo.at 0 rfl).2 1 (by decide)).trans hk_97
        have hk_114 : rd f_110 h0 2 = .int tn_75 := ((Fr.put (cs := [(5, 4)]) (a := o) (ci := 5) Fr.rf Ext.rf (hTo.at 1 rfl).2 (by decide) hrd_111 hup_112).1 h0 (hTo.at 0 rfl).1 2 (hTo.at 0 rfl).2 2 (by decide)).trans hk_98
        have hk_115 : rd f_110 h0 3 = .int fa_76 := ((Fr.put (cs := [(5, 4)]) (a := o) (ci := 5) Fr.rf Ext.rf (hTo.at 1 rfl).2 (by decide) hrd_111 hup_112).1 h0 (hTo.at 0 rfl).1 2 (hTo.at 0 rfl).2 3 (by decide)).trans hk_99
        have hk_116 : rd f_110 h0 4 = .int pw_77 := ((Fr.put (cs := [(5, 4)]) (a := o) (ci := 5) Fr.rf Ext.rf (hTo.at 1 rfl).2 (by decide) hrd_111 hup_112).1 h0 (hTo.at 0 rfl).1 2 (hTo.at 0 rfl).2 4 (by decide)).trans hk_100
        have hk_117 : rd f_110 tok 3 = .int zz := ((Fr.put (cs := [(5, 4)]) (a := o) (ci := 5) Fr.rf Ext.rf (hTo.at 1 rfl).2 (by decide) hrd_111 hup_112).1 tok (hTo.at 2 rfl).1 6 (hTo.at 2 rfl).2 3 (by decide)).trans hk_101
        have hk_118 : rd f_110 o 1 = .int z_72 := ((Fr.put (cs := [(5, 4)]) (a := o) (ci := 5) Fr.rf Ext.rf (hTo.at 1 rfl).2 (by decide) hrd_111 hup_112).1 o (hTo.at 1 rfl).1 5 (hTo.at 1 rfl).2 1 (by decide)).trans hk_102
        have hk_119 : rd f_110 o 2 = .int nu := ((Fr.put (cs := [(5, 4)]) (a := o) (ci := 5) Fr.rf Ext.rf (hTo.at 1 rfl).2 (by decide) hrd_111 hup_112).1 o (hTo.at 1 rfl).1 5 (hTo.at 1 rfl).2 2 (by decide)).trans hk_103
        have hk_120 : rd f_110 o 3 = .int tn := ((Fr.put (cs := [(5, 4)]) (a := o) (ci := 5) Fr.rf Ext.rf (hTo.at 1 rfl).2 (by decide) hrd_111 hup_112).1 o (hTo.at 1 rfl).1 5 (hTo.at 1 rfl).2 3 (by decide)).trans hk_104
        have hk_121 : rd f_110 o 4 = .int 0 := (hrd_111 o 4).trans (if_pos ⟨rfl, rfl⟩)
        have hg3 : (if Kp tt ln (gnu (Kp tt ln) (Vp tt ln) (nq tt ln) 0 5 (gpa (Kp tt ln) (nq tt ln) (Kp tt ln q.1) (grf 1 q))).1 = 60 then (60 : Int32) else 61) = 61 := if_neg (by rw [← hrq_93.K]; exact c_109)
        have hg4 : (0 : Int32) = if Kp tt ln (gnu (Kp tt ln) (Vp tt ln) (nq tt ln) 0 5 (gpa (Kp tt ln) (nq tt ln) (Kp tt ln q.1) (grf 1 q))).1 = 60 then 1 else 0 := (if_neg (by rw [← hrq_93.K]; exact c_109)).symm
        refine lv_aload_n hx hb dX2_readTest_85 rfl (lv_at hl 0 rfl) ?_
        refine lv_aload_n hx hb dX2_readTest_86 rfl (lv_at hl 1 rfl) ?_
        refine T_get (ci := 5) (C := RX5) (T := TX5) (N := 8) (t := tI) hx hb hts inw_X2_readTest_5 hown hK hP hT 1 rfl rfl 4 (by decide) (hts (.fieldLink RX2 97 "VatHouse$Step" "below" "Z") (List.mem_of_getElem? (i := 4) (by exact rfl))) (fun _ h9 => h9) rfl dX2_readTest_87 (fun v_124 hv_122 hr_123 => ?_)
        obtain rfl : v_124 = .int 0 := hr_123.symm.trans hk_121
        refine lv_if_eq (tgt := 98) hx hb dX2_readTest_90 (by decide) (fun c_125 => ?_) (fun c_125 => ?_)
        rotate_left
        · exact absurd c_125 (by decide)
        refine lv_bipush (v := 61) hx hb dX2_readTest_98 (by decide) ?_
        have hTo := hT
        refine K_V ⟨hx, hb, hml, hown, hts⟩ (t_X2_pass l dC dI sa hlt g _ _ tt ln M (gnu (Kp tt ln) (Vp tt ln) (nq tt ln) 0 5 (gpa (Kp tt ln) (nq tt ln) (Kp tt ln q.1) (grf 1 q))) h0 61 tok ka sta vaa ax_74 tn_75 fa_76 pw_77 zz _ (hT.sub [0, 2, 3, 4, 5] rfl)  hk_113 hk_114 hk_115 hk_116 hk_117 ((hF.1 h0 (hT0.at 0 rfl).1 2 (hT0.at 0 rfl).2 0 (by decide)).trans h_tok) ((hF.1 tok (hT0.at 2 rfl).1 6 (hT0.at 2 rfl).2 4 (by decide)).trans h_ka) ((hF.1 tok (hT0.at 2 rfl).1 6 (hT0.at 2 rfl).2 5 (by decide)).trans h_sta) ((hF.1 tok (hT0.at 2 rfl).1 6 (hT0.at 2 rfl).2 6 (by decide)).trans h_vaa) hzz (hTK.go (hF.2 ka (hT0.at 3 rfl).1 0 _ _ (hT0.at 3 rfl).2 (by decide)) (hF.2 sta (hT0.at 4 rfl).1 0 _ _ (hT0.at 4 rfl).2 (by decide)) (hF.2 vaa (hT0.at 5 rfl).1 0 _ _ (hT0.at 5 rfl).2 (by decide))) hrq_93 (Or.inl (by decide))) (cwV 1 hts gX2_readTest_X2_pass rfl rfl rfl (by decide +kernel) ⟨Nat.le_of_ble_eq_true rfl, Nat.le_of_ble_eq_true rfl⟩) hP hD hK hS hA hev hT 0 2 rfl rfl rfl rfl hl.1 rfl (Nat.le_of_ble_eq_true rfl) dX2_readTest_100 ⟨Nat.le_of_ble_eq_true rfl, Nat.le_of_ble_eq_true rfl⟩ (fun r L_126 f_127 H locs hw_128 hP hD hS hT hE1 => ?_)
        have hEo := hE
        have hO5 := hO5.call hE (OF.fr hw_128.2.1 (by decide)) (by simp)
        have hF := Fr.call hF hE hw_128.2.1 (by decide)
        have hE := hE.tr hE1
        obtain ⟨rfl, hw_128⟩ := hw_128
        obtain ⟨hfr_129, ax_130, tn_131, fa_132, pw_133, hk_134, hk_135, hk_136, hk_137, hrel_138, hrel_139, hrel_140, hrel_141, hex_142⟩ := hw_128
        have hk_143 : rd f_127 tok 3 = .int zz := (hfr_129.1 tok (hTo.at 2 rfl).1 6 (hTo.at 2 rfl).2 3 (by decide)).trans hk_117
        have hk_144 : rd f_127 o 1 = .int z_72 := (hfr_129.1 o (hTo.at 1 rfl).1 5 (hTo.at 1 rfl).2 1 (by decide)).trans hk_118
        have hk_145 : rd f_127 o 2 = .int nu := (hfr_129.1 o (hTo.at 1 rfl).1 5 (hTo.at 1 rfl).2 2 (by decide)).trans hk_119
        have hk_146 : rd f_127 o 3 = .int tn := (hfr_129.1 o (hTo.at 1 rfl).1 5 (hTo.at 1 rfl).2 3 (by decide)).trans hk_120
        have hk_147 : rd f_127 o 4 = .int 0 := (hfr_129.1 o (hTo.at 1 rfl).1 5 (hTo.at 1 rfl).2 4 (by decide)).trans hk_121
        have hrq_148 := hex_142
        refine W.eq (g2 := F0 m 103 ls []) rfl ?_
        refine lv_aload_n hx hb dX2_readTest_103 rfl (lv_at hl 1 rfl) ?_
        refine lv_aload_n hx hb dX2_readTest_104 rfl (lv_at hl 0 rfl) ?_
        refine lv_iconst (v := 0) hx hb dX2_readTest_105 (by decide) ?_
        refine lv_sipush (v := 9999) hx hb dX2_readTest_106 (by decide) ?_
        have hTo := hT
        refine K_V ⟨hx, hb, hml, hown, hts⟩ (t_X2_readNumber l dC dI sa hlt g _ _ tt ln M (gpa (Kp tt ln) (nq tt ln) 61 (gnu (Kp tt ln) (Vp tt ln) (nq tt ln) 0 5 (gpa (Kp tt ln) (nq tt ln) (Kp tt ln q.1) (grf 1 q)))) h0 0 9999 tok ka sta vaa ax_130 tn_131 fa_132 pw_133 zz _ (hT.sub [0, 2, 3, 4, 5] rfl)  hk_134 hk_135 hk_136 hk_137 hk_143 ((hF.1 h0 (hT0.at 0 rfl).1 2 (hT0.at 0 rfl).2 0 (by decide)).trans h_tok) ((hF.1 tok (hT0.at 2 rfl).1 6 (hT0.at 2 rfl).2 4 (by decide)).trans h_ka) ((hF.1 tok (hT0.at 2 rfl).1 6 (hT0.at 2 rfl).2 5 (by decide)).trans h_sta) ((hF.1 tok (hT0.at 2 rfl).1 6 (hT0.at 2 rfl).2 6 (by decide)).trans h_vaa) hzz (hTK.go (hF.2 ka (hT0.at 3 rfl).1 0 _ _ (hT0.at 3 rfl).2 (by decide)) (hF.2 sta (hT0.at 4 rfl).1 0 _ _ (hT0.at 4 rfl).2 (by decide)) (hF.2 vaa (hT0.at 5 rfl).1 0 _ _ (hT0.at 5 rfl).2 (by decide))) hrq_148) (cwV 2 hts gX2_readTest_X2_readNumber rfl rfl rfl (by decide +kernel) ⟨Nat.le_of_ble_eq_true rfl, Nat.le_of_ble_eq_true rfl⟩) hP hD hK hS hA hev hT 0 2 rfl rfl rfl rfl hl.1 rfl (Nat.le_of_ble_eq_true rfl) dX2_readTest_109 ⟨Nat.le_of_ble_eq_true rfl, Nat.le_of_ble_eq_true rfl⟩ (fun r L_149 f_150 H locs hw_151 hP hD hS hT hE1 => ?_)
        have hEo := hE
        have hO5 := hO5.call hE (OF.fr hw_151.2.1 (by decide)) (by simp)
        have hF := Fr.call hF hE hw_151.2.1 (by decide)
        have hE := hE.tr hE1
        obtain ⟨⟨z_152, rfl⟩, hw_151⟩ := hw_151
        obtain ⟨hfr_153, ax_154, tn_155, fa_156, pw_157, hk_158, hk_159, hk_160, hk_161, hrel_162, hrel_163, hrel_164, hrel_165, hex_166⟩ := hw_151
        have hk_167 : rd f_150 tok 3 = .int zz := (hfr_153.1 tok (hTo.at 2 rfl).1 6 (hTo.at 2 rfl).2 3 (by decide)).trans hk_143
        have hk_168 : rd f_150 o 1 = .int z_72 := (hfr_153.1 o (hTo.at 1 rfl).1 5 (hTo.at 1 rfl).2 1 (by decide)).trans hk_144
        have hk_169 : rd f_150 o 2 = .int nu := (hfr_153.1 o (hTo.at 1 rfl).1 5 (hTo.at 1 rfl).2 2 (by decide)).trans hk_145
        have hk_170 : rd f_150 o 3 = .int tn := (hfr_153.1 o (hTo.at 1 rfl).1 5 (hTo.at 1 rfl).2 3 (by decide)).trans hk_146
        have hk_171 : rd f_150 o 4 = .int 0 := (hfr_153.1 o (hTo.at 1 rfl).1 5 (hTo.at 1 rfl).2 4 (by decide)).trans hk_147
        have hzv_172 : z_152 = Vp tt ln (gpa (Kp tt ln) (nq tt ln) 61 (gnu (Kp tt ln) (Vp tt ln) (nq tt ln) 0 5 (gpa (Kp tt ln) (nq tt ln) (Kp tt ln q.1) (grf 1 q)))).1 := sv hex_166.1
        have hrq_173 := hex_166.2
        refine W.eq (g2 := F0 m 112 ls [.int z_152, .ref o]) rfl ?_
        have hTo := hT
        refine T_put (ci := 5) (v := .int z_152) (ty := .int) (t := tI) (C := RX5) (T := TX5) (N := 8) hx hb hts inw_X2_readTest_5 tyX5 tyX5_ok nmX5 hown hK hP hD hS hT 1 rfl rfl 2 (by decide) (hts (.fieldLink RX2 79 "VatHouse$Step" "number" "I") (List.mem_of_getElem? (i := 5) (by exact rfl))) (fun _ h9 => h9) rfl (tyX5_ok 2 (by decide)) rfl rfl rfl ⟨_, rfl⟩ dX2_readTest_112 (fun f_174 H locs hP hD hS hT hE1 hrd_175 hup_176 => ?_)
        have hO5 := hO5.put hrd_175 (by simp)
        have hF := Fr.put (a := o) (ci := 5) hF hE ((hE1 o (hT.at 1 rfl).1).2.symm.trans (hT.at 1 rfl).2) (by decide) hrd_175 hup_176
        have hE := hE.tr hE1
        have hk_177 : rd f_174 h0 1 = .int ax_154 := ((Fr.put (cs := [(5, 2)]) (a := o) (ci := 5) Fr.rf Ext.rf (hTo.at 1 rfl).2 (by decide) hrd_175 hup_176).1 h0 (hTo.at 0 rfl).1 2 (hTo.at 0 rfl).2 1 (by decide)).trans hk_158
        have hk_178 : rd f_174 h0 2 = .int tn_155 := ((Fr.put (cs := [(5, 2)]) (a := o) (ci := 5) Fr.rf Ext.rf (hTo.at 1 rfl).2 (by decide) hrd_175 hup_176).1 h0 (hTo.at 0 rfl).1 2 (hTo.at 0 rfl).2 2 (by decide)).trans hk_159
        have hk_179 : rd f_174 h0 3 = .int fa_156 := ((Fr.put (cs := [(5, 2)]) (a := o) (ci := 5) Fr.rf Ext.rf (hTo.at 1 rfl).2 (by decide) hrd_175 hup_176).1 h0 (hTo.at 0 rfl).1 2 (hTo.at 0 rfl).2 3 (by decide)).trans hk_160
        have hk_180 : rd f_174 h0 4 = .int pw_157 := ((Fr.put (cs := [(5, 2)]) (a := o) (ci := 5) Fr.rf Ext.rf (hTo.at 1 rfl).2 (by decide) hrd_175 hup_176).1 h0 (hTo.at 0 rfl).1 2 (hTo.at 0 rfl).2 4 (by decide)).trans hk_161
        have hk_181 : rd f_174 tok 3 = .int zz := ((Fr.put (cs := [(5, 2)]) (a := o) (ci := 5) Fr.rf Ext.rf (hTo.at 1 rfl).2 (by decide) hrd_175 hup_176).1 tok (hTo.at 2 rfl).1 6 (hTo.at 2 rfl).2 3 (by decide)).trans hk_167
        have hk_182 : rd f_174 o 1 = .int z_72 := ((Fr.put (cs := [(5, 2)]) (a := o) (ci := 5) Fr.rf Ext.rf (hTo.at 1 rfl).2 (by decide) hrd_175 hup_176).1 o (hTo.at 1 rfl).1 5 (hTo.at 1 rfl).2 1 (by decide)).trans hk_168
        have hk_183 : rd f_174 o 2 = .int z_152 := (hrd_175 o 2).trans (if_pos ⟨rfl, rfl⟩)
        have hk_184 : rd f_174 o 3 = .int tn := ((Fr.put (cs := [(5, 2)]) (a := o) (ci := 5) Fr.rf Ext.rf (hTo.at 1 rfl).2 (by decide) hrd_175 hup_176).1 o (hTo.at 1 rfl).1 5 (hTo.at 1 rfl).2 3 (by decide)).trans hk_170
        have hk_185 : rd f_174 o 4 = .int 0 := ((Fr.put (cs := [(5, 2)]) (a := o) (ci := 5) Fr.rf Ext.rf (hTo.at 1 rfl).2 (by decide) hrd_175 hup_176).1 o (hTo.at 1 rfl).1 5 (hTo.at 1 rfl).2 4 (by decide)).trans hk_171
        exact K_v hx hb hr hlocks hP hD hK hS hT hE ⟨rfl, hF, _, _, _, _, _, _, _, _, hk_177, hk_178, hk_179, hk_180, hk_182, hk_183, hk_184, hk_185, trivial, trivial, fun h9 => (absurd ((hrel_56 (hrel_84 ((hrel_140 (hrel_164 h9)).1))).1) hrel_13), trivial, trivial, trivial, trivial, trivial, hO5, (gte_b hg1 hg2 hg3) ▸ hrq_173, fun h9 => (nlt_of_le (gte_ok h9).2.1.1 (by rw [← hRQ.K]; exact c_4)).elim⟩ (Nat.le_of_ble_eq_true rfl) (Nat.le_of_ble_eq_true rfl) dX2_readTest_115
      · refine lv_iconst (v := 1) hx hb dX2_readTest_77 (by decide) ?_
        refine lv_goto (tgt := 82) hx hb dX2_readTest_78 (by decide) ?_
        have hTo := hT
        refine T_put (ci := 5) (v := .int 1) (ty := .boolean) (t := tI) (C := RX5) (T := TX5) (N := 8) hx hb hts inw_X2_readTest_5 tyX5 tyX5_ok nmX5 hown hK hP hD hS hT 1 rfl rfl 4 (by decide) (hts (.fieldLink RX2 97 "VatHouse$Step" "below" "Z") (List.mem_of_getElem? (i := 4) (by exact rfl))) (fun _ h9 => h9) rfl (tyX5_ok 4 (by decide)) rfl rfl rfl ⟨_, rfl⟩ dX2_readTest_82 (fun f_186 H locs hP hD hS hT hE1 hrd_187 hup_188 => ?_)
        have hO5 := hO5.put hrd_187 (by simp)
        have hF := Fr.put (a := o) (ci := 5) hF hE ((hE1 o (hT.at 1 rfl).1).2.symm.trans (hT.at 1 rfl).2) (by decide) hrd_187 hup_188
        have hE := hE.tr hE1
        have hk_189 : rd f_186 h0 1 = .int ax_74 := ((Fr.put (cs := [(5, 4)]) (a := o) (ci := 5) Fr.rf Ext.rf (hTo.at 1 rfl).2 (by decide) hrd_187 hup_188).1 h0 (hTo.at 0 rfl).1 2 (hTo.at 0 rfl).2 1 (by decide)).trans hk_97
        have hk_190 : rd f_186 h0 2 = .int tn_75 := ((Fr.put (cs := [(5, 4)]) (a := o) (ci := 5) Fr.rf Ext.rf (hTo.at 1 rfl).2 (by decide) hrd_187 hup_188).1 h0 (hTo.at 0 rfl).1 2 (hTo.at 0 rfl).2 2 (by decide)).trans hk_98
        have hk_191 : rd f_186 h0 3 = .int fa_76 := ((Fr.put (cs := [(5, 4)]) (a := o) (ci := 5) Fr.rf Ext.rf (hTo.at 1 rfl).2 (by decide) hrd_187 hup_188).1 h0 (hTo.at 0 rfl).1 2 (hTo.at 0 rfl).2 3 (by decide)).trans hk_99
        have hk_192 : rd f_186 h0 4 = .int pw_77 := ((Fr.put (cs := [(5, 4)]) (a := o) (ci := 5) Fr.rf Ext.rf (hTo.at 1 rfl).2 (by decide) hrd_187 hup_188).1 h0 (hTo.at 0 rfl).1 2 (hTo.at 0 rfl).2 4 (by decide)).trans hk_100
        have hk_193 : rd f_186 tok 3 = .int zz := ((Fr.put (cs := [(5, 4)]) (a := o) (ci := 5) Fr.rf Ext.rf (hTo.at 1 rfl).2 (by decide) hrd_187 hup_188).1 tok (hTo.at 2 rfl).1 6 (hTo.at 2 rfl).2 3 (by decide)).trans hk_101
        have hk_194 : rd f_186 o 1 = .int z_72 := ((Fr.put (cs := [(5, 4)]) (a := o) (ci := 5) Fr.rf Ext.rf (hTo.at 1 rfl).2 (by decide) hrd_187 hup_188).1 o (hTo.at 1 rfl).1 5 (hTo.at 1 rfl).2 1 (by decide)).trans hk_102
        have hk_195 : rd f_186 o 2 = .int nu := ((Fr.put (cs := [(5, 4)]) (a := o) (ci := 5) Fr.rf Ext.rf (hTo.at 1 rfl).2 (by decide) hrd_187 hup_188).1 o (hTo.at 1 rfl).1 5 (hTo.at 1 rfl).2 2 (by decide)).trans hk_103
        have hk_196 : rd f_186 o 3 = .int tn := ((Fr.put (cs := [(5, 4)]) (a := o) (ci := 5) Fr.rf Ext.rf (hTo.at 1 rfl).2 (by decide) hrd_187 hup_188).1 o (hTo.at 1 rfl).1 5 (hTo.at 1 rfl).2 3 (by decide)).trans hk_104
        have hk_197 : rd f_186 o 4 = .int 1 := (hrd_187 o 4).trans (if_pos ⟨rfl, rfl⟩)
        have hg3 : (if Kp tt ln (gnu (Kp tt ln) (Vp tt ln) (nq tt ln) 0 5 (gpa (Kp tt ln) (nq tt ln) (Kp tt ln q.1) (grf 1 q))).1 = 60 then (60 : Int32) else 61) = 60 := if_pos (by rw [← hrq_93.K]; exact c_109)
        have hg4 : (1 : Int32) = if Kp tt ln (gnu (Kp tt ln) (Vp tt ln) (nq tt ln) 0 5 (gpa (Kp tt ln) (nq tt ln) (Kp tt ln q.1) (grf 1 q))).1 = 60 then 1 else 0 := (if_pos (by rw [← hrq_93.K]; exact c_109)).symm
        refine lv_aload_n hx hb dX2_readTest_85 rfl (lv_at hl 0 rfl) ?_
        refine lv_aload_n hx hb dX2_readTest_86 rfl (lv_at hl 1 rfl) ?_
        refine T_get (ci := 5) (C := RX5) (T := TX5) (N := 8) (t := tI) hx hb hts inw_X2_readTest_5 hown hK hP hT 1 rfl rfl 4 (by decide) (hts (.fieldLink RX2 97 "VatHouse$Step" "below" "Z") (List.mem_of_getElem? (i := 4) (by exact rfl))) (fun _ h9 => h9) rfl dX2_readTest_87 (fun v_200 hv_198 hr_199 => ?_)
        obtain rfl : v_200 = .int 1 := hr_199.symm.trans hk_197
        refine lv_if_eq (tgt := 98) hx hb dX2_readTest_90 (by decide) (fun c_201 => ?_) (fun c_201 => ?_)
        · exact absurd c_201 (by decide)
        refine lv_bipush (v := 60) hx hb dX2_readTest_93 (by decide) ?_
        refine lv_goto (tgt := 100) hx hb dX2_readTest_95 (by decide) ?_
        have hTo := hT
        refine K_V ⟨hx, hb, hml, hown, hts⟩ (t_X2_pass l dC dI sa hlt g _ _ tt ln M (gnu (Kp tt ln) (Vp tt ln) (nq tt ln) 0 5 (gpa (Kp tt ln) (nq tt ln) (Kp tt ln q.1) (grf 1 q))) h0 60 tok ka sta vaa ax_74 tn_75 fa_76 pw_77 zz _ (hT.sub [0, 2, 3, 4, 5] rfl)  hk_189 hk_190 hk_191 hk_192 hk_193 ((hF.1 h0 (hT0.at 0 rfl).1 2 (hT0.at 0 rfl).2 0 (by decide)).trans h_tok) ((hF.1 tok (hT0.at 2 rfl).1 6 (hT0.at 2 rfl).2 4 (by decide)).trans h_ka) ((hF.1 tok (hT0.at 2 rfl).1 6 (hT0.at 2 rfl).2 5 (by decide)).trans h_sta) ((hF.1 tok (hT0.at 2 rfl).1 6 (hT0.at 2 rfl).2 6 (by decide)).trans h_vaa) hzz (hTK.go (hF.2 ka (hT0.at 3 rfl).1 0 _ _ (hT0.at 3 rfl).2 (by decide)) (hF.2 sta (hT0.at 4 rfl).1 0 _ _ (hT0.at 4 rfl).2 (by decide)) (hF.2 vaa (hT0.at 5 rfl).1 0 _ _ (hT0.at 5 rfl).2 (by decide))) hrq_93 (Or.inl (by decide))) (cwV 1 hts gX2_readTest_X2_pass rfl rfl rfl (by decide +kernel) ⟨Nat.le_of_ble_eq_true rfl, Nat.le_of_ble_eq_true rfl⟩) hP hD hK hS hA hev hT 0 2 rfl rfl rfl rfl hl.1 rfl (Nat.le_of_ble_eq_true rfl) dX2_readTest_100 ⟨Nat.le_of_ble_eq_true rfl, Nat.le_of_ble_eq_true rfl⟩ (fun r L_202 f_203 H locs hw_204 hP hD hS hT hE1 => ?_)
        have hEo := hE
        have hO5 := hO5.call hE (OF.fr hw_204.2.1 (by decide)) (by simp)
        have hF := Fr.call hF hE hw_204.2.1 (by decide)
        have hE := hE.tr hE1
        obtain ⟨rfl, hw_204⟩ := hw_204
        obtain ⟨hfr_205, ax_206, tn_207, fa_208, pw_209, hk_210, hk_211, hk_212, hk_213, hrel_214, hrel_215, hrel_216, hrel_217, hex_218⟩ := hw_204
        have hk_219 : rd f_203 tok 3 = .int zz := (hfr_205.1 tok (hTo.at 2 rfl).1 6 (hTo.at 2 rfl).2 3 (by decide)).trans hk_193
        have hk_220 : rd f_203 o 1 = .int z_72 := (hfr_205.1 o (hTo.at 1 rfl).1 5 (hTo.at 1 rfl).2 1 (by decide)).trans hk_194
        have hk_221 : rd f_203 o 2 = .int nu := (hfr_205.1 o (hTo.at 1 rfl).1 5 (hTo.at 1 rfl).2 2 (by decide)).trans hk_195
        have hk_222 : rd f_203 o 3 = .int tn := (hfr_205.1 o (hTo.at 1 rfl).1 5 (hTo.at 1 rfl).2 3 (by decide)).trans hk_196
        have hk_223 : rd f_203 o 4 = .int 1 := (hfr_205.1 o (hTo.at 1 rfl).1 5 (hTo.at 1 rfl).2 4 (by decide)).trans hk_197
        have hrq_224 := hex_218
        refine W.eq (g2 := F0 m 103 ls []) rfl ?_
        refine lv_aload_n hx hb dX2_readTest_103 rfl (lv_at hl 1 rfl) ?_
        refine lv_aload_n hx hb dX2_readTest_104 rfl (lv_at hl 0 rfl) ?_
        refine lv_iconst (v := 0) hx hb dX2_readTest_105 (by decide) ?_
        refine lv_sipush (v := 9999) hx hb dX2_readTest_106 (by decide) ?_
        have hTo := hT
        refine K_V ⟨hx, hb, hml, hown, hts⟩ (t_X2_readNumber l dC dI sa hlt g _ _ tt ln M (gpa (Kp tt ln) (nq tt ln) 60 (gnu (Kp tt ln) (Vp tt ln) (nq tt ln) 0 5 (gpa (Kp tt ln) (nq tt ln) (Kp tt ln q.1) (grf 1 q)))) h0 0 9999 tok ka sta vaa ax_206 tn_207 fa_208 pw_209 zz _ (hT.sub [0, 2, 3, 4, 5] rfl)  hk_210 hk_211 hk_212 hk_213 hk_219 ((hF.1 h0 (hT0.at 0 rfl).1 2 (hT0.at 0 rfl).2 0 (by decide)).trans h_tok) ((hF.1 tok (hT0.at 2 rfl).1 6 (hT0.at 2 rfl).2 4 (by decide)).trans h_ka) ((hF.1 tok (hT0.at 2 rfl).1 6 (hT0.at 2 rfl).2 5 (by decide)).trans h_sta) ((hF.1 tok (hT0.at 2 rfl).1 6 (hT0.at 2 rfl).2 6 (by decide)).trans h_vaa) hzz (hTK.go (hF.2 ka (hT0.at 3 rfl).1 0 _ _ (hT0.at 3 rfl).2 (by decide)) (hF.2 sta (hT0.at 4 rfl).1 0 _ _ (hT0.at 4 rfl).2 (by decide)) (hF.2 vaa (hT0.at 5 rfl).1 0 _ _ (hT0.at 5 rfl).2 (by decide))) hrq_224) (cwV 2 hts gX2_readTest_X2_readNumber rfl rfl rfl (by decide +kernel) ⟨Nat.le_of_ble_eq_true rfl, Nat.le_of_ble_eq_true rfl⟩) hP hD hK hS hA hev hT 0 2 rfl rfl rfl rfl hl.1 rfl (Nat.le_of_ble_eq_true rfl) dX2_readTest_109 ⟨Nat.le_of_ble_eq_true rfl, Nat.le_of_ble_eq_true rfl⟩ (fun r L_225 f_226 H locs hw_227 hP hD hS hT hE1 => ?_)
        have hEo := hE
        have hO5 := hO5.call hE (OF.fr hw_227.2.1 (by decide)) (by simp)
        have hF := Fr.call hF hE hw_227.2.1 (by decide)
        have hE := hE.tr hE1
        obtain ⟨⟨z_228, rfl⟩, hw_227⟩ := hw_227
        obtain ⟨hfr_229, ax_230, tn_231, fa_232, pw_233, hk_234, hk_235, hk_236, hk_237, hrel_238, hrel_239, hrel_240, hrel_241, hex_242⟩ := hw_227
        have hk_243 : rd f_226 tok 3 = .int zz := (hfr_229.1 tok (hTo.at 2 rfl).1 6 (hTo.at 2 rfl).2 3 (by decide)).trans hk_219
        have hk_244 : rd f_226 o 1 = .int z_72 := (hfr_229.1 o (hTo.at 1 rfl).1 5 (hTo.at 1 rfl).2 1 (by decide)).trans hk_220
        have hk_245 : rd f_226 o 2 = .int nu := (hfr_229.1 o (hTo.at 1 rfl).1 5 (hTo.at 1 rfl).2 2 (by decide)).trans hk_221
        have hk_246 : rd f_226 o 3 = .int tn := (hfr_229.1 o (hTo.at 1 rfl).1 5 (hTo.at 1 rfl).2 3 (by decide)).trans hk_222
        have hk_247 : rd f_226 o 4 = .int 1 := (hfr_229.1 o (hTo.at 1 rfl).1 5 (hTo.at 1 rfl).2 4 (by decide)).trans hk_223
        have hzv_248 : z_228 = Vp tt ln (gpa (Kp tt ln) (nq tt ln) 60 (gnu (Kp tt ln) (Vp tt ln) (nq tt ln) 0 5 (gpa (Kp tt ln) (nq tt ln) (Kp tt ln q.1) (grf 1 q)))).1 := sv hex_242.1
        have hrq_249 := hex_242.2
        refine W.eq (g2 := F0 m 112 ls [.int z_228, .ref o]) rfl ?_
        have hTo := hT
        refine T_put (ci := 5) (v := .int z_228) (ty := .int) (t := tI) (C := RX5) (T := TX5) (N := 8) hx hb hts inw_X2_readTest_5 tyX5 tyX5_ok nmX5 hown hK hP hD hS hT 1 rfl rfl 2 (by decide) (hts (.fieldLink RX2 79 "VatHouse$Step" "number" "I") (List.mem_of_getElem? (i := 5) (by exact rfl))) (fun _ h9 => h9) rfl (tyX5_ok 2 (by decide)) rfl rfl rfl ⟨_, rfl⟩ dX2_readTest_112 (fun f_250 H locs hP hD hS hT hE1 hrd_251 hup_252 => ?_)
        have hO5 := hO5.put hrd_251 (by simp)
        have hF := Fr.put (a := o) (ci := 5) hF hE ((hE1 o (hT.at 1 rfl).1).2.symm.trans (hT.at 1 rfl).2) (by decide) hrd_251 hup_252
        have hE := hE.tr hE1
        have hk_253 : rd f_250 h0 1 = .int ax_230 := ((Fr.put (cs := [(5, 2)]) (a := o) (ci := 5) Fr.rf Ext.rf (hTo.at 1 rfl).2 (by decide) hrd_251 hup_252).1 h0 (hTo.at 0 rfl).1 2 (hTo.at 0 rfl).2 1 (by decide)).trans hk_234
        have hk_254 : rd f_250 h0 2 = .int tn_231 := ((Fr.put (cs := [(5, 2)]) (a := o) (ci := 5) Fr.rf Ext.rf (hTo.at 1 rfl).2 (by decide) hrd_251 hup_252).1 h0 (hTo.at 0 rfl).1 2 (hTo.at 0 rfl).2 2 (by decide)).trans hk_235
        have hk_255 : rd f_250 h0 3 = .int fa_232 := ((Fr.put (cs := [(5, 2)]) (a := o) (ci := 5) Fr.rf Ext.rf (hTo.at 1 rfl).2 (by decide) hrd_251 hup_252).1 h0 (hTo.at 0 rfl).1 2 (hTo.at 0 rfl).2 3 (by decide)).trans hk_236
        have hk_256 : rd f_250 h0 4 = .int pw_233 := ((Fr.put (cs := [(5, 2)]) (a := o) (ci := 5) Fr.rf Ext.rf (hTo.at 1 rfl).2 (by decide) hrd_251 hup_252).1 h0 (hTo.at 0 rfl).1 2 (hTo.at 0 rfl).2 4 (by decide)).trans hk_237
        have hk_257 : rd f_250 tok 3 = .int zz := ((Fr.put (cs := [(5, 2)]) (a := o) (ci := 5) Fr.rf Ext.rf (hTo.at 1 rfl).2 (by decide) hrd_251 hup_252).1 tok (hTo.at 2 rfl).1 6 (hTo.at 2 rfl).2 3 (by decide)).trans hk_243
        have hk_258 : rd f_250 o 1 = .int z_72 := ((Fr.put (cs := [(5, 2)]) (a := o) (ci := 5) Fr.rf Ext.rf (hTo.at 1 rfl).2 (by decide) hrd_251 hup_252).1 o (hTo.at 1 rfl).1 5 (hTo.at 1 rfl).2 1 (by decide)).trans hk_244
        have hk_259 : rd f_250 o 2 = .int z_228 := (hrd_251 o 2).trans (if_pos ⟨rfl, rfl⟩)
        have hk_260 : rd f_250 o 3 = .int tn := ((Fr.put (cs := [(5, 2)]) (a := o) (ci := 5) Fr.rf Ext.rf (hTo.at 1 rfl).2 (by decide) hrd_251 hup_252).1 o (hTo.at 1 rfl).1 5 (hTo.at 1 rfl).2 3 (by decide)).trans hk_246
        have hk_261 : rd f_250 o 4 = .int 1 := ((Fr.put (cs := [(5, 2)]) (a := o) (ci := 5) Fr.rf Ext.rf (hTo.at 1 rfl).2 (by decide) hrd_251 hup_252).1 o (hTo.at 1 rfl).1 5 (hTo.at 1 rfl).2 4 (by decide)).trans hk_247
        exact K_v hx hb hr hlocks hP hD hK hS hT hE ⟨rfl, hF, _, _, _, _, _, _, _, _, hk_253, hk_254, hk_255, hk_256, hk_258, hk_259, hk_260, hk_261, trivial, trivial, fun h9 => (absurd ((hrel_56 (hrel_84 ((hrel_216 (hrel_240 h9)).1))).1) hrel_13), trivial, trivial, trivial, trivial, trivial, hO5, (gte_b hg1 hg2 hg3) ▸ hrq_249, fun h9 => (nlt_of_le (gte_ok h9).2.1.1 (by rw [← hRQ.K]; exact c_4)).elim⟩ (Nat.le_of_ble_eq_true rfl) (Nat.le_of_ble_eq_true rfl) dX2_readTest_115
    · refine lv_aload_n hx hb dX2_readTest_48 rfl (lv_at hl 1 rfl) ?_
      refine T_get (ci := 5) (C := RX5) (T := TX5) (N := 8) (t := tI) hx hb hts inw_X2_readTest_5 hown hK hP hT 1 rfl rfl 3 (by decide) (hts (.fieldLink RX2 94 "VatHouse$Step" "look" "I") (List.mem_of_getElem? (i := 2) (by exact rfl))) (fun _ h9 => h9) rfl dX2_readTest_49 (fun v_264 hv_262 hr_263 => ?_)
      obtain rfl : v_264 = .int tn := hr_263.symm.trans hk_62
      refine lv_bipush (v := 18) hx hb dX2_readTest_52 (by decide) ?_
      refine lv_icmp_ne (tgt := 67) hx hb dX2_readTest_54 (by decide) (fun c_265 => ?_) (fun c_265 => ?_)
      · have hg2 : gte2 (Kp tt ln) (Vp tt ln) (nq tt ln) (Kp tt ln q.1) (gpa (Kp tt ln) (nq tt ln) (Kp tt ln q.1) (grf 1 q)) = (gpa (Kp tt ln) (nq tt ln) (Kp tt ln q.1) (grf 1 q)) := if_neg (by rw [← hRQ.K]; rintro (h9 | h9); exact c_68 h9; exact c_265 h9)
        refine lv_aload_n hx hb dX2_readTest_67 rfl (lv_at hl 1 rfl) ?_
        refine lv_aload_n hx hb dX2_readTest_68 rfl (lv_at hl 0 rfl) ?_
        refine T_get (ci := 2) (C := RX2) (T := TX2) (N := 6) (t := tI) hx hb hts inw_X2_readTest_2 hown hK hP hT 0 rfl rfl 2 (by decide) (hts (.fieldLink RX2 44 "VatHouse$Reader" "token" "I") (List.mem_of_getElem? (i := 1) (by exact rfl))) (fun _ h9 => h9) rfl dX2_readTest_69 (fun v_268 hv_266 hr_267 => ?_)
        obtain rfl : v_268 = .int tn_47 := hr_267.symm.trans hk_51
        refine lv_bipush (v := 60) hx hb dX2_readTest_72 (by decide) ?_
        refine lv_icmp_ne (tgt := 81) hx hb dX2_readTest_74 (by decide) (fun c_269 => ?_) (fun c_269 => ?_)
        · refine lv_iconst (v := 0) hx hb dX2_readTest_81 (by decide) ?_
          have hTo := hT
          refine T_put (ci := 5) (v := .int 0) (ty := .boolean) (t := tI) (C := RX5) (T := TX5) (N := 8) hx hb hts inw_X2_readTest_5 tyX5 tyX5_ok nmX5 hown hK hP hD hS hT 1 rfl rfl 4 (by decide) (hts (.fieldLink RX2 97 "VatHouse$Step" "below" "Z") (List.mem_of_getElem? (i := 4) (by exact rfl))) (fun _ h9 => h9) rfl (tyX5_ok 4 (by decide)) rfl rfl rfl ⟨_, rfl⟩ dX2_readTest_82 (fun f_270 H locs hP hD hS hT hE1 hrd_271 hup_272 => ?_)
          have hO5 := hO5.put hrd_271 (by simp)
          have hF := Fr.put (a := o) (ci := 5) hF hE ((hE1 o (hT.at 1 rfl).1).2.symm.trans (hT.at 1 rfl).2) (by decide) hrd_271 hup_272
          have hE := hE.tr hE1
          have hk_273 : rd f_270 h0 1 = .int ax_46 := ((Fr.put (cs := [(5, 4)]) (a := o) (ci := 5) Fr.rf Ext.rf (hTo.at 1 rfl).2 (by decide) hrd_271 hup_272).1 h0 (hTo.at 0 rfl).1 2 (hTo.at 0 rfl).2 1 (by decide)).trans hk_50
          have hk_274 : rd f_270 h0 2 = .int tn_47 := ((Fr.put (cs := [(5, 4)]) (a := o) (ci := 5) Fr.rf Ext.rf (hTo.at 1 rfl).2 (by decide) hrd_271 hup_272).1 h0 (hTo.at 0 rfl).1 2 (hTo.at 0 rfl).2 2 (by decide)).trans hk_51
          have hk_275 : rd f_270 h0 3 = .int fa_48 := ((Fr.put (cs := [(5, 4)]) (a := o) (ci := 5) Fr.rf Ext.rf (hTo.at 1 rfl).2 (by decide) hrd_271 hup_272).1 h0 (hTo.at 0 rfl).1 2 (hTo.at 0 rfl).2 3 (by decide)).trans hk_52
          have hk_276 : rd f_270 h0 4 = .int pw_49 := ((Fr.put (cs := [(5, 4)]) (a := o) (ci := 5) Fr.rf Ext.rf (hTo.at 1 rfl).2 (by decide) hrd_271 hup_272).1 h0 (hTo.at 0 rfl).1 2 (hTo.at 0 rfl).2 4 (by decide)).trans hk_53
          have hk_277 : rd f_270 tok 3 = .int zz := ((Fr.put (cs := [(5, 4)]) (a := o) (ci := 5) Fr.rf Ext.rf (hTo.at 1 rfl).2 (by decide) hrd_271 hup_272).1 tok (hTo.at 2 rfl).1 6 (hTo.at 2 rfl).2 3 (by decide)).trans hk_59
          have hk_278 : rd f_270 o 1 = .int vt := ((Fr.put (cs := [(5, 4)]) (a := o) (ci := 5) Fr.rf Ext.rf (hTo.at 1 rfl).2 (by decide) hrd_271 hup_272).1 o (hTo.at 1 rfl).1 5 (hTo.at 1 rfl).2 1 (by decide)).trans hk_60
          have hk_279 : rd f_270 o 2 = .int nu := ((Fr.put (cs := [(5, 4)]) (a := o) (ci := 5) Fr.rf Ext.rf (hTo.at 1 rfl).2 (by decide) hrd_271 hup_272).1 o (hTo.at 1 rfl).1 5 (hTo.at 1 rfl).2 2 (by decide)).trans hk_61
          have hk_280 : rd f_270 o 3 = .int tn := ((Fr.put (cs := [(5, 4)]) (a := o) (ci := 5) Fr.rf Ext.rf (hTo.at 1 rfl).2 (by decide) hrd_271 hup_272).1 o (hTo.at 1 rfl).1 5 (hTo.at 1 rfl).2 3 (by decide)).trans hk_62
          have hk_281 : rd f_270 o 4 = .int 0 := (hrd_271 o 4).trans (if_pos ⟨rfl, rfl⟩)
          have hg3 : (if Kp tt ln (gpa (Kp tt ln) (nq tt ln) (Kp tt ln q.1) (grf 1 q)).1 = 60 then (60 : Int32) else 61) = 61 := if_neg (by rw [← hrq_64.K]; exact c_269)
          have hg4 : (0 : Int32) = if Kp tt ln (gpa (Kp tt ln) (nq tt ln) (Kp tt ln q.1) (grf 1 q)).1 = 60 then 1 else 0 := (if_neg (by rw [← hrq_64.K]; exact c_269)).symm
          refine lv_aload_n hx hb dX2_readTest_85 rfl (lv_at hl 0 rfl) ?_
          refine lv_aload_n hx hb dX2_readTest_86 rfl (lv_at hl 1 rfl) ?_
          refine T_get (ci := 5) (C := RX5) (T := TX5) (N := 8) (t := tI) hx hb hts inw_X2_readTest_5 hown hK hP hT 1 rfl rfl 4 (by decide) (hts (.fieldLink RX2 97 "VatHouse$Step" "below" "Z") (List.mem_of_getElem? (i := 4) (by exact rfl))) (fun _ h9 => h9) rfl dX2_readTest_87 (fun v_284 hv_282 hr_283 => ?_)
          obtain rfl : v_284 = .int 0 := hr_283.symm.trans hk_281
          refine lv_if_eq (tgt := 98) hx hb dX2_readTest_90 (by decide) (fun c_285 => ?_) (fun c_285 => ?_)
          rotate_left
          · exact absurd c_285 (by decide)
          refine lv_bipush (v := 61) hx hb dX2_readTest_98 (by decide) ?_
          have hTo := hT
          refine K_V ⟨hx, hb, hml, hown, hts⟩ (t_X2_pass l dC dI sa hlt g _ _ tt ln M (gpa (Kp tt ln) (nq tt ln) (Kp tt ln q.1) (grf 1 q)) h0 61 tok ka sta vaa ax_46 tn_47 fa_48 pw_49 zz _ (hT.sub [0, 2, 3, 4, 5] rfl)  hk_273 hk_274 hk_275 hk_276 hk_277 ((hF.1 h0 (hT0.at 0 rfl).1 2 (hT0.at 0 rfl).2 0 (by decide)).trans h_tok) ((hF.1 tok (hT0.at 2 rfl).1 6 (hT0.at 2 rfl).2 4 (by decide)).trans h_ka) ((hF.1 tok (hT0.at 2 rfl).1 6 (hT0.at 2 rfl).2 5 (by decide)).trans h_sta) ((hF.1 tok (hT0.at 2 rfl).1 6 (hT0.at 2 rfl).2 6 (by decide)).trans h_vaa) hzz (hTK.go (hF.2 ka (hT0.at 3 rfl).1 0 _ _ (hT0.at 3 rfl).2 (by decide)) (hF.2 sta (hT0.at 4 rfl).1 0 _ _ (hT0.at 4 rfl).2 (by decide)) (hF.2 vaa (hT0.at 5 rfl).1 0 _ _ (hT0.at 5 rfl).2 (by decide))) hrq_64 (Or.inl (by decide))) (cwV 1 hts gX2_readTest_X2_pass rfl rfl rfl (by decide +kernel) ⟨Nat.le_of_ble_eq_true rfl, Nat.le_of_ble_eq_true rfl⟩) hP hD hK hS hA hev hT 0 2 rfl rfl rfl rfl hl.1 rfl (Nat.le_of_ble_eq_true rfl) dX2_readTest_100 ⟨Nat.le_of_ble_eq_true rfl, Nat.le_of_ble_eq_true rfl⟩ (fun r L_286 f_287 H locs hw_288 hP hD hS hT hE1 => ?_)
          have hEo := hE
          have hO5 := hO5.call hE (OF.fr hw_288.2.1 (by decide)) (by simp)
          have hF := Fr.call hF hE hw_288.2.1 (by decide)
          have hE := hE.tr hE1
          obtain ⟨rfl, hw_288⟩ := hw_288
          obtain ⟨hfr_289, ax_290, tn_291, fa_292, pw_293, hk_294, hk_295, hk_296, hk_297, hrel_298, hrel_299, hrel_300, hrel_301, hex_302⟩ := hw_288
          have hk_303 : rd f_287 tok 3 = .int zz := (hfr_289.1 tok (hTo.at 2 rfl).1 6 (hTo.at 2 rfl).2 3 (by decide)).trans hk_277
          have hk_304 : rd f_287 o 1 = .int vt := (hfr_289.1 o (hTo.at 1 rfl).1 5 (hTo.at 1 rfl).2 1 (by decide)).trans hk_278
          have hk_305 : rd f_287 o 2 = .int nu := (hfr_289.1 o (hTo.at 1 rfl).1 5 (hTo.at 1 rfl).2 2 (by decide)).trans hk_279
          have hk_306 : rd f_287 o 3 = .int tn := (hfr_289.1 o (hTo.at 1 rfl).1 5 (hTo.at 1 rfl).2 3 (by decide)).trans hk_280
          have hk_307 : rd f_287 o 4 = .int 0 := (hfr_289.1 o (hTo.at 1 rfl).1 5 (hTo.at 1 rfl).2 4 (by decide)).trans hk_281
          have hrq_308 := hex_302
          refine W.eq (g2 := F0 m 103 ls []) rfl ?_
          refine lv_aload_n hx hb dX2_readTest_103 rfl (lv_at hl 1 rfl) ?_
          refine lv_aload_n hx hb dX2_readTest_104 rfl (lv_at hl 0 rfl) ?_
          refine lv_iconst (v := 0) hx hb dX2_readTest_105 (by decide) ?_
          refine lv_sipush (v := 9999) hx hb dX2_readTest_106 (by decide) ?_
          have hTo := hT
          refine K_V ⟨hx, hb, hml, hown, hts⟩ (t_X2_readNumber l dC dI sa hlt g _ _ tt ln M (gpa (Kp tt ln) (nq tt ln) 61 (gpa (Kp tt ln) (nq tt ln) (Kp tt ln q.1) (grf 1 q))) h0 0 9999 tok ka sta vaa ax_290 tn_291 fa_292 pw_293 zz _ (hT.sub [0, 2, 3, 4, 5] rfl)  hk_294 hk_295 hk_296 hk_297 hk_303 ((hF.1 h0 (hT0.at 0 rfl).1 2 (hT0.at 0 rfl).2 0 (by decide)).trans h_tok) ((hF.1 tok (hT0.at 2 rfl).1 6 (hT0.at 2 rfl).2 4 (by decide)).trans h_ka) ((hF.1 tok (hT0.at 2 rfl).1 6 (hT0.at 2 rfl).2 5 (by decide)).trans h_sta) ((hF.1 tok (hT0.at 2 rfl).1 6 (hT0.at 2 rfl).2 6 (by decide)).trans h_vaa) hzz (hTK.go (hF.2 ka (hT0.at 3 rfl).1 0 _ _ (hT0.at 3 rfl).2 (by decide)) (hF.2 sta (hT0.at 4 rfl).1 0 _ _ (hT0.at 4 rfl).2 (by decide)) (hF.2 vaa (hT0.at 5 rfl).1 0 _ _ (hT0.at 5 rfl).2 (by decide))) hrq_308) (cwV 2 hts gX2_readTest_X2_readNumber rfl rfl rfl (by decide +kernel) ⟨Nat.le_of_ble_eq_true rfl, Nat.le_of_ble_eq_true rfl⟩) hP hD hK hS hA hev hT 0 2 rfl rfl rfl rfl hl.1 rfl (Nat.le_of_ble_eq_true rfl) dX2_readTest_109 ⟨Nat.le_of_ble_eq_true rfl, Nat.le_of_ble_eq_true rfl⟩ (fun r L_309 f_310 H locs hw_311 hP hD hS hT hE1 => ?_)
          have hEo := hE
          have hO5 := hO5.call hE (OF.fr hw_311.2.1 (by decide)) (by simp)
          have hF := Fr.call hF hE hw_311.2.1 (by decide)
          have hE := hE.tr hE1
          obtain ⟨⟨z_312, rfl⟩, hw_311⟩ := hw_311
          obtain ⟨hfr_313, ax_314, tn_315, fa_316, pw_317, hk_318, hk_319, hk_320, hk_321, hrel_322, hrel_323, hrel_324, hrel_325, hex_326⟩ := hw_311
          have hk_327 : rd f_310 tok 3 = .int zz := (hfr_313.1 tok (hTo.at 2 rfl).1 6 (hTo.at 2 rfl).2 3 (by decide)).trans hk_303
          have hk_328 : rd f_310 o 1 = .int vt := (hfr_313.1 o (hTo.at 1 rfl).1 5 (hTo.at 1 rfl).2 1 (by decide)).trans hk_304
          have hk_329 : rd f_310 o 2 = .int nu := (hfr_313.1 o (hTo.at 1 rfl).1 5 (hTo.at 1 rfl).2 2 (by decide)).trans hk_305
          have hk_330 : rd f_310 o 3 = .int tn := (hfr_313.1 o (hTo.at 1 rfl).1 5 (hTo.at 1 rfl).2 3 (by decide)).trans hk_306
          have hk_331 : rd f_310 o 4 = .int 0 := (hfr_313.1 o (hTo.at 1 rfl).1 5 (hTo.at 1 rfl).2 4 (by decide)).trans hk_307
          have hzv_332 : z_312 = Vp tt ln (gpa (Kp tt ln) (nq tt ln) 61 (gpa (Kp tt ln) (nq tt ln) (Kp tt ln q.1) (grf 1 q))).1 := sv hex_326.1
          have hrq_333 := hex_326.2
          refine W.eq (g2 := F0 m 112 ls [.int z_312, .ref o]) rfl ?_
          have hTo := hT
          refine T_put (ci := 5) (v := .int z_312) (ty := .int) (t := tI) (C := RX5) (T := TX5) (N := 8) hx hb hts inw_X2_readTest_5 tyX5 tyX5_ok nmX5 hown hK hP hD hS hT 1 rfl rfl 2 (by decide) (hts (.fieldLink RX2 79 "VatHouse$Step" "number" "I") (List.mem_of_getElem? (i := 5) (by exact rfl))) (fun _ h9 => h9) rfl (tyX5_ok 2 (by decide)) rfl rfl rfl ⟨_, rfl⟩ dX2_readTest_112 (fun f_334 H locs hP hD hS hT hE1 hrd_335 hup_336 => ?_)
          have hO5 := hO5.put hrd_335 (by simp)
          have hF := Fr.put (a := o) (ci := 5) hF hE ((hE1 o (hT.at 1 rfl).1).2.symm.trans (hT.at 1 rfl).2) (by decide) hrd_335 hup_336
          have hE := hE.tr hE1
          have hk_337 : rd f_334 h0 1 = .int ax_314 := ((Fr.put (cs := [(5, 2)]) (a := o) (ci := 5) Fr.rf Ext.rf (hTo.at 1 rfl).2 (by decide) hrd_335 hup_336).1 h0 (hTo.at 0 rfl).1 2 (hTo.at 0 rfl).2 1 (by decide)).trans hk_318
          have hk_338 : rd f_334 h0 2 = .int tn_315 := ((Fr.put (cs := [(5, 2)]) (a := o) (ci := 5) Fr.rf Ext.rf (hTo.at 1 rfl).2 (by decide) hrd_335 hup_336).1 h0 (hTo.at 0 rfl).1 2 (hTo.at 0 rfl).2 2 (by decide)).trans hk_319
          have hk_339 : rd f_334 h0 3 = .int fa_316 := ((Fr.put (cs := [(5, 2)]) (a := o) (ci := 5) Fr.rf Ext.rf (hTo.at 1 rfl).2 (by decide) hrd_335 hup_336).1 h0 (hTo.at 0 rfl).1 2 (hTo.at 0 rfl).2 3 (by decide)).trans hk_320
          have hk_340 : rd f_334 h0 4 = .int pw_317 := ((Fr.put (cs := [(5, 2)]) (a := o) (ci := 5) Fr.rf Ext.rf (hTo.at 1 rfl).2 (by decide) hrd_335 hup_336).1 h0 (hTo.at 0 rfl).1 2 (hTo.at 0 rfl).2 4 (by decide)).trans hk_321
          have hk_341 : rd f_334 tok 3 = .int zz := ((Fr.put (cs := [(5, 2)]) (a := o) (ci := 5) Fr.rf Ext.rf (hTo.at 1 rfl).2 (by decide) hrd_335 hup_336).1 tok (hTo.at 2 rfl).1 6 (hTo.at 2 rfl).2 3 (by decide)).trans hk_327
          have hk_342 : rd f_334 o 1 = .int vt := ((Fr.put (cs := [(5, 2)]) (a := o) (ci := 5) Fr.rf Ext.rf (hTo.at 1 rfl).2 (by decide) hrd_335 hup_336).1 o (hTo.at 1 rfl).1 5 (hTo.at 1 rfl).2 1 (by decide)).trans hk_328
          have hk_343 : rd f_334 o 2 = .int z_312 := (hrd_335 o 2).trans (if_pos ⟨rfl, rfl⟩)
          have hk_344 : rd f_334 o 3 = .int tn := ((Fr.put (cs := [(5, 2)]) (a := o) (ci := 5) Fr.rf Ext.rf (hTo.at 1 rfl).2 (by decide) hrd_335 hup_336).1 o (hTo.at 1 rfl).1 5 (hTo.at 1 rfl).2 3 (by decide)).trans hk_330
          have hk_345 : rd f_334 o 4 = .int 0 := ((Fr.put (cs := [(5, 2)]) (a := o) (ci := 5) Fr.rf Ext.rf (hTo.at 1 rfl).2 (by decide) hrd_335 hup_336).1 o (hTo.at 1 rfl).1 5 (hTo.at 1 rfl).2 4 (by decide)).trans hk_331
          exact K_v hx hb hr hlocks hP hD hK hS hT hE ⟨rfl, hF, _, _, _, _, _, _, _, _, hk_337, hk_338, hk_339, hk_340, hk_342, hk_343, hk_344, hk_345, trivial, trivial, fun h9 => (absurd ((hrel_56 ((hrel_300 (hrel_324 h9)).1)).1) hrel_13), trivial, trivial, trivial, trivial, trivial, hO5, (gte_b hg1 hg2 hg3) ▸ hrq_333, fun h9 => (nlt_of_le (gte_ok h9).2.1.1 (by rw [← hRQ.K]; exact c_4)).elim⟩ (Nat.le_of_ble_eq_true rfl) (Nat.le_of_ble_eq_true rfl) dX2_readTest_115
        · refine lv_iconst (v := 1) hx hb dX2_readTest_77 (by decide) ?_
          refine lv_goto (tgt := 82) hx hb dX2_readTest_78 (by decide) ?_
          have hTo := hT
          refine T_put (ci := 5) (v := .int 1) (ty := .boolean) (t := tI) (C := RX5) (T := TX5) (N := 8) hx hb hts inw_X2_readTest_5 tyX5 tyX5_ok nmX5 hown hK hP hD hS hT 1 rfl rfl 4 (by decide) (hts (.fieldLink RX2 97 "VatHouse$Step" "below" "Z") (List.mem_of_getElem? (i := 4) (by exact rfl))) (fun _ h9 => h9) rfl (tyX5_ok 4 (by decide)) rfl rfl rfl ⟨_, rfl⟩ dX2_readTest_82 (fun f_346 H locs hP hD hS hT hE1 hrd_347 hup_348 => ?_)
          have hO5 := hO5.put hrd_347 (by simp)
          have hF := Fr.put (a := o) (ci := 5) hF hE ((hE1 o (hT.at 1 rfl).1).2.symm.trans (hT.at 1 rfl).2) (by decide) hrd_347 hup_348
          have hE := hE.tr hE1
          have hk_349 : rd f_346 h0 1 = .int ax_46 := ((Fr.put (cs := [(5, 4)]) (a := o) (ci := 5) Fr.rf Ext.rf (hTo.at 1 rfl).2 (by decide) hrd_347 hup_348).1 h0 (hTo.at 0 rfl).1 2 (hTo.at 0 rfl).2 1 (by decide)).trans hk_50
          have hk_350 : rd f_346 h0 2 = .int tn_47 := ((Fr.put (cs := [(5, 4)]) (a := o) (ci := 5) Fr.rf Ext.rf (hTo.at 1 rfl).2 (by decide) hrd_347 hup_348).1 h0 (hTo.at 0 rfl).1 2 (hTo.at 0 rfl).2 2 (by decide)).trans hk_51
          have hk_351 : rd f_346 h0 3 = .int fa_48 := ((Fr.put (cs := [(5, 4)]) (a := o) (ci := 5) Fr.rf Ext.rf (hTo.at 1 rfl).2 (by decide) hrd_347 hup_348).1 h0 (hTo.at 0 rfl).1 2 (hTo.at 0 rfl).2 3 (by decide)).trans hk_52
          have hk_352 : rd f_346 h0 4 = .int pw_49 := ((Fr.put (cs := [(5, 4)]) (a := o) (ci := 5) Fr.rf Ext.rf (hTo.at 1 rfl).2 (by decide) hrd_347 hup_348).1 h0 (hTo.at 0 rfl).1 2 (hTo.at 0 rfl).2 4 (by decide)).trans hk_53
          have hk_353 : rd f_346 tok 3 = .int zz := ((Fr.put (cs := [(5, 4)]) (a := o) (ci := 5) Fr.rf Ext.rf (hTo.at 1 rfl).2 (by decide) hrd_347 hup_348).1 tok (hTo.at 2 rfl).1 6 (hTo.at 2 rfl).2 3 (by decide)).trans hk_59
          have hk_354 : rd f_346 o 1 = .int vt := ((Fr.put (cs := [(5, 4)]) (a := o) (ci := 5) Fr.rf Ext.rf (hTo.at 1 rfl).2 (by decide) hrd_347 hup_348).1 o (hTo.at 1 rfl).1 5 (hTo.at 1 rfl).2 1 (by decide)).trans hk_60
          have hk_355 : rd f_346 o 2 = .int nu := ((Fr.put (cs := [(5, 4)]) (a := o) (ci := 5) Fr.rf Ext.rf (hTo.at 1 rfl).2 (by decide) hrd_347 hup_348).1 o (hTo.at 1 rfl).1 5 (hTo.at 1 rfl).2 2 (by decide)).trans hk_61
          have hk_356 : rd f_346 o 3 = .int tn := ((Fr.put (cs := [(5, 4)]) (a := o) (ci := 5) Fr.rf Ext.rf (hTo.at 1 rfl).2 (by decide) hrd_347 hup_348).1 o (hTo.at 1 rfl).1 5 (hTo.at 1 rfl).2 3 (by decide)).trans hk_62
          have hk_357 : rd f_346 o 4 = .int 1 := (hrd_347 o 4).trans (if_pos ⟨rfl, rfl⟩)
          have hg3 : (if Kp tt ln (gpa (Kp tt ln) (nq tt ln) (Kp tt ln q.1) (grf 1 q)).1 = 60 then (60 : Int32) else 61) = 60 := if_pos (by rw [← hrq_64.K]; exact c_269)
          have hg4 : (1 : Int32) = if Kp tt ln (gpa (Kp tt ln) (nq tt ln) (Kp tt ln q.1) (grf 1 q)).1 = 60 then 1 else 0 := (if_pos (by rw [← hrq_64.K]; exact c_269)).symm
          refine lv_aload_n hx hb dX2_readTest_85 rfl (lv_at hl 0 rfl) ?_
          refine lv_aload_n hx hb dX2_readTest_86 rfl (lv_at hl 1 rfl) ?_
          refine T_get (ci := 5) (C := RX5) (T := TX5) (N := 8) (t := tI) hx hb hts inw_X2_readTest_5 hown hK hP hT 1 rfl rfl 4 (by decide) (hts (.fieldLink RX2 97 "VatHouse$Step" "below" "Z") (List.mem_of_getElem? (i := 4) (by exact rfl))) (fun _ h9 => h9) rfl dX2_readTest_87 (fun v_360 hv_358 hr_359 => ?_)
          obtain rfl : v_360 = .int 1 := hr_359.symm.trans hk_357
          refine lv_if_eq (tgt := 98) hx hb dX2_readTest_90 (by decide) (fun c_361 => ?_) (fun c_361 => ?_)
          · exact absurd c_361 (by decide)
          refine lv_bipush (v := 60) hx hb dX2_readTest_93 (by decide) ?_
          refine lv_goto (tgt := 100) hx hb dX2_readTest_95 (by decide) ?_
          have hTo := hT
          refine K_V ⟨hx, hb, hml, hown, hts⟩ (t_X2_pass l dC dI sa hlt g _ _ tt ln M (gpa (Kp tt ln) (nq tt ln) (Kp tt ln q.1) (grf 1 q)) h0 60 tok ka sta vaa ax_46 tn_47 fa_48 pw_49 zz _ (hT.sub [0, 2, 3, 4, 5] rfl)  hk_349 hk_350 hk_351 hk_352 hk_353 ((hF.1 h0 (hT0.at 0 rfl).1 2 (hT0.at 0 rfl).2 0 (by decide)).trans h_tok) ((hF.1 tok (hT0.at 2 rfl).1 6 (hT0.at 2 rfl).2 4 (by decide)).trans h_ka) ((hF.1 tok (hT0.at 2 rfl).1 6 (hT0.at 2 rfl).2 5 (by decide)).trans h_sta) ((hF.1 tok (hT0.at 2 rfl).1 6 (hT0.at 2 rfl).2 6 (by decide)).trans h_vaa) hzz (hTK.go (hF.2 ka (hT0.at 3 rfl).1 0 _ _ (hT0.at 3 rfl).2 (by decide)) (hF.2 sta (hT0.at 4 rfl).1 0 _ _ (hT0.at 4 rfl).2 (by decide)) (hF.2 vaa (hT0.at 5 rfl).1 0 _ _ (hT0.at 5 rfl).2 (by decide))) hrq_64 (Or.inl (by decide))) (cwV 1 hts gX2_readTest_X2_pass rfl rfl rfl (by decide +kernel) ⟨Nat.le_of_ble_eq_true rfl, Nat.le_of_ble_eq_true rfl⟩) hP hD hK hS hA hev hT 0 2 rfl rfl rfl rfl hl.1 rfl (Nat.le_of_ble_eq_true rfl) dX2_readTest_100 ⟨Nat.le_of_ble_eq_true rfl, Nat.le_of_ble_eq_true rfl⟩ (fun r L_362 f_363 H locs hw_364 hP hD hS hT hE1 => ?_)
          have hEo := hE
          have hO5 := hO5.call hE (OF.fr hw_364.2.1 (by decide)) (by simp)
          have hF := Fr.call hF hE hw_364.2.1 (by decide)
          have hE := hE.tr hE1
          obtain ⟨rfl, hw_364⟩ := hw_364
          obtain ⟨hfr_365, ax_366, tn_367, fa_368, pw_369, hk_370, hk_371, hk_372, hk_373, hrel_374, hrel_375, hrel_376, hrel_377, hex_378⟩ := hw_364
          have hk_379 : rd f_363 tok 3 = .int zz := (hfr_365.1 tok (hTo.at 2 rfl).1 6 (hTo.at 2 rfl).2 3 (by decide)).trans hk_353
          have hk_380 : rd f_363 o 1 = .int vt := (hfr_365.1 o (hTo.at 1 rfl).1 5 (hTo.at 1 rfl).2 1 (by decide)).trans hk_354
          have hk_381 : rd f_363 o 2 = .int nu := (hfr_365.1 o (hTo.at 1 rfl).1 5 (hTo.at 1 rfl).2 2 (by decide)).trans hk_355
          have hk_382 : rd f_363 o 3 = .int tn := (hfr_365.1 o (hTo.at 1 rfl).1 5 (hTo.at 1 rfl).2 3 (by decide)).trans hk_356
          have hk_383 : rd f_363 o 4 = .int 1 := (hfr_365.1 o (hTo.at 1 rfl).1 5 (hTo.at 1 rfl).2 4 (by decide)).trans hk_357
          have hrq_384 := hex_378
          refine W.eq (g2 := F0 m 103 ls []) rfl ?_
          refine lv_aload_n hx hb dX2_readTest_103 rfl (lv_at hl 1 rfl) ?_
          refine lv_aload_n hx hb dX2_readTest_104 rfl (lv_at hl 0 rfl) ?_
          refine lv_iconst (v := 0) hx hb dX2_readTest_105 (by decide) ?_
          refine lv_sipush (v := 9999) hx hb dX2_readTest_106 (by decide) ?_
          have hTo := hT
          refine K_V ⟨hx, hb, hml, hown, hts⟩ (t_X2_readNumber l dC dI sa hlt g _ _ tt ln M (gpa (Kp tt ln) (nq tt ln) 60 (gpa (Kp tt ln) (nq tt ln) (Kp tt ln q.1) (grf 1 q))) h0 0 9999 tok ka sta vaa ax_366 tn_367 fa_368 pw_369 zz _ (hT.sub [0, 2, 3, 4, 5] rfl)  hk_370 hk_371 hk_372 hk_373 hk_379 ((hF.1 h0 (hT0.at 0 rfl).1 2 (hT0.at 0 rfl).2 0 (by decide)).trans h_tok) ((hF.1 tok (hT0.at 2 rfl).1 6 (hT0.at 2 rfl).2 4 (by decide)).trans h_ka) ((hF.1 tok (hT0.at 2 rfl).1 6 (hT0.at 2 rfl).2 5 (by decide)).trans h_sta) ((hF.1 tok (hT0.at 2 rfl).1 6 (hT0.at 2 rfl).2 6 (by decide)).trans h_vaa) hzz (hTK.go (hF.2 ka (hT0.at 3 rfl).1 0 _ _ (hT0.at 3 rfl).2 (by decide)) (hF.2 sta (hT0.at 4 rfl).1 0 _ _ (hT0.at 4 rfl).2 (by decide)) (hF.2 vaa (hT0.at 5 rfl).1 0 _ _ (hT0.at 5 rfl).2 (by decide))) hrq_384) (cwV 2 hts gX2_readTest_X2_readNumber rfl rfl rfl (by decide +kernel) ⟨Nat.le_of_ble_eq_true rfl, Nat.le_of_ble_eq_true rfl⟩) hP hD hK hS hA hev hT 0 2 rfl rfl rfl rfl hl.1 rfl (Nat.le_of_ble_eq_true rfl) dX2_readTest_109 ⟨Nat.le_of_ble_eq_true rfl, Nat.le_of_ble_eq_true rfl⟩ (fun r L_385 f_386 H locs hw_387 hP hD hS hT hE1 => ?_)
          have hEo := hE
          have hO5 := hO5.call hE (OF.fr hw_387.2.1 (by decide)) (by simp)
          have hF := Fr.call hF hE hw_387.2.1 (by decide)
          have hE := hE.tr hE1
          obtain ⟨⟨z_388, rfl⟩, hw_387⟩ := hw_387
          obtain ⟨hfr_389, ax_390, tn_391, fa_392, pw_393, hk_394, hk_395, hk_396, hk_397, hrel_398, hrel_399, hrel_400, hrel_401, hex_402⟩ := hw_387
          have hk_403 : rd f_386 tok 3 = .int zz := (hfr_389.1 tok (hTo.at 2 rfl).1 6 (hTo.at 2 rfl).2 3 (by decide)).trans hk_379
          have hk_404 : rd f_386 o 1 = .int vt := (hfr_389.1 o (hTo.at 1 rfl).1 5 (hTo.at 1 rfl).2 1 (by decide)).trans hk_380
          have hk_405 : rd f_386 o 2 = .int nu := (hfr_389.1 o (hTo.at 1 rfl).1 5 (hTo.at 1 rfl).2 2 (by decide)).trans hk_381
          have hk_406 : rd f_386 o 3 = .int tn := (hfr_389.1 o (hTo.at 1 rfl).1 5 (hTo.at 1 rfl).2 3 (by decide)).trans hk_382
          have hk_407 : rd f_386 o 4 = .int 1 := (hfr_389.1 o (hTo.at 1 rfl).1 5 (hTo.at 1 rfl).2 4 (by decide)).trans hk_383
          have hzv_408 : z_388 = Vp tt ln (gpa (Kp tt ln) (nq tt ln) 60 (gpa (Kp tt ln) (nq tt ln) (Kp tt ln q.1) (grf 1 q))).1 := sv hex_402.1
          have hrq_409 := hex_402.2
          refine W.eq (g2 := F0 m 112 ls [.int z_388, .ref o]) rfl ?_
          have hTo := hT
          refine T_put (ci := 5) (v := .int z_388) (ty := .int) (t := tI) (C := RX5) (T := TX5) (N := 8) hx hb hts inw_X2_readTest_5 tyX5 tyX5_ok nmX5 hown hK hP hD hS hT 1 rfl rfl 2 (by decide) (hts (.fieldLink RX2 79 "VatHouse$Step" "number" "I") (List.mem_of_getElem? (i := 5) (by exact rfl))) (fun _ h9 => h9) rfl (tyX5_ok 2 (by decide)) rfl rfl rfl ⟨_, rfl⟩ dX2_readTest_112 (fun f_410 H locs hP hD hS hT hE1 hrd_411 hup_412 => ?_)
          have hO5 := hO5.put hrd_411 (by simp)
          have hF := Fr.put (a := o) (ci := 5) hF hE ((hE1 o (hT.at 1 rfl).1).2.symm.trans (hT.at 1 rfl).2) (by decide) hrd_411 hup_412
          have hE := hE.tr hE1
          have hk_413 : rd f_410 h0 1 = .int ax_390 := ((Fr.put (cs := [(5, 2)]) (a := o) (ci := 5) Fr.rf Ext.rf (hTo.at 1 rfl).2 (by decide) hrd_411 hup_412).1 h0 (hTo.at 0 rfl).1 2 (hTo.at 0 rfl).2 1 (by decide)).trans hk_394
          have hk_414 : rd f_410 h0 2 = .int tn_391 := ((Fr.put (cs := [(5, 2)]) (a := o) (ci := 5) Fr.rf Ext.rf (hTo.at 1 rfl).2 (by decide) hrd_411 hup_412).1 h0 (hTo.at 0 rfl).1 2 (hTo.at 0 rfl).2 2 (by decide)).trans hk_395
          have hk_415 : rd f_410 h0 3 = .int fa_392 := ((Fr.put (cs := [(5, 2)]) (a := o) (ci := 5) Fr.rf Ext.rf (hTo.at 1 rfl).2 (by decide) hrd_411 hup_412).1 h0 (hTo.at 0 rfl).1 2 (hTo.at 0 rfl).2 3 (by decide)).trans hk_396
          have hk_416 : rd f_410 h0 4 = .int pw_393 := ((Fr.put (cs := [(5, 2)]) (a := o) (ci := 5) Fr.rf Ext.rf (hTo.at 1 rfl).2 (by decide) hrd_411 hup_412).1 h0 (hTo.at 0 rfl).1 2 (hTo.at 0 rfl).2 4 (by decide)).trans hk_397
          have hk_417 : rd f_410 tok 3 = .int zz := ((Fr.put (cs := [(5, 2)]) (a := o) (ci := 5) Fr.rf Ext.rf (hTo.at 1 rfl).2 (by decide) hrd_411 hup_412).1 tok (hTo.at 2 rfl).1 6 (hTo.at 2 rfl).2 3 (by decide)).trans hk_403
          have hk_418 : rd f_410 o 1 = .int vt := ((Fr.put (cs := [(5, 2)]) (a := o) (ci := 5) Fr.rf Ext.rf (hTo.at 1 rfl).2 (by decide) hrd_411 hup_412).1 o (hTo.at 1 rfl).1 5 (hTo.at 1 rfl).2 1 (by decide)).trans hk_404
          have hk_419 : rd f_410 o 2 = .int z_388 := (hrd_411 o 2).trans (if_pos ⟨rfl, rfl⟩)
          have hk_420 : rd f_410 o 3 = .int tn := ((Fr.put (cs := [(5, 2)]) (a := o) (ci := 5) Fr.rf Ext.rf (hTo.at 1 rfl).2 (by decide) hrd_411 hup_412).1 o (hTo.at 1 rfl).1 5 (hTo.at 1 rfl).2 3 (by decide)).trans hk_406
          have hk_421 : rd f_410 o 4 = .int 1 := ((Fr.put (cs := [(5, 2)]) (a := o) (ci := 5) Fr.rf Ext.rf (hTo.at 1 rfl).2 (by decide) hrd_411 hup_412).1 o (hTo.at 1 rfl).1 5 (hTo.at 1 rfl).2 4 (by decide)).trans hk_407
          exact K_v hx hb hr hlocks hP hD hK hS hT hE ⟨rfl, hF, _, _, _, _, _, _, _, _, hk_413, hk_414, hk_415, hk_416, hk_418, hk_419, hk_420, hk_421, trivial, trivial, fun h9 => (absurd ((hrel_56 ((hrel_376 (hrel_400 h9)).1)).1) hrel_13), trivial, trivial, trivial, trivial, trivial, hO5, (gte_b hg1 hg2 hg3) ▸ hrq_409, fun h9 => (nlt_of_le (gte_ok h9).2.1.1 (by rw [← hRQ.K]; exact c_4)).elim⟩ (Nat.le_of_ble_eq_true rfl) (Nat.le_of_ble_eq_true rfl) dX2_readTest_115
      · refine lv_aload_n hx hb dX2_readTest_57 rfl (lv_at hl 1 rfl) ?_
        refine lv_aload_n hx hb dX2_readTest_58 rfl (lv_at hl 0 rfl) ?_
        refine lv_iconst (v := 0) hx hb dX2_readTest_59 (by decide) ?_
        refine lv_iconst (v := 5) hx hb dX2_readTest_60 (by decide) ?_
        have hTo := hT
        refine K_V ⟨hx, hb, hml, hown, hts⟩ (t_X2_readNumber l dC dI sa hlt g _ _ tt ln M (gpa (Kp tt ln) (nq tt ln) (Kp tt ln q.1) (grf 1 q)) h0 0 5 tok ka sta vaa ax_46 tn_47 fa_48 pw_49 zz _ (hT.sub [0, 2, 3, 4, 5] rfl)  hk_50 hk_51 hk_52 hk_53 hk_59 ((hF.1 h0 (hT0.at 0 rfl).1 2 (hT0.at 0 rfl).2 0 (by decide)).trans h_tok) ((hF.1 tok (hT0.at 2 rfl).1 6 (hT0.at 2 rfl).2 4 (by decide)).trans h_ka) ((hF.1 tok (hT0.at 2 rfl).1 6 (hT0.at 2 rfl).2 5 (by decide)).trans h_sta) ((hF.1 tok (hT0.at 2 rfl).1 6 (hT0.at 2 rfl).2 6 (by decide)).trans h_vaa) hzz (hTK.go (hF.2 ka (hT0.at 3 rfl).1 0 _ _ (hT0.at 3 rfl).2 (by decide)) (hF.2 sta (hT0.at 4 rfl).1 0 _ _ (hT0.at 4 rfl).2 (by decide)) (hF.2 vaa (hT0.at 5 rfl).1 0 _ _ (hT0.at 5 rfl).2 (by decide))) hrq_64) (cwV 2 hts gX2_readTest_X2_readNumber rfl rfl rfl (by decide +kernel) ⟨Nat.le_of_ble_eq_true rfl, Nat.le_of_ble_eq_true rfl⟩) hP hD hK hS hA hev hT 0 2 rfl rfl rfl rfl hl.1 rfl (Nat.le_of_ble_eq_true rfl) dX2_readTest_61 ⟨Nat.le_of_ble_eq_true rfl, Nat.le_of_ble_eq_true rfl⟩ (fun r L_422 f_423 H locs hw_424 hP hD hS hT hE1 => ?_)
        have hEo := hE
        have hO5 := hO5.call hE (OF.fr hw_424.2.1 (by decide)) (by simp)
        have hF := Fr.call hF hE hw_424.2.1 (by decide)
        have hE := hE.tr hE1
        obtain ⟨⟨z_425, rfl⟩, hw_424⟩ := hw_424
        obtain ⟨hfr_426, ax_427, tn_428, fa_429, pw_430, hk_431, hk_432, hk_433, hk_434, hrel_435, hrel_436, hrel_437, hrel_438, hex_439⟩ := hw_424
        have hk_440 : rd f_423 tok 3 = .int zz := (hfr_426.1 tok (hTo.at 2 rfl).1 6 (hTo.at 2 rfl).2 3 (by decide)).trans hk_59
        have hk_441 : rd f_423 o 1 = .int vt := (hfr_426.1 o (hTo.at 1 rfl).1 5 (hTo.at 1 rfl).2 1 (by decide)).trans hk_60
        have hk_442 : rd f_423 o 2 = .int nu := (hfr_426.1 o (hTo.at 1 rfl).1 5 (hTo.at 1 rfl).2 2 (by decide)).trans hk_61
        have hk_443 : rd f_423 o 3 = .int tn := (hfr_426.1 o (hTo.at 1 rfl).1 5 (hTo.at 1 rfl).2 3 (by decide)).trans hk_62
        have hk_444 : rd f_423 o 4 = .int be := (hfr_426.1 o (hTo.at 1 rfl).1 5 (hTo.at 1 rfl).2 4 (by decide)).trans hk_63
        have hzv_445 : z_425 = Vp tt ln (gpa (Kp tt ln) (nq tt ln) (Kp tt ln q.1) (grf 1 q)).1 := sv hex_439.1
        have hrq_446 := hex_439.2
        refine W.eq (g2 := F0 m 64 ls [.int z_425, .ref o]) rfl ?_
        have hTo := hT
        refine T_put (ci := 5) (v := .int z_425) (ty := .int) (t := tI) (C := RX5) (T := TX5) (N := 8) hx hb hts inw_X2_readTest_5 tyX5 tyX5_ok nmX5 hown hK hP hD hS hT 1 rfl rfl 1 (by decide) (hts (.fieldLink RX2 76 "VatHouse$Step" "vat" "I") (List.mem_of_getElem? (i := 3) (by exact rfl))) (fun _ h9 => h9) rfl (tyX5_ok 1 (by decide)) rfl rfl rfl ⟨_, rfl⟩ dX2_readTest_64 (fun f_447 H locs hP hD hS hT hE1 hrd_448 hup_449 => ?_)
        have hO5 := hO5.put hrd_448 (by simp)
        have hF := Fr.put (a := o) (ci := 5) hF hE ((hE1 o (hT.at 1 rfl).1).2.symm.trans (hT.at 1 rfl).2) (by decide) hrd_448 hup_449
        have hE := hE.tr hE1
        have hk_450 : rd f_447 h0 1 = .int ax_427 := ((Fr.put (cs := [(5, 1)]) (a := o) (ci := 5) Fr.rf Ext.rf (hTo.at 1 rfl).2 (by decide) hrd_448 hup_449).1 h0 (hTo.at 0 rfl).1 2 (hTo.at 0 rfl).2 1 (by decide)).trans hk_431
        have hk_451 : rd f_447 h0 2 = .int tn_428 := ((Fr.put (cs := [(5, 1)]) (a := o) (ci := 5) Fr.rf Ext.rf (hTo.at 1 rfl).2 (by decide) hrd_448 hup_449).1 h0 (hTo.at 0 rfl).1 2 (hTo.at 0 rfl).2 2 (by decide)).trans hk_432
        have hk_452 : rd f_447 h0 3 = .int fa_429 := ((Fr.put (cs := [(5, 1)]) (a := o) (ci := 5) Fr.rf Ext.rf (hTo.at 1 rfl).2 (by decide) hrd_448 hup_449).1 h0 (hTo.at 0 rfl).1 2 (hTo.at 0 rfl).2 3 (by decide)).trans hk_433
        have hk_453 : rd f_447 h0 4 = .int pw_430 := ((Fr.put (cs := [(5, 1)]) (a := o) (ci := 5) Fr.rf Ext.rf (hTo.at 1 rfl).2 (by decide) hrd_448 hup_449).1 h0 (hTo.at 0 rfl).1 2 (hTo.at 0 rfl).2 4 (by decide)).trans hk_434
        have hk_454 : rd f_447 tok 3 = .int zz := ((Fr.put (cs := [(5, 1)]) (a := o) (ci := 5) Fr.rf Ext.rf (hTo.at 1 rfl).2 (by decide) hrd_448 hup_449).1 tok (hTo.at 2 rfl).1 6 (hTo.at 2 rfl).2 3 (by decide)).trans hk_440
        have hk_455 : rd f_447 o 1 = .int z_425 := (hrd_448 o 1).trans (if_pos ⟨rfl, rfl⟩)
        have hk_456 : rd f_447 o 2 = .int nu := ((Fr.put (cs := [(5, 1)]) (a := o) (ci := 5) Fr.rf Ext.rf (hTo.at 1 rfl).2 (by decide) hrd_448 hup_449).1 o (hTo.at 1 rfl).1 5 (hTo.at 1 rfl).2 2 (by decide)).trans hk_442
        have hk_457 : rd f_447 o 3 = .int tn := ((Fr.put (cs := [(5, 1)]) (a := o) (ci := 5) Fr.rf Ext.rf (hTo.at 1 rfl).2 (by decide) hrd_448 hup_449).1 o (hTo.at 1 rfl).1 5 (hTo.at 1 rfl).2 3 (by decide)).trans hk_443
        have hk_458 : rd f_447 o 4 = .int be := ((Fr.put (cs := [(5, 1)]) (a := o) (ci := 5) Fr.rf Ext.rf (hTo.at 1 rfl).2 (by decide) hrd_448 hup_449).1 o (hTo.at 1 rfl).1 5 (hTo.at 1 rfl).2 4 (by decide)).trans hk_444
        have hg2 : gte2 (Kp tt ln) (Vp tt ln) (nq tt ln) (Kp tt ln q.1) (gpa (Kp tt ln) (nq tt ln) (Kp tt ln q.1) (grf 1 q)) = (gnu (Kp tt ln) (Vp tt ln) (nq tt ln) 0 5 (gpa (Kp tt ln) (nq tt ln) (Kp tt ln q.1) (grf 1 q))) := if_pos (Or.inr (by rw [← hRQ.K]; exact c_265))
        refine lv_aload_n hx hb dX2_readTest_67 rfl (lv_at hl 1 rfl) ?_
        refine lv_aload_n hx hb dX2_readTest_68 rfl (lv_at hl 0 rfl) ?_
        refine T_get (ci := 2) (C := RX2) (T := TX2) (N := 6) (t := tI) hx hb hts inw_X2_readTest_2 hown hK hP hT 0 rfl rfl 2 (by decide) (hts (.fieldLink RX2 44 "VatHouse$Reader" "token" "I") (List.mem_of_getElem? (i := 1) (by exact rfl))) (fun _ h9 => h9) rfl dX2_readTest_69 (fun v_461 hv_459 hr_460 => ?_)
        obtain rfl : v_461 = .int tn_428 := hr_460.symm.trans hk_451
        refine lv_bipush (v := 60) hx hb dX2_readTest_72 (by decide) ?_
        refine lv_icmp_ne (tgt := 81) hx hb dX2_readTest_74 (by decide) (fun c_462 => ?_) (fun c_462 => ?_)
        · refine lv_iconst (v := 0) hx hb dX2_readTest_81 (by decide) ?_
          have hTo := hT
          refine T_put (ci := 5) (v := .int 0) (ty := .boolean) (t := tI) (C := RX5) (T := TX5) (N := 8) hx hb hts inw_X2_readTest_5 tyX5 tyX5_ok nmX5 hown hK hP hD hS hT 1 rfl rfl 4 (by decide) (hts (.fieldLink RX2 97 "VatHouse$Step" "below" "Z") (List.mem_of_getElem? (i := 4) (by exact rfl))) (fun _ h9 => h9) rfl (tyX5_ok 4 (by decide)) rfl rfl rfl ⟨_, rfl⟩ dX2_readTest_82 (fun f_463 H locs hP hD hS hT hE1 hrd_464 hup_465 => ?_)
          have hO5 := hO5.put hrd_464 (by simp)
          have hF := Fr.put (a := o) (ci := 5) hF hE ((hE1 o (hT.at 1 rfl).1).2.symm.trans (hT.at 1 rfl).2) (by decide) hrd_464 hup_465
          have hE := hE.tr hE1
          have hk_466 : rd f_463 h0 1 = .int ax_427 := ((Fr.put (cs := [(5, 4)]) (a := o) (ci := 5) Fr.rf Ext.rf (hTo.at 1 rfl).2 (by decide) hrd_464 hup_465).1 h0 (hTo.at 0 rfl).1 2 (hTo.at 0 rfl).2 1 (by decide)).trans hk_450
          have hk_467 : rd f_463 h0 2 = .int tn_428 := ((Fr.put (cs := [(5, 4)]) (a := o) (ci := 5) Fr.rf Ext.rf (hTo.at 1 rfl).2 (by decide) hrd_464 hup_465).1 h0 (hTo.at 0 rfl).1 2 (hTo.at 0 rfl).2 2 (by decide)).trans hk_451
          have hk_468 : rd f_463 h0 3 = .int fa_429 := ((Fr.put (cs := [(5, 4)]) (a := o) (ci := 5) Fr.rf Ext.rf (hTo.at 1 rfl).2 (by decide) hrd_464 hup_465).1 h0 (hTo.at 0 rfl).1 2 (hTo.at 0 rfl).2 3 (by decide)).trans hk_452
          have hk_469 : rd f_463 h0 4 = .int pw_430 := ((Fr.put (cs := [(5, 4)]) (a := o) (ci := 5) Fr.rf Ext.rf (hTo.at 1 rfl).2 (by decide) hrd_464 hup_465).1 h0 (hTo.at 0 rfl).1 2 (hTo.at 0 rfl).2 4 (by decide)).trans hk_453
          have hk_470 : rd f_463 tok 3 = .int zz := ((Fr.put (cs := [(5, 4)]) (a := o) (ci := 5) Fr.rf Ext.rf (hTo.at 1 rfl).2 (by decide) hrd_464 hup_465).1 tok (hTo.at 2 rfl).1 6 (hTo.at 2 rfl).2 3 (by decide)).trans hk_454
          have hk_471 : rd f_463 o 1 = .int z_425 := ((Fr.put (cs := [(5, 4)]) (a := o) (ci := 5) Fr.rf Ext.rf (hTo.at 1 rfl).2 (by decide) hrd_464 hup_465).1 o (hTo.at 1 rfl).1 5 (hTo.at 1 rfl).2 1 (by decide)).trans hk_455
          have hk_472 : rd f_463 o 2 = .int nu := ((Fr.put (cs := [(5, 4)]) (a := o) (ci := 5) Fr.rf Ext.rf (hTo.at 1 rfl).2 (by decide) hrd_464 hup_465).1 o (hTo.at 1 rfl).1 5 (hTo.at 1 rfl).2 2 (by decide)).trans hk_456
          have hk_473 : rd f_463 o 3 = .int tn := ((Fr.put (cs := [(5, 4)]) (a := o) (ci := 5) Fr.rf Ext.rf (hTo.at 1 rfl).2 (by decide) hrd_464 hup_465).1 o (hTo.at 1 rfl).1 5 (hTo.at 1 rfl).2 3 (by decide)).trans hk_457
          have hk_474 : rd f_463 o 4 = .int 0 := (hrd_464 o 4).trans (if_pos ⟨rfl, rfl⟩)
          have hg3 : (if Kp tt ln (gnu (Kp tt ln) (Vp tt ln) (nq tt ln) 0 5 (gpa (Kp tt ln) (nq tt ln) (Kp tt ln q.1) (grf 1 q))).1 = 60 then (60 : Int32) else 61) = 61 := if_neg (by rw [← hrq_446.K]; exact c_462)
          have hg4 : (0 : Int32) = if Kp tt ln (gnu (Kp tt ln) (Vp tt ln) (nq tt ln) 0 5 (gpa (Kp tt ln) (nq tt ln) (Kp tt ln q.1) (grf 1 q))).1 = 60 then 1 else 0 := (if_neg (by rw [← hrq_446.K]; exact c_462)).symm
          refine lv_aload_n hx hb dX2_readTest_85 rfl (lv_at hl 0 rfl) ?_
          refine lv_aload_n hx hb dX2_readTest_86 rfl (lv_at hl 1 rfl) ?_
          refine T_get (ci := 5) (C := RX5) (T := TX5) (N := 8) (t := tI) hx hb hts inw_X2_readTest_5 hown hK hP hT 1 rfl rfl 4 (by decide) (hts (.fieldLink RX2 97 "VatHouse$Step" "below" "Z") (List.mem_of_getElem? (i := 4) (by exact rfl))) (fun _ h9 => h9) rfl dX2_readTest_87 (fun v_477 hv_475 hr_476 => ?_)
          obtain rfl : v_477 = .int 0 := hr_476.symm.trans hk_474
          refine lv_if_eq (tgt := 98) hx hb dX2_readTest_90 (by decide) (fun c_478 => ?_) (fun c_478 => ?_)
          rotate_left
          · exact absurd c_478 (by decide)
          refine lv_bipush (v := 61) hx hb dX2_readTest_98 (by decide) ?_
          have hTo := hT
          refine K_V ⟨hx, hb, hml, hown, hts⟩ (t_X2_pass l dC dI sa hlt g _ _ tt ln M (gnu (Kp tt ln) (Vp tt ln) (nq tt ln) 0 5 (gpa (Kp tt ln) (nq tt ln) (Kp tt ln q.1) (grf 1 q))) h0 61 tok ka sta vaa ax_427 tn_428 fa_429 pw_430 zz _ (hT.sub [0, 2, 3, 4, 5] rfl)  hk_466 hk_467 hk_468 hk_469 hk_470 ((hF.1 h0 (hT0.at 0 rfl).1 2 (hT0.at 0 rfl).2 0 (by decide)).trans h_tok) ((hF.1 tok (hT0.at 2 rfl).1 6 (hT0.at 2 rfl).2 4 (by decide)).trans h_ka) ((hF.1 tok (hT0.at 2 rfl).1 6 (hT0.at 2 rfl).2 5 (by decide)).trans h_sta) ((hF.1 tok (hT0.at 2 rfl).1 6 (hT0.at 2 rfl).2 6 (by decide)).trans h_vaa) hzz (hTK.go (hF.2 ka (hT0.at 3 rfl).1 0 _ _ (hT0.at 3 rfl).2 (by decide)) (hF.2 sta (hT0.at 4 rfl).1 0 _ _ (hT0.at 4 rfl).2 (by decide)) (hF.2 vaa (hT0.at 5 rfl).1 0 _ _ (hT0.at 5 rfl).2 (by decide))) hrq_446 (Or.inl (by decide))) (cwV 1 hts gX2_readTest_X2_pass rfl rfl rfl (by decide +kernel) ⟨Nat.le_of_ble_eq_true rfl, Nat.le_of_ble_eq_true rfl⟩) hP hD hK hS hA hev hT 0 2 rfl rfl rfl rfl hl.1 rfl (Nat.le_of_ble_eq_true rfl) dX2_readTest_100 ⟨Nat.le_of_ble_eq_true rfl, Nat.le_of_ble_eq_true rfl⟩ (fun r L_479 f_480 H locs hw_481 hP hD hS hT hE1 => ?_)
          have hEo := hE
          have hO5 := hO5.call hE (OF.fr hw_481.2.1 (by decide)) (by simp)
          have hF := Fr.call hF hE hw_481.2.1 (by decide)
          have hE := hE.tr hE1
          obtain ⟨rfl, hw_481⟩ := hw_481
          obtain ⟨hfr_482, ax_483, tn_484, fa_485, pw_486, hk_487, hk_488, hk_489, hk_490, hrel_491, hrel_492, hrel_493, hrel_494, hex_495⟩ := hw_481
          have hk_496 : rd f_480 tok 3 = .int zz := (hfr_482.1 tok (hTo.at 2 rfl).1 6 (hTo.at 2 rfl).2 3 (by decide)).trans hk_470
          have hk_497 : rd f_480 o 1 = .int z_425 := (hfr_482.1 o (hTo.at 1 rfl).1 5 (hTo.at 1 rfl).2 1 (by decide)).trans hk_471
          have hk_498 : rd f_480 o 2 = .int nu := (hfr_482.1 o (hTo.at 1 rfl).1 5 (hTo.at 1 rfl).2 2 (by decide)).trans hk_472
          have hk_499 : rd f_480 o 3 = .int tn := (hfr_482.1 o (hTo.at 1 rfl).1 5 (hTo.at 1 rfl).2 3 (by decide)).trans hk_473
          have hk_500 : rd f_480 o 4 = .int 0 := (hfr_482.1 o (hTo.at 1 rfl).1 5 (hTo.at 1 rfl).2 4 (by decide)).trans hk_474
          have hrq_501 := hex_495
          refine W.eq (g2 := F0 m 103 ls []) rfl ?_
          refine lv_aload_n hx hb dX2_readTest_103 rfl (lv_at hl 1 rfl) ?_
          refine lv_aload_n hx hb dX2_readTest_104 rfl (lv_at hl 0 rfl) ?_
          refine lv_iconst (v := 0) hx hb dX2_readTest_105 (by decide) ?_
          refine lv_sipush (v := 9999) hx hb dX2_readTest_106 (by decide) ?_
          have hTo := hT
          refine K_V ⟨hx, hb, hml, hown, hts⟩ (t_X2_readNumber l dC dI sa hlt g _ _ tt ln M (gpa (Kp tt ln) (nq tt ln) 61 (gnu (Kp tt ln) (Vp tt ln) (nq tt ln) 0 5 (gpa (Kp tt ln) (nq tt ln) (Kp tt ln q.1) (grf 1 q)))) h0 0 9999 tok ka sta vaa ax_483 tn_484 fa_485 pw_486 zz _ (hT.sub [0, 2, 3, 4, 5] rfl)  hk_487 hk_488 hk_489 hk_490 hk_496 ((hF.1 h0 (hT0.at 0 rfl).1 2 (hT0.at 0 rfl).2 0 (by decide)).trans h_tok) ((hF.1 tok (hT0.at 2 rfl).1 6 (hT0.at 2 rfl).2 4 (by decide)).trans h_ka) ((hF.1 tok (hT0.at 2 rfl).1 6 (hT0.at 2 rfl).2 5 (by decide)).trans h_sta) ((hF.1 tok (hT0.at 2 rfl).1 6 (hT0.at 2 rfl).2 6 (by decide)).trans h_vaa) hzz (hTK.go (hF.2 ka (hT0.at 3 rfl).1 0 _ _ (hT0.at 3 rfl).2 (by decide)) (hF.2 sta (hT0.at 4 rfl).1 0 _ _ (hT0.at 4 rfl).2 (by decide)) (hF.2 vaa (hT0.at 5 rfl).1 0 _ _ (hT0.at 5 rfl).2 (by decide))) hrq_501) (cwV 2 hts gX2_readTest_X2_readNumber rfl rfl rfl (by decide +kernel) ⟨Nat.le_of_ble_eq_true rfl, Nat.le_of_ble_eq_true rfl⟩) hP hD hK hS hA hev hT 0 2 rfl rfl rfl rfl hl.1 rfl (Nat.le_of_ble_eq_true rfl) dX2_readTest_109 ⟨Nat.le_of_ble_eq_true rfl, Nat.le_of_ble_eq_true rfl⟩ (fun r L_502 f_503 H locs hw_504 hP hD hS hT hE1 => ?_)
          have hEo := hE
          have hO5 := hO5.call hE (OF.fr hw_504.2.1 (by decide)) (by simp)
          have hF := Fr.call hF hE hw_504.2.1 (by decide)
          have hE := hE.tr hE1
          obtain ⟨⟨z_505, rfl⟩, hw_504⟩ := hw_504
          obtain ⟨hfr_506, ax_507, tn_508, fa_509, pw_510, hk_511, hk_512, hk_513, hk_514, hrel_515, hrel_516, hrel_517, hrel_518, hex_519⟩ := hw_504
          have hk_520 : rd f_503 tok 3 = .int zz := (hfr_506.1 tok (hTo.at 2 rfl).1 6 (hTo.at 2 rfl).2 3 (by decide)).trans hk_496
          have hk_521 : rd f_503 o 1 = .int z_425 := (hfr_506.1 o (hTo.at 1 rfl).1 5 (hTo.at 1 rfl).2 1 (by decide)).trans hk_497
          have hk_522 : rd f_503 o 2 = .int nu := (hfr_506.1 o (hTo.at 1 rfl).1 5 (hTo.at 1 rfl).2 2 (by decide)).trans hk_498
          have hk_523 : rd f_503 o 3 = .int tn := (hfr_506.1 o (hTo.at 1 rfl).1 5 (hTo.at 1 rfl).2 3 (by decide)).trans hk_499
          have hk_524 : rd f_503 o 4 = .int 0 := (hfr_506.1 o (hTo.at 1 rfl).1 5 (hTo.at 1 rfl).2 4 (by decide)).trans hk_500
          have hzv_525 : z_505 = Vp tt ln (gpa (Kp tt ln) (nq tt ln) 61 (gnu (Kp tt ln) (Vp tt ln) (nq tt ln) 0 5 (gpa (Kp tt ln) (nq tt ln) (Kp tt ln q.1) (grf 1 q)))).1 := sv hex_519.1
          have hrq_526 := hex_519.2
          refine W.eq (g2 := F0 m 112 ls [.int z_505, .ref o]) rfl ?_
          have hTo := hT
          refine T_put (ci := 5) (v := .int z_505) (ty := .int) (t := tI) (C := RX5) (T := TX5) (N := 8) hx hb hts inw_X2_readTest_5 tyX5 tyX5_ok nmX5 hown hK hP hD hS hT 1 rfl rfl 2 (by decide) (hts (.fieldLink RX2 79 "VatHouse$Step" "number" "I") (List.mem_of_getElem? (i := 5) (by exact rfl))) (fun _ h9 => h9) rfl (tyX5_ok 2 (by decide)) rfl rfl rfl ⟨_, rfl⟩ dX2_readTest_112 (fun f_527 H locs hP hD hS hT hE1 hrd_528 hup_529 => ?_)
          have hO5 := hO5.put hrd_528 (by simp)
          have hF := Fr.put (a := o) (ci := 5) hF hE ((hE1 o (hT.at 1 rfl).1).2.symm.trans (hT.at 1 rfl).2) (by decide) hrd_528 hup_529
          have hE := hE.tr hE1
          have hk_530 : rd f_527 h0 1 = .int ax_507 := ((Fr.put (cs := [(5, 2)]) (a := o) (ci := 5) Fr.rf Ext.rf (hTo.at 1 rfl).2 (by decide) hrd_528 hup_529).1 h0 (hTo.at 0 rfl).1 2 (hTo.at 0 rfl).2 1 (by decide)).trans hk_511
          have hk_531 : rd f_527 h0 2 = .int tn_508 := ((Fr.put (cs := [(5, 2)]) (a := o) (ci := 5) Fr.rf Ext.rf (hTo.at 1 rfl).2 (by decide) hrd_528 hup_529).1 h0 (hTo.at 0 rfl).1 2 (hTo.at 0 rfl).2 2 (by decide)).trans hk_512
          have hk_532 : rd f_527 h0 3 = .int fa_509 := ((Fr.put (cs := [(5, 2)]) (a := o) (ci := 5) Fr.rf Ext.rf (hTo.at 1 rfl).2 (by decide) hrd_528 hup_529).1 h0 (hTo.at 0 rfl).1 2 (hTo.at 0 rfl).2 3 (by decide)).trans hk_513
          have hk_533 : rd f_527 h0 4 = .int pw_510 := ((Fr.put (cs := [(5, 2)]) (a := o) (ci := 5) Fr.rf Ext.rf (hTo.at 1 rfl).2 (by decide) hrd_528 hup_529).1 h0 (hTo.at 0 rfl).1 2 (hTo.at 0 rfl).2 4 (by decide)).trans hk_514
          have hk_534 : rd f_527 tok 3 = .int zz := ((Fr.put (cs := [(5, 2)]) (a := o) (ci := 5) Fr.rf Ext.rf (hTo.at 1 rfl).2 (by decide) hrd_528 hup_529).1 tok (hTo.at 2 rfl).1 6 (hTo.at 2 rfl).2 3 (by decide)).trans hk_520
          have hk_535 : rd f_527 o 1 = .int z_425 := ((Fr.put (cs := [(5, 2)]) (a := o) (ci := 5) Fr.rf Ext.rf (hTo.at 1 rfl).2 (by decide) hrd_528 hup_529).1 o (hTo.at 1 rfl).1 5 (hTo.at 1 rfl).2 1 (by decide)).trans hk_521
          have hk_536 : rd f_527 o 2 = .int z_505 := (hrd_528 o 2).trans (if_pos ⟨rfl, rfl⟩)
          have hk_537 : rd f_527 o 3 = .int tn := ((Fr.put (cs := [(5, 2)]) (a := o) (ci := 5) Fr.rf Ext.rf (hTo.at 1 rfl).2 (by decide) hrd_528 hup_529).1 o (hTo.at 1 rfl).1 5 (hTo.at 1 rfl).2 3 (by decide)).trans hk_523
          have hk_538 : rd f_527 o 4 = .int 0 := ((Fr.put (cs := [(5, 2)]) (a := o) (ci := 5) Fr.rf Ext.rf (hTo.at 1 rfl).2 (by decide) hrd_528 hup_529).1 o (hTo.at 1 rfl).1 5 (hTo.at 1 rfl).2 4 (by decide)).trans hk_524
          exact K_v hx hb hr hlocks hP hD hK hS hT hE ⟨rfl, hF, _, _, _, _, _, _, _, _, hk_530, hk_531, hk_532, hk_533, hk_535, hk_536, hk_537, hk_538, trivial, trivial, fun h9 => (absurd ((hrel_56 (hrel_437 ((hrel_493 (hrel_517 h9)).1))).1) hrel_13), trivial, trivial, trivial, trivial, trivial, hO5, (gte_b hg1 hg2 hg3) ▸ hrq_526, fun h9 => (nlt_of_le (gte_ok h9).2.1.1 (by rw [← hRQ.K]; exact c_4)).elim⟩ (Nat.le_of_ble_eq_true rfl) (Nat.le_of_ble_eq_true rfl) dX2_readTest_115
        · refine lv_iconst (v := 1) hx hb dX2_readTest_77 (by decide) ?_
          refine lv_goto (tgt := 82) hx hb dX2_readTest_78 (by decide) ?_
          have hTo := hT
          refine T_put (ci := 5) (v := .int 1) (ty := .boolean) (t := tI) (C := RX5) (T := TX5) (N := 8) hx hb hts inw_X2_readTest_5 tyX5 tyX5_ok nmX5 hown hK hP hD hS hT 1 rfl rfl 4 (by decide) (hts (.fieldLink RX2 97 "VatHouse$Step" "below" "Z") (List.mem_of_getElem? (i := 4) (by exact rfl))) (fun _ h9 => h9) rfl (tyX5_ok 4 (by decide)) rfl rfl rfl ⟨_, rfl⟩ dX2_readTest_82 (fun f_539 H locs hP hD hS hT hE1 hrd_540 hup_541 => ?_)
          have hO5 := hO5.put hrd_540 (by simp)
          have hF := Fr.put (a := o) (ci := 5) hF hE ((hE1 o (hT.at 1 rfl).1).2.symm.trans (hT.at 1 rfl).2) (by decide) hrd_540 hup_541
          have hE := hE.tr hE1
          have hk_542 : rd f_539 h0 1 = .int ax_427 := ((Fr.put (cs := [(5, 4)]) (a := o) (ci := 5) Fr.rf Ext.rf (hTo.at 1 rfl).2 (by decide) hrd_540 hup_541).1 h0 (hTo.at 0 rfl).1 2 (hTo.at 0 rfl).2 1 (by decide)).trans hk_450
          have hk_543 : rd f_539 h0 2 = .int tn_428 := ((Fr.put (cs := [(5, 4)]) (a := o) (ci := 5) Fr.rf Ext.rf (hTo.at 1 rfl).2 (by decide) hrd_540 hup_541).1 h0 (hTo.at 0 rfl).1 2 (hTo.at 0 rfl).2 2 (by decide)).trans hk_451
          have hk_544 : rd f_539 h0 3 = .int fa_429 := ((Fr.put (cs := [(5, 4)]) (a := o) (ci := 5) Fr.rf Ext.rf (hTo.at 1 rfl).2 (by decide) hrd_540 hup_541).1 h0 (hTo.at 0 rfl).1 2 (hTo.at 0 rfl).2 3 (by decide)).trans hk_452
          have hk_545 : rd f_539 h0 4 = .int pw_430 := ((Fr.put (cs := [(5, 4)]) (a := o) (ci := 5) Fr.rf Ext.rf (hTo.at 1 rfl).2 (by decide) hrd_540 hup_541).1 h0 (hTo.at 0 rfl).1 2 (hTo.at 0 rfl).2 4 (by decide)).trans hk_453
          have hk_546 : rd f_539 tok 3 = .int zz := ((Fr.put (cs := [(5, 4)]) (a := o) (ci := 5) Fr.rf Ext.rf (hTo.at 1 rfl).2 (by decide) hrd_540 hup_541).1 tok (hTo.at 2 rfl).1 6 (hTo.at 2 rfl).2 3 (by decide)).trans hk_454
          have hk_547 : rd f_539 o 1 = .int z_425 := ((Fr.put (cs := [(5, 4)]) (a := o) (ci := 5) Fr.rf Ext.rf (hTo.at 1 rfl).2 (by decide) hrd_540 hup_541).1 o (hTo.at 1 rfl).1 5 (hTo.at 1 rfl).2 1 (by decide)).trans hk_455
          have hk_548 : rd f_539 o 2 = .int nu := ((Fr.put (cs := [(5, 4)]) (a := o) (ci := 5) Fr.rf Ext.rf (hTo.at 1 rfl).2 (by decide) hrd_540 hup_541).1 o (hTo.at 1 rfl).1 5 (hTo.at 1 rfl).2 2 (by decide)).trans hk_456
          have hk_549 : rd f_539 o 3 = .int tn := ((Fr.put (cs := [(5, 4)]) (a := o) (ci := 5) Fr.rf Ext.rf (hTo.at 1 rfl).2 (by decide) hrd_540 hup_541).1 o (hTo.at 1 rfl).1 5 (hTo.at 1 rfl).2 3 (by decide)).trans hk_457
          have hk_550 : rd f_539 o 4 = .int 1 := (hrd_540 o 4).trans (if_pos ⟨rfl, rfl⟩)
          have hg3 : (if Kp tt ln (gnu (Kp tt ln) (Vp tt ln) (nq tt ln) 0 5 (gpa (Kp tt ln) (nq tt ln) (Kp tt ln q.1) (grf 1 q))).1 = 60 then (60 : Int32) else 61) = 60 := if_pos (by rw [← hrq_446.K]; exact c_462)
          have hg4 : (1 : Int32) = if Kp tt ln (gnu (Kp tt ln) (Vp tt ln) (nq tt ln) 0 5 (gpa (Kp tt ln) (nq tt ln) (Kp tt ln q.1) (grf 1 q))).1 = 60 then 1 else 0 := (if_pos (by rw [← hrq_446.K]; exact c_462)).symm
          refine lv_aload_n hx hb dX2_readTest_85 rfl (lv_at hl 0 rfl) ?_
          refine lv_aload_n hx hb dX2_readTest_86 rfl (lv_at hl 1 rfl) ?_
          refine T_get (ci := 5) (C := RX5) (T := TX5) (N := 8) (t := tI) hx hb hts inw_X2_readTest_5 hown hK hP hT 1 rfl rfl 4 (by decide) (hts (.fieldLink RX2 97 "VatHouse$Step" "below" "Z") (List.mem_of_getElem? (i := 4) (by exact rfl))) (fun _ h9 => h9) rfl dX2_readTest_87 (fun v_553 hv_551 hr_552 => ?_)
          obtain rfl : v_553 = .int 1 := hr_552.symm.trans hk_550
          refine lv_if_eq (tgt := 98) hx hb dX2_readTest_90 (by decide) (fun c_554 => ?_) (fun c_554 => ?_)
          · exact absurd c_554 (by decide)
          refine lv_bipush (v := 60) hx hb dX2_readTest_93 (by decide) ?_
          refine lv_goto (tgt := 100) hx hb dX2_readTest_95 (by decide) ?_
          have hTo := hT
          refine K_V ⟨hx, hb, hml, hown, hts⟩ (t_X2_pass l dC dI sa hlt g _ _ tt ln M (gnu (Kp tt ln) (Vp tt ln) (nq tt ln) 0 5 (gpa (Kp tt ln) (nq tt ln) (Kp tt ln q.1) (grf 1 q))) h0 60 tok ka sta vaa ax_427 tn_428 fa_429 pw_430 zz _ (hT.sub [0, 2, 3, 4, 5] rfl)  hk_542 hk_543 hk_544 hk_545 hk_546 ((hF.1 h0 (hT0.at 0 rfl).1 2 (hT0.at 0 rfl).2 0 (by decide)).trans h_tok) ((hF.1 tok (hT0.at 2 rfl).1 6 (hT0.at 2 rfl).2 4 (by decide)).trans h_ka) ((hF.1 tok (hT0.at 2 rfl).1 6 (hT0.at 2 rfl).2 5 (by decide)).trans h_sta) ((hF.1 tok (hT0.at 2 rfl).1 6 (hT0.at 2 rfl).2 6 (by decide)).trans h_vaa) hzz (hTK.go (hF.2 ka (hT0.at 3 rfl).1 0 _ _ (hT0.at 3 rfl).2 (by decide)) (hF.2 sta (hT0.at 4 rfl).1 0 _ _ (hT0.at 4 rfl).2 (by decide)) (hF.2 vaa (hT0.at 5 rfl).1 0 _ _ (hT0.at 5 rfl).2 (by decide))) hrq_446 (Or.inl (by decide))) (cwV 1 hts gX2_readTest_X2_pass rfl rfl rfl (by decide +kernel) ⟨Nat.le_of_ble_eq_true rfl, Nat.le_of_ble_eq_true rfl⟩) hP hD hK hS hA hev hT 0 2 rfl rfl rfl rfl hl.1 rfl (Nat.le_of_ble_eq_true rfl) dX2_readTest_100 ⟨Nat.le_of_ble_eq_true rfl, Nat.le_of_ble_eq_true rfl⟩ (fun r L_555 f_556 H locs hw_557 hP hD hS hT hE1 => ?_)
          have hEo := hE
          have hO5 := hO5.call hE (OF.fr hw_557.2.1 (by decide)) (by simp)
          have hF := Fr.call hF hE hw_557.2.1 (by decide)
          have hE := hE.tr hE1
          obtain ⟨rfl, hw_557⟩ := hw_557
          obtain ⟨hfr_558, ax_559, tn_560, fa_561, pw_562, hk_563, hk_564, hk_565, hk_566, hrel_567, hrel_568, hrel_569, hrel_570, hex_571⟩ := hw_557
          have hk_572 : rd f_556 tok 3 = .int zz := (hfr_558.1 tok (hTo.at 2 rfl).1 6 (hTo.at 2 rfl).2 3 (by decide)).trans hk_546
          have hk_573 : rd f_556 o 1 = .int z_425 := (hfr_558.1 o (hTo.at 1 rfl).1 5 (hTo.at 1 rfl).2 1 (by decide)).trans hk_547
          have hk_574 : rd f_556 o 2 = .int nu := (hfr_558.1 o (hTo.at 1 rfl).1 5 (hTo.at 1 rfl).2 2 (by decide)).trans hk_548
          have hk_575 : rd f_556 o 3 = .int tn := (hfr_558.1 o (hTo.at 1 rfl).1 5 (hTo.at 1 rfl).2 3 (by decide)).trans hk_549
          have hk_576 : rd f_556 o 4 = .int 1 := (hfr_558.1 o (hTo.at 1 rfl).1 5 (hTo.at 1 rfl).2 4 (by decide)).trans hk_550
          have hrq_577 := hex_571
          refine W.eq (g2 := F0 m 103 ls []) rfl ?_
          refine lv_aload_n hx hb dX2_readTest_103 rfl (lv_at hl 1 rfl) ?_
          refine lv_aload_n hx hb dX2_readTest_104 rfl (lv_at hl 0 rfl) ?_
          refine lv_iconst (v := 0) hx hb dX2_readTest_105 (by decide) ?_
          refine lv_sipush (v := 9999) hx hb dX2_readTest_106 (by decide) ?_
          have hTo := hT
          refine K_V ⟨hx, hb, hml, hown, hts⟩ (t_X2_readNumber l dC dI sa hlt g _ _ tt ln M (gpa (Kp tt ln) (nq tt ln) 60 (gnu (Kp tt ln) (Vp tt ln) (nq tt ln) 0 5 (gpa (Kp tt ln) (nq tt ln) (Kp tt ln q.1) (grf 1 q)))) h0 0 9999 tok ka sta vaa ax_559 tn_560 fa_561 pw_562 zz _ (hT.sub [0, 2, 3, 4, 5] rfl)  hk_563 hk_564 hk_565 hk_566 hk_572 ((hF.1 h0 (hT0.at 0 rfl).1 2 (hT0.at 0 rfl).2 0 (by decide)).trans h_tok) ((hF.1 tok (hT0.at 2 rfl).1 6 (hT0.at 2 rfl).2 4 (by decide)).trans h_ka) ((hF.1 tok (hT0.at 2 rfl).1 6 (hT0.at 2 rfl).2 5 (by decide)).trans h_sta) ((hF.1 tok (hT0.at 2 rfl).1 6 (hT0.at 2 rfl).2 6 (by decide)).trans h_vaa) hzz (hTK.go (hF.2 ka (hT0.at 3 rfl).1 0 _ _ (hT0.at 3 rfl).2 (by decide)) (hF.2 sta (hT0.at 4 rfl).1 0 _ _ (hT0.at 4 rfl).2 (by decide)) (hF.2 vaa (hT0.at 5 rfl).1 0 _ _ (hT0.at 5 rfl).2 (by decide))) hrq_577) (cwV 2 hts gX2_readTest_X2_readNumber rfl rfl rfl (by decide +kernel) ⟨Nat.le_of_ble_eq_true rfl, Nat.le_of_ble_eq_true rfl⟩) hP hD hK hS hA hev hT 0 2 rfl rfl rfl rfl hl.1 rfl (Nat.le_of_ble_eq_true rfl) dX2_readTest_109 ⟨Nat.le_of_ble_eq_true rfl, Nat.le_of_ble_eq_true rfl⟩ (fun r L_578 f_579 H locs hw_580 hP hD hS hT hE1 => ?_)
          have hEo := hE
          have hO5 := hO5.call hE (OF.fr hw_580.2.1 (by decide)) (by simp)
          have hF := Fr.call hF hE hw_580.2.1 (by decide)
          have hE := hE.tr hE1
          obtain ⟨⟨z_581, rfl⟩, hw_580⟩ := hw_580
          obtain ⟨hfr_582, ax_583, tn_584, fa_585, pw_586, hk_587, hk_588, hk_589, hk_590, hrel_591, hrel_592, hrel_593, hrel_594, hex_595⟩ := hw_580
          have hk_596 : rd f_579 tok 3 = .int zz := (hfr_582.1 tok (hTo.at 2 rfl).1 6 (hTo.at 2 rfl).2 3 (by decide)).trans hk_572
          have hk_597 : rd f_579 o 1 = .int z_425 := (hfr_582.1 o (hTo.at 1 rfl).1 5 (hTo.at 1 rfl).2 1 (by decide)).trans hk_573
          have hk_598 : rd f_579 o 2 = .int nu := (hfr_582.1 o (hTo.at 1 rfl).1 5 (hTo.at 1 rfl).2 2 (by decide)).trans hk_574
          have hk_599 : rd f_579 o 3 = .int tn := (hfr_582.1 o (hTo.at 1 rfl).1 5 (hTo.at 1 rfl).2 3 (by decide)).trans hk_575
          have hk_600 : rd f_579 o 4 = .int 1 := (hfr_582.1 o (hTo.at 1 rfl).1 5 (hTo.at 1 rfl).2 4 (by decide)).trans hk_576
          have hzv_601 : z_581 = Vp tt ln (gpa (Kp tt ln) (nq tt ln) 60 (gnu (Kp tt ln) (Vp tt ln) (nq tt ln) 0 5 (gpa (Kp tt ln) (nq tt ln) (Kp tt ln q.1) (grf 1 q)))).1 := sv hex_595.1
          have hrq_602 := hex_595.2
          refine W.eq (g2 := F0 m 112 ls [.int z_581, .ref o]) rfl ?_
          have hTo := hT
          refine T_put (ci := 5) (v := .int z_581) (ty := .int) (t := tI) (C := RX5) (T := TX5) (N := 8) hx hb hts inw_X2_readTest_5 tyX5 tyX5_ok nmX5 hown hK hP hD hS hT 1 rfl rfl 2 (by decide) (hts (.fieldLink RX2 79 "VatHouse$Step" "number" "I") (List.mem_of_getElem? (i := 5) (by exact rfl))) (fun _ h9 => h9) rfl (tyX5_ok 2 (by decide)) rfl rfl rfl ⟨_, rfl⟩ dX2_readTest_112 (fun f_603 H locs hP hD hS hT hE1 hrd_604 hup_605 => ?_)
          have hO5 := hO5.put hrd_604 (by simp)
          have hF := Fr.put (a := o) (ci := 5) hF hE ((hE1 o (hT.at 1 rfl).1).2.symm.trans (hT.at 1 rfl).2) (by decide) hrd_604 hup_605
          have hE := hE.tr hE1
          have hk_606 : rd f_603 h0 1 = .int ax_583 := ((Fr.put (cs := [(5, 2)]) (a := o) (ci := 5) Fr.rf Ext.rf (hTo.at 1 rfl).2 (by decide) hrd_604 hup_605).1 h0 (hTo.at 0 rfl).1 2 (hTo.at 0 rfl).2 1 (by decide)).trans hk_587
          have hk_607 : rd f_603 h0 2 = .int tn_584 := ((Fr.put (cs := [(5, 2)]) (a := o) (ci := 5) Fr.rf Ext.rf (hTo.at 1 rfl).2 (by decide) hrd_604 hup_605).1 h0 (hTo.at 0 rfl).1 2 (hTo.at 0 rfl).2 2 (by decide)).trans hk_588
          have hk_608 : rd f_603 h0 3 = .int fa_585 := ((Fr.put (cs := [(5, 2)]) (a := o) (ci := 5) Fr.rf Ext.rf (hTo.at 1 rfl).2 (by decide) hrd_604 hup_605).1 h0 (hTo.at 0 rfl).1 2 (hTo.at 0 rfl).2 3 (by decide)).trans hk_589
          have hk_609 : rd f_603 h0 4 = .int pw_586 := ((Fr.put (cs := [(5, 2)]) (a := o) (ci := 5) Fr.rf Ext.rf (hTo.at 1 rfl).2 (by decide) hrd_604 hup_605).1 h0 (hTo.at 0 rfl).1 2 (hTo.at 0 rfl).2 4 (by decide)).trans hk_590
          have hk_610 : rd f_603 tok 3 = .int zz := ((Fr.put (cs := [(5, 2)]) (a := o) (ci := 5) Fr.rf Ext.rf (hTo.at 1 rfl).2 (by decide) hrd_604 hup_605).1 tok (hTo.at 2 rfl).1 6 (hTo.at 2 rfl).2 3 (by decide)).trans hk_596
          have hk_611 : rd f_603 o 1 = .int z_425 := ((Fr.put (cs := [(5, 2)]) (a := o) (ci := 5) Fr.rf Ext.rf (hTo.at 1 rfl).2 (by decide) hrd_604 hup_605).1 o (hTo.at 1 rfl).1 5 (hTo.at 1 rfl).2 1 (by decide)).trans hk_597
          have hk_612 : rd f_603 o 2 = .int z_581 := (hrd_604 o 2).trans (if_pos ⟨rfl, rfl⟩)
          have hk_613 : rd f_603 o 3 = .int tn := ((Fr.put (cs := [(5, 2)]) (a := o) (ci := 5) Fr.rf Ext.rf (hTo.at 1 rfl).2 (by decide) hrd_604 hup_605).1 o (hTo.at 1 rfl).1 5 (hTo.at 1 rfl).2 3 (by decide)).trans hk_599
          have hk_614 : rd f_603 o 4 = .int 1 := ((Fr.put (cs := [(5, 2)]) (a := o) (ci := 5) Fr.rf Ext.rf (hTo.at 1 rfl).2 (by decide) hrd_604 hup_605).1 o (hTo.at 1 rfl).1 5 (hTo.at 1 rfl).2 4 (by decide)).trans hk_600
          exact K_v hx hb hr hlocks hP hD hK hS hT hE ⟨rfl, hF, _, _, _, _, _, _, _, _, hk_606, hk_607, hk_608, hk_609, hk_611, hk_612, hk_613, hk_614, trivial, trivial, fun h9 => (absurd ((hrel_56 (hrel_437 ((hrel_569 (hrel_593 h9)).1))).1) hrel_13), trivial, trivial, trivial, trivial, trivial, hO5, (gte_b hg1 hg2 hg3) ▸ hrq_602, fun h9 => (nlt_of_le (gte_ok h9).2.1.1 (by rw [← hRQ.K]; exact c_4)).elim⟩ (Nat.le_of_ble_eq_true rfl) (Nat.le_of_ble_eq_true rfl) dX2_readTest_115
  · refine lv_aload_n hx hb dX2_readTest_9 rfl (lv_at hl 0 rfl) ?_
    refine T_get (ci := 2) (C := RX2) (T := TX2) (N := 6) (t := tI) hx hb hts inw_X2_readTest_2 hown hK hP hT 0 rfl rfl 2 (by decide) (hts (.fieldLink RX2 44 "VatHouse$Reader" "token" "I") (List.mem_of_getElem? (i := 1) (by exact rfl))) (fun _ h9 => h9) rfl dX2_readTest_10 (fun v_617 hv_615 hr_616 => ?_)
    obtain rfl : v_617 = .int tn := hr_616.symm.trans hm_tn
    refine lv_bipush (v := 19) hx hb dX2_readTest_13 (by decide) ?_
    refine lv_icmp_le (tgt := 23) hx hb dX2_readTest_15 (by decide) (fun c_618 => ?_) (fun c_618 => ?_)
    · have hg1 : (if Kp tt ln q.1 < 15 ∨ 19 < Kp tt ln q.1 then grf 1 q else q) = q := if_neg (by rw [← hRQ.K]; rintro (h9 | h9); exact c_4 h9; exact nlt_of_le c_618 h9)
      refine lv_aload_n hx hb dX2_readTest_23 rfl (lv_at hl 1 rfl) ?_
      refine lv_aload_n hx hb dX2_readTest_24 rfl (lv_at hl 0 rfl) ?_
      refine T_get (ci := 2) (C := RX2) (T := TX2) (N := 6) (t := tI) hx hb hts inw_X2_readTest_2 hown hK hP hT 0 rfl rfl 2 (by decide) (hts (.fieldLink RX2 44 "VatHouse$Reader" "token" "I") (List.mem_of_getElem? (i := 1) (by exact rfl))) (fun _ h9 => h9) rfl dX2_readTest_25 (fun v_621 hv_619 hr_620 => ?_)
      obtain rfl : v_621 = .int tn := hr_620.symm.trans hm_tn
      have hTo := hT
      refine T_put (ci := 5) (v := .int tn) (ty := .int) (t := tI) (C := RX5) (T := TX5) (N := 8) hx hb hts inw_X2_readTest_5 tyX5 tyX5_ok nmX5 hown hK hP hD hS hT 1 rfl rfl 3 (by decide) (hts (.fieldLink RX2 94 "VatHouse$Step" "look" "I") (List.mem_of_getElem? (i := 2) (by exact rfl))) (fun _ h9 => h9) rfl (tyX5_ok 3 (by decide)) rfl rfl rfl ⟨_, rfl⟩ dX2_readTest_28 (fun f_622 H locs hP hD hS hT hE1 hrd_623 hup_624 => ?_)
      have hO5 := hO5.put hrd_623 (by simp)
      have hF := Fr.put (a := o) (ci := 5) hF hE ((hE1 o (hT.at 1 rfl).1).2.symm.trans (hT.at 1 rfl).2) (by decide) hrd_623 hup_624
      have hE := hE.tr hE1
      have hk_625 : rd f_622 h0 1 = .int ax := ((Fr.put (cs := [(5, 3)]) (a := o) (ci := 5) Fr.rf Ext.rf (hTo.at 1 rfl).2 (by decide) hrd_623 hup_624).1 h0 (hTo.at 0 rfl).1 2 (hTo.at 0 rfl).2 1 (by decide)).trans hm_ax
      have hk_626 : rd f_622 h0 2 = .int tn := ((Fr.put (cs := [(5, 3)]) (a := o) (ci := 5) Fr.rf Ext.rf (hTo.at 1 rfl).2 (by decide) hrd_623 hup_624).1 h0 (hTo.at 0 rfl).1 2 (hTo.at 0 rfl).2 2 (by decide)).trans hm_tn
      have hk_627 : rd f_622 h0 3 = .int fa := ((Fr.put (cs := [(5, 3)]) (a := o) (ci := 5) Fr.rf Ext.rf (hTo.at 1 rfl).2 (by decide) hrd_623 hup_624).1 h0 (hTo.at 0 rfl).1 2 (hTo.at 0 rfl).2 3 (by decide)).trans hm_fa
      have hk_628 : rd f_622 h0 4 = .int pw := ((Fr.put (cs := [(5, 3)]) (a := o) (ci := 5) Fr.rf Ext.rf (hTo.at 1 rfl).2 (by decide) hrd_623 hup_624).1 h0 (hTo.at 0 rfl).1 2 (hTo.at 0 rfl).2 4 (by decide)).trans hm_pw
      have hk_629 : rd f_622 tok 3 = .int zz := ((Fr.put (cs := [(5, 3)]) (a := o) (ci := 5) Fr.rf Ext.rf (hTo.at 1 rfl).2 (by decide) hrd_623 hup_624).1 tok (hTo.at 2 rfl).1 6 (hTo.at 2 rfl).2 3 (by decide)).trans hm_zz
      have hk_630 : rd f_622 o 1 = .int vt := ((Fr.put (cs := [(5, 3)]) (a := o) (ci := 5) Fr.rf Ext.rf (hTo.at 1 rfl).2 (by decide) hrd_623 hup_624).1 o (hTo.at 1 rfl).1 5 (hTo.at 1 rfl).2 1 (by decide)).trans hm_vt
      have hk_631 : rd f_622 o 2 = .int nu := ((Fr.put (cs := [(5, 3)]) (a := o) (ci := 5) Fr.rf Ext.rf (hTo.at 1 rfl).2 (by decide) hrd_623 hup_624).1 o (hTo.at 1 rfl).1 5 (hTo.at 1 rfl).2 2 (by decide)).trans hm_nu
      have hk_632 : rd f_622 o 3 = .int tn := (hrd_623 o 3).trans (if_pos ⟨rfl, rfl⟩)
      have hk_633 : rd f_622 o 4 = .int be := ((Fr.put (cs := [(5, 3)]) (a := o) (ci := 5) Fr.rf Ext.rf (hTo.at 1 rfl).2 (by decide) hrd_623 hup_624).1 o (hTo.at 1 rfl).1 5 (hTo.at 1 rfl).2 4 (by decide)).trans hm_be
      refine lv_aload_n hx hb dX2_readTest_31 rfl (lv_at hl 0 rfl) ?_
      refine lv_aload_n hx hb dX2_readTest_32 rfl (lv_at hl 0 rfl) ?_
      refine T_get (ci := 2) (C := RX2) (T := TX2) (N := 6) (t := tI) hx hb hts inw_X2_readTest_2 hown hK hP hT 0 rfl rfl 2 (by decide) (hts (.fieldLink RX2 44 "VatHouse$Reader" "token" "I") (List.mem_of_getElem? (i := 1) (by exact rfl))) (fun _ h9 => h9) rfl dX2_readTest_33 (fun v_636 hv_634 hr_635 => ?_)
      obtain rfl : v_636 = .int tn := hr_635.symm.trans hk_626
      have hTo := hT
      refine K_V ⟨hx, hb, hml, hown, hts⟩ (t_X2_pass l dC dI sa hlt g _ _ tt ln M q h0 tn tok ka sta vaa ax tn fa pw zz _ (hT.sub [0, 2, 3, 4, 5] rfl)  hk_625 hk_626 hk_627 hk_628 hk_629 ((hF.1 h0 (hT0.at 0 rfl).1 2 (hT0.at 0 rfl).2 0 (by decide)).trans h_tok) ((hF.1 tok (hT0.at 2 rfl).1 6 (hT0.at 2 rfl).2 4 (by decide)).trans h_ka) ((hF.1 tok (hT0.at 2 rfl).1 6 (hT0.at 2 rfl).2 5 (by decide)).trans h_sta) ((hF.1 tok (hT0.at 2 rfl).1 6 (hT0.at 2 rfl).2 6 (by decide)).trans h_vaa) hzz (hTK.go (hF.2 ka (hT0.at 3 rfl).1 0 _ _ (hT0.at 3 rfl).2 (by decide)) (hF.2 sta (hT0.at 4 rfl).1 0 _ _ (hT0.at 4 rfl).2 (by decide)) (hF.2 vaa (hT0.at 5 rfl).1 0 _ _ (hT0.at 5 rfl).2 (by decide))) hRQ (Or.inl (fun h9 => absurd (h9 ▸ c_4 : ¬ (0 : Int32) < 15) (by decide)))) (cwV 1 hts gX2_readTest_X2_pass rfl rfl rfl (by decide +kernel) ⟨Nat.le_of_ble_eq_true rfl, Nat.le_of_ble_eq_true rfl⟩) hP hD hK hS hA hev hT 0 2 rfl rfl rfl rfl hl.1 rfl (Nat.le_of_ble_eq_true rfl) dX2_readTest_36 ⟨Nat.le_of_ble_eq_true rfl, Nat.le_of_ble_eq_true rfl⟩ (fun r L_637 f_638 H locs hw_639 hP hD hS hT hE1 => ?_)
      have hEo := hE
      have hO5 := hO5.call hE (OF.fr hw_639.2.1 (by decide)) (by simp)
      have hF := Fr.call hF hE hw_639.2.1 (by decide)
      have hE := hE.tr hE1
      obtain ⟨rfl, hw_639⟩ := hw_639
      obtain ⟨hfr_640, ax_641, tn_642, fa_643, pw_644, hk_645, hk_646, hk_647, hk_648, hrel_649, hrel_650, hrel_651, hrel_652, hex_653⟩ := hw_639
      have hk_654 : rd f_638 tok 3 = .int zz := (hfr_640.1 tok (hTo.at 2 rfl).1 6 (hTo.at 2 rfl).2 3 (by decide)).trans hk_629
      have hk_655 : rd f_638 o 1 = .int vt := (hfr_640.1 o (hTo.at 1 rfl).1 5 (hTo.at 1 rfl).2 1 (by decide)).trans hk_630
      have hk_656 : rd f_638 o 2 = .int nu := (hfr_640.1 o (hTo.at 1 rfl).1 5 (hTo.at 1 rfl).2 2 (by decide)).trans hk_631
      have hk_657 : rd f_638 o 3 = .int tn := (hfr_640.1 o (hTo.at 1 rfl).1 5 (hTo.at 1 rfl).2 3 (by decide)).trans hk_632
      have hk_658 : rd f_638 o 4 = .int be := (hfr_640.1 o (hTo.at 1 rfl).1 5 (hTo.at 1 rfl).2 4 (by decide)).trans hk_633
      have hrq_659 : RQ tt ln M (gpa (Kp tt ln) (nq tt ln) (Kp tt ln q.1) q) ax_641 tn_642 fa_643 pw_644 := hRQ.K ▸ hex_653
      refine W.eq (g2 := F0 m 39 ls []) rfl ?_
      refine lv_aload_n hx hb dX2_readTest_39 rfl (lv_at hl 1 rfl) ?_
      refine T_get (ci := 5) (C := RX5) (T := TX5) (N := 8) (t := tI) hx hb hts inw_X2_readTest_5 hown hK hP hT 1 rfl rfl 3 (by decide) (hts (.fieldLink RX2 94 "VatHouse$Step" "look" "I") (List.mem_of_getElem? (i := 2) (by exact rfl))) (fun _ h9 => h9) rfl dX2_readTest_40 (fun v_662 hv_660 hr_661 => ?_)
      obtain rfl : v_662 = .int tn := hr_661.symm.trans hk_657
      refine lv_bipush (v := 17) hx hb dX2_readTest_43 (by decide) ?_
      refine lv_icmp_eq (tgt := 57) hx hb dX2_readTest_45 (by decide) (fun c_663 => ?_) (fun c_663 => ?_)
      · refine lv_aload_n hx hb dX2_readTest_57 rfl (lv_at hl 1 rfl) ?_
        refine lv_aload_n hx hb dX2_readTest_58 rfl (lv_at hl 0 rfl) ?_
        refine lv_iconst (v := 0) hx hb dX2_readTest_59 (by decide) ?_
        refine lv_iconst (v := 5) hx hb dX2_readTest_60 (by decide) ?_
        have hTo := hT
        refine K_V ⟨hx, hb, hml, hown, hts⟩ (t_X2_readNumber l dC dI sa hlt g _ _ tt ln M (gpa (Kp tt ln) (nq tt ln) (Kp tt ln q.1) q) h0 0 5 tok ka sta vaa ax_641 tn_642 fa_643 pw_644 zz _ (hT.sub [0, 2, 3, 4, 5] rfl)  hk_645 hk_646 hk_647 hk_648 hk_654 ((hF.1 h0 (hT0.at 0 rfl).1 2 (hT0.at 0 rfl).2 0 (by decide)).trans h_tok) ((hF.1 tok (hT0.at 2 rfl).1 6 (hT0.at 2 rfl).2 4 (by decide)).trans h_ka) ((hF.1 tok (hT0.at 2 rfl).1 6 (hT0.at 2 rfl).2 5 (by decide)).trans h_sta) ((hF.1 tok (hT0.at 2 rfl).1 6 (hT0.at 2 rfl).2 6 (by decide)).trans h_vaa) hzz (hTK.go (hF.2 ka (hT0.at 3 rfl).1 0 _ _ (hT0.at 3 rfl).2 (by decide)) (hF.2 sta (hT0.at 4 rfl).1 0 _ _ (hT0.at 4 rfl).2 (by decide)) (hF.2 vaa (hT0.at 5 rfl).1 0 _ _ (hT0.at 5 rfl).2 (by decide))) hrq_659) (cwV 2 hts gX2_readTest_X2_readNumber rfl rfl rfl (by decide +kernel) ⟨Nat.le_of_ble_eq_true rfl, Nat.le_of_ble_eq_true rfl⟩) hP hD hK hS hA hev hT 0 2 rfl rfl rfl rfl hl.1 rfl (Nat.le_of_ble_eq_true rfl) dX2_readTest_61 ⟨Nat.le_of_ble_eq_true rfl, Nat.le_of_ble_eq_true rfl⟩ (fun r L_664 f_665 H locs hw_666 hP hD hS hT hE1 => ?_)
        have hEo := hE
        have hO5 := hO5.call hE (OF.fr hw_666.2.1 (by decide)) (by simp)
        have hF := Fr.call hF hE hw_666.2.1 (by decide)
        have hE := hE.tr hE1
        obtain ⟨⟨z_667, rfl⟩, hw_666⟩ := hw_666
        obtain ⟨hfr_668, ax_669, tn_670, fa_671, pw_672, hk_673, hk_674, hk_675, hk_676, hrel_677, hrel_678, hrel_679, hrel_680, hex_681⟩ := hw_666
        have hk_682 : rd f_665 tok 3 = .int zz := (hfr_668.1 tok (hTo.at 2 rfl).1 6 (hTo.at 2 rfl).2 3 (by decide)).trans hk_654
        have hk_683 : rd f_665 o 1 = .int vt := (hfr_668.1 o (hTo.at 1 rfl).1 5 (hTo.at 1 rfl).2 1 (by decide)).trans hk_655
        have hk_684 : rd f_665 o 2 = .int nu := (hfr_668.1 o (hTo.at 1 rfl).1 5 (hTo.at 1 rfl).2 2 (by decide)).trans hk_656
        have hk_685 : rd f_665 o 3 = .int tn := (hfr_668.1 o (hTo.at 1 rfl).1 5 (hTo.at 1 rfl).2 3 (by decide)).trans hk_657
        have hk_686 : rd f_665 o 4 = .int be := (hfr_668.1 o (hTo.at 1 rfl).1 5 (hTo.at 1 rfl).2 4 (by decide)).trans hk_658
        have hzv_687 : z_667 = Vp tt ln (gpa (Kp tt ln) (nq tt ln) (Kp tt ln q.1) q).1 := sv hex_681.1
        have hrq_688 := hex_681.2
        refine W.eq (g2 := F0 m 64 ls [.int z_667, .ref o]) rfl ?_
        have hTo := hT
        refine T_put (ci := 5) (v := .int z_667) (ty := .int) (t := tI) (C := RX5) (T := TX5) (N := 8) hx hb hts inw_X2_readTest_5 tyX5 tyX5_ok nmX5 hown hK hP hD hS hT 1 rfl rfl 1 (by decide) (hts (.fieldLink RX2 76 "VatHouse$Step" "vat" "I") (List.mem_of_getElem? (i := 3) (by exact rfl))) (fun _ h9 => h9) rfl (tyX5_ok 1 (by decide)) rfl rfl rfl ⟨_, rfl⟩ dX2_readTest_64 (fun f_689 H locs hP hD hS hT hE1 hrd_690 hup_691 => ?_)
        have hO5 := hO5.put hrd_690 (by simp)
        have hF := Fr.put (a := o) (ci := 5) hF hE ((hE1 o (hT.at 1 rfl).1).2.symm.trans (hT.at 1 rfl).2) (by decide) hrd_690 hup_691
        have hE := hE.tr hE1
        have hk_692 : rd f_689 h0 1 = .int ax_669 := ((Fr.put (cs := [(5, 1)]) (a := o) (ci := 5) Fr.rf Ext.rf (hTo.at 1 rfl).2 (by decide) hrd_690 hup_691).1 h0 (hTo.at 0 rfl).1 2 (hTo.at 0 rfl).2 1 (by decide)).trans hk_673
        have hk_693 : rd f_689 h0 2 = .int tn_670 := ((Fr.put (cs := [(5, 1)]) (a := o) (ci := 5) Fr.rf Ext.rf (hTo.at 1 rfl).2 (by decide) hrd_690 hup_691).1 h0 (hTo.at 0 rfl).1 2 (hTo.at 0 rfl).2 2 (by decide)).trans hk_674
        have hk_694 : rd f_689 h0 3 = .int fa_671 := ((Fr.put (cs := [(5, 1)]) (a := o) (ci := 5) Fr.rf Ext.rf (hTo.at 1 rfl).2 (by decide) hrd_690 hup_691).1 h0 (hTo.at 0 rfl).1 2 (hTo.at 0 rfl).2 3 (by decide)).trans hk_675
        have hk_695 : rd f_689 h0 4 = .int pw_672 := ((Fr.put (cs := [(5, 1)]) (a := o) (ci := 5) Fr.rf Ext.rf (hTo.at 1 rfl).2 (by decide) hrd_690 hup_691).1 h0 (hTo.at 0 rfl).1 2 (hTo.at 0 rfl).2 4 (by decide)).trans hk_676
        have hk_696 : rd f_689 tok 3 = .int zz := ((Fr.put (cs := [(5, 1)]) (a := o) (ci := 5) Fr.rf Ext.rf (hTo.at 1 rfl).2 (by decide) hrd_690 hup_691).1 tok (hTo.at 2 rfl).1 6 (hTo.at 2 rfl).2 3 (by decide)).trans hk_682
        have hk_697 : rd f_689 o 1 = .int z_667 := (hrd_690 o 1).trans (if_pos ⟨rfl, rfl⟩)
        have hk_698 : rd f_689 o 2 = .int nu := ((Fr.put (cs := [(5, 1)]) (a := o) (ci := 5) Fr.rf Ext.rf (hTo.at 1 rfl).2 (by decide) hrd_690 hup_691).1 o (hTo.at 1 rfl).1 5 (hTo.at 1 rfl).2 2 (by decide)).trans hk_684
        have hk_699 : rd f_689 o 3 = .int tn := ((Fr.put (cs := [(5, 1)]) (a := o) (ci := 5) Fr.rf Ext.rf (hTo.at 1 rfl).2 (by decide) hrd_690 hup_691).1 o (hTo.at 1 rfl).1 5 (hTo.at 1 rfl).2 3 (by decide)).trans hk_685
        have hk_700 : rd f_689 o 4 = .int be := ((Fr.put (cs := [(5, 1)]) (a := o) (ci := 5) Fr.rf Ext.rf (hTo.at 1 rfl).2 (by decide) hrd_690 hup_691).1 o (hTo.at 1 rfl).1 5 (hTo.at 1 rfl).2 4 (by decide)).trans hk_686
        have hg2 : gte2 (Kp tt ln) (Vp tt ln) (nq tt ln) (Kp tt ln q.1) (gpa (Kp tt ln) (nq tt ln) (Kp tt ln q.1) q) = (gnu (Kp tt ln) (Vp tt ln) (nq tt ln) 0 5 (gpa (Kp tt ln) (nq tt ln) (Kp tt ln q.1) q)) := if_pos (Or.inl (by rw [← hRQ.K]; exact c_663))
        refine lv_aload_n hx hb dX2_readTest_67 rfl (lv_at hl 1 rfl) ?_
        refine lv_aload_n hx hb dX2_readTest_68 rfl (lv_at hl 0 rfl) ?_
        refine T_get (ci := 2) (C := RX2) (T := TX2) (N := 6) (t := tI) hx hb hts inw_X2_readTest_2 hown hK hP hT 0 rfl rfl 2 (by decide) (hts (.fieldLink RX2 44 "VatHouse$Reader" "token" "I") (List.mem_of_getElem? (i := 1) (by exact rfl))) (fun _ h9 => h9) rfl dX2_readTest_69 (fun v_703 hv_701 hr_702 => ?_)
        obtain rfl : v_703 = .int tn_670 := hr_702.symm.trans hk_693
        refine lv_bipush (v := 60) hx hb dX2_readTest_72 (by decide) ?_
        refine lv_icmp_ne (tgt := 81) hx hb dX2_readTest_74 (by decide) (fun c_704 => ?_) (fun c_704 => ?_)
        · refine lv_iconst (v := 0) hx hb dX2_readTest_81 (by decide) ?_
          have hTo := hT
          refine T_put (ci := 5) (v := .int 0) (ty := .boolean) (t := tI) (C := RX5) (T := TX5) (N := 8) hx hb hts inw_X2_readTest_5 tyX5 tyX5_ok nmX5 hown hK hP hD hS hT 1 rfl rfl 4 (by decide) (hts (.fieldLink RX2 97 "VatHouse$Step" "below" "Z") (List.mem_of_getElem? (i := 4) (by exact rfl))) (fun _ h9 => h9) rfl (tyX5_ok 4 (by decide)) rfl rfl rfl ⟨_, rfl⟩ dX2_readTest_82 (fun f_705 H locs hP hD hS hT hE1 hrd_706 hup_707 => ?_)
          have hO5 := hO5.put hrd_706 (by simp)
          have hF := Fr.put (a := o) (ci := 5) hF hE ((hE1 o (hT.at 1 rfl).1).2.symm.trans (hT.at 1 rfl).2) (by decide) hrd_706 hup_707
          have hE := hE.tr hE1
          have hk_708 : rd f_705 h0 1 = .int ax_669 := ((Fr.put (cs := [(5, 4)]) (a := o) (ci := 5) Fr.rf Ext.rf (hTo.at 1 rfl).2 (by decide) hrd_706 hup_707).1 h0 (hTo.at 0 rfl).1 2 (hTo.at 0 rfl).2 1 (by decide)).trans hk_692
          have hk_709 : rd f_705 h0 2 = .int tn_670 := ((Fr.put (cs := [(5, 4)]) (a := o) (ci := 5) Fr.rf Ext.rf (hTo.at 1 rfl).2 (by decide) hrd_706 hup_707).1 h0 (hTo.at 0 rfl).1 2 (hTo.at 0 rfl).2 2 (by decide)).trans hk_693
          have hk_710 : rd f_705 h0 3 = .int fa_671 := ((Fr.put (cs := [(5, 4)]) (a := o) (ci := 5) Fr.rf Ext.rf (hTo.at 1 rfl).2 (by decide) hrd_706 hup_707).1 h0 (hTo.at 0 rfl).1 2 (hTo.at 0 rfl).2 3 (by decide)).trans hk_694
          have hk_711 : rd f_705 h0 4 = .int pw_672 := ((Fr.put (cs := [(5, 4)]) (a := o) (ci := 5) Fr.rf Ext.rf (hTo.at 1 rfl).2 (by decide) hrd_706 hup_707).1 h0 (hTo.at 0 rfl).1 2 (hTo.at 0 rfl).2 4 (by decide)).trans hk_695
          have hk_712 : rd f_705 tok 3 = .int zz := ((Fr.put (cs := [(5, 4)]) (a := o) (ci := 5) Fr.rf Ext.rf (hTo.at 1 rfl).2 (by decide) hrd_706 hup_707).1 tok (hTo.at 2 rfl).1 6 (hTo.at 2 rfl).2 3 (by decide)).trans hk_696
          have hk_713 : rd f_705 o 1 = .int z_667 := ((Fr.put (cs := [(5, 4)]) (a := o) (ci := 5) Fr.rf Ext.rf (hTo.at 1 rfl).2 (by decide) hrd_706 hup_707).1 o (hTo.at 1 rfl).1 5 (hTo.at 1 rfl).2 1 (by decide)).trans hk_697
          have hk_714 : rd f_705 o 2 = .int nu := ((Fr.put (cs := [(5, 4)]) (a := o) (ci := 5) Fr.rf Ext.rf (hTo.at 1 rfl).2 (by decide) hrd_706 hup_707).1 o (hTo.at 1 rfl).1 5 (hTo.at 1 rfl).2 2 (by decide)).trans hk_698
          have hk_715 : rd f_705 o 3 = .int tn := ((Fr.put (cs := [(5, 4)]) (a := o) (ci := 5) Fr.rf Ext.rf (hTo.at 1 rfl).2 (by decide) hrd_706 hup_707).1 o (hTo.at 1 rfl).1 5 (hTo.at 1 rfl).2 3 (by decide)).trans hk_699
          have hk_716 : rd f_705 o 4 = .int 0 := (hrd_706 o 4).trans (if_pos ⟨rfl, rfl⟩)
          have hg3 : (if Kp tt ln (gnu (Kp tt ln) (Vp tt ln) (nq tt ln) 0 5 (gpa (Kp tt ln) (nq tt ln) (Kp tt ln q.1) q)).1 = 60 then (60 : Int32) else 61) = 61 := if_neg (by rw [← hrq_688.K]; exact c_704)
          have hg4 : (0 : Int32) = if Kp tt ln (gnu (Kp tt ln) (Vp tt ln) (nq tt ln) 0 5 (gpa (Kp tt ln) (nq tt ln) (Kp tt ln q.1) q)).1 = 60 then 1 else 0 := (if_neg (by rw [← hrq_688.K]; exact c_704)).symm
          refine lv_aload_n hx hb dX2_readTest_85 rfl (lv_at hl 0 rfl) ?_
          refine lv_aload_n hx hb dX2_readTest_86 rfl (lv_at hl 1 rfl) ?_
          refine T_get (ci := 5) (C := RX5) (T := TX5) (N := 8) (t := tI) hx hb hts inw_X2_readTest_5 hown hK hP hT 1 rfl rfl 4 (by decide) (hts (.fieldLink RX2 97 "VatHouse$Step" "below" "Z") (List.mem_of_getElem? (i := 4) (by exact rfl))) (fun _ h9 => h9) rfl dX2_readTest_87 (fun v_719 hv_717 hr_718 => ?_)
          obtain rfl : v_719 = .int 0 := hr_718.symm.trans hk_716
          refine lv_if_eq (tgt := 98) hx hb dX2_readTest_90 (by decide) (fun c_720 => ?_) (fun c_720 => ?_)
          rotate_left
          · exact absurd c_720 (by decide)
          refine lv_bipush (v := 61) hx hb dX2_readTest_98 (by decide) ?_
          have hTo := hT
          refine K_V ⟨hx, hb, hml, hown, hts⟩ (t_X2_pass l dC dI sa hlt g _ _ tt ln M (gnu (Kp tt ln) (Vp tt ln) (nq tt ln) 0 5 (gpa (Kp tt ln) (nq tt ln) (Kp tt ln q.1) q)) h0 61 tok ka sta vaa ax_669 tn_670 fa_671 pw_672 zz _ (hT.sub [0, 2, 3, 4, 5] rfl)  hk_708 hk_709 hk_710 hk_711 hk_712 ((hF.1 h0 (hT0.at 0 rfl).1 2 (hT0.at 0 rfl).2 0 (by decide)).trans h_tok) ((hF.1 tok (hT0.at 2 rfl).1 6 (hT0.at 2 rfl).2 4 (by decide)).trans h_ka) ((hF.1 tok (hT0.at 2 rfl).1 6 (hT0.at 2 rfl).2 5 (by decide)).trans h_sta) ((hF.1 tok (hT0.at 2 rfl).1 6 (hT0.at 2 rfl).2 6 (by decide)).trans h_vaa) hzz (hTK.go (hF.2 ka (hT0.at 3 rfl).1 0 _ _ (hT0.at 3 rfl).2 (by decide)) (hF.2 sta (hT0.at 4 rfl).1 0 _ _ (hT0.at 4 rfl).2 (by decide)) (hF.2 vaa (hT0.at 5 rfl).1 0 _ _ (hT0.at 5 rfl).2 (by decide))) hrq_688 (Or.inl (by decide))) (cwV 1 hts gX2_readTest_X2_pass rfl rfl rfl (by decide +kernel) ⟨Nat.le_of_ble_eq_true rfl, Nat.le_of_ble_eq_true rfl⟩) hP hD hK hS hA hev hT 0 2 rfl rfl rfl rfl hl.1 rfl (Nat.le_of_ble_eq_true rfl) dX2_readTest_100 ⟨Nat.le_of_ble_eq_true rfl, Nat.le_of_ble_eq_true rfl⟩ (fun r L_721 f_722 H locs hw_723 hP hD hS hT hE1 => ?_)
          have hEo := hE
          have hO5 := hO5.call hE (OF.fr hw_723.2.1 (by decide)) (by simp)
          have hF := Fr.call hF hE hw_723.2.1 (by decide)
          have hE := hE.tr hE1
          obtain ⟨rfl, hw_723⟩ := hw_723
          obtain ⟨hfr_724, ax_725, tn_726, fa_727, pw_728, hk_729, hk_730, hk_731, hk_732, hrel_733, hrel_734, hrel_735, hrel_736, hex_737⟩ := hw_723
          have hk_738 : rd f_722 tok 3 = .int zz := (hfr_724.1 tok (hTo.at 2 rfl).1 6 (hTo.at 2 rfl).2 3 (by decide)).trans hk_712
          have hk_739 : rd f_722 o 1 = .int z_667 := (hfr_724.1 o (hTo.at 1 rfl).1 5 (hTo.at 1 rfl).2 1 (by decide)).trans hk_713
          have hk_740 : rd f_722 o 2 = .int nu := (hfr_724.1 o (hTo.at 1 rfl).1 5 (hTo.at 1 rfl).2 2 (by decide)).trans hk_714
          have hk_741 : rd f_722 o 3 = .int tn := (hfr_724.1 o (hTo.at 1 rfl).1 5 (hTo.at 1 rfl).2 3 (by decide)).trans hk_715
          have hk_742 : rd f_722 o 4 = .int 0 := (hfr_724.1 o (hTo.at 1 rfl).1 5 (hTo.at 1 rfl).2 4 (by decide)).trans hk_716
          have hrq_743 := hex_737
          refine W.eq (g2 := F0 m 103 ls []) rfl ?_
          refine lv_aload_n hx hb dX2_readTest_103 rfl (lv_at hl 1 rfl) ?_
          refine lv_aload_n hx hb dX2_readTest_104 rfl (lv_at hl 0 rfl) ?_
          refine lv_iconst (v := 0) hx hb dX2_readTest_105 (by decide) ?_
          refine lv_sipush (v := 9999) hx hb dX2_readTest_106 (by decide) ?_
          have hTo := hT
          refine K_V ⟨hx, hb, hml, hown, hts⟩ (t_X2_readNumber l dC dI sa hlt g _ _ tt ln M (gpa (Kp tt ln) (nq tt ln) 61 (gnu (Kp tt ln) (Vp tt ln) (nq tt ln) 0 5 (gpa (Kp tt ln) (nq tt ln) (Kp tt ln q.1) q))) h0 0 9999 tok ka sta vaa ax_725 tn_726 fa_727 pw_728 zz _ (hT.sub [0, 2, 3, 4, 5] rfl)  hk_729 hk_730 hk_731 hk_732 hk_738 ((hF.1 h0 (hT0.at 0 rfl).1 2 (hT0.at 0 rfl).2 0 (by decide)).trans h_tok) ((hF.1 tok (hT0.at 2 rfl).1 6 (hT0.at 2 rfl).2 4 (by decide)).trans h_ka) ((hF.1 tok (hT0.at 2 rfl).1 6 (hT0.at 2 rfl).2 5 (by decide)).trans h_sta) ((hF.1 tok (hT0.at 2 rfl).1 6 (hT0.at 2 rfl).2 6 (by decide)).trans h_vaa) hzz (hTK.go (hF.2 ka (hT0.at 3 rfl).1 0 _ _ (hT0.at 3 rfl).2 (by decide)) (hF.2 sta (hT0.at 4 rfl).1 0 _ _ (hT0.at 4 rfl).2 (by decide)) (hF.2 vaa (hT0.at 5 rfl).1 0 _ _ (hT0.at 5 rfl).2 (by decide))) hrq_743) (cwV 2 hts gX2_readTest_X2_readNumber rfl rfl rfl (by decide +kernel) ⟨Nat.le_of_ble_eq_true rfl, Nat.le_of_ble_eq_true rfl⟩) hP hD hK hS hA hev hT 0 2 rfl rfl rfl rfl hl.1 rfl (Nat.le_of_ble_eq_true rfl) dX2_readTest_109 ⟨Nat.le_of_ble_eq_true rfl, Nat.le_of_ble_eq_true rfl⟩ (fun r L_744 f_745 H locs hw_746 hP hD hS hT hE1 => ?_)
          have hEo := hE
          have hO5 := hO5.call hE (OF.fr hw_746.2.1 (by decide)) (by simp)
          have hF := Fr.call hF hE hw_746.2.1 (by decide)
          have hE := hE.tr hE1
          obtain ⟨⟨z_747, rfl⟩, hw_746⟩ := hw_746
          obtain ⟨hfr_748, ax_749, tn_750, fa_751, pw_752, hk_753, hk_754, hk_755, hk_756, hrel_757, hrel_758, hrel_759, hrel_760, hex_761⟩ := hw_746
          have hk_762 : rd f_745 tok 3 = .int zz := (hfr_748.1 tok (hTo.at 2 rfl).1 6 (hTo.at 2 rfl).2 3 (by decide)).trans hk_738
          have hk_763 : rd f_745 o 1 = .int z_667 := (hfr_748.1 o (hTo.at 1 rfl).1 5 (hTo.at 1 rfl).2 1 (by decide)).trans hk_739
          have hk_764 : rd f_745 o 2 = .int nu := (hfr_748.1 o (hTo.at 1 rfl).1 5 (hTo.at 1 rfl).2 2 (by decide)).trans hk_740
          have hk_765 : rd f_745 o 3 = .int tn := (hfr_748.1 o (hTo.at 1 rfl).1 5 (hTo.at 1 rfl).2 3 (by decide)).trans hk_741
          have hk_766 : rd f_745 o 4 = .int 0 := (hfr_748.1 o (hTo.at 1 rfl).1 5 (hTo.at 1 rfl).2 4 (by decide)).trans hk_742
          have hzv_767 : z_747 = Vp tt ln (gpa (Kp tt ln) (nq tt ln) 61 (gnu (Kp tt ln) (Vp tt ln) (nq tt ln) 0 5 (gpa (Kp tt ln) (nq tt ln) (Kp tt ln q.1) q))).1 := sv hex_761.1
          have hrq_768 := hex_761.2
          refine W.eq (g2 := F0 m 112 ls [.int z_747, .ref o]) rfl ?_
          have hTo := hT
          refine T_put (ci := 5) (v := .int z_747) (ty := .int) (t := tI) (C := RX5) (T := TX5) (N := 8) hx hb hts inw_X2_readTest_5 tyX5 tyX5_ok nmX5 hown hK hP hD hS hT 1 rfl rfl 2 (by decide) (hts (.fieldLink RX2 79 "VatHouse$Step" "number" "I") (List.mem_of_getElem? (i := 5) (by exact rfl))) (fun _ h9 => h9) rfl (tyX5_ok 2 (by decide)) rfl rfl rfl ⟨_, rfl⟩ dX2_readTest_112 (fun f_769 H locs hP hD hS hT hE1 hrd_770 hup_771 => ?_)
          have hO5 := hO5.put hrd_770 (by simp)
          have hF := Fr.put (a := o) (ci := 5) hF hE ((hE1 o (hT.at 1 rfl).1).2.symm.trans (hT.at 1 rfl).2) (by decide) hrd_770 hup_771
          have hE := hE.tr hE1
          have hk_772 : rd f_769 h0 1 = .int ax_749 := ((Fr.put (cs := [(5, 2)]) (a := o) (ci := 5) Fr.rf Ext.rf (hTo.at 1 rfl).2 (by decide) hrd_770 hup_771).1 h0 (hTo.at 0 rfl).1 2 (hTo.at 0 rfl).2 1 (by decide)).trans hk_753
          have hk_773 : rd f_769 h0 2 = .int tn_750 := ((Fr.put (cs := [(5, 2)]) (a := o) (ci := 5) Fr.rf Ext.rf (hTo.at 1 rfl).2 (by decide) hrd_770 hup_771).1 h0 (hTo.at 0 rfl).1 2 (hTo.at 0 rfl).2 2 (by decide)).trans hk_754
          have hk_774 : rd f_769 h0 3 = .int fa_751 := ((Fr.put (cs := [(5, 2)]) (a := o) (ci := 5) Fr.rf Ext.rf (hTo.at 1 rfl).2 (by decide) hrd_770 hup_771).1 h0 (hTo.at 0 rfl).1 2 (hTo.at 0 rfl).2 3 (by decide)).trans hk_755
          have hk_775 : rd f_769 h0 4 = .int pw_752 := ((Fr.put (cs := [(5, 2)]) (a := o) (ci := 5) Fr.rf Ext.rf (hTo.at 1 rfl).2 (by decide) hrd_770 hup_771).1 h0 (hTo.at 0 rfl).1 2 (hTo.at 0 rfl).2 4 (by decide)).trans hk_756
          have hk_776 : rd f_769 tok 3 = .int zz := ((Fr.put (cs := [(5, 2)]) (a := o) (ci := 5) Fr.rf Ext.rf (hTo.at 1 rfl).2 (by decide) hrd_770 hup_771).1 tok (hTo.at 2 rfl).1 6 (hTo.at 2 rfl).2 3 (by decide)).trans hk_762
          have hk_777 : rd f_769 o 1 = .int z_667 := ((Fr.put (cs := [(5, 2)]) (a := o) (ci := 5) Fr.rf Ext.rf (hTo.at 1 rfl).2 (by decide) hrd_770 hup_771).1 o (hTo.at 1 rfl).1 5 (hTo.at 1 rfl).2 1 (by decide)).trans hk_763
          have hk_778 : rd f_769 o 2 = .int z_747 := (hrd_770 o 2).trans (if_pos ⟨rfl, rfl⟩)
          have hk_779 : rd f_769 o 3 = .int tn := ((Fr.put (cs := [(5, 2)]) (a := o) (ci := 5) Fr.rf Ext.rf (hTo.at 1 rfl).2 (by decide) hrd_770 hup_771).1 o (hTo.at 1 rfl).1 5 (hTo.at 1 rfl).2 3 (by decide)).trans hk_765
          have hk_780 : rd f_769 o 4 = .int 0 := ((Fr.put (cs := [(5, 2)]) (a := o) (ci := 5) Fr.rf Ext.rf (hTo.at 1 rfl).2 (by decide) hrd_770 hup_771).1 o (hTo.at 1 rfl).1 5 (hTo.at 1 rfl).2 4 (by decide)).trans hk_766
          exact K_v hx hb hr hlocks hP hD hK hS hT hE ⟨rfl, hF, _, _, _, _, _, _, _, _, hk_772, hk_773, hk_774, hk_775, hk_777, hk_778, hk_779, hk_780, trivial, trivial, fun h9 => ((hrel_651 (hrel_679 ((hrel_735 (hrel_759 h9)).1))).1), trivial, trivial, trivial, trivial, trivial, hO5, (gte_b hg1 hg2 hg3) ▸ hrq_768, fun h9 => ctT_of h9 hg2 hg3 hRQ.K (fun _ => hzv_687) hg4 hzv_767⟩ (Nat.le_of_ble_eq_true rfl) (Nat.le_of_ble_eq_true rfl) dX2_readTest_115
        · refine lv_iconst (v := 1) hx hb dX2_readTest_77 (by decide) ?_
          refine lv_goto (tgt := 82) hx hb dX2_readTest_78 (by decide) ?_
          have hTo := hT
          refine T_put (ci := 5) (v := .int 1) (ty := .boolean) (t := tI) (C := RX5) (T := TX5) (N := 8) hx hb hts inw_X2_readTest_5 tyX5 tyX5_ok nmX5 hown hK hP hD hS hT 1 rfl rfl 4 (by decide) (hts (.fieldLink RX2 97 "VatHouse$Step" "below" "Z") (List.mem_of_getElem? (i := 4) (by exact rfl))) (fun _ h9 => h9) rfl (tyX5_ok 4 (by decide)) rfl rfl rfl ⟨_, rfl⟩ dX2_readTest_82 (fun f_781 H locs hP hD hS hT hE1 hrd_782 hup_783 => ?_)
          have hO5 := hO5.put hrd_782 (by simp)
          have hF := Fr.put (a := o) (ci := 5) hF hE ((hE1 o (hT.at 1 rfl).1).2.symm.trans (hT.at 1 rfl).2) (by decide) hrd_782 hup_783
          have hE := hE.tr hE1
          have hk_784 : rd f_781 h0 1 = .int ax_669 := ((Fr.put (cs := [(5, 4)]) (a := o) (ci := 5) Fr.rf Ext.rf (hTo.at 1 rfl).2 (by decide) hrd_782 hup_783).1 h0 (hTo.at 0 rfl).1 2 (hTo.at 0 rfl).2 1 (by decide)).trans hk_692
          have hk_785 : rd f_781 h0 2 = .int tn_670 := ((Fr.put (cs := [(5, 4)]) (a := o) (ci := 5) Fr.rf Ext.rf (hTo.at 1 rfl).2 (by decide) hrd_782 hup_783).1 h0 (hTo.at 0 rfl).1 2 (hTo.at 0 rfl).2 2 (by decide)).trans hk_693
          have hk_786 : rd f_781 h0 3 = .int fa_671 := ((Fr.put (cs := [(5, 4)]) (a := o) (ci := 5) Fr.rf Ext.rf (hTo.at 1 rfl).2 (by decide) hrd_782 hup_783).1 h0 (hTo.at 0 rfl).1 2 (hTo.at 0 rfl).2 3 (by decide)).trans hk_694
          have hk_787 : rd f_781 h0 4 = .int pw_672 := ((Fr.put (cs := [(5, 4)]) (a := o) (ci := 5) Fr.rf Ext.rf (hTo.at 1 rfl).2 (by decide) hrd_782 hup_783).1 h0 (hTo.at 0 rfl).1 2 (hTo.at 0 rfl).2 4 (by decide)).trans hk_695
          have hk_788 : rd f_781 tok 3 = .int zz := ((Fr.put (cs := [(5, 4)]) (a := o) (ci := 5) Fr.rf Ext.rf (hTo.at 1 rfl).2 (by decide) hrd_782 hup_783).1 tok (hTo.at 2 rfl).1 6 (hTo.at 2 rfl).2 3 (by decide)).trans hk_696
          have hk_789 : rd f_781 o 1 = .int z_667 := ((Fr.put (cs := [(5, 4)]) (a := o) (ci := 5) Fr.rf Ext.rf (hTo.at 1 rfl).2 (by decide) hrd_782 hup_783).1 o (hTo.at 1 rfl).1 5 (hTo.at 1 rfl).2 1 (by decide)).trans hk_697
          have hk_790 : rd f_781 o 2 = .int nu := ((Fr.put (cs := [(5, 4)]) (a := o) (ci := 5) Fr.rf Ext.rf (hTo.at 1 rfl).2 (by decide) hrd_782 hup_783).1 o (hTo.at 1 rfl).1 5 (hTo.at 1 rfl).2 2 (by decide)).trans hk_698
          have hk_791 : rd f_781 o 3 = .int tn := ((Fr.put (cs := [(5, 4)]) (a := o) (ci := 5) Fr.rf Ext.rf (hTo.at 1 rfl).2 (by decide) hrd_782 hup_783).1 o (hTo.at 1 rfl).1 5 (hTo.at 1 rfl).2 3 (by decide)).trans hk_699
          have hk_792 : rd f_781 o 4 = .int 1 := (hrd_782 o 4).trans (if_pos ⟨rfl, rfl⟩)
          have hg3 : (if Kp tt ln (gnu (Kp tt ln) (Vp tt ln) (nq tt ln) 0 5 (gpa (Kp tt ln) (nq tt ln) (Kp tt ln q.1) q)).1 = 60 then (60 : Int32) else 61) = 60 := if_pos (by rw [← hrq_688.K]; exact c_704)
          have hg4 : (1 : Int32) = if Kp tt ln (gnu (Kp tt ln) (Vp tt ln) (nq tt ln) 0 5 (gpa (Kp tt ln) (nq tt ln) (Kp tt ln q.1) q)).1 = 60 then 1 else 0 := (if_pos (by rw [← hrq_688.K]; exact c_704)).symm
          refine lv_aload_n hx hb dX2_readTest_85 rfl (lv_at hl 0 rfl) ?_
          refine lv_aload_n hx hb dX2_readTest_86 rfl (lv_at hl 1 rfl) ?_
          refine T_get (ci := 5) (C := RX5) (T := TX5) (N := 8) (t := tI) hx hb hts inw_X2_readTest_5 hown hK hP hT 1 rfl rfl 4 (by decide) (hts (.fieldLink RX2 97 "VatHouse$Step" "below" "Z") (List.mem_of_getElem? (i := 4) (by exact rfl))) (fun _ h9 => h9) rfl dX2_readTest_87 (fun v_795 hv_793 hr_794 => ?_)
          obtain rfl : v_795 = .int 1 := hr_794.symm.trans hk_792
          refine lv_if_eq (tgt := 98) hx hb dX2_readTest_90 (by decide) (fun c_796 => ?_) (fun c_796 => ?_)
          · exact absurd c_796 (by decide)
          refine lv_bipush (v := 60) hx hb dX2_readTest_93 (by decide) ?_
          refine lv_goto (tgt := 100) hx hb dX2_readTest_95 (by decide) ?_
          have hTo := hT
          refine K_V ⟨hx, hb, hml, hown, hts⟩ (t_X2_pass l dC dI sa hlt g _ _ tt ln M (gnu (Kp tt ln) (Vp tt ln) (nq tt ln) 0 5 (gpa (Kp tt ln) (nq tt ln) (Kp tt ln q.1) q)) h0 60 tok ka sta vaa ax_669 tn_670 fa_671 pw_672 zz _ (hT.sub [0, 2, 3, 4, 5] rfl)  hk_784 hk_785 hk_786 hk_787 hk_788 ((hF.1 h0 (hT0.at 0 rfl).1 2 (hT0.at 0 rfl).2 0 (by decide)).trans h_tok) ((hF.1 tok (hT0.at 2 rfl).1 6 (hT0.at 2 rfl).2 4 (by decide)).trans h_ka) ((hF.1 tok (hT0.at 2 rfl).1 6 (hT0.at 2 rfl).2 5 (by decide)).trans h_sta) ((hF.1 tok (hT0.at 2 rfl).1 6 (hT0.at 2 rfl).2 6 (by decide)).trans h_vaa) hzz (hTK.go (hF.2 ka (hT0.at 3 rfl).1 0 _ _ (hT0.at 3 rfl).2 (by decide)) (hF.2 sta (hT0.at 4 rfl).1 0 _ _ (hT0.at 4 rfl).2 (by decide)) (hF.2 vaa (hT0.at 5 rfl).1 0 _ _ (hT0.at 5 rfl).2 (by decide))) hrq_688 (Or.inl (by decide))) (cwV 1 hts gX2_readTest_X2_pass rfl rfl rfl (by decide +kernel) ⟨Nat.le_of_ble_eq_true rfl, Nat.le_of_ble_eq_true rfl⟩) hP hD hK hS hA hev hT 0 2 rfl rfl rfl rfl hl.1 rfl (Nat.le_of_ble_eq_true rfl) dX2_readTest_100 ⟨Nat.le_of_ble_eq_true rfl, Nat.le_of_ble_eq_true rfl⟩ (fun r L_797 f_798 H locs hw_799 hP hD hS hT hE1 => ?_)
          have hEo := hE
          have hO5 := hO5.call hE (OF.fr hw_799.2.1 (by decide)) (by simp)
          have hF := Fr.call hF hE hw_799.2.1 (by decide)
          have hE := hE.tr hE1
          obtain ⟨rfl, hw_799⟩ := hw_799
          obtain ⟨hfr_800, ax_801, tn_802, fa_803, pw_804, hk_805, hk_806, hk_807, hk_808, hrel_809, hrel_810, hrel_811, hrel_812, hex_813⟩ := hw_799
          have hk_814 : rd f_798 tok 3 = .int zz := (hfr_800.1 tok (hTo.at 2 rfl).1 6 (hTo.at 2 rfl).2 3 (by decide)).trans hk_788
          have hk_815 : rd f_798 o 1 = .int z_667 := (hfr_800.1 o (hTo.at 1 rfl).1 5 (hTo.at 1 rfl).2 1 (by decide)).trans hk_789
          have hk_816 : rd f_798 o 2 = .int nu := (hfr_800.1 o (hTo.at 1 rfl).1 5 (hTo.at 1 rfl).2 2 (by decide)).trans hk_790
          have hk_817 : rd f_798 o 3 = .int tn := (hfr_800.1 o (hTo.at 1 rfl).1 5 (hTo.at 1 rfl).2 3 (by decide)).trans hk_791
          have hk_818 : rd f_798 o 4 = .int 1 := (hfr_800.1 o (hTo.at 1 rfl).1 5 (hTo.at 1 rfl).2 4 (by decide)).trans hk_792
          have hrq_819 := hex_813
          refine W.eq (g2 := F0 m 103 ls []) rfl ?_
          refine lv_aload_n hx hb dX2_readTest_103 rfl (lv_at hl 1 rfl) ?_
          refine lv_aload_n hx hb dX2_readTest_104 rfl (lv_at hl 0 rfl) ?_
          refine lv_iconst (v := 0) hx hb dX2_readTest_105 (by decide) ?_
          refine lv_sipush (v := 9999) hx hb dX2_readTest_106 (by decide) ?_
          have hTo := hT
          refine K_V ⟨hx, hb, hml, hown, hts⟩ (t_X2_readNumber l dC dI sa hlt g _ _ tt ln M (gpa (Kp tt ln) (nq tt ln) 60 (gnu (Kp tt ln) (Vp tt ln) (nq tt ln) 0 5 (gpa (Kp tt ln) (nq tt ln) (Kp tt ln q.1) q))) h0 0 9999 tok ka sta vaa ax_801 tn_802 fa_803 pw_804 zz _ (hT.sub [0, 2, 3, 4, 5] rfl)  hk_805 hk_806 hk_807 hk_808 hk_814 ((hF.1 h0 (hT0.at 0 rfl).1 2 (hT0.at 0 rfl).2 0 (by decide)).trans h_tok) ((hF.1 tok (hT0.at 2 rfl).1 6 (hT0.at 2 rfl).2 4 (by decide)).trans h_ka) ((hF.1 tok (hT0.at 2 rfl).1 6 (hT0.at 2 rfl).2 5 (by decide)).trans h_sta) ((hF.1 tok (hT0.at 2 rfl).1 6 (hT0.at 2 rfl).2 6 (by decide)).trans h_vaa) hzz (hTK.go (hF.2 ka (hT0.at 3 rfl).1 0 _ _ (hT0.at 3 rfl).2 (by decide)) (hF.2 sta (hT0.at 4 rfl).1 0 _ _ (hT0.at 4 rfl).2 (by decide)) (hF.2 vaa (hT0.at 5 rfl).1 0 _ _ (hT0.at 5 rfl).2 (by decide))) hrq_819) (cwV 2 hts gX2_readTest_X2_readNumber rfl rfl rfl (by decide +kernel) ⟨Nat.le_of_ble_eq_true rfl, Nat.le_of_ble_eq_true rfl⟩) hP hD hK hS hA hev hT 0 2 rfl rfl rfl rfl hl.1 rfl (Nat.le_of_ble_eq_true rfl) dX2_readTest_109 ⟨Nat.le_of_ble_eq_true rfl, Nat.le_of_ble_eq_true rfl⟩ (fun r L_820 f_821 H locs hw_822 hP hD hS hT hE1 => ?_)
          have hEo := hE
          have hO5 := hO5.call hE (OF.fr hw_822.2.1 (by decide)) (by simp)
          have hF := Fr.call hF hE hw_822.2.1 (by decide)
          have hE := hE.tr hE1
          obtain ⟨⟨z_823, rfl⟩, hw_822⟩ := hw_822
          obtain ⟨hfr_824, ax_825, tn_826, fa_827, pw_828, hk_829, hk_830, hk_831, hk_832, hrel_833, hrel_834, hrel_835, hrel_836, hex_837⟩ := hw_822
          have hk_838 : rd f_821 tok 3 = .int zz := (hfr_824.1 tok (hTo.at 2 rfl).1 6 (hTo.at 2 rfl).2 3 (by decide)).trans hk_814
          have hk_839 : rd f_821 o 1 = .int z_667 := (hfr_824.1 o (hTo.at 1 rfl).1 5 (hTo.at 1 rfl).2 1 (by decide)).trans hk_815
          have hk_840 : rd f_821 o 2 = .int nu := (hfr_824.1 o (hTo.at 1 rfl).1 5 (hTo.at 1 rfl).2 2 (by decide)).trans hk_816
          have hk_841 : rd f_821 o 3 = .int tn := (hfr_824.1 o (hTo.at 1 rfl).1 5 (hTo.at 1 rfl).2 3 (by decide)).trans hk_817
          have hk_842 : rd f_821 o 4 = .int 1 := (hfr_824.1 o (hTo.at 1 rfl).1 5 (hTo.at 1 rfl).2 4 (by decide)).trans hk_818
          have hzv_843 : z_823 = Vp tt ln (gpa (Kp tt ln) (nq tt ln) 60 (gnu (Kp tt ln) (Vp tt ln) (nq tt ln) 0 5 (gpa (Kp tt ln) (nq tt ln) (Kp tt ln q.1) q))).1 := sv hex_837.1
          have hrq_844 := hex_837.2
          refine W.eq (g2 := F0 m 112 ls [.int z_823, .ref o]) rfl ?_
          have hTo := hT
          refine T_put (ci := 5) (v := .int z_823) (ty := .int) (t := tI) (C := RX5) (T := TX5) (N := 8) hx hb hts inw_X2_readTest_5 tyX5 tyX5_ok nmX5 hown hK hP hD hS hT 1 rfl rfl 2 (by decide) (hts (.fieldLink RX2 79 "VatHouse$Step" "number" "I") (List.mem_of_getElem? (i := 5) (by exact rfl))) (fun _ h9 => h9) rfl (tyX5_ok 2 (by decide)) rfl rfl rfl ⟨_, rfl⟩ dX2_readTest_112 (fun f_845 H locs hP hD hS hT hE1 hrd_846 hup_847 => ?_)
          have hO5 := hO5.put hrd_846 (by simp)
          have hF := Fr.put (a := o) (ci := 5) hF hE ((hE1 o (hT.at 1 rfl).1).2.symm.trans (hT.at 1 rfl).2) (by decide) hrd_846 hup_847
          have hE := hE.tr hE1
          have hk_848 : rd f_845 h0 1 = .int ax_825 := ((Fr.put (cs := [(5, 2)]) (a := o) (ci := 5) Fr.rf Ext.rf (hTo.at 1 rfl).2 (by decide) hrd_846 hup_847).1 h0 (hTo.at 0 rfl).1 2 (hTo.at 0 rfl).2 1 (by decide)).trans hk_829
          have hk_849 : rd f_845 h0 2 = .int tn_826 := ((Fr.put (cs := [(5, 2)]) (a := o) (ci := 5) Fr.rf Ext.rf (hTo.at 1 rfl).2 (by decide) hrd_846 hup_847).1 h0 (hTo.at 0 rfl).1 2 (hTo.at 0 rfl).2 2 (by decide)).trans hk_830
          have hk_850 : rd f_845 h0 3 = .int fa_827 := ((Fr.put (cs := [(5, 2)]) (a := o) (ci := 5) Fr.rf Ext.rf (hTo.at 1 rfl).2 (by decide) hrd_846 hup_847).1 h0 (hTo.at 0 rfl).1 2 (hTo.at 0 rfl).2 3 (by decide)).trans hk_831
          have hk_851 : rd f_845 h0 4 = .int pw_828 := ((Fr.put (cs := [(5, 2)]) (a := o) (ci := 5) Fr.rf Ext.rf (hTo.at 1 rfl).2 (by decide) hrd_846 hup_847).1 h0 (hTo.at 0 rfl).1 2 (hTo.at 0 rfl).2 4 (by decide)).trans hk_832
          have hk_852 : rd f_845 tok 3 = .int zz := ((Fr.put (cs := [(5, 2)]) (a := o) (ci := 5) Fr.rf Ext.rf (hTo.at 1 rfl).2 (by decide) hrd_846 hup_847).1 tok (hTo.at 2 rfl).1 6 (hTo.at 2 rfl).2 3 (by decide)).trans hk_838
          have hk_853 : rd f_845 o 1 = .int z_667 := ((Fr.put (cs := [(5, 2)]) (a := o) (ci := 5) Fr.rf Ext.rf (hTo.at 1 rfl).2 (by decide) hrd_846 hup_847).1 o (hTo.at 1 rfl).1 5 (hTo.at 1 rfl).2 1 (by decide)).trans hk_839
          have hk_854 : rd f_845 o 2 = .int z_823 := (hrd_846 o 2).trans (if_pos ⟨rfl, rfl⟩)
          have hk_855 : rd f_845 o 3 = .int tn := ((Fr.put (cs := [(5, 2)]) (a := o) (ci := 5) Fr.rf Ext.rf (hTo.at 1 rfl).2 (by decide) hrd_846 hup_847).1 o (hTo.at 1 rfl).1 5 (hTo.at 1 rfl).2 3 (by decide)).trans hk_841
          have hk_856 : rd f_845 o 4 = .int 1 := ((Fr.put (cs := [(5, 2)]) (a := o) (ci := 5) Fr.rf Ext.rf (hTo.at 1 rfl).2 (by decide) hrd_846 hup_847).1 o (hTo.at 1 rfl).1 5 (hTo.at 1 rfl).2 4 (by decide)).trans hk_842
          exact K_v hx hb hr hlocks hP hD hK hS hT hE ⟨rfl, hF, _, _, _, _, _, _, _, _, hk_848, hk_849, hk_850, hk_851, hk_853, hk_854, hk_855, hk_856, trivial, trivial, fun h9 => ((hrel_651 (hrel_679 ((hrel_811 (hrel_835 h9)).1))).1), trivial, trivial, trivial, trivial, trivial, hO5, (gte_b hg1 hg2 hg3) ▸ hrq_844, fun h9 => ctT_of h9 hg2 hg3 hRQ.K (fun _ => hzv_687) hg4 hzv_843⟩ (Nat.le_of_ble_eq_true rfl) (Nat.le_of_ble_eq_true rfl) dX2_readTest_115
      · refine lv_aload_n hx hb dX2_readTest_48 rfl (lv_at hl 1 rfl) ?_
        refine T_get (ci := 5) (C := RX5) (T := TX5) (N := 8) (t := tI) hx hb hts inw_X2_readTest_5 hown hK hP hT 1 rfl rfl 3 (by decide) (hts (.fieldLink RX2 94 "VatHouse$Step" "look" "I") (List.mem_of_getElem? (i := 2) (by exact rfl))) (fun _ h9 => h9) rfl dX2_readTest_49 (fun v_859 hv_857 hr_858 => ?_)
        obtain rfl : v_859 = .int tn := hr_858.symm.trans hk_657
        refine lv_bipush (v := 18) hx hb dX2_readTest_52 (by decide) ?_
        refine lv_icmp_ne (tgt := 67) hx hb dX2_readTest_54 (by decide) (fun c_860 => ?_) (fun c_860 => ?_)
        · have hg2 : gte2 (Kp tt ln) (Vp tt ln) (nq tt ln) (Kp tt ln q.1) (gpa (Kp tt ln) (nq tt ln) (Kp tt ln q.1) q) = (gpa (Kp tt ln) (nq tt ln) (Kp tt ln q.1) q) := if_neg (by rw [← hRQ.K]; rintro (h9 | h9); exact c_663 h9; exact c_860 h9)
          refine lv_aload_n hx hb dX2_readTest_67 rfl (lv_at hl 1 rfl) ?_
          refine lv_aload_n hx hb dX2_readTest_68 rfl (lv_at hl 0 rfl) ?_
          refine T_get (ci := 2) (C := RX2) (T := TX2) (N := 6) (t := tI) hx hb hts inw_X2_readTest_2 hown hK hP hT 0 rfl rfl 2 (by decide) (hts (.fieldLink RX2 44 "VatHouse$Reader" "token" "I") (List.mem_of_getElem? (i := 1) (by exact rfl))) (fun _ h9 => h9) rfl dX2_readTest_69 (fun v_863 hv_861 hr_862 => ?_)
          obtain rfl : v_863 = .int tn_642 := hr_862.symm.trans hk_646
          refine lv_bipush (v := 60) hx hb dX2_readTest_72 (by decide) ?_
          refine lv_icmp_ne (tgt := 81) hx hb dX2_readTest_74 (by decide) (fun c_864 => ?_) (fun c_864 => ?_)
          · refine lv_iconst (v := 0) hx hb dX2_readTest_81 (by decide) ?_
            have hTo := hT
            refine T_put (ci := 5) (v := .int 0) (ty := .boolean) (t := tI) (C := RX5) (T := TX5) (N := 8) hx hb hts inw_X2_readTest_5 tyX5 tyX5_ok nmX5 hown hK hP hD hS hT 1 rfl rfl 4 (by decide) (hts (.fieldLink RX2 97 "VatHouse$Step" "below" "Z") (List.mem_of_getElem? (i := 4) (by exact rfl))) (fun _ h9 => h9) rfl (tyX5_ok 4 (by decide)) rfl rfl rfl ⟨_, rfl⟩ dX2_readTest_82 (fun f_865 H locs hP hD hS hT hE1 hrd_866 hup_867 => ?_)
            have hO5 := hO5.put hrd_866 (by simp)
            have hF := Fr.put (a := o) (ci := 5) hF hE ((hE1 o (hT.at 1 rfl).1).2.symm.trans (hT.at 1 rfl).2) (by decide) hrd_866 hup_867
            have hE := hE.tr hE1
            have hk_868 : rd f_865 h0 1 = .int ax_641 := ((Fr.put (cs := [(5, 4)]) (a := o) (ci := 5) Fr.rf Ext.rf (hTo.at 1 rfl).2 (by decide) hrd_866 hup_867).1 h0 (hTo.at 0 rfl).1 2 (hTo.at 0 rfl).2 1 (by decide)).trans hk_645
            have hk_869 : rd f_865 h0 2 = .int tn_642 := ((Fr.put (cs := [(5, 4)]) (a := o) (ci := 5) Fr.rf Ext.rf (hTo.at 1 rfl).2 (by decide) hrd_866 hup_867).1 h0 (hTo.at 0 rfl).1 2 (hTo.at 0 rfl).2 2 (by decide)).trans hk_646
            have hk_870 : rd f_865 h0 3 = .int fa_643 := ((Fr.put (cs := [(5, 4)]) (a := o) (ci := 5) Fr.rf Ext.rf (hTo.at 1 rfl).2 (by decide) hrd_866 hup_867).1 h0 (hTo.at 0 rfl).1 2 (hTo.at 0 rfl).2 3 (by decide)).trans hk_647
            have hk_871 : rd f_865 h0 4 = .int pw_644 := ((Fr.put (cs := [(5, 4)]) (a := o) (ci := 5) Fr.rf Ext.rf (hTo.at 1 rfl).2 (by decide) hrd_866 hup_867).1 h0 (hTo.at 0 rfl).1 2 (hTo.at 0 rfl).2 4 (by decide)).trans hk_648
            have hk_872 : rd f_865 tok 3 = .int zz := ((Fr.put (cs := [(5, 4)]) (a := o) (ci := 5) Fr.rf Ext.rf (hTo.at 1 rfl).2 (by decide) hrd_866 hup_867).1 tok (hTo.at 2 rfl).1 6 (hTo.at 2 rfl).2 3 (by decide)).trans hk_654
            have hk_873 : rd f_865 o 1 = .int vt := ((Fr.put (cs := [(5, 4)]) (a := o) (ci := 5) Fr.rf Ext.rf (hTo.at 1 rfl).2 (by decide) hrd_866 hup_867).1 o (hTo.at 1 rfl).1 5 (hTo.at 1 rfl).2 1 (by decide)).trans hk_655
            have hk_874 : rd f_865 o 2 = .int nu := ((Fr.put (cs := [(5, 4)]) (a := o) (ci := 5) Fr.rf Ext.rf (hTo.at 1 rfl).2 (by decide) hrd_866 hup_867).1 o (hTo.at 1 rfl).1 5 (hTo.at 1 rfl).2 2 (by decide)).trans hk_656
            have hk_875 : rd f_865 o 3 = .int tn := ((Fr.put (cs := [(5, 4)]) (a := o) (ci := 5) Fr.rf Ext.rf (hTo.at 1 rfl).2 (by decide) hrd_866 hup_867).1 o (hTo.at 1 rfl).1 5 (hTo.at 1 rfl).2 3 (by decide)).trans hk_657
            have hk_876 : rd f_865 o 4 = .int 0 := (hrd_866 o 4).trans (if_pos ⟨rfl, rfl⟩)
            have hg3 : (if Kp tt ln (gpa (Kp tt ln) (nq tt ln) (Kp tt ln q.1) q).1 = 60 then (60 : Int32) else 61) = 61 := if_neg (by rw [← hrq_659.K]; exact c_864)
            have hg4 : (0 : Int32) = if Kp tt ln (gpa (Kp tt ln) (nq tt ln) (Kp tt ln q.1) q).1 = 60 then 1 else 0 := (if_neg (by rw [← hrq_659.K]; exact c_864)).symm
            refine lv_aload_n hx hb dX2_readTest_85 rfl (lv_at hl 0 rfl) ?_
            refine lv_aload_n hx hb dX2_readTest_86 rfl (lv_at hl 1 rfl) ?_
            refine T_get (ci := 5) (C := RX5) (T := TX5) (N := 8) (t := tI) hx hb hts inw_X2_readTest_5 hown hK hP hT 1 rfl rfl 4 (by decide) (hts (.fieldLink RX2 97 "VatHouse$Step" "below" "Z") (List.mem_of_getElem? (i := 4) (by exact rfl))) (fun _ h9 => h9) rfl dX2_readTest_87 (fun v_879 hv_877 hr_878 => ?_)
            obtain rfl : v_879 = .int 0 := hr_878.symm.trans hk_876
            refine lv_if_eq (tgt := 98) hx hb dX2_readTest_90 (by decide) (fun c_880 => ?_) (fun c_880 => ?_)
            rotate_left
            · exact absurd c_880 (by decide)
            refine lv_bipush (v := 61) hx hb dX2_readTest_98 (by decide) ?_
            have hTo := hT
            refine K_V ⟨hx, hb, hml, hown, hts⟩ (t_X2_pass l dC dI sa hlt g _ _ tt ln M (gpa (Kp tt ln) (nq tt ln) (Kp tt ln q.1) q) h0 61 tok ka sta vaa ax_641 tn_642 fa_643 pw_644 zz _ (hT.sub [0, 2, 3, 4, 5] rfl)  hk_868 hk_869 hk_870 hk_871 hk_872 ((hF.1 h0 (hT0.at 0 rfl).1 2 (hT0.at 0 rfl).2 0 (by decide)).trans h_tok) ((hF.1 tok (hT0.at 2 rfl).1 6 (hT0.at 2 rfl).2 4 (by decide)).trans h_ka) ((hF.1 tok (hT0.at 2 rfl).1 6 (hT0.at 2 rfl).2 5 (by decide)).trans h_sta) ((hF.1 tok (hT0.at 2 rfl).1 6 (hT0.at 2 rfl).2 6 (by decide)).trans h_vaa) hzz (hTK.go (hF.2 ka (hT0.at 3 rfl).1 0 _ _ (hT0.at 3 rfl).2 (by decide)) (hF.2 sta (hT0.at 4 rfl).1 0 _ _ (hT0.at 4 rfl).2 (by decide)) (hF.2 vaa (hT0.at 5 rfl).1 0 _ _ (hT0.at 5 rfl).2 (by decide))) hrq_659 (Or.inl (by decide))) (cwV 1 hts gX2_readTest_X2_pass rfl rfl rfl (by decide +kernel) ⟨Nat.le_of_ble_eq_true rfl, Nat.le_of_ble_eq_true rfl⟩) hP hD hK hS hA hev hT 0 2 rfl rfl rfl rfl hl.1 rfl (Nat.le_of_ble_eq_true rfl) dX2_readTest_100 ⟨Nat.le_of_ble_eq_true rfl, Nat.le_of_ble_eq_true rfl⟩ (fun r L_881 f_882 H locs hw_883 hP hD hS hT hE1 => ?_)
            have hEo := hE
            have hO5 := hO5.call hE (OF.fr hw_883.2.1 (by decide)) (by simp)
            have hF := Fr.call hF hE hw_883.2.1 (by decide)
            have hE := hE.tr hE1
            obtain ⟨rfl, hw_883⟩ := hw_883
            obtain ⟨hfr_884, ax_885, tn_886, fa_887, pw_888, hk_889, hk_890, hk_891, hk_892, hrel_893, hrel_894, hrel_895, hrel_896, hex_897⟩ := hw_883
            have hk_898 : rd f_882 tok 3 = .int zz := (hfr_884.1 tok (hTo.at 2 rfl).1 6 (hTo.at 2 rfl).2 3 (by decide)).trans hk_872
            have hk_899 : rd f_882 o 1 = .int vt := (hfr_884.1 o (hTo.at 1 rfl).1 5 (hTo.at 1 rfl).2 1 (by decide)).trans hk_873
            have hk_900 : rd f_882 o 2 = .int nu := (hfr_884.1 o (hTo.at 1 rfl).1 5 (hTo.at 1 rfl).2 2 (by decide)).trans hk_874
            have hk_901 : rd f_882 o 3 = .int tn := (hfr_884.1 o (hTo.at 1 rfl).1 5 (hTo.at 1 rfl).2 3 (by decide)).trans hk_875
            have hk_902 : rd f_882 o 4 = .int 0 := (hfr_884.1 o (hTo.at 1 rfl).1 5 (hTo.at 1 rfl).2 4 (by decide)).trans hk_876
            have hrq_903 := hex_897
            refine W.eq (g2 := F0 m 103 ls []) rfl ?_
            refine lv_aload_n hx hb dX2_readTest_103 rfl (lv_at hl 1 rfl) ?_
            refine lv_aload_n hx hb dX2_readTest_104 rfl (lv_at hl 0 rfl) ?_
            refine lv_iconst (v := 0) hx hb dX2_readTest_105 (by decide) ?_
            refine lv_sipush (v := 9999) hx hb dX2_readTest_106 (by decide) ?_
            have hTo := hT
            refine K_V ⟨hx, hb, hml, hown, hts⟩ (t_X2_readNumber l dC dI sa hlt g _ _ tt ln M (gpa (Kp tt ln) (nq tt ln) 61 (gpa (Kp tt ln) (nq tt ln) (Kp tt ln q.1) q)) h0 0 9999 tok ka sta vaa ax_885 tn_886 fa_887 pw_888 zz _ (hT.sub [0, 2, 3, 4, 5] rfl)  hk_889 hk_890 hk_891 hk_892 hk_898 ((hF.1 h0 (hT0.at 0 rfl).1 2 (hT0.at 0 rfl).2 0 (by decide)).trans h_tok) ((hF.1 tok (hT0.at 2 rfl).1 6 (hT0.at 2 rfl).2 4 (by decide)).trans h_ka) ((hF.1 tok (hT0.at 2 rfl).1 6 (hT0.at 2 rfl).2 5 (by decide)).trans h_sta) ((hF.1 tok (hT0.at 2 rfl).1 6 (hT0.at 2 rfl).2 6 (by decide)).trans h_vaa) hzz (hTK.go (hF.2 ka (hT0.at 3 rfl).1 0 _ _ (hT0.at 3 rfl).2 (by decide)) (hF.2 sta (hT0.at 4 rfl).1 0 _ _ (hT0.at 4 rfl).2 (by decide)) (hF.2 vaa (hT0.at 5 rfl).1 0 _ _ (hT0.at 5 rfl).2 (by decide))) hrq_903) (cwV 2 hts gX2_readTest_X2_readNumber rfl rfl rfl (by decide +kernel) ⟨Nat.le_of_ble_eq_true rfl, Nat.le_of_ble_eq_true rfl⟩) hP hD hK hS hA hev hT 0 2 rfl rfl rfl rfl hl.1 rfl (Nat.le_of_ble_eq_true rfl) dX2_readTest_109 ⟨Nat.le_of_ble_eq_true rfl, Nat.le_of_ble_eq_true rfl⟩ (fun r L_904 f_905 H locs hw_906 hP hD hS hT hE1 => ?_)
            have hEo := hE
            have hO5 := hO5.call hE (OF.fr hw_906.2.1 (by decide)) (by simp)
            have hF := Fr.call hF hE hw_906.2.1 (by decide)
            have hE := hE.tr hE1
            obtain ⟨⟨z_907, rfl⟩, hw_906⟩ := hw_906
            obtain ⟨hfr_908, ax_909, tn_910, fa_911, pw_912, hk_913, hk_914, hk_915, hk_916, hrel_917, hrel_918, hrel_919, hrel_920, hex_921⟩ := hw_906
            have hk_922 : rd f_905 tok 3 = .int zz := (hfr_908.1 tok (hTo.at 2 rfl).1 6 (hTo.at 2 rfl).2 3 (by decide)).trans hk_898
            have hk_923 : rd f_905 o 1 = .int vt := (hfr_908.1 o (hTo.at 1 rfl).1 5 (hTo.at 1 rfl).2 1 (by decide)).trans hk_899
            have hk_924 : rd f_905 o 2 = .int nu := (hfr_908.1 o (hTo.at 1 rfl).1 5 (hTo.at 1 rfl).2 2 (by decide)).trans hk_900
            have hk_925 : rd f_905 o 3 = .int tn := (hfr_908.1 o (hTo.at 1 rfl).1 5 (hTo.at 1 rfl).2 3 (by decide)).trans hk_901
            have hk_926 : rd f_905 o 4 = .int 0 := (hfr_908.1 o (hTo.at 1 rfl).1 5 (hTo.at 1 rfl).2 4 (by decide)).trans hk_902
            have hzv_927 : z_907 = Vp tt ln (gpa (Kp tt ln) (nq tt ln) 61 (gpa (Kp tt ln) (nq tt ln) (Kp tt ln q.1) q)).1 := sv hex_921.1
            have hrq_928 := hex_921.2
            refine W.eq (g2 := F0 m 112 ls [.int z_907, .ref o]) rfl ?_
            have hTo := hT
            refine T_put (ci := 5) (v := .int z_907) (ty := .int) (t := tI) (C := RX5) (T := TX5) (N := 8) hx hb hts inw_X2_readTest_5 tyX5 tyX5_ok nmX5 hown hK hP hD hS hT 1 rfl rfl 2 (by decide) (hts (.fieldLink RX2 79 "VatHouse$Step" "number" "I") (List.mem_of_getElem? (i := 5) (by exact rfl))) (fun _ h9 => h9) rfl (tyX5_ok 2 (by decide)) rfl rfl rfl ⟨_, rfl⟩ dX2_readTest_112 (fun f_929 H locs hP hD hS hT hE1 hrd_930 hup_931 => ?_)
            have hO5 := hO5.put hrd_930 (by simp)
            have hF := Fr.put (a := o) (ci := 5) hF hE ((hE1 o (hT.at 1 rfl).1).2.symm.trans (hT.at 1 rfl).2) (by decide) hrd_930 hup_931
            have hE := hE.tr hE1
            have hk_932 : rd f_929 h0 1 = .int ax_909 := ((Fr.put (cs := [(5, 2)]) (a := o) (ci := 5) Fr.rf Ext.rf (hTo.at 1 rfl).2 (by decide) hrd_930 hup_931).1 h0 (hTo.at 0 rfl).1 2 (hTo.at 0 rfl).2 1 (by decide)).trans hk_913
            have hk_933 : rd f_929 h0 2 = .int tn_910 := ((Fr.put (cs := [(5, 2)]) (a := o) (ci := 5) Fr.rf Ext.rf (hTo.at 1 rfl).2 (by decide) hrd_930 hup_931).1 h0 (hTo.at 0 rfl).1 2 (hTo.at 0 rfl).2 2 (by decide)).trans hk_914
            have hk_934 : rd f_929 h0 3 = .int fa_911 := ((Fr.put (cs := [(5, 2)]) (a := o) (ci := 5) Fr.rf Ext.rf (hTo.at 1 rfl).2 (by decide) hrd_930 hup_931).1 h0 (hTo.at 0 rfl).1 2 (hTo.at 0 rfl).2 3 (by decide)).trans hk_915
            have hk_935 : rd f_929 h0 4 = .int pw_912 := ((Fr.put (cs := [(5, 2)]) (a := o) (ci := 5) Fr.rf Ext.rf (hTo.at 1 rfl).2 (by decide) hrd_930 hup_931).1 h0 (hTo.at 0 rfl).1 2 (hTo.at 0 rfl).2 4 (by decide)).trans hk_916
            have hk_936 : rd f_929 tok 3 = .int zz := ((Fr.put (cs := [(5, 2)]) (a := o) (ci := 5) Fr.rf Ext.rf (hTo.at 1 rfl).2 (by decide) hrd_930 hup_931).1 tok (hTo.at 2 rfl).1 6 (hTo.at 2 rfl).2 3 (by decide)).trans hk_922
            have hk_937 : rd f_929 o 1 = .int vt := ((Fr.put (cs := [(5, 2)]) (a := o) (ci := 5) Fr.rf Ext.rf (hTo.at 1 rfl).2 (by decide) hrd_930 hup_931).1 o (hTo.at 1 rfl).1 5 (hTo.at 1 rfl).2 1 (by decide)).trans hk_923
            have hk_938 : rd f_929 o 2 = .int z_907 := (hrd_930 o 2).trans (if_pos ⟨rfl, rfl⟩)
            have hk_939 : rd f_929 o 3 = .int tn := ((Fr.put (cs := [(5, 2)]) (a := o) (ci := 5) Fr.rf Ext.rf (hTo.at 1 rfl).2 (by decide) hrd_930 hup_931).1 o (hTo.at 1 rfl).1 5 (hTo.at 1 rfl).2 3 (by decide)).trans hk_925
            have hk_940 : rd f_929 o 4 = .int 0 := ((Fr.put (cs := [(5, 2)]) (a := o) (ci := 5) Fr.rf Ext.rf (hTo.at 1 rfl).2 (by decide) hrd_930 hup_931).1 o (hTo.at 1 rfl).1 5 (hTo.at 1 rfl).2 4 (by decide)).trans hk_926
            exact K_v hx hb hr hlocks hP hD hK hS hT hE ⟨rfl, hF, _, _, _, _, _, _, _, _, hk_932, hk_933, hk_934, hk_935, hk_937, hk_938, hk_939, hk_940, trivial, trivial, fun h9 => ((hrel_651 ((hrel_895 (hrel_919 h9)).1)).1), trivial, trivial, trivial, trivial, trivial, hO5, (gte_b hg1 hg2 hg3) ▸ hrq_928, fun h9 => ctT_of h9 hg2 hg3 hRQ.K (by rw [← hRQ.K]; rintro (h8 | h8); exact absurd h8 c_663; exact absurd h8 c_860) hg4 hzv_927⟩ (Nat.le_of_ble_eq_true rfl) (Nat.le_of_ble_eq_true rfl) dX2_readTest_115
          · refine lv_iconst (v := 1) hx hb dX2_readTest_77 (by decide) ?_
            refine lv_goto (tgt := 82) hx hb dX2_readTest_78 (by decide) ?_
            have hTo := hT
            refine T_put (ci := 5) (v := .int 1) (ty := .boolean) (t := tI) (C := RX5) (T := TX5) (N := 8) hx hb hts inw_X2_readTest_5 tyX5 tyX5_ok nmX5 hown hK hP hD hS hT 1 rfl rfl 4 (by decide) (hts (.fieldLink RX2 97 "VatHouse$Step" "below" "Z") (List.mem_of_getElem? (i := 4) (by exact rfl))) (fun _ h9 => h9) rfl (tyX5_ok 4 (by decide)) rfl rfl rfl ⟨_, rfl⟩ dX2_readTest_82 (fun f_941 H locs hP hD hS hT hE1 hrd_942 hup_943 => ?_)
            have hO5 := hO5.put hrd_942 (by simp)
            have hF := Fr.put (a := o) (ci := 5) hF hE ((hE1 o (hT.at 1 rfl).1).2.symm.trans (hT.at 1 rfl).2) (by decide) hrd_942 hup_943
            have hE := hE.tr hE1
            have hk_944 : rd f_941 h0 1 = .int ax_641 := ((Fr.put (cs := [(5, 4)]) (a := o) (ci := 5) Fr.rf Ext.rf (hTo.at 1 rfl).2 (by decide) hrd_942 hup_943).1 h0 (hTo.at 0 rfl).1 2 (hTo.at 0 rfl).2 1 (by decide)).trans hk_645
            have hk_945 : rd f_941 h0 2 = .int tn_642 := ((Fr.put (cs := [(5, 4)]) (a := o) (ci := 5) Fr.rf Ext.rf (hTo.at 1 rfl).2 (by decide) hrd_942 hup_943).1 h0 (hTo.at 0 rfl).1 2 (hTo.at 0 rfl).2 2 (by decide)).trans hk_646
            have hk_946 : rd f_941 h0 3 = .int fa_643 := ((Fr.put (cs := [(5, 4)]) (a := o) (ci := 5) Fr.rf Ext.rf (hTo.at 1 rfl).2 (by decide) hrd_942 hup_943).1 h0 (hTo.at 0 rfl).1 2 (hTo.at 0 rfl).2 3 (by decide)).trans hk_647
            have hk_947 : rd f_941 h0 4 = .int pw_644 := ((Fr.put (cs := [(5, 4)]) (a := o) (ci := 5) Fr.rf Ext.rf (hTo.at 1 rfl).2 (by decide) hrd_942 hup_943).1 h0 (hTo.at 0 rfl).1 2 (hTo.at 0 rfl).2 4 (by decide)).trans hk_648
            have hk_948 : rd f_941 tok 3 = .int zz := ((Fr.put (cs := [(5, 4)]) (a := o) (ci := 5) Fr.rf Ext.rf (hTo.at 1 rfl).2 (by decide) hrd_942 hup_943).1 tok (hTo.at 2 rfl).1 6 (hTo.at 2 rfl).2 3 (by decide)).trans hk_654
            have hk_949 : rd f_941 o 1 = .int vt := ((Fr.put (cs := [(5, 4)]) (a := o) (ci := 5) Fr.rf Ext.rf (hTo.at 1 rfl).2 (by decide) hrd_942 hup_943).1 o (hTo.at 1 rfl).1 5 (hTo.at 1 rfl).2 1 (by decide)).trans hk_655
            have hk_950 : rd f_941 o 2 = .int nu := ((Fr.put (cs := [(5, 4)]) (a := o) (ci := 5) Fr.rf Ext.rf (hTo.at 1 rfl).2 (by decide) hrd_942 hup_943).1 o (hTo.at 1 rfl).1 5 (hTo.at 1 rfl).2 2 (by decide)).trans hk_656
            have hk_951 : rd f_941 o 3 = .int tn := ((Fr.put (cs := [(5, 4)]) (a := o) (ci := 5) Fr.rf Ext.rf (hTo.at 1 rfl).2 (by decide) hrd_942 hup_943).1 o (hTo.at 1 rfl).1 5 (hTo.at 1 rfl).2 3 (by decide)).trans hk_657
            have hk_952 : rd f_941 o 4 = .int 1 := (hrd_942 o 4).trans (if_pos ⟨rfl, rfl⟩)
            have hg3 : (if Kp tt ln (gpa (Kp tt ln) (nq tt ln) (Kp tt ln q.1) q).1 = 60 then (60 : Int32) else 61) = 60 := if_pos (by rw [← hrq_659.K]; exact c_864)
            have hg4 : (1 : Int32) = if Kp tt ln (gpa (Kp tt ln) (nq tt ln) (Kp tt ln q.1) q).1 = 60 then 1 else 0 := (if_pos (by rw [← hrq_659.K]; exact c_864)).symm
            refine lv_aload_n hx hb dX2_readTest_85 rfl (lv_at hl 0 rfl) ?_
            refine lv_aload_n hx hb dX2_readTest_86 rfl (lv_at hl 1 rfl) ?_
            refine T_get (ci := 5) (C := RX5) (T := TX5) (N := 8) (t := tI) hx hb hts inw_X2_readTest_5 hown hK hP hT 1 rfl rfl 4 (by decide) (hts (.fieldLink RX2 97 "VatHouse$Step" "below" "Z") (List.mem_of_getElem? (i := 4) (by exact rfl))) (fun _ h9 => h9) rfl dX2_readTest_87 (fun v_955 hv_953 hr_954 => ?_)
            obtain rfl : v_955 = .int 1 := hr_954.symm.trans hk_952
            refine lv_if_eq (tgt := 98) hx hb dX2_readTest_90 (by decide) (fun c_956 => ?_) (fun c_956 => ?_)
            · exact absurd c_956 (by decide)
            refine lv_bipush (v := 60) hx hb dX2_readTest_93 (by decide) ?_
            refine lv_goto (tgt := 100) hx hb dX2_readTest_95 (by decide) ?_
            have hTo := hT
            refine K_V ⟨hx, hb, hml, hown, hts⟩ (t_X2_pass l dC dI sa hlt g _ _ tt ln M (gpa (Kp tt ln) (nq tt ln) (Kp tt ln q.1) q) h0 60 tok ka sta vaa ax_641 tn_642 fa_643 pw_644 zz _ (hT.sub [0, 2, 3, 4, 5] rfl)  hk_944 hk_945 hk_946 hk_947 hk_948 ((hF.1 h0 (hT0.at 0 rfl).1 2 (hT0.at 0 rfl).2 0 (by decide)).trans h_tok) ((hF.1 tok (hT0.at 2 rfl).1 6 (hT0.at 2 rfl).2 4 (by decide)).trans h_ka) ((hF.1 tok (hT0.at 2 rfl).1 6 (hT0.at 2 rfl).2 5 (by decide)).trans h_sta) ((hF.1 tok (hT0.at 2 rfl).1 6 (hT0.at 2 rfl).2 6 (by decide)).trans h_vaa) hzz (hTK.go (hF.2 ka (hT0.at 3 rfl).1 0 _ _ (hT0.at 3 rfl).2 (by decide)) (hF.2 sta (hT0.at 4 rfl).1 0 _ _ (hT0.at 4 rfl).2 (by decide)) (hF.2 vaa (hT0.at 5 rfl).1 0 _ _ (hT0.at 5 rfl).2 (by decide))) hrq_659 (Or.inl (by decide))) (cwV 1 hts gX2_readTest_X2_pass rfl rfl rfl (by decide +kernel) ⟨Nat.le_of_ble_eq_true rfl, Nat.le_of_ble_eq_true rfl⟩) hP hD hK hS hA hev hT 0 2 rfl rfl rfl rfl hl.1 rfl (Nat.le_of_ble_eq_true rfl) dX2_readTest_100 ⟨Nat.le_of_ble_eq_true rfl, Nat.le_of_ble_eq_true rfl⟩ (fun r L_957 f_958 H locs hw_959 hP hD hS hT hE1 => ?_)
            have hEo := hE
            have hO5 := hO5.call hE (OF.fr hw_959.2.1 (by decide)) (by simp)
            have hF := Fr.call hF hE hw_959.2.1 (by decide)
            have hE := hE.tr hE1
            obtain ⟨rfl, hw_959⟩ := hw_959
            obtain ⟨hfr_960, ax_961, tn_962, fa_963, pw_964, hk_965, hk_966, hk_967, hk_968, hrel_969, hrel_970, hrel_971, hrel_972, hex_973⟩ := hw_959
            have hk_974 : rd f_958 tok 3 = .int zz := (hfr_960.1 tok (hTo.at 2 rfl).1 6 (hTo.at 2 rfl).2 3 (by decide)).trans hk_948
            have hk_975 : rd f_958 o 1 = .int vt := (hfr_960.1 o (hTo.at 1 rfl).1 5 (hTo.at 1 rfl).2 1 (by decide)).trans hk_949
            have hk_976 : rd f_958 o 2 = .int nu := (hfr_960.1 o (hTo.at 1 rfl).1 5 (hTo.at 1 rfl).2 2 (by decide)).trans hk_950
            have hk_977 : rd f_958 o 3 = .int tn := (hfr_960.1 o (hTo.at 1 rfl).1 5 (hTo.at 1 rfl).2 3 (by decide)).trans hk_951
            have hk_978 : rd f_958 o 4 = .int 1 := (hfr_960.1 o (hTo.at 1 rfl).1 5 (hTo.at 1 rfl).2 4 (by decide)).trans hk_952
            have hrq_979 := hex_973
            refine W.eq (g2 := F0 m 103 ls []) rfl ?_
            refine lv_aload_n hx hb dX2_readTest_103 rfl (lv_at hl 1 rfl) ?_
            refine lv_aload_n hx hb dX2_readTest_104 rfl (lv_at hl 0 rfl) ?_
            refine lv_iconst (v := 0) hx hb dX2_readTest_105 (by decide) ?_
            refine lv_sipush (v := 9999) hx hb dX2_readTest_106 (by decide) ?_
            have hTo := hT
            refine K_V ⟨hx, hb, hml, hown, hts⟩ (t_X2_readNumber l dC dI sa hlt g _ _ tt ln M (gpa (Kp tt ln) (nq tt ln) 60 (gpa (Kp tt ln) (nq tt ln) (Kp tt ln q.1) q)) h0 0 9999 tok ka sta vaa ax_961 tn_962 fa_963 pw_964 zz _ (hT.sub [0, 2, 3, 4, 5] rfl)  hk_965 hk_966 hk_967 hk_968 hk_974 ((hF.1 h0 (hT0.at 0 rfl).1 2 (hT0.at 0 rfl).2 0 (by decide)).trans h_tok) ((hF.1 tok (hT0.at 2 rfl).1 6 (hT0.at 2 rfl).2 4 (by decide)).trans h_ka) ((hF.1 tok (hT0.at 2 rfl).1 6 (hT0.at 2 rfl).2 5 (by decide)).trans h_sta) ((hF.1 tok (hT0.at 2 rfl).1 6 (hT0.at 2 rfl).2 6 (by decide)).trans h_vaa) hzz (hTK.go (hF.2 ka (hT0.at 3 rfl).1 0 _ _ (hT0.at 3 rfl).2 (by decide)) (hF.2 sta (hT0.at 4 rfl).1 0 _ _ (hT0.at 4 rfl).2 (by decide)) (hF.2 vaa (hT0.at 5 rfl).1 0 _ _ (hT0.at 5 rfl).2 (by decide))) hrq_979) (cwV 2 hts gX2_readTest_X2_readNumber rfl rfl rfl (by decide +kernel) ⟨Nat.le_of_ble_eq_true rfl, Nat.le_of_ble_eq_true rfl⟩) hP hD hK hS hA hev hT 0 2 rfl rfl rfl rfl hl.1 rfl (Nat.le_of_ble_eq_true rfl) dX2_readTest_109 ⟨Nat.le_of_ble_eq_true rfl, Nat.le_of_ble_eq_true rfl⟩ (fun r L_980 f_981 H locs hw_982 hP hD hS hT hE1 => ?_)
            have hEo := hE
            have hO5 := hO5.call hE (OF.fr hw_982.2.1 (by decide)) (by simp)
            have hF := Fr.call hF hE hw_982.2.1 (by decide)
            have hE := hE.tr hE1
            obtain ⟨⟨z_983, rfl⟩, hw_982⟩ := hw_982
            obtain ⟨hfr_984, ax_985, tn_986, fa_987, pw_988, hk_989, hk_990, hk_991, hk_992, hrel_993, hrel_994, hrel_995, hrel_996, hex_997⟩ := hw_982
            have hk_998 : rd f_981 tok 3 = .int zz := (hfr_984.1 tok (hTo.at 2 rfl).1 6 (hTo.at 2 rfl).2 3 (by decide)).trans hk_974
            have hk_999 : rd f_981 o 1 = .int vt := (hfr_984.1 o (hTo.at 1 rfl).1 5 (hTo.at 1 rfl).2 1 (by decide)).trans hk_975
            have hk_1000 : rd f_981 o 2 = .int nu := (hfr_984.1 o (hTo.at 1 rfl).1 5 (hTo.at 1 rfl).2 2 (by decide)).trans hk_976
            have hk_1001 : rd f_981 o 3 = .int tn := (hfr_984.1 o (hTo.at 1 rfl).1 5 (hTo.at 1 rfl).2 3 (by decide)).trans hk_977
            have hk_1002 : rd f_981 o 4 = .int 1 := (hfr_984.1 o (hTo.at 1 rfl).1 5 (hTo.at 1 rfl).2 4 (by decide)).trans hk_978
            have hzv_1003 : z_983 = Vp tt ln (gpa (Kp tt ln) (nq tt ln) 60 (gpa (Kp tt ln) (nq tt ln) (Kp tt ln q.1) q)).1 := sv hex_997.1
            have hrq_1004 := hex_997.2
            refine W.eq (g2 := F0 m 112 ls [.int z_983, .ref o]) rfl ?_
            have hTo := hT
            refine T_put (ci := 5) (v := .int z_983) (ty := .int) (t := tI) (C := RX5) (T := TX5) (N := 8) hx hb hts inw_X2_readTest_5 tyX5 tyX5_ok nmX5 hown hK hP hD hS hT 1 rfl rfl 2 (by decide) (hts (.fieldLink RX2 79 "VatHouse$Step" "number" "I") (List.mem_of_getElem? (i := 5) (by exact rfl))) (fun _ h9 => h9) rfl (tyX5_ok 2 (by decide)) rfl rfl rfl ⟨_, rfl⟩ dX2_readTest_112 (fun f_1005 H locs hP hD hS hT hE1 hrd_1006 hup_1007 => ?_)
            have hO5 := hO5.put hrd_1006 (by simp)
            have hF := Fr.put (a := o) (ci := 5) hF hE ((hE1 o (hT.at 1 rfl).1).2.symm.trans (hT.at 1 rfl).2) (by decide) hrd_1006 hup_1007
            have hE := hE.tr hE1
            have hk_1008 : rd f_1005 h0 1 = .int ax_985 := ((Fr.put (cs := [(5, 2)]) (a := o) (ci := 5) Fr.rf Ext.rf (hTo.at 1 rfl).2 (by decide) hrd_1006 hup_1007).1 h0 (hTo.at 0 rfl).1 2 (hTo.at 0 rfl).2 1 (by decide)).trans hk_989
            have hk_1009 : rd f_1005 h0 2 = .int tn_986 := ((Fr.put (cs := [(5, 2)]) (a := o) (ci := 5) Fr.rf Ext.rf (hTo.at 1 rfl).2 (by decide) hrd_1006 hup_1007).1 h0 (hTo.at 0 rfl).1 2 (hTo.at 0 rfl).2 2 (by decide)).trans hk_990
            have hk_1010 : rd f_1005 h0 3 = .int fa_987 := ((Fr.put (cs := [(5, 2)]) (a := o) (ci := 5) Fr.rf Ext.rf (hTo.at 1 rfl).2 (by decide) hrd_1006 hup_1007).1 h0 (hTo.at 0 rfl).1 2 (hTo.at 0 rfl).2 3 (by decide)).trans hk_991
            have hk_1011 : rd f_1005 h0 4 = .int pw_988 := ((Fr.put (cs := [(5, 2)]) (a := o) (ci := 5) Fr.rf Ext.rf (hTo.at 1 rfl).2 (by decide) hrd_1006 hup_1007).1 h0 (hTo.at 0 rfl).1 2 (hTo.at 0 rfl).2 4 (by decide)).trans hk_992
            have hk_1012 : rd f_1005 tok 3 = .int zz := ((Fr.put (cs := [(5, 2)]) (a := o) (ci := 5) Fr.rf Ext.rf (hTo.at 1 rfl).2 (by decide) hrd_1006 hup_1007).1 tok (hTo.at 2 rfl).1 6 (hTo.at 2 rfl).2 3 (by decide)).trans hk_998
            have hk_1013 : rd f_1005 o 1 = .int vt := ((Fr.put (cs := [(5, 2)]) (a := o) (ci := 5) Fr.rf Ext.rf (hTo.at 1 rfl).2 (by decide) hrd_1006 hup_1007).1 o (hTo.at 1 rfl).1 5 (hTo.at 1 rfl).2 1 (by decide)).trans hk_999
            have hk_1014 : rd f_1005 o 2 = .int z_983 := (hrd_1006 o 2).trans (if_pos ⟨rfl, rfl⟩)
            have hk_1015 : rd f_1005 o 3 = .int tn := ((Fr.put (cs := [(5, 2)]) (a := o) (ci := 5) Fr.rf Ext.rf (hTo.at 1 rfl).2 (by decide) hrd_1006 hup_1007).1 o (hTo.at 1 rfl).1 5 (hTo.at 1 rfl).2 3 (by decide)).trans hk_1001
            have hk_1016 : rd f_1005 o 4 = .int 1 := ((Fr.put (cs := [(5, 2)]) (a := o) (ci := 5) Fr.rf Ext.rf (hTo.at 1 rfl).2 (by decide) hrd_1006 hup_1007).1 o (hTo.at 1 rfl).1 5 (hTo.at 1 rfl).2 4 (by decide)).trans hk_1002
            exact K_v hx hb hr hlocks hP hD hK hS hT hE ⟨rfl, hF, _, _, _, _, _, _, _, _, hk_1008, hk_1009, hk_1010, hk_1011, hk_1013, hk_1014, hk_1015, hk_1016, trivial, trivial, fun h9 => ((hrel_651 ((hrel_971 (hrel_995 h9)).1)).1), trivial, trivial, trivial, trivial, trivial, hO5, (gte_b hg1 hg2 hg3) ▸ hrq_1004, fun h9 => ctT_of h9 hg2 hg3 hRQ.K (by rw [← hRQ.K]; rintro (h8 | h8); exact absurd h8 c_663; exact absurd h8 c_860) hg4 hzv_1003⟩ (Nat.le_of_ble_eq_true rfl) (Nat.le_of_ble_eq_true rfl) dX2_readTest_115
        · refine lv_aload_n hx hb dX2_readTest_57 rfl (lv_at hl 1 rfl) ?_
          refine lv_aload_n hx hb dX2_readTest_58 rfl (lv_at hl 0 rfl) ?_
          refine lv_iconst (v := 0) hx hb dX2_readTest_59 (by decide) ?_
          refine lv_iconst (v := 5) hx hb dX2_readTest_60 (by decide) ?_
          have hTo := hT
          refine K_V ⟨hx, hb, hml, hown, hts⟩ (t_X2_readNumber l dC dI sa hlt g _ _ tt ln M (gpa (Kp tt ln) (nq tt ln) (Kp tt ln q.1) q) h0 0 5 tok ka sta vaa ax_641 tn_642 fa_643 pw_644 zz _ (hT.sub [0, 2, 3, 4, 5] rfl)  hk_645 hk_646 hk_647 hk_648 hk_654 ((hF.1 h0 (hT0.at 0 rfl).1 2 (hT0.at 0 rfl).2 0 (by decide)).trans h_tok) ((hF.1 tok (hT0.at 2 rfl).1 6 (hT0.at 2 rfl).2 4 (by decide)).trans h_ka) ((hF.1 tok (hT0.at 2 rfl).1 6 (hT0.at 2 rfl).2 5 (by decide)).trans h_sta) ((hF.1 tok (hT0.at 2 rfl).1 6 (hT0.at 2 rfl).2 6 (by decide)).trans h_vaa) hzz (hTK.go (hF.2 ka (hT0.at 3 rfl).1 0 _ _ (hT0.at 3 rfl).2 (by decide)) (hF.2 sta (hT0.at 4 rfl).1 0 _ _ (hT0.at 4 rfl).2 (by decide)) (hF.2 vaa (hT0.at 5 rfl).1 0 _ _ (hT0.at 5 rfl).2 (by decide))) hrq_659) (cwV 2 hts gX2_readTest_X2_readNumber rfl rfl rfl (by decide +kernel) ⟨Nat.le_of_ble_eq_true rfl, Nat.le_of_ble_eq_true rfl⟩) hP hD hK hS hA hev hT 0 2 rfl rfl rfl rfl hl.1 rfl (Nat.le_of_ble_eq_true rfl) dX2_readTest_61 ⟨Nat.le_of_ble_eq_true rfl, Nat.le_of_ble_eq_true rfl⟩ (fun r L_1017 f_1018 H locs hw_1019 hP hD hS hT hE1 => ?_)
          have hEo := hE
          have hO5 := hO5.call hE (OF.fr hw_1019.2.1 (by decide)) (by simp)
          have hF := Fr.call hF hE hw_1019.2.1 (by decide)
          have hE := hE.tr hE1
          obtain ⟨⟨z_1020, rfl⟩, hw_1019⟩ := hw_1019
          obtain ⟨hfr_1021, ax_1022, tn_1023, fa_1024, pw_1025, hk_1026, hk_1027, hk_1028, hk_1029, hrel_1030, hrel_1031, hrel_1032, hrel_1033, hex_1034⟩ := hw_1019
          have hk_1035 : rd f_1018 tok 3 = .int zz := (hfr_1021.1 tok (hTo.at 2 rfl).1 6 (hTo.at 2 rfl).2 3 (by decide)).trans hk_654
          have hk_1036 : rd f_1018 o 1 = .int vt := (hfr_1021.1 o (hTo.at 1 rfl).1 5 (hTo.at 1 rfl).2 1 (by decide)).trans hk_655
          have hk_1037 : rd f_1018 o 2 = .int nu := (hfr_1021.1 o (hTo.at 1 rfl).1 5 (hTo.at 1 rfl).2 2 (by decide)).trans hk_656
          have hk_1038 : rd f_1018 o 3 = .int tn := (hfr_1021.1 o (hTo.at 1 rfl).1 5 (hTo.at 1 rfl).2 3 (by decide)).trans hk_657
          have hk_1039 : rd f_1018 o 4 = .int be := (hfr_1021.1 o (hTo.at 1 rfl).1 5 (hTo.at 1 rfl).2 4 (by decide)).trans hk_658
          have hzv_1040 : z_1020 = Vp tt ln (gpa (Kp tt ln) (nq tt ln) (Kp tt ln q.1) q).1 := sv hex_1034.1
          have hrq_1041 := hex_1034.2
          refine W.eq (g2 := F0 m 64 ls [.int z_1020, .ref o]) rfl ?_
          have hTo := hT
          refine T_put (ci := 5) (v := .int z_1020) (ty := .int) (t := tI) (C := RX5) (T := TX5) (N := 8) hx hb hts inw_X2_readTest_5 tyX5 tyX5_ok nmX5 hown hK hP hD hS hT 1 rfl rfl 1 (by decide) (hts (.fieldLink RX2 76 "VatHouse$Step" "vat" "I") (List.mem_of_getElem? (i := 3) (by exact rfl))) (fun _ h9 => h9) rfl (tyX5_ok 1 (by decide)) rfl rfl rfl ⟨_, rfl⟩ dX2_readTest_64 (fun f_1042 H locs hP hD hS hT hE1 hrd_1043 hup_1044 => ?_)
          have hO5 := hO5.put hrd_1043 (by simp)
          have hF := Fr.put (a := o) (ci := 5) hF hE ((hE1 o (hT.at 1 rfl).1).2.symm.trans (hT.at 1 rfl).2) (by decide) hrd_1043 hup_1044
          have hE := hE.tr hE1
          have hk_1045 : rd f_1042 h0 1 = .int ax_1022 := ((Fr.put (cs := [(5, 1)]) (a := o) (ci := 5) Fr.rf Ext.rf (hTo.at 1 rfl).2 (by decide) hrd_1043 hup_1044).1 h0 (hTo.at 0 rfl).1 2 (hTo.at 0 rfl).2 1 (by decide)).trans hk_1026
          have hk_1046 : rd f_1042 h0 2 = .int tn_1023 := ((Fr.put (cs := [(5, 1)]) (a := o) (ci := 5) Fr.rf Ext.rf (hTo.at 1 rfl).2 (by decide) hrd_1043 hup_1044).1 h0 (hTo.at 0 rfl).1 2 (hTo.at 0 rfl).2 2 (by decide)).trans hk_1027
          have hk_1047 : rd f_1042 h0 3 = .int fa_1024 := ((Fr.put (cs := [(5, 1)]) (a := o) (ci := 5) Fr.rf Ext.rf (hTo.at 1 rfl).2 (by decide) hrd_1043 hup_1044).1 h0 (hTo.at 0 rfl).1 2 (hTo.at 0 rfl).2 3 (by decide)).trans hk_1028
          have hk_1048 : rd f_1042 h0 4 = .int pw_1025 := ((Fr.put (cs := [(5, 1)]) (a := o) (ci := 5) Fr.rf Ext.rf (hTo.at 1 rfl).2 (by decide) hrd_1043 hup_1044).1 h0 (hTo.at 0 rfl).1 2 (hTo.at 0 rfl).2 4 (by decide)).trans hk_1029
          have hk_1049 : rd f_1042 tok 3 = .int zz := ((Fr.put (cs := [(5, 1)]) (a := o) (ci := 5) Fr.rf Ext.rf (hTo.at 1 rfl).2 (by decide) hrd_1043 hup_1044).1 tok (hTo.at 2 rfl).1 6 (hTo.at 2 rfl).2 3 (by decide)).trans hk_1035
          have hk_1050 : rd f_1042 o 1 = .int z_1020 := (hrd_1043 o 1).trans (if_pos ⟨rfl, rfl⟩)
          have hk_1051 : rd f_1042 o 2 = .int nu := ((Fr.put (cs := [(5, 1)]) (a := o) (ci := 5) Fr.rf Ext.rf (hTo.at 1 rfl).2 (by decide) hrd_1043 hup_1044).1 o (hTo.at 1 rfl).1 5 (hTo.at 1 rfl).2 2 (by decide)).trans hk_1037
          have hk_1052 : rd f_1042 o 3 = .int tn := ((Fr.put (cs := [(5, 1)]) (a := o) (ci := 5) Fr.rf Ext.rf (hTo.at 1 rfl).2 (by decide) hrd_1043 hup_1044).1 o (hTo.at 1 rfl).1 5 (hTo.at 1 rfl).2 3 (by decide)).trans hk_1038
          have hk_1053 : rd f_1042 o 4 = .int be := ((Fr.put (cs := [(5, 1)]) (a := o) (ci := 5) Fr.rf Ext.rf (hTo.at 1 rfl).2 (by decide) hrd_1043 hup_1044).1 o (hTo.at 1 rfl).1 5 (hTo.at 1 rfl).2 4 (by decide)).trans hk_1039
          have hg2 : gte2 (Kp tt ln) (Vp tt ln) (nq tt ln) (Kp tt ln q.1) (gpa (Kp tt ln) (nq tt ln) (Kp tt ln q.1) q) = (gnu (Kp tt ln) (Vp tt ln) (nq tt ln) 0 5 (gpa (Kp tt ln) (nq tt ln) (Kp tt ln q.1) q)) := if_pos (Or.inr (by rw [← hRQ.K]; exact c_860))
          refine lv_aload_n hx hb dX2_readTest_67 rfl (lv_at hl 1 rfl) ?_
          refine lv_aload_n hx hb dX2_readTest_68 rfl (lv_at hl 0 rfl) ?_
          refine T_get (ci := 2) (C := RX2) (T := TX2) (N := 6) (t := tI) hx hb hts inw_X2_readTest_2 hown hK hP hT 0 rfl rfl 2 (by decide) (hts (.fieldLink RX2 44 "VatHouse$Reader" "token" "I") (List.mem_of_getElem? (i := 1) (by exact rfl))) (fun _ h9 => h9) rfl dX2_readTest_69 (fun v_1056 hv_1054 hr_1055 => ?_)
          obtain rfl : v_1056 = .int tn_1023 := hr_1055.symm.trans hk_1046
          refine lv_bipush (v := 60) hx hb dX2_readTest_72 (by decide) ?_
          refine lv_icmp_ne (tgt := 81) hx hb dX2_readTest_74 (by decide) (fun c_1057 => ?_) (fun c_1057 => ?_)
          · refine lv_iconst (v := 0) hx hb dX2_readTest_81 (by decide) ?_
            have hTo := hT
            refine T_put (ci := 5) (v := .int 0) (ty := .boolean) (t := tI) (C := RX5) (T := TX5) (N := 8) hx hb hts inw_X2_readTest_5 tyX5 tyX5_ok nmX5 hown hK hP hD hS hT 1 rfl rfl 4 (by decide) (hts (.fieldLink RX2 97 "VatHouse$Step" "below" "Z") (List.mem_of_getElem? (i := 4) (by exact rfl))) (fun _ h9 => h9) rfl (tyX5_ok 4 (by decide)) rfl rfl rfl ⟨_, rfl⟩ dX2_readTest_82 (fun f_1058 H locs hP hD hS hT hE1 hrd_1059 hup_1060 => ?_)
            have hO5 := hO5.put hrd_1059 (by simp)
            have hF := Fr.put (a := o) (ci := 5) hF hE ((hE1 o (hT.at 1 rfl).1).2.symm.trans (hT.at 1 rfl).2) (by decide) hrd_1059 hup_1060
            have hE := hE.tr hE1
            have hk_1061 : rd f_1058 h0 1 = .int ax_1022 := ((Fr.put (cs := [(5, 4)]) (a := o) (ci := 5) Fr.rf Ext.rf (hTo.at 1 rfl).2 (by decide) hrd_1059 hup_1060).1 h0 (hTo.at 0 rfl).1 2 (hTo.at 0 rfl).2 1 (by decide)).trans hk_1045
            have hk_1062 : rd f_1058 h0 2 = .int tn_1023 := ((Fr.put (cs := [(5, 4)]) (a := o) (ci := 5) Fr.rf Ext.rf (hTo.at 1 rfl).2 (by decide) hrd_1059 hup_1060).1 h0 (hTo.at 0 rfl).1 2 (hTo.at 0 rfl).2 2 (by decide)).trans hk_1046
            have hk_1063 : rd f_1058 h0 3 = .int fa_1024 := ((Fr.put (cs := [(5, 4)]) (a := o) (ci := 5) Fr.rf Ext.rf (hTo.at 1 rfl).2 (by decide) hrd_1059 hup_1060).1 h0 (hTo.at 0 rfl).1 2 (hTo.at 0 rfl).2 3 (by decide)).trans hk_1047
            have hk_1064 : rd f_1058 h0 4 = .int pw_1025 := ((Fr.put (cs := [(5, 4)]) (a := o) (ci := 5) Fr.rf Ext.rf (hTo.at 1 rfl).2 (by decide) hrd_1059 hup_1060).1 h0 (hTo.at 0 rfl).1 2 (hTo.at 0 rfl).2 4 (by decide)).trans hk_1048
            have hk_1065 : rd f_1058 tok 3 = .int zz := ((Fr.put (cs := [(5, 4)]) (a := o) (ci := 5) Fr.rf Ext.rf (hTo.at 1 rfl).2 (by decide) hrd_1059 hup_1060).1 tok (hTo.at 2 rfl).1 6 (hTo.at 2 rfl).2 3 (by decide)).trans hk_1049
            have hk_1066 : rd f_1058 o 1 = .int z_1020 := ((Fr.put (cs := [(5, 4)]) (a := o) (ci := 5) Fr.rf Ext.rf (hTo.at 1 rfl).2 (by decide) hrd_1059 hup_1060).1 o (hTo.at 1 rfl).1 5 (hTo.at 1 rfl).2 1 (by decide)).trans hk_1050
            have hk_1067 : rd f_1058 o 2 = .int nu := ((Fr.put (cs := [(5, 4)]) (a := o) (ci := 5) Fr.rf Ext.rf (hTo.at 1 rfl).2 (by decide) hrd_1059 hup_1060).1 o (hTo.at 1 rfl).1 5 (hTo.at 1 rfl).2 2 (by decide)).trans hk_1051
            have hk_1068 : rd f_1058 o 3 = .int tn := ((Fr.put (cs := [(5, 4)]) (a := o) (ci := 5) Fr.rf Ext.rf (hTo.at 1 rfl).2 (by decide) hrd_1059 hup_1060).1 o (hTo.at 1 rfl).1 5 (hTo.at 1 rfl).2 3 (by decide)).trans hk_1052
            have hk_1069 : rd f_1058 o 4 = .int 0 := (hrd_1059 o 4).trans (if_pos ⟨rfl, rfl⟩)
            have hg3 : (if Kp tt ln (gnu (Kp tt ln) (Vp tt ln) (nq tt ln) 0 5 (gpa (Kp tt ln) (nq tt ln) (Kp tt ln q.1) q)).1 = 60 then (60 : Int32) else 61) = 61 := if_neg (by rw [← hrq_1041.K]; exact c_1057)
            have hg4 : (0 : Int32) = if Kp tt ln (gnu (Kp tt ln) (Vp tt ln) (nq tt ln) 0 5 (gpa (Kp tt ln) (nq tt ln) (Kp tt ln q.1) q)).1 = 60 then 1 else 0 := (if_neg (by rw [← hrq_1041.K]; exact c_1057)).symm
            refine lv_aload_n hx hb dX2_readTest_85 rfl (lv_at hl 0 rfl) ?_
            refine lv_aload_n hx hb dX2_readTest_86 rfl (lv_at hl 1 rfl) ?_
            refine T_get (ci := 5) (C := RX5) (T := TX5) (N := 8) (t := tI) hx hb hts inw_X2_readTest_5 hown hK hP hT 1 rfl rfl 4 (by decide) (hts (.fieldLink RX2 97 "VatHouse$Step" "below" "Z") (List.mem_of_getElem? (i := 4) (by exact rfl))) (fun _ h9 => h9) rfl dX2_readTest_87 (fun v_1072 hv_1070 hr_1071 => ?_)
            obtain rfl : v_1072 = .int 0 := hr_1071.symm.trans hk_1069
            refine lv_if_eq (tgt := 98) hx hb dX2_readTest_90 (by decide) (fun c_1073 => ?_) (fun c_1073 => ?_)
            rotate_left
            · exact absurd c_1073 (by decide)
            refine lv_bipush (v := 61) hx hb dX2_readTest_98 (by decide) ?_
            have hTo := hT
            refine K_V ⟨hx, hb, hml, hown, hts⟩ (t_X2_pass l dC dI sa hlt g _ _ tt ln M (gnu (Kp tt ln) (Vp tt ln) (nq tt ln) 0 5 (gpa (Kp tt ln) (nq tt ln) (Kp tt ln q.1) q)) h0 61 tok ka sta vaa ax_1022 tn_1023 fa_1024 pw_1025 zz _ (hT.sub [0, 2, 3, 4, 5] rfl)  hk_1061 hk_1062 hk_1063 hk_1064 hk_1065 ((hF.1 h0 (hT0.at 0 rfl).1 2 (hT0.at 0 rfl).2 0 (by decide)).trans h_tok) ((hF.1 tok (hT0.at 2 rfl).1 6 (hT0.at 2 rfl).2 4 (by decide)).trans h_ka) ((hF.1 tok (hT0.at 2 rfl).1 6 (hT0.at 2 rfl).2 5 (by decide)).trans h_sta) ((hF.1 tok (hT0.at 2 rfl).1 6 (hT0.at 2 rfl).2 6 (by decide)).trans h_vaa) hzz (hTK.go (hF.2 ka (hT0.at 3 rfl).1 0 _ _ (hT0.at 3 rfl).2 (by decide)) (hF.2 sta (hT0.at 4 rfl).1 0 _ _ (hT0.at 4 rfl).2 (by decide)) (hF.2 vaa (hT0.at 5 rfl).1 0 _ _ (hT0.at 5 rfl).2 (by decide))) hrq_1041 (Or.inl (by decide))) (cwV 1 hts gX2_readTest_X2_pass rfl rfl rfl (by decide +kernel) ⟨Nat.le_of_ble_eq_true rfl, Nat.le_of_ble_eq_true rfl⟩) hP hD hK hS hA hev hT 0 2 rfl rfl rfl rfl hl.1 rfl (Nat.le_of_ble_eq_true rfl) dX2_readTest_100 ⟨Nat.le_of_ble_eq_true rfl, Nat.le_of_ble_eq_true rfl⟩ (fun r L_1074 f_1075 H locs hw_1076 hP hD hS hT hE1 => ?_)
            have hEo := hE
            have hO5 := hO5.call hE (OF.fr hw_1076.2.1 (by decide)) (by simp)
            have hF := Fr.call hF hE hw_1076.2.1 (by decide)
            have hE := hE.tr hE1
            obtain ⟨rfl, hw_1076⟩ := hw_1076
            obtain ⟨hfr_1077, ax_1078, tn_1079, fa_1080, pw_1081, hk_1082, hk_1083, hk_1084, hk_1085, hrel_1086, hrel_1087, hrel_1088, hrel_1089, hex_1090⟩ := hw_1076
            have hk_1091 : rd f_1075 tok 3 = .int zz := (hfr_1077.1 tok (hTo.at 2 rfl).1 6 (hTo.at 2 rfl).2 3 (by decide)).trans hk_1065
            have hk_1092 : rd f_1075 o 1 = .int z_1020 := (hfr_1077.1 o (hTo.at 1 rfl).1 5 (hTo.at 1 rfl).2 1 (by decide)).trans hk_1066
            have hk_1093 : rd f_1075 o 2 = .int nu := (hfr_1077.1 o (hTo.at 1 rfl).1 5 (hTo.at 1 rfl).2 2 (by decide)).trans hk_1067
            have hk_1094 : rd f_1075 o 3 = .int tn := (hfr_1077.1 o (hTo.at 1 rfl).1 5 (hTo.at 1 rfl).2 3 (by decide)).trans hk_1068
            have hk_1095 : rd f_1075 o 4 = .int 0 := (hfr_1077.1 o (hTo.at 1 rfl).1 5 (hTo.at 1 rfl).2 4 (by decide)).trans hk_1069
            have hrq_1096 := hex_1090
            refine W.eq (g2 := F0 m 103 ls []) rfl ?_
            refine lv_aload_n hx hb dX2_readTest_103 rfl (lv_at hl 1 rfl) ?_
            refine lv_aload_n hx hb dX2_readTest_104 rfl (lv_at hl 0 rfl) ?_
            refine lv_iconst (v := 0) hx hb dX2_readTest_105 (by decide) ?_
            refine lv_sipush (v := 9999) hx hb dX2_readTest_106 (by decide) ?_
            have hTo := hT
            refine K_V ⟨hx, hb, hml, hown, hts⟩ (t_X2_readNumber l dC dI sa hlt g _ _ tt ln M (gpa (Kp tt ln) (nq tt ln) 61 (gnu (Kp tt ln) (Vp tt ln) (nq tt ln) 0 5 (gpa (Kp tt ln) (nq tt ln) (Kp tt ln q.1) q))) h0 0 9999 tok ka sta vaa ax_1078 tn_1079 fa_1080 pw_1081 zz _ (hT.sub [0, 2, 3, 4, 5] rfl)  hk_1082 hk_1083 hk_1084 hk_1085 hk_1091 ((hF.1 h0 (hT0.at 0 rfl).1 2 (hT0.at 0 rfl).2 0 (by decide)).trans h_tok) ((hF.1 tok (hT0.at 2 rfl).1 6 (hT0.at 2 rfl).2 4 (by decide)).trans h_ka) ((hF.1 tok (hT0.at 2 rfl).1 6 (hT0.at 2 rfl).2 5 (by decide)).trans h_sta) ((hF.1 tok (hT0.at 2 rfl).1 6 (hT0.at 2 rfl).2 6 (by decide)).trans h_vaa) hzz (hTK.go (hF.2 ka (hT0.at 3 rfl).1 0 _ _ (hT0.at 3 rfl).2 (by decide)) (hF.2 sta (hT0.at 4 rfl).1 0 _ _ (hT0.at 4 rfl).2 (by decide)) (hF.2 vaa (hT0.at 5 rfl).1 0 _ _ (hT0.at 5 rfl).2 (by decide))) hrq_1096) (cwV 2 hts gX2_readTest_X2_readNumber rfl rfl rfl (by decide +kernel) ⟨Nat.le_of_ble_eq_true rfl, Nat.le_of_ble_eq_true rfl⟩) hP hD hK hS hA hev hT 0 2 rfl rfl rfl rfl hl.1 rfl (Nat.le_of_ble_eq_true rfl) dX2_readTest_109 ⟨Nat.le_of_ble_eq_true rfl, Nat.le_of_ble_eq_true rfl⟩ (fun r L_1097 f_1098 H locs hw_1099 hP hD hS hT hE1 => ?_)
            have hEo := hE
            have hO5 := hO5.call hE (OF.fr hw_1099.2.1 (by decide)) (by simp)
            have hF := Fr.call hF hE hw_1099.2.1 (by decide)
            have hE := hE.tr hE1
            obtain ⟨⟨z_1100, rfl⟩, hw_1099⟩ := hw_1099
            obtain ⟨hfr_1101, ax_1102, tn_1103, fa_1104, pw_1105, hk_1106, hk_1107, hk_1108, hk_1109, hrel_1110, hrel_1111, hrel_1112, hrel_1113, hex_1114⟩ := hw_1099
            have hk_1115 : rd f_1098 tok 3 = .int zz := (hfr_1101.1 tok (hTo.at 2 rfl).1 6 (hTo.at 2 rfl).2 3 (by decide)).trans hk_1091
            have hk_1116 : rd f_1098 o 1 = .int z_1020 := (hfr_1101.1 o (hTo.at 1 rfl).1 5 (hTo.at 1 rfl).2 1 (by decide)).trans hk_1092
            have hk_1117 : rd f_1098 o 2 = .int nu := (hfr_1101.1 o (hTo.at 1 rfl).1 5 (hTo.at 1 rfl).2 2 (by decide)).trans hk_1093
            have hk_1118 : rd f_1098 o 3 = .int tn := (hfr_1101.1 o (hTo.at 1 rfl).1 5 (hTo.at 1 rfl).2 3 (by decide)).trans hk_1094
            have hk_1119 : rd f_1098 o 4 = .int 0 := (hfr_1101.1 o (hTo.at 1 rfl).1 5 (hTo.at 1 rfl).2 4 (by decide)).trans hk_1095
            have hzv_1120 : z_1100 = Vp tt ln (gpa (Kp tt ln) (nq tt ln) 61 (gnu (Kp tt ln) (Vp tt ln) (nq tt ln) 0 5 (gpa (Kp tt ln) (nq tt ln) (Kp tt ln q.1) q))).1 := sv hex_1114.1
            have hrq_1121 := hex_1114.2
            refine W.eq (g2 := F0 m 112 ls [.int z_1100, .ref o]) rfl ?_
            have hTo := hT
            refine T_put (ci := 5) (v := .int z_1100) (ty := .int) (t := tI) (C := RX5) (T := TX5) (N := 8) hx hb hts inw_X2_readTest_5 tyX5 tyX5_ok nmX5 hown hK hP hD hS hT 1 rfl rfl 2 (by decide) (hts (.fieldLink RX2 79 "VatHouse$Step" "number" "I") (List.mem_of_getElem? (i := 5) (by exact rfl))) (fun _ h9 => h9) rfl (tyX5_ok 2 (by decide)) rfl rfl rfl ⟨_, rfl⟩ dX2_readTest_112 (fun f_1122 H locs hP hD hS hT hE1 hrd_1123 hup_1124 => ?_)
            have hO5 := hO5.put hrd_1123 (by simp)
            have hF := Fr.put (a := o) (ci := 5) hF hE ((hE1 o (hT.at 1 rfl).1).2.symm.trans (hT.at 1 rfl).2) (by decide) hrd_1123 hup_1124
            have hE := hE.tr hE1
            have hk_1125 : rd f_1122 h0 1 = .int ax_1102 := ((Fr.put (cs := [(5, 2)]) (a := o) (ci := 5) Fr.rf Ext.rf (hTo.at 1 rfl).2 (by decide) hrd_1123 hup_1124).1 h0 (hTo.at 0 rfl).1 2 (hTo.at 0 rfl).2 1 (by decide)).trans hk_1106
            have hk_1126 : rd f_1122 h0 2 = .int tn_1103 := ((Fr.put (cs := [(5, 2)]) (a := o) (ci := 5) Fr.rf Ext.rf (hTo.at 1 rfl).2 (by decide) hrd_1123 hup_1124).1 h0 (hTo.at 0 rfl).1 2 (hTo.at 0 rfl).2 2 (by decide)).trans hk_1107
            have hk_1127 : rd f_1122 h0 3 = .int fa_1104 := ((Fr.put (cs := [(5, 2)]) (a := o) (ci := 5) Fr.rf Ext.rf (hTo.at 1 rfl).2 (by decide) hrd_1123 hup_1124).1 h0 (hTo.at 0 rfl).1 2 (hTo.at 0 rfl).2 3 (by decide)).trans hk_1108
            have hk_1128 : rd f_1122 h0 4 = .int pw_1105 := ((Fr.put (cs := [(5, 2)]) (a := o) (ci := 5) Fr.rf Ext.rf (hTo.at 1 rfl).2 (by decide) hrd_1123 hup_1124).1 h0 (hTo.at 0 rfl).1 2 (hTo.at 0 rfl).2 4 (by decide)).trans hk_1109
            have hk_1129 : rd f_1122 tok 3 = .int zz := ((Fr.put (cs := [(5, 2)]) (a := o) (ci := 5) Fr.rf Ext.rf (hTo.at 1 rfl).2 (by decide) hrd_1123 hup_1124).1 tok (hTo.at 2 rfl).1 6 (hTo.at 2 rfl).2 3 (by decide)).trans hk_1115
            have hk_1130 : rd f_1122 o 1 = .int z_1020 := ((Fr.put (cs := [(5, 2)]) (a := o) (ci := 5) Fr.rf Ext.rf (hTo.at 1 rfl).2 (by decide) hrd_1123 hup_1124).1 o (hTo.at 1 rfl).1 5 (hTo.at 1 rfl).2 1 (by decide)).trans hk_1116
            have hk_1131 : rd f_1122 o 2 = .int z_1100 := (hrd_1123 o 2).trans (if_pos ⟨rfl, rfl⟩)
            have hk_1132 : rd f_1122 o 3 = .int tn := ((Fr.put (cs := [(5, 2)]) (a := o) (ci := 5) Fr.rf Ext.rf (hTo.at 1 rfl).2 (by decide) hrd_1123 hup_1124).1 o (hTo.at 1 rfl).1 5 (hTo.at 1 rfl).2 3 (by decide)).trans hk_1118
            have hk_1133 : rd f_1122 o 4 = .int 0 := ((Fr.put (cs := [(5, 2)]) (a := o) (ci := 5) Fr.rf Ext.rf (hTo.at 1 rfl).2 (by decide) hrd_1123 hup_1124).1 o (hTo.at 1 rfl).1 5 (hTo.at 1 rfl).2 4 (by decide)).trans hk_1119
            exact K_v hx hb hr hlocks hP hD hK hS hT hE ⟨rfl, hF, _, _, _, _, _, _, _, _, hk_1125, hk_1126, hk_1127, hk_1128, hk_1130, hk_1131, hk_1132, hk_1133, trivial, trivial, fun h9 => ((hrel_651 (hrel_1032 ((hrel_1088 (hrel_1112 h9)).1))).1), trivial, trivial, trivial, trivial, trivial, hO5, (gte_b hg1 hg2 hg3) ▸ hrq_1121, fun h9 => ctT_of h9 hg2 hg3 hRQ.K (fun _ => hzv_1040) hg4 hzv_1120⟩ (Nat.le_of_ble_eq_true rfl) (Nat.le_of_ble_eq_true rfl) dX2_readTest_115
          · refine lv_iconst (v := 1) hx hb dX2_readTest_77 (by decide) ?_
            refine lv_goto (tgt := 82) hx hb dX2_readTest_78 (by decide) ?_
            have hTo := hT
            refine T_put (ci := 5) (v := .int 1) (ty := .boolean) (t := tI) (C := RX5) (T := TX5) (N := 8) hx hb hts inw_X2_readTest_5 tyX5 tyX5_ok nmX5 hown hK hP hD hS hT 1 rfl rfl 4 (by decide) (hts (.fieldLink RX2 97 "VatHouse$Step" "below" "Z") (List.mem_of_getElem? (i := 4) (by exact rfl))) (fun _ h9 => h9) rfl (tyX5_ok 4 (by decide)) rfl rfl rfl ⟨_, rfl⟩ dX2_readTest_82 (fun f_1134 H locs hP hD hS hT hE1 hrd_1135 hup_1136 => ?_)
            have hO5 := hO5.put hrd_1135 (by simp)
            have hF := Fr.put (a := o) (ci := 5) hF hE ((hE1 o (hT.at 1 rfl).1).2.symm.trans (hT.at 1 rfl).2) (by decide) hrd_1135 hup_1136
            have hE := hE.tr hE1
            have hk_1137 : rd f_1134 h0 1 = .int ax_1022 := ((Fr.put (cs := [(5, 4)]) (a := o) (ci := 5) Fr.rf Ext.rf (hTo.at 1 rfl).2 (by decide) hrd_1135 hup_1136).1 h0 (hTo.at 0 rfl).1 2 (hTo.at 0 rfl).2 1 (by decide)).trans hk_1045
            have hk_1138 : rd f_1134 h0 2 = .int tn_1023 := ((Fr.put (cs := [(5, 4)]) (a := o) (ci := 5) Fr.rf Ext.rf (hTo.at 1 rfl).2 (by decide) hrd_1135 hup_1136).1 h0 (hTo.at 0 rfl).1 2 (hTo.at 0 rfl).2 2 (by decide)).trans hk_1046
            have hk_1139 : rd f_1134 h0 3 = .int fa_1024 := ((Fr.put (cs := [(5, 4)]) (a := o) (ci := 5) Fr.rf Ext.rf (hTo.at 1 rfl).2 (by decide) hrd_1135 hup_1136).1 h0 (hTo.at 0 rfl).1 2 (hTo.at 0 rfl).2 3 (by decide)).trans hk_1047
            have hk_1140 : rd f_1134 h0 4 = .int pw_1025 := ((Fr.put (cs := [(5, 4)]) (a := o) (ci := 5) Fr.rf Ext.rf (hTo.at 1 rfl).2 (by decide) hrd_1135 hup_1136).1 h0 (hTo.at 0 rfl).1 2 (hTo.at 0 rfl).2 4 (by decide)).trans hk_1048
            have hk_1141 : rd f_1134 tok 3 = .int zz := ((Fr.put (cs := [(5, 4)]) (a := o) (ci := 5) Fr.rf Ext.rf (hTo.at 1 rfl).2 (by decide) hrd_1135 hup_1136).1 tok (hTo.at 2 rfl).1 6 (hTo.at 2 rfl).2 3 (by decide)).trans hk_1049
            have hk_1142 : rd f_1134 o 1 = .int z_1020 := ((Fr.put (cs := [(5, 4)]) (a := o) (ci := 5) Fr.rf Ext.rf (hTo.at 1 rfl).2 (by decide) hrd_1135 hup_1136).1 o (hTo.at 1 rfl).1 5 (hTo.at 1 rfl).2 1 (by decide)).trans hk_1050
            have hk_1143 : rd f_1134 o 2 = .int nu := ((Fr.put (cs := [(5, 4)]) (a := o) (ci := 5) Fr.rf Ext.rf (hTo.at 1 rfl).2 (by decide) hrd_1135 hup_1136).1 o (hTo.at 1 rfl).1 5 (hTo.at 1 rfl).2 2 (by decide)).trans hk_1051
            have hk_1144 : rd f_1134 o 3 = .int tn := ((Fr.put (cs := [(5, 4)]) (a := o) (ci := 5) Fr.rf Ext.rf (hTo.at 1 rfl).2 (by decide) hrd_1135 hup_1136).1 o (hTo.at 1 rfl).1 5 (hTo.at 1 rfl).2 3 (by decide)).trans hk_1052
            have hk_1145 : rd f_1134 o 4 = .int 1 := (hrd_1135 o 4).trans (if_pos ⟨rfl, rfl⟩)
            have hg3 : (if Kp tt ln (gnu (Kp tt ln) (Vp tt ln) (nq tt ln) 0 5 (gpa (Kp tt ln) (nq tt ln) (Kp tt ln q.1) q)).1 = 60 then (60 : Int32) else 61) = 60 := if_pos (by rw [← hrq_1041.K]; exact c_1057)
            have hg4 : (1 : Int32) = if Kp tt ln (gnu (Kp tt ln) (Vp tt ln) (nq tt ln) 0 5 (gpa (Kp tt ln) (nq tt ln) (Kp tt ln q.1) q)).1 = 60 then 1 else 0 := (if_pos (by rw [← hrq_1041.K]; exact c_1057)).symm
            refine lv_aload_n hx hb dX2_readTest_85 rfl (lv_at hl 0 rfl) ?_
            refine lv_aload_n hx hb dX2_readTest_86 rfl (lv_at hl 1 rfl) ?_
            refine T_get (ci := 5) (C := RX5) (T := TX5) (N := 8) (t := tI) hx hb hts inw_X2_readTest_5 hown hK hP hT 1 rfl rfl 4 (by decide) (hts (.fieldLink RX2 97 "VatHouse$Step" "below" "Z") (List.mem_of_getElem? (i := 4) (by exact rfl))) (fun _ h9 => h9) rfl dX2_readTest_87 (fun v_1148 hv_1146 hr_1147 => ?_)
            obtain rfl : v_1148 = .int 1 := hr_1147.symm.trans hk_1145
            refine lv_if_eq (tgt := 98) hx hb dX2_readTest_90 (by decide) (fun c_1149 => ?_) (fun c_1149 => ?_)
            · exact absurd c_1149 (by decide)
            refine lv_bipush (v := 60) hx hb dX2_readTest_93 (by decide) ?_
            refine lv_goto (tgt := 100) hx hb dX2_readTest_95 (by decide) ?_
            have hTo := hT
            refine K_V ⟨hx, hb, hml, hown, hts⟩ (t_X2_pass l dC dI sa hlt g _ _ tt ln M (gnu (Kp tt ln) (Vp tt ln) (nq tt ln) 0 5 (gpa (Kp tt ln) (nq tt ln) (Kp tt ln q.1) q)) h0 60 tok ka sta vaa ax_1022 tn_1023 fa_1024 pw_1025 zz _ (hT.sub [0, 2, 3, 4, 5] rfl)  hk_1137 hk_1138 hk_1139 hk_1140 hk_1141 ((hF.1 h0 (hT0.at 0 rfl).1 2 (hT0.at 0 rfl).2 0 (by decide)).trans h_tok) ((hF.1 tok (hT0.at 2 rfl).1 6 (hT0.at 2 rfl).2 4 (by decide)).trans h_ka) ((hF.1 tok (hT0.at 2 rfl).1 6 (hT0.at 2 rfl).2 5 (by decide)).trans h_sta) ((hF.1 tok (hT0.at 2 rfl).1 6 (hT0.at 2 rfl).2 6 (by decide)).trans h_vaa) hzz (hTK.go (hF.2 ka (hT0.at 3 rfl).1 0 _ _ (hT0.at 3 rfl).2 (by decide)) (hF.2 sta (hT0.at 4 rfl).1 0 _ _ (hT0.at 4 rfl).2 (by decide)) (hF.2 vaa (hT0.at 5 rfl).1 0 _ _ (hT0.at 5 rfl).2 (by decide))) hrq_1041 (Or.inl (by decide))) (cwV 1 hts gX2_readTest_X2_pass rfl rfl rfl (by decide +kernel) ⟨Nat.le_of_ble_eq_true rfl, Nat.le_of_ble_eq_true rfl⟩) hP hD hK hS hA hev hT 0 2 rfl rfl rfl rfl hl.1 rfl (Nat.le_of_ble_eq_true rfl) dX2_readTest_100 ⟨Nat.le_of_ble_eq_true rfl, Nat.le_of_ble_eq_true rfl⟩ (fun r L_1150 f_1151 H locs hw_1152 hP hD hS hT hE1 => ?_)
            have hEo := hE
            have hO5 := hO5.call hE (OF.fr hw_1152.2.1 (by decide)) (by simp)
            have hF := Fr.call hF hE hw_1152.2.1 (by decide)
            have hE := hE.tr hE1
            obtain ⟨rfl, hw_1152⟩ := hw_1152
            obtain ⟨hfr_1153, ax_1154, tn_1155, fa_1156, pw_1157, hk_1158, hk_1159, hk_1160, hk_1161, hrel_1162, hrel_1163, hrel_1164, hrel_1165, hex_1166⟩ := hw_1152
            have hk_1167 : rd f_1151 tok 3 = .int zz := (hfr_1153.1 tok (hTo.at 2 rfl).1 6 (hTo.at 2 rfl).2 3 (by decide)).trans hk_1141
            have hk_1168 : rd f_1151 o 1 = .int z_1020 := (hfr_1153.1 o (hTo.at 1 rfl).1 5 (hTo.at 1 rfl).2 1 (by decide)).trans hk_1142
            have hk_1169 : rd f_1151 o 2 = .int nu := (hfr_1153.1 o (hTo.at 1 rfl).1 5 (hTo.at 1 rfl).2 2 (by decide)).trans hk_1143
            have hk_1170 : rd f_1151 o 3 = .int tn := (hfr_1153.1 o (hTo.at 1 rfl).1 5 (hTo.at 1 rfl).2 3 (by decide)).trans hk_1144
            have hk_1171 : rd f_1151 o 4 = .int 1 := (hfr_1153.1 o (hTo.at 1 rfl).1 5 (hTo.at 1 rfl).2 4 (by decide)).trans hk_1145
            have hrq_1172 := hex_1166
            refine W.eq (g2 := F0 m 103 ls []) rfl ?_
            refine lv_aload_n hx hb dX2_readTest_103 rfl (lv_at hl 1 rfl) ?_
            refine lv_aload_n hx hb dX2_readTest_104 rfl (lv_at hl 0 rfl) ?_
            refine lv_iconst (v := 0) hx hb dX2_readTest_105 (by decide) ?_
            refine lv_sipush (v := 9999) hx hb dX2_readTest_106 (by decide) ?_
            have hTo := hT
            refine K_V ⟨hx, hb, hml, hown, hts⟩ (t_X2_readNumber l dC dI sa hlt g _ _ tt ln M (gpa (Kp tt ln) (nq tt ln) 60 (gnu (Kp tt ln) (Vp tt ln) (nq tt ln) 0 5 (gpa (Kp tt ln) (nq tt ln) (Kp tt ln q.1) q))) h0 0 9999 tok ka sta vaa ax_1154 tn_1155 fa_1156 pw_1157 zz _ (hT.sub [0, 2, 3, 4, 5] rfl)  hk_1158 hk_1159 hk_1160 hk_1161 hk_1167 ((hF.1 h0 (hT0.at 0 rfl).1 2 (hT0.at 0 rfl).2 0 (by decide)).trans h_tok) ((hF.1 tok (hT0.at 2 rfl).1 6 (hT0.at 2 rfl).2 4 (by decide)).trans h_ka) ((hF.1 tok (hT0.at 2 rfl).1 6 (hT0.at 2 rfl).2 5 (by decide)).trans h_sta) ((hF.1 tok (hT0.at 2 rfl).1 6 (hT0.at 2 rfl).2 6 (by decide)).trans h_vaa) hzz (hTK.go (hF.2 ka (hT0.at 3 rfl).1 0 _ _ (hT0.at 3 rfl).2 (by decide)) (hF.2 sta (hT0.at 4 rfl).1 0 _ _ (hT0.at 4 rfl).2 (by decide)) (hF.2 vaa (hT0.at 5 rfl).1 0 _ _ (hT0.at 5 rfl).2 (by decide))) hrq_1172) (cwV 2 hts gX2_readTest_X2_readNumber rfl rfl rfl (by decide +kernel) ⟨Nat.le_of_ble_eq_true rfl, Nat.le_of_ble_eq_true rfl⟩) hP hD hK hS hA hev hT 0 2 rfl rfl rfl rfl hl.1 rfl (Nat.le_of_ble_eq_true rfl) dX2_readTest_109 ⟨Nat.le_of_ble_eq_true rfl, Nat.le_of_ble_eq_true rfl⟩ (fun r L_1173 f_1174 H locs hw_1175 hP hD hS hT hE1 => ?_)
            have hEo := hE
            have hO5 := hO5.call hE (OF.fr hw_1175.2.1 (by decide)) (by simp)
            have hF := Fr.call hF hE hw_1175.2.1 (by decide)
            have hE := hE.tr hE1
            obtain ⟨⟨z_1176, rfl⟩, hw_1175⟩ := hw_1175
            obtain ⟨hfr_1177, ax_1178, tn_1179, fa_1180, pw_1181, hk_1182, hk_1183, hk_1184, hk_1185, hrel_1186, hrel_1187, hrel_1188, hrel_1189, hex_1190⟩ := hw_1175
            have hk_1191 : rd f_1174 tok 3 = .int zz := (hfr_1177.1 tok (hTo.at 2 rfl).1 6 (hTo.at 2 rfl).2 3 (by decide)).trans hk_1167
            have hk_1192 : rd f_1174 o 1 = .int z_1020 := (hfr_1177.1 o (hTo.at 1 rfl).1 5 (hTo.at 1 rfl).2 1 (by decide)).trans hk_1168
            have hk_1193 : rd f_1174 o 2 = .int nu := (hfr_1177.1 o (hTo.at 1 rfl).1 5 (hTo.at 1 rfl).2 2 (by decide)).trans hk_1169
            have hk_1194 : rd f_1174 o 3 = .int tn := (hfr_1177.1 o (hTo.at 1 rfl).1 5 (hTo.at 1 rfl).2 3 (by decide)).trans hk_1170
            have hk_1195 : rd f_1174 o 4 = .int 1 := (hfr_1177.1 o (hTo.at 1 rfl).1 5 (hTo.at 1 rfl).2 4 (by decide)).trans hk_1171
            have hzv_1196 : z_1176 = Vp tt ln (gpa (Kp tt ln) (nq tt ln) 60 (gnu (Kp tt ln) (Vp tt ln) (nq tt ln) 0 5 (gpa (Kp tt ln) (nq tt ln) (Kp tt ln q.1) q))).1 := sv hex_1190.1
            have hrq_1197 := hex_1190.2
            refine W.eq (g2 := F0 m 112 ls [.int z_1176, .ref o]) rfl ?_
            have hTo := hT
            refine T_put (ci := 5) (v := .int z_1176) (ty := .int) (t := tI) (C := RX5) (T := TX5) (N := 8) hx hb hts inw_X2_readTest_5 tyX5 tyX5_ok nmX5 hown hK hP hD hS hT 1 rfl rfl 2 (by decide) (hts (.fieldLink RX2 79 "VatHouse$Step" "number" "I") (List.mem_of_getElem? (i := 5) (by exact rfl))) (fun _ h9 => h9) rfl (tyX5_ok 2 (by decide)) rfl rfl rfl ⟨_, rfl⟩ dX2_readTest_112 (fun f_1198 H locs hP hD hS hT hE1 hrd_1199 hup_1200 => ?_)
            have hO5 := hO5.put hrd_1199 (by simp)
            have hF := Fr.put (a := o) (ci := 5) hF hE ((hE1 o (hT.at 1 rfl).1).2.symm.trans (hT.at 1 rfl).2) (by decide) hrd_1199 hup_1200
            have hE := hE.tr hE1
            have hk_1201 : rd f_1198 h0 1 = .int ax_1178 := ((Fr.put (cs := [(5, 2)]) (a := o) (ci := 5) Fr.rf Ext.rf (hTo.at 1 rfl).2 (by decide) hrd_1199 hup_1200).1 h0 (hTo.at 0 rfl).1 2 (hTo.at 0 rfl).2 1 (by decide)).trans hk_1182
            have hk_1202 : rd f_1198 h0 2 = .int tn_1179 := ((Fr.put (cs := [(5, 2)]) (a := o) (ci := 5) Fr.rf Ext.rf (hTo.at 1 rfl).2 (by decide) hrd_1199 hup_1200).1 h0 (hTo.at 0 rfl).1 2 (hTo.at 0 rfl).2 2 (by decide)).trans hk_1183
            have hk_1203 : rd f_1198 h0 3 = .int fa_1180 := ((Fr.put (cs := [(5, 2)]) (a := o) (ci := 5) Fr.rf Ext.rf (hTo.at 1 rfl).2 (by decide) hrd_1199 hup_1200).1 h0 (hTo.at 0 rfl).1 2 (hTo.at 0 rfl).2 3 (by decide)).trans hk_1184
            have hk_1204 : rd f_1198 h0 4 = .int pw_1181 := ((Fr.put (cs := [(5, 2)]) (a := o) (ci := 5) Fr.rf Ext.rf (hTo.at 1 rfl).2 (by decide) hrd_1199 hup_1200).1 h0 (hTo.at 0 rfl).1 2 (hTo.at 0 rfl).2 4 (by decide)).trans hk_1185
            have hk_1205 : rd f_1198 tok 3 = .int zz := ((Fr.put (cs := [(5, 2)]) (a := o) (ci := 5) Fr.rf Ext.rf (hTo.at 1 rfl).2 (by decide) hrd_1199 hup_1200).1 tok (hTo.at 2 rfl).1 6 (hTo.at 2 rfl).2 3 (by decide)).trans hk_1191
            have hk_1206 : rd f_1198 o 1 = .int z_1020 := ((Fr.put (cs := [(5, 2)]) (a := o) (ci := 5) Fr.rf Ext.rf (hTo.at 1 rfl).2 (by decide) hrd_1199 hup_1200).1 o (hTo.at 1 rfl).1 5 (hTo.at 1 rfl).2 1 (by decide)).trans hk_1192
            have hk_1207 : rd f_1198 o 2 = .int z_1176 := (hrd_1199 o 2).trans (if_pos ⟨rfl, rfl⟩)
            have hk_1208 : rd f_1198 o 3 = .int tn := ((Fr.put (cs := [(5, 2)]) (a := o) (ci := 5) Fr.rf Ext.rf (hTo.at 1 rfl).2 (by decide) hrd_1199 hup_1200).1 o (hTo.at 1 rfl).1 5 (hTo.at 1 rfl).2 3 (by decide)).trans hk_1194
            have hk_1209 : rd f_1198 o 4 = .int 1 := ((Fr.put (cs := [(5, 2)]) (a := o) (ci := 5) Fr.rf Ext.rf (hTo.at 1 rfl).2 (by decide) hrd_1199 hup_1200).1 o (hTo.at 1 rfl).1 5 (hTo.at 1 rfl).2 4 (by decide)).trans hk_1195
            exact K_v hx hb hr hlocks hP hD hK hS hT hE ⟨rfl, hF, _, _, _, _, _, _, _, _, hk_1201, hk_1202, hk_1203, hk_1204, hk_1206, hk_1207, hk_1208, hk_1209, trivial, trivial, fun h9 => ((hrel_651 (hrel_1032 ((hrel_1164 (hrel_1188 h9)).1))).1), trivial, trivial, trivial, trivial, trivial, hO5, (gte_b hg1 hg2 hg3) ▸ hrq_1197, fun h9 => ctT_of h9 hg2 hg3 hRQ.K (fun _ => hzv_1040) hg4 hzv_1196⟩ (Nat.le_of_ble_eq_true rfl) (Nat.le_of_ble_eq_true rfl) dX2_readTest_115
    · refine lv_aload_n hx hb dX2_readTest_18 rfl (lv_at hl 0 rfl) ?_
      refine lv_iconst (v := 1) hx hb dX2_readTest_19 (by decide) ?_
      have hTo := hT
      refine K_V ⟨hx, hb, hml, hown, hts⟩ (t_X2_refuse l dC dI sa hlt g _ _ tt ln M q h0 1 tok ka sta vaa ax tn fa pw _ (hT.sub [0, 2, 3, 4, 5] rfl)  hm_ax hm_tn hm_fa hm_pw ((hF.1 h0 (hT0.at 0 rfl).1 2 (hT0.at 0 rfl).2 0 (by decide)).trans h_tok) ((hF.1 tok (hT0.at 2 rfl).1 6 (hT0.at 2 rfl).2 4 (by decide)).trans h_ka) ((hF.1 tok (hT0.at 2 rfl).1 6 (hT0.at 2 rfl).2 5 (by decide)).trans h_sta) ((hF.1 tok (hT0.at 2 rfl).1 6 (hT0.at 2 rfl).2 6 (by decide)).trans h_vaa) (by decide) (hTK.go (hF.2 ka (hT0.at 3 rfl).1 0 _ _ (hT0.at 3 rfl).2 (by decide)) (hF.2 sta (hT0.at 4 rfl).1 0 _ _ (hT0.at 4 rfl).2 (by decide)) (hF.2 vaa (hT0.at 5 rfl).1 0 _ _ (hT0.at 5 rfl).2 (by decide))) hRQ) (cwV 1 hts gX2_readTest_X2_refuse rfl rfl rfl (by decide +kernel) ⟨Nat.le_of_ble_eq_true rfl, Nat.le_of_ble_eq_true rfl⟩) hP hD hK hS hA hev hT 0 2 rfl rfl rfl rfl hl.1 rfl (Nat.le_of_ble_eq_true rfl) dX2_readTest_20 ⟨Nat.le_of_ble_eq_true rfl, Nat.le_of_ble_eq_true rfl⟩ (fun r L_1210 f_1211 H locs hw_1212 hP hD hS hT hE1 => ?_)
      have hEo := hE
      have hO5 := hO5.call hE (OF.fr hw_1212.2.1 (by decide)) (by simp)
      have hF := Fr.call hF hE hw_1212.2.1 (by decide)
      have hE := hE.tr hE1
      obtain ⟨rfl, hw_1212⟩ := hw_1212
      obtain ⟨hfr_1213, fa_1214, pw_1215, hk_1216, hk_1217, hrel_1218, hrel_1219, hex_1220⟩ := hw_1212
      have hk_1221 : rd f_1211 h0 1 = .int ax := (hfr_1213.1 h0 (hTo.at 0 rfl).1 2 (hTo.at 0 rfl).2 1 (by decide)).trans hm_ax
      have hk_1222 : rd f_1211 h0 2 = .int tn := (hfr_1213.1 h0 (hTo.at 0 rfl).1 2 (hTo.at 0 rfl).2 2 (by decide)).trans hm_tn
      have hk_1223 : rd f_1211 tok 3 = .int zz := (hfr_1213.1 tok (hTo.at 2 rfl).1 6 (hTo.at 2 rfl).2 3 (by decide)).trans hm_zz
      have hk_1224 : rd f_1211 o 1 = .int vt := (hfr_1213.1 o (hTo.at 1 rfl).1 5 (hTo.at 1 rfl).2 1 (by decide)).trans hm_vt
      have hk_1225 : rd f_1211 o 2 = .int nu := (hfr_1213.1 o (hTo.at 1 rfl).1 5 (hTo.at 1 rfl).2 2 (by decide)).trans hm_nu
      have hk_1226 : rd f_1211 o 3 = .int lo := (hfr_1213.1 o (hTo.at 1 rfl).1 5 (hTo.at 1 rfl).2 3 (by decide)).trans hm_lo
      have hk_1227 : rd f_1211 o 4 = .int be := (hfr_1213.1 o (hTo.at 1 rfl).1 5 (hTo.at 1 rfl).2 4 (by decide)).trans hm_be
      have hrq_1228 := hex_1220
      refine W.eq (g2 := F0 m 23 ls []) rfl ?_
      have hg1 : (if Kp tt ln q.1 < 15 ∨ 19 < Kp tt ln q.1 then grf 1 q else q) = (grf 1 q) := if_pos (Or.inr (by rw [← hRQ.K]; exact nle_lt c_618))
      refine lv_aload_n hx hb dX2_readTest_23 rfl (lv_at hl 1 rfl) ?_
      refine lv_aload_n hx hb dX2_readTest_24 rfl (lv_at hl 0 rfl) ?_
      refine T_get (ci := 2) (C := RX2) (T := TX2) (N := 6) (t := tI) hx hb hts inw_X2_readTest_2 hown hK hP hT 0 rfl rfl 2 (by decide) (hts (.fieldLink RX2 44 "VatHouse$Reader" "token" "I") (List.mem_of_getElem? (i := 1) (by exact rfl))) (fun _ h9 => h9) rfl dX2_readTest_25 (fun v_1231 hv_1229 hr_1230 => ?_)
      obtain rfl : v_1231 = .int tn := hr_1230.symm.trans hk_1222
      have hTo := hT
      refine T_put (ci := 5) (v := .int tn) (ty := .int) (t := tI) (C := RX5) (T := TX5) (N := 8) hx hb hts inw_X2_readTest_5 tyX5 tyX5_ok nmX5 hown hK hP hD hS hT 1 rfl rfl 3 (by decide) (hts (.fieldLink RX2 94 "VatHouse$Step" "look" "I") (List.mem_of_getElem? (i := 2) (by exact rfl))) (fun _ h9 => h9) rfl (tyX5_ok 3 (by decide)) rfl rfl rfl ⟨_, rfl⟩ dX2_readTest_28 (fun f_1232 H locs hP hD hS hT hE1 hrd_1233 hup_1234 => ?_)
      have hO5 := hO5.put hrd_1233 (by simp)
      have hF := Fr.put (a := o) (ci := 5) hF hE ((hE1 o (hT.at 1 rfl).1).2.symm.trans (hT.at 1 rfl).2) (by decide) hrd_1233 hup_1234
      have hE := hE.tr hE1
      have hk_1235 : rd f_1232 h0 1 = .int ax := ((Fr.put (cs := [(5, 3)]) (a := o) (ci := 5) Fr.rf Ext.rf (hTo.at 1 rfl).2 (by decide) hrd_1233 hup_1234).1 h0 (hTo.at 0 rfl).1 2 (hTo.at 0 rfl).2 1 (by decide)).trans hk_1221
      have hk_1236 : rd f_1232 h0 2 = .int tn := ((Fr.put (cs := [(5, 3)]) (a := o) (ci := 5) Fr.rf Ext.rf (hTo.at 1 rfl).2 (by decide) hrd_1233 hup_1234).1 h0 (hTo.at 0 rfl).1 2 (hTo.at 0 rfl).2 2 (by decide)).trans hk_1222
      have hk_1237 : rd f_1232 h0 3 = .int fa_1214 := ((Fr.put (cs := [(5, 3)]) (a := o) (ci := 5) Fr.rf Ext.rf (hTo.at 1 rfl).2 (by decide) hrd_1233 hup_1234).1 h0 (hTo.at 0 rfl).1 2 (hTo.at 0 rfl).2 3 (by decide)).trans hk_1216
      have hk_1238 : rd f_1232 h0 4 = .int pw_1215 := ((Fr.put (cs := [(5, 3)]) (a := o) (ci := 5) Fr.rf Ext.rf (hTo.at 1 rfl).2 (by decide) hrd_1233 hup_1234).1 h0 (hTo.at 0 rfl).1 2 (hTo.at 0 rfl).2 4 (by decide)).trans hk_1217
      have hk_1239 : rd f_1232 tok 3 = .int zz := ((Fr.put (cs := [(5, 3)]) (a := o) (ci := 5) Fr.rf Ext.rf (hTo.at 1 rfl).2 (by decide) hrd_1233 hup_1234).1 tok (hTo.at 2 rfl).1 6 (hTo.at 2 rfl).2 3 (by decide)).trans hk_1223
      have hk_1240 : rd f_1232 o 1 = .int vt := ((Fr.put (cs := [(5, 3)]) (a := o) (ci := 5) Fr.rf Ext.rf (hTo.at 1 rfl).2 (by decide) hrd_1233 hup_1234).1 o (hTo.at 1 rfl).1 5 (hTo.at 1 rfl).2 1 (by decide)).trans hk_1224
      have hk_1241 : rd f_1232 o 2 = .int nu := ((Fr.put (cs := [(5, 3)]) (a := o) (ci := 5) Fr.rf Ext.rf (hTo.at 1 rfl).2 (by decide) hrd_1233 hup_1234).1 o (hTo.at 1 rfl).1 5 (hTo.at 1 rfl).2 2 (by decide)).trans hk_1225
      have hk_1242 : rd f_1232 o 3 = .int tn := (hrd_1233 o 3).trans (if_pos ⟨rfl, rfl⟩)
      have hk_1243 : rd f_1232 o 4 = .int be := ((Fr.put (cs := [(5, 3)]) (a := o) (ci := 5) Fr.rf Ext.rf (hTo.at 1 rfl).2 (by decide) hrd_1233 hup_1234).1 o (hTo.at 1 rfl).1 5 (hTo.at 1 rfl).2 4 (by decide)).trans hk_1227
      refine lv_aload_n hx hb dX2_readTest_31 rfl (lv_at hl 0 rfl) ?_
      refine lv_aload_n hx hb dX2_readTest_32 rfl (lv_at hl 0 rfl) ?_
      refine T_get (ci := 2) (C := RX2) (T := TX2) (N := 6) (t := tI) hx hb hts inw_X2_readTest_2 hown hK hP hT 0 rfl rfl 2 (by decide) (hts (.fieldLink RX2 44 "VatHouse$Reader" "token" "I") (List.mem_of_getElem? (i := 1) (by exact rfl))) (fun _ h9 => h9) rfl dX2_readTest_33 (fun v_1246 hv_1244 hr_1245 => ?_)
      obtain rfl : v_1246 = .int tn := hr_1245.symm.trans hk_1236
      have hTo := hT
      refine K_V ⟨hx, hb, hml, hown, hts⟩ (t_X2_pass l dC dI sa hlt g _ _ tt ln M (grf 1 q) h0 tn tok ka sta vaa ax tn fa_1214 pw_1215 zz _ (hT.sub [0, 2, 3, 4, 5] rfl)  hk_1235 hk_1236 hk_1237 hk_1238 hk_1239 ((hF.1 h0 (hT0.at 0 rfl).1 2 (hT0.at 0 rfl).2 0 (by decide)).trans h_tok) ((hF.1 tok (hT0.at 2 rfl).1 6 (hT0.at 2 rfl).2 4 (by decide)).trans h_ka) ((hF.1 tok (hT0.at 2 rfl).1 6 (hT0.at 2 rfl).2 5 (by decide)).trans h_sta) ((hF.1 tok (hT0.at 2 rfl).1 6 (hT0.at 2 rfl).2 6 (by decide)).trans h_vaa) hzz (hTK.go (hF.2 ka (hT0.at 3 rfl).1 0 _ _ (hT0.at 3 rfl).2 (by decide)) (hF.2 sta (hT0.at 4 rfl).1 0 _ _ (hT0.at 4 rfl).2 (by decide)) (hF.2 vaa (hT0.at 5 rfl).1 0 _ _ (hT0.at 5 rfl).2 (by decide))) hrq_1228 (Or.inr hrel_1218)) (cwV 1 hts gX2_readTest_X2_pass rfl rfl rfl (by decide +kernel) ⟨Nat.le_of_ble_eq_true rfl, Nat.le_of_ble_eq_true rfl⟩) hP hD hK hS hA hev hT 0 2 rfl rfl rfl rfl hl.1 rfl (Nat.le_of_ble_eq_true rfl) dX2_readTest_36 ⟨Nat.le_of_ble_eq_true rfl, Nat.le_of_ble_eq_true rfl⟩ (fun r L_1247 f_1248 H locs hw_1249 hP hD hS hT hE1 => ?_)
      have hEo := hE
      have hO5 := hO5.call hE (OF.fr hw_1249.2.1 (by decide)) (by simp)
      have hF := Fr.call hF hE hw_1249.2.1 (by decide)
      have hE := hE.tr hE1
      obtain ⟨rfl, hw_1249⟩ := hw_1249
      obtain ⟨hfr_1250, ax_1251, tn_1252, fa_1253, pw_1254, hk_1255, hk_1256, hk_1257, hk_1258, hrel_1259, hrel_1260, hrel_1261, hrel_1262, hex_1263⟩ := hw_1249
      have hk_1264 : rd f_1248 tok 3 = .int zz := (hfr_1250.1 tok (hTo.at 2 rfl).1 6 (hTo.at 2 rfl).2 3 (by decide)).trans hk_1239
      have hk_1265 : rd f_1248 o 1 = .int vt := (hfr_1250.1 o (hTo.at 1 rfl).1 5 (hTo.at 1 rfl).2 1 (by decide)).trans hk_1240
      have hk_1266 : rd f_1248 o 2 = .int nu := (hfr_1250.1 o (hTo.at 1 rfl).1 5 (hTo.at 1 rfl).2 2 (by decide)).trans hk_1241
      have hk_1267 : rd f_1248 o 3 = .int tn := (hfr_1250.1 o (hTo.at 1 rfl).1 5 (hTo.at 1 rfl).2 3 (by decide)).trans hk_1242
      have hk_1268 : rd f_1248 o 4 = .int be := (hfr_1250.1 o (hTo.at 1 rfl).1 5 (hTo.at 1 rfl).2 4 (by decide)).trans hk_1243
      have hrq_1269 : RQ tt ln M (gpa (Kp tt ln) (nq tt ln) (Kp tt ln q.1) (grf 1 q)) ax_1251 tn_1252 fa_1253 pw_1254 := hRQ.K ▸ hex_1263
      refine W.eq (g2 := F0 m 39 ls []) rfl ?_
      refine lv_aload_n hx hb dX2_readTest_39 rfl (lv_at hl 1 rfl) ?_
      refine T_get (ci := 5) (C := RX5) (T := TX5) (N := 8) (t := tI) hx hb hts inw_X2_readTest_5 hown hK hP hT 1 rfl rfl 3 (by decide) (hts (.fieldLink RX2 94 "VatHouse$Step" "look" "I") (List.mem_of_getElem? (i := 2) (by exact rfl))) (fun _ h9 => h9) rfl dX2_readTest_40 (fun v_1272 hv_1270 hr_1271 => ?_)
      obtain rfl : v_1272 = .int tn := hr_1271.symm.trans hk_1267
      refine lv_bipush (v := 17) hx hb dX2_readTest_43 (by decide) ?_
      refine lv_icmp_eq (tgt := 57) hx hb dX2_readTest_45 (by decide) (fun c_1273 => ?_) (fun c_1273 => ?_)
      · refine lv_aload_n hx hb dX2_readTest_57 rfl (lv_at hl 1 rfl) ?_
        refine lv_aload_n hx hb dX2_readTest_58 rfl (lv_at hl 0 rfl) ?_
        refine lv_iconst (v := 0) hx hb dX2_readTest_59 (by decide) ?_
        refine lv_iconst (v := 5) hx hb dX2_readTest_60 (by decide) ?_
        have hTo := hT
        refine K_V ⟨hx, hb, hml, hown, hts⟩ (t_X2_readNumber l dC dI sa hlt g _ _ tt ln M (gpa (Kp tt ln) (nq tt ln) (Kp tt ln q.1) (grf 1 q)) h0 0 5 tok ka sta vaa ax_1251 tn_1252 fa_1253 pw_1254 zz _ (hT.sub [0, 2, 3, 4, 5] rfl)  hk_1255 hk_1256 hk_1257 hk_1258 hk_1264 ((hF.1 h0 (hT0.at 0 rfl).1 2 (hT0.at 0 rfl).2 0 (by decide)).trans h_tok) ((hF.1 tok (hT0.at 2 rfl).1 6 (hT0.at 2 rfl).2 4 (by decide)).trans h_ka) ((hF.1 tok (hT0.at 2 rfl).1 6 (hT0.at 2 rfl).2 5 (by decide)).trans h_sta) ((hF.1 tok (hT0.at 2 rfl).1 6 (hT0.at 2 rfl).2 6 (by decide)).trans h_vaa) hzz (hTK.go (hF.2 ka (hT0.at 3 rfl).1 0 _ _ (hT0.at 3 rfl).2 (by decide)) (hF.2 sta (hT0.at 4 rfl).1 0 _ _ (hT0.at 4 rfl).2 (by decide)) (hF.2 vaa (hT0.at 5 rfl).1 0 _ _ (hT0.at 5 rfl).2 (by decide))) hrq_1269) (cwV 2 hts gX2_readTest_X2_readNumber rfl rfl rfl (by decide +kernel) ⟨Nat.le_of_ble_eq_true rfl, Nat.le_of_ble_eq_true rfl⟩) hP hD hK hS hA hev hT 0 2 rfl rfl rfl rfl hl.1 rfl (Nat.le_of_ble_eq_true rfl) dX2_readTest_61 ⟨Nat.le_of_ble_eq_true rfl, Nat.le_of_ble_eq_true rfl⟩ (fun r L_1274 f_1275 H locs hw_1276 hP hD hS hT hE1 => ?_)
        have hEo := hE
        have hO5 := hO5.call hE (OF.fr hw_1276.2.1 (by decide)) (by simp)
        have hF := Fr.call hF hE hw_1276.2.1 (by decide)
        have hE := hE.tr hE1
        obtain ⟨⟨z_1277, rfl⟩, hw_1276⟩ := hw_1276
        obtain ⟨hfr_1278, ax_1279, tn_1280, fa_1281, pw_1282, hk_1283, hk_1284, hk_1285, hk_1286, hrel_1287, hrel_1288, hrel_1289, hrel_1290, hex_1291⟩ := hw_1276
        have hk_1292 : rd f_1275 tok 3 = .int zz := (hfr_1278.1 tok (hTo.at 2 rfl).1 6 (hTo.at 2 rfl).2 3 (by decide)).trans hk_1264
        have hk_1293 : rd f_1275 o 1 = .int vt := (hfr_1278.1 o (hTo.at 1 rfl).1 5 (hTo.at 1 rfl).2 1 (by decide)).trans hk_1265
        have hk_1294 : rd f_1275 o 2 = .int nu := (hfr_1278.1 o (hTo.at 1 rfl).1 5 (hTo.at 1 rfl).2 2 (by decide)).trans hk_1266
        have hk_1295 : rd f_1275 o 3 = .int tn := (hfr_1278.1 o (hTo.at 1 rfl).1 5 (hTo.at 1 rfl).2 3 (by decide)).trans hk_1267
        have hk_1296 : rd f_1275 o 4 = .int be := (hfr_1278.1 o (hTo.at 1 rfl).1 5 (hTo.at 1 rfl).2 4 (by decide)).trans hk_1268
        have hzv_1297 : z_1277 = Vp tt ln (gpa (Kp tt ln) (nq tt ln) (Kp tt ln q.1) (grf 1 q)).1 := sv hex_1291.1
        have hrq_1298 := hex_1291.2
        refine W.eq (g2 := F0 m 64 ls [.int z_1277, .ref o]) rfl ?_
        have hTo := hT
        refine T_put (ci := 5) (v := .int z_1277) (ty := .int) (t := tI) (C := RX5) (T := TX5) (N := 8) hx hb hts inw_X2_readTest_5 tyX5 tyX5_ok nmX5 hown hK hP hD hS hT 1 rfl rfl 1 (by decide) (hts (.fieldLink RX2 76 "VatHouse$Step" "vat" "I") (List.mem_of_getElem? (i := 3) (by exact rfl))) (fun _ h9 => h9) rfl (tyX5_ok 1 (by decide)) rfl rfl rfl ⟨_, rfl⟩ dX2_readTest_64 (fun f_1299 H locs hP hD hS hT hE1 hrd_1300 hup_1301 => ?_)
        have hO5 := hO5.put hrd_1300 (by simp)
        have hF := Fr.put (a := o) (ci := 5) hF hE ((hE1 o (hT.at 1 rfl).1).2.symm.trans (hT.at 1 rfl).2) (by decide) hrd_1300 hup_1301
        have hE := hE.tr hE1
        have hk_1302 : rd f_1299 h0 1 = .int ax_1279 := ((Fr.put (cs := [(5, 1)]) (a := o) (ci := 5) Fr.rf Ext.rf (hTo.at 1 rfl).2 (by decide) hrd_1300 hup_1301).1 h0 (hTo.at 0 rfl).1 2 (hTo.at 0 rfl).2 1 (by decide)).trans hk_1283
        have hk_1303 : rd f_1299 h0 2 = .int tn_1280 := ((Fr.put (cs := [(5, 1)]) (a := o) (ci := 5) Fr.rf Ext.rf (hTo.at 1 rfl).2 (by decide) hrd_1300 hup_1301).1 h0 (hTo.at 0 rfl).1 2 (hTo.at 0 rfl).2 2 (by decide)).trans hk_1284
        have hk_1304 : rd f_1299 h0 3 = .int fa_1281 := ((Fr.put (cs := [(5, 1)]) (a := o) (ci := 5) Fr.rf Ext.rf (hTo.at 1 rfl).2 (by decide) hrd_1300 hup_1301).1 h0 (hTo.at 0 rfl).1 2 (hTo.at 0 rfl).2 3 (by decide)).trans hk_1285
        have hk_1305 : rd f_1299 h0 4 = .int pw_1282 := ((Fr.put (cs := [(5, 1)]) (a := o) (ci := 5) Fr.rf Ext.rf (hTo.at 1 rfl).2 (by decide) hrd_1300 hup_1301).1 h0 (hTo.at 0 rfl).1 2 (hTo.at 0 rfl).2 4 (by decide)).trans hk_1286
        have hk_1306 : rd f_1299 tok 3 = .int zz := ((Fr.put (cs := [(5, 1)]) (a := o) (ci := 5) Fr.rf Ext.rf (hTo.at 1 rfl).2 (by decide) hrd_1300 hup_1301).1 tok (hTo.at 2 rfl).1 6 (hTo.at 2 rfl).2 3 (by decide)).trans hk_1292
        have hk_1307 : rd f_1299 o 1 = .int z_1277 := (hrd_1300 o 1).trans (if_pos ⟨rfl, rfl⟩)
        have hk_1308 : rd f_1299 o 2 = .int nu := ((Fr.put (cs := [(5, 1)]) (a := o) (ci := 5) Fr.rf Ext.rf (hTo.at 1 rfl).2 (by decide) hrd_1300 hup_1301).1 o (hTo.at 1 rfl).1 5 (hTo.at 1 rfl).2 2 (by decide)).trans hk_1294
        have hk_1309 : rd f_1299 o 3 = .int tn := ((Fr.put (cs := [(5, 1)]) (a := o) (ci := 5) Fr.rf Ext.rf (hTo.at 1 rfl).2 (by decide) hrd_1300 hup_1301).1 o (hTo.at 1 rfl).1 5 (hTo.at 1 rfl).2 3 (by decide)).trans hk_1295
        have hk_1310 : rd f_1299 o 4 = .int be := ((Fr.put (cs := [(5, 1)]) (a := o) (ci := 5) Fr.rf Ext.rf (hTo.at 1 rfl).2 (by decide) hrd_1300 hup_1301).1 o (hTo.at 1 rfl).1 5 (hTo.at 1 rfl).2 4 (by decide)).trans hk_1296
        have hg2 : gte2 (Kp tt ln) (Vp tt ln) (nq tt ln) (Kp tt ln q.1) (gpa (Kp tt ln) (nq tt ln) (Kp tt ln q.1) (grf 1 q)) = (gnu (Kp tt ln) (Vp tt ln) (nq tt ln) 0 5 (gpa (Kp tt ln) (nq tt ln) (Kp tt ln q.1) (grf 1 q))) := if_pos (Or.inl (by rw [← hRQ.K]; exact c_1273))
        refine lv_aload_n hx hb dX2_readTest_67 rfl (lv_at hl 1 rfl) ?_
        refine lv_aload_n hx hb dX2_readTest_68 rfl (lv_at hl 0 rfl) ?_
        refine T_get (ci := 2) (C := RX2) (T := TX2) (N := 6) (t := tI) hx hb hts inw_X2_readTest_2 hown hK hP hT 0 rfl rfl 2 (by decide) (hts (.fieldLink RX2 44 "VatHouse$Reader" "token" "I") (List.mem_of_getElem? (i := 1) (by exact rfl))) (fun _ h9 => h9) rfl dX2_readTest_69 (fun v_1313 hv_1311 hr_1312 => ?_)
        obtain rfl : v_1313 = .int tn_1280 := hr_1312.symm.trans hk_1303
        refine lv_bipush (v := 60) hx hb dX2_readTest_72 (by decide) ?_
        refine lv_icmp_ne (tgt := 81) hx hb dX2_readTest_74 (by decide) (fun c_1314 => ?_) (fun c_1314 => ?_)
        · refine lv_iconst (v := 0) hx hb dX2_readTest_81 (by decide) ?_
          have hTo := hT
          refine T_put (ci := 5) (v := .int 0) (ty := .boolean) (t := tI) (C := RX5) (T := TX5) (N := 8) hx hb hts inw_X2_readTest_5 tyX5 tyX5_ok nmX5 hown hK hP hD hS hT 1 rfl rfl 4 (by decide) (hts (.fieldLink RX2 97 "VatHouse$Step" "below" "Z") (List.mem_of_getElem? (i := 4) (by exact rfl))) (fun _ h9 => h9) rfl (tyX5_ok 4 (by decide)) rfl rfl rfl ⟨_, rfl⟩ dX2_readTest_82 (fun f_1315 H locs hP hD hS hT hE1 hrd_1316 hup_1317 => ?_)
          have hO5 := hO5.put hrd_1316 (by simp)
          have hF := Fr.put (a := o) (ci := 5) hF hE ((hE1 o (hT.at 1 rfl).1).2.symm.trans (hT.at 1 rfl).2) (by decide) hrd_1316 hup_1317
          have hE := hE.tr hE1
          have hk_1318 : rd f_1315 h0 1 = .int ax_1279 := ((Fr.put (cs := [(5, 4)]) (a := o) (ci := 5) Fr.rf Ext.rf (hTo.at 1 rfl).2 (by decide) hrd_1316 hup_1317).1 h0 (hTo.at 0 rfl).1 2 (hTo.at 0 rfl).2 1 (by decide)).trans hk_1302
          have hk_1319 : rd f_1315 h0 2 = .int tn_1280 := ((Fr.put (cs := [(5, 4)]) (a := o) (ci := 5) Fr.rf Ext.rf (hTo.at 1 rfl).2 (by decide) hrd_1316 hup_1317).1 h0 (hTo.at 0 rfl).1 2 (hTo.at 0 rfl).2 2 (by decide)).trans hk_1303
          have hk_1320 : rd f_1315 h0 3 = .int fa_1281 := ((Fr.put (cs := [(5, 4)]) (a := o) (ci := 5) Fr.rf Ext.rf (hTo.at 1 rfl).2 (by decide) hrd_1316 hup_1317).1 h0 (hTo.at 0 rfl).1 2 (hTo.at 0 rfl).2 3 (by decide)).trans hk_1304
          have hk_1321 : rd f_1315 h0 4 = .int pw_1282 := ((Fr.put (cs := [(5, 4)]) (a := o) (ci := 5) Fr.rf Ext.rf (hTo.at 1 rfl).2 (by decide) hrd_1316 hup_1317).1 h0 (hTo.at 0 rfl).1 2 (hTo.at 0 rfl).2 4 (by decide)).trans hk_1305
          have hk_1322 : rd f_1315 tok 3 = .int zz := ((Fr.put (cs := [(5, 4)]) (a := o) (ci := 5) Fr.rf Ext.rf (hTo.at 1 rfl).2 (by decide) hrd_1316 hup_1317).1 tok (hTo.at 2 rfl).1 6 (hTo.at 2 rfl).2 3 (by decide)).trans hk_1306
          have hk_1323 : rd f_1315 o 1 = .int z_1277 := ((Fr.put (cs := [(5, 4)]) (a := o) (ci := 5) Fr.rf Ext.rf (hTo.at 1 rfl).2 (by decide) hrd_1316 hup_1317).1 o (hTo.at 1 rfl).1 5 (hTo.at 1 rfl).2 1 (by decide)).trans hk_1307
          have hk_1324 : rd f_1315 o 2 = .int nu := ((Fr.put (cs := [(5, 4)]) (a := o) (ci := 5) Fr.rf Ext.rf (hTo.at 1 rfl).2 (by decide) hrd_1316 hup_1317).1 o (hTo.at 1 rfl).1 5 (hTo.at 1 rfl).2 2 (by decide)).trans hk_1308
          have hk_1325 : rd f_1315 o 3 = .int tn := ((Fr.put (cs := [(5, 4)]) (a := o) (ci := 5) Fr.rf Ext.rf (hTo.at 1 rfl).2 (by decide) hrd_1316 hup_1317).1 o (hTo.at 1 rfl).1 5 (hTo.at 1 rfl).2 3 (by decide)).trans hk_1309
          have hk_1326 : rd f_1315 o 4 = .int 0 := (hrd_1316 o 4).trans (if_pos ⟨rfl, rfl⟩)
          have hg3 : (if Kp tt ln (gnu (Kp tt ln) (Vp tt ln) (nq tt ln) 0 5 (gpa (Kp tt ln) (nq tt ln) (Kp tt ln q.1) (grf 1 q))).1 = 60 then (60 : Int32) else 61) = 61 := if_neg (by rw [← hrq_1298.K]; exact c_1314)
          have hg4 : (0 : Int32) = if Kp tt ln (gnu (Kp tt ln) (Vp tt ln) (nq tt ln) 0 5 (gpa (Kp tt ln) (nq tt ln) (Kp tt ln q.1) (grf 1 q))).1 = 60 then 1 else 0 := (if_neg (by rw [← hrq_1298.K]; exact c_1314)).symm
          refine lv_aload_n hx hb dX2_readTest_85 rfl (lv_at hl 0 rfl) ?_
          refine lv_aload_n hx hb dX2_readTest_86 rfl (lv_at hl 1 rfl) ?_
          refine T_get (ci := 5) (C := RX5) (T := TX5) (N := 8) (t := tI) hx hb hts inw_X2_readTest_5 hown hK hP hT 1 rfl rfl 4 (by decide) (hts (.fieldLink RX2 97 "VatHouse$Step" "below" "Z") (List.mem_of_getElem? (i := 4) (by exact rfl))) (fun _ h9 => h9) rfl dX2_readTest_87 (fun v_1329 hv_1327 hr_1328 => ?_)
          obtain rfl : v_1329 = .int 0 := hr_1328.symm.trans hk_1326
          refine lv_if_eq (tgt := 98) hx hb dX2_readTest_90 (by decide) (fun c_1330 => ?_) (fun c_1330 => ?_)
          rotate_left
          · exact absurd c_1330 (by decide)
          refine lv_bipush (v := 61) hx hb dX2_readTest_98 (by decide) ?_
          have hTo := hT
          refine K_V ⟨hx, hb, hml, hown, hts⟩ (t_X2_pass l dC dI sa hlt g _ _ tt ln M (gnu (Kp tt ln) (Vp tt ln) (nq tt ln) 0 5 (gpa (Kp tt ln) (nq tt ln) (Kp tt ln q.1) (grf 1 q))) h0 61 tok ka sta vaa ax_1279 tn_1280 fa_1281 pw_1282 zz _ (hT.sub [0, 2, 3, 4, 5] rfl)  hk_1318 hk_1319 hk_1320 hk_1321 hk_1322 ((hF.1 h0 (hT0.at 0 rfl).1 2 (hT0.at 0 rfl).2 0 (by decide)).trans h_tok) ((hF.1 tok (hT0.at 2 rfl).1 6 (hT0.at 2 rfl).2 4 (by decide)).trans h_ka) ((hF.1 tok (hT0.at 2 rfl).1 6 (hT0.at 2 rfl).2 5 (by decide)).trans h_sta) ((hF.1 tok (hT0.at 2 rfl).1 6 (hT0.at 2 rfl).2 6 (by decide)).trans h_vaa) hzz (hTK.go (hF.2 ka (hT0.at 3 rfl).1 0 _ _ (hT0.at 3 rfl).2 (by decide)) (hF.2 sta (hT0.at 4 rfl).1 0 _ _ (hT0.at 4 rfl).2 (by decide)) (hF.2 vaa (hT0.at 5 rfl).1 0 _ _ (hT0.at 5 rfl).2 (by decide))) hrq_1298 (Or.inl (by decide))) (cwV 1 hts gX2_readTest_X2_pass rfl rfl rfl (by decide +kernel) ⟨Nat.le_of_ble_eq_true rfl, Nat.le_of_ble_eq_true rfl⟩) hP hD hK hS hA hev hT 0 2 rfl rfl rfl rfl hl.1 rfl (Nat.le_of_ble_eq_true rfl) dX2_readTest_100 ⟨Nat.le_of_ble_eq_true rfl, Nat.le_of_ble_eq_true rfl⟩ (fun r L_1331 f_1332 H locs hw_1333 hP hD hS hT hE1 => ?_)
          have hEo := hE
          have hO5 := hO5.call hE (OF.fr hw_1333.2.1 (by decide)) (by simp)
          have hF := Fr.call hF hE hw_1333.2.1 (by decide)
          have hE := hE.tr hE1
          obtain ⟨rfl, hw_1333⟩ := hw_1333
          obtain ⟨hfr_1334, ax_1335, tn_1336, fa_1337, pw_1338, hk_1339, hk_1340, hk_1341, hk_1342, hrel_1343, hrel_1344, hrel_1345, hrel_1346, hex_1347⟩ := hw_1333
          have hk_1348 : rd f_1332 tok 3 = .int zz := (hfr_1334.1 tok (hTo.at 2 rfl).1 6 (hTo.at 2 rfl).2 3 (by decide)).trans hk_1322
          have hk_1349 : rd f_1332 o 1 = .int z_1277 := (hfr_1334.1 o (hTo.at 1 rfl).1 5 (hTo.at 1 rfl).2 1 (by decide)).trans hk_1323
          have hk_1350 : rd f_1332 o 2 = .int nu := (hfr_1334.1 o (hTo.at 1 rfl).1 5 (hTo.at 1 rfl).2 2 (by decide)).trans hk_1324
          have hk_1351 : rd f_1332 o 3 = .int tn := (hfr_1334.1 o (hTo.at 1 rfl).1 5 (hTo.at 1 rfl).2 3 (by decide)).trans hk_1325
          have hk_1352 : rd f_1332 o 4 = .int 0 := (hfr_1334.1 o (hTo.at 1 rfl).1 5 (hTo.at 1 rfl).2 4 (by decide)).trans hk_1326
          have hrq_1353 := hex_1347
          refine W.eq (g2 := F0 m 103 ls []) rfl ?_
          refine lv_aload_n hx hb dX2_readTest_103 rfl (lv_at hl 1 rfl) ?_
          refine lv_aload_n hx hb dX2_readTest_104 rfl (lv_at hl 0 rfl) ?_
          refine lv_iconst (v := 0) hx hb dX2_readTest_105 (by decide) ?_
          refine lv_sipush (v := 9999) hx hb dX2_readTest_106 (by decide) ?_
          have hTo := hT
          refine K_V ⟨hx, hb, hml, hown, hts⟩ (t_X2_readNumber l dC dI sa hlt g _ _ tt ln M (gpa (Kp tt ln) (nq tt ln) 61 (gnu (Kp tt ln) (Vp tt ln) (nq tt ln) 0 5 (gpa (Kp tt ln) (nq tt ln) (Kp tt ln q.1) (grf 1 q)))) h0 0 9999 tok ka sta vaa ax_1335 tn_1336 fa_1337 pw_1338 zz _ (hT.sub [0, 2, 3, 4, 5] rfl)  hk_1339 hk_1340 hk_1341 hk_1342 hk_1348 ((hF.1 h0 (hT0.at 0 rfl).1 2 (hT0.at 0 rfl).2 0 (by decide)).trans h_tok) ((hF.1 tok (hT0.at 2 rfl).1 6 (hT0.at 2 rfl).2 4 (by decide)).trans h_ka) ((hF.1 tok (hT0.at 2 rfl).1 6 (hT0.at 2 rfl).2 5 (by decide)).trans h_sta) ((hF.1 tok (hT0.at 2 rfl).1 6 (hT0.at 2 rfl).2 6 (by decide)).trans h_vaa) hzz (hTK.go (hF.2 ka (hT0.at 3 rfl).1 0 _ _ (hT0.at 3 rfl).2 (by decide)) (hF.2 sta (hT0.at 4 rfl).1 0 _ _ (hT0.at 4 rfl).2 (by decide)) (hF.2 vaa (hT0.at 5 rfl).1 0 _ _ (hT0.at 5 rfl).2 (by decide))) hrq_1353) (cwV 2 hts gX2_readTest_X2_readNumber rfl rfl rfl (by decide +kernel) ⟨Nat.le_of_ble_eq_true rfl, Nat.le_of_ble_eq_true rfl⟩) hP hD hK hS hA hev hT 0 2 rfl rfl rfl rfl hl.1 rfl (Nat.le_of_ble_eq_true rfl) dX2_readTest_109 ⟨Nat.le_of_ble_eq_true rfl, Nat.le_of_ble_eq_true rfl⟩ (fun r L_1354 f_1355 H locs hw_1356 hP hD hS hT hE1 => ?_)
          have hEo := hE
          have hO5 := hO5.call hE (OF.fr hw_1356.2.1 (by decide)) (by simp)
          have hF := Fr.call hF hE hw_1356.2.1 (by decide)
          have hE := hE.tr hE1
          obtain ⟨⟨z_1357, rfl⟩, hw_1356⟩ := hw_1356
          obtain ⟨hfr_1358, ax_1359, tn_1360, fa_1361, pw_1362, hk_1363, hk_1364, hk_1365, hk_1366, hrel_1367, hrel_1368, hrel_1369, hrel_1370, hex_1371⟩ := hw_1356
          have hk_1372 : rd f_1355 tok 3 = .int zz := (hfr_1358.1 tok (hTo.at 2 rfl).1 6 (hTo.at 2 rfl).2 3 (by decide)).trans hk_1348
          have hk_1373 : rd f_1355 o 1 = .int z_1277 := (hfr_1358.1 o (hTo.at 1 rfl).1 5 (hTo.at 1 rfl).2 1 (by decide)).trans hk_1349
          have hk_1374 : rd f_1355 o 2 = .int nu := (hfr_1358.1 o (hTo.at 1 rfl).1 5 (hTo.at 1 rfl).2 2 (by decide)).trans hk_1350
          have hk_1375 : rd f_1355 o 3 = .int tn := (hfr_1358.1 o (hTo.at 1 rfl).1 5 (hTo.at 1 rfl).2 3 (by decide)).trans hk_1351
          have hk_1376 : rd f_1355 o 4 = .int 0 := (hfr_1358.1 o (hTo.at 1 rfl).1 5 (hTo.at 1 rfl).2 4 (by decide)).trans hk_1352
          have hzv_1377 : z_1357 = Vp tt ln (gpa (Kp tt ln) (nq tt ln) 61 (gnu (Kp tt ln) (Vp tt ln) (nq tt ln) 0 5 (gpa (Kp tt ln) (nq tt ln) (Kp tt ln q.1) (grf 1 q)))).1 := sv hex_1371.1
          have hrq_1378 := hex_1371.2
          refine W.eq (g2 := F0 m 112 ls [.int z_1357, .ref o]) rfl ?_
          have hTo := hT
          refine T_put (ci := 5) (v := .int z_1357) (ty := .int) (t := tI) (C := RX5) (T := TX5) (N := 8) hx hb hts inw_X2_readTest_5 tyX5 tyX5_ok nmX5 hown hK hP hD hS hT 1 rfl rfl 2 (by decide) (hts (.fieldLink RX2 79 "VatHouse$Step" "number" "I") (List.mem_of_getElem? (i := 5) (by exact rfl))) (fun _ h9 => h9) rfl (tyX5_ok 2 (by decide)) rfl rfl rfl ⟨_, rfl⟩ dX2_readTest_112 (fun f_1379 H locs hP hD hS hT hE1 hrd_1380 hup_1381 => ?_)
          have hO5 := hO5.put hrd_1380 (by simp)
          have hF := Fr.put (a := o) (ci := 5) hF hE ((hE1 o (hT.at 1 rfl).1).2.symm.trans (hT.at 1 rfl).2) (by decide) hrd_1380 hup_1381
          have hE := hE.tr hE1
          have hk_1382 : rd f_1379 h0 1 = .int ax_1359 := ((Fr.put (cs := [(5, 2)]) (a := o) (ci := 5) Fr.rf Ext.rf (hTo.at 1 rfl).2 (by decide) hrd_1380 hup_1381).1 h0 (hTo.at 0 rfl).1 2 (hTo.at 0 rfl).2 1 (by decide)).trans hk_1363
          have hk_1383 : rd f_1379 h0 2 = .int tn_1360 := ((Fr.put (cs := [(5, 2)]) (a := o) (ci := 5) Fr.rf Ext.rf (hTo.at 1 rfl).2 (by decide) hrd_1380 hup_1381).1 h0 (hTo.at 0 rfl).1 2 (hTo.at 0 rfl).2 2 (by decide)).trans hk_1364
          have hk_1384 : rd f_1379 h0 3 = .int fa_1361 := ((Fr.put (cs := [(5, 2)]) (a := o) (ci := 5) Fr.rf Ext.rf (hTo.at 1 rfl).2 (by decide) hrd_1380 hup_1381).1 h0 (hTo.at 0 rfl).1 2 (hTo.at 0 rfl).2 3 (by decide)).trans hk_1365
          have hk_1385 : rd f_1379 h0 4 = .int pw_1362 := ((Fr.put (cs := [(5, 2)]) (a := o) (ci := 5) Fr.rf Ext.rf (hTo.at 1 rfl).2 (by decide) hrd_1380 hup_1381).1 h0 (hTo.at 0 rfl).1 2 (hTo.at 0 rfl).2 4 (by decide)).trans hk_1366
          have hk_1386 : rd f_1379 tok 3 = .int zz := ((Fr.put (cs := [(5, 2)]) (a := o) (ci := 5) Fr.rf Ext.rf (hTo.at 1 rfl).2 (by decide) hrd_1380 hup_1381).1 tok (hTo.at 2 rfl).1 6 (hTo.at 2 rfl).2 3 (by decide)).trans hk_1372
          have hk_1387 : rd f_1379 o 1 = .int z_1277 := ((Fr.put (cs := [(5, 2)]) (a := o) (ci := 5) Fr.rf Ext.rf (hTo.at 1 rfl).2 (by decide) hrd_1380 hup_1381).1 o (hTo.at 1 rfl).1 5 (hTo.at 1 rfl).2 1 (by decide)).trans hk_1373
          have hk_1388 : rd f_1379 o 2 = .int z_1357 := (hrd_1380 o 2).trans (if_pos ⟨rfl, rfl⟩)
          have hk_1389 : rd f_1379 o 3 = .int tn := ((Fr.put (cs := [(5, 2)]) (a := o) (ci := 5) Fr.rf Ext.rf (hTo.at 1 rfl).2 (by decide) hrd_1380 hup_1381).1 o (hTo.at 1 rfl).1 5 (hTo.at 1 rfl).2 3 (by decide)).trans hk_1375
          have hk_1390 : rd f_1379 o 4 = .int 0 := ((Fr.put (cs := [(5, 2)]) (a := o) (ci := 5) Fr.rf Ext.rf (hTo.at 1 rfl).2 (by decide) hrd_1380 hup_1381).1 o (hTo.at 1 rfl).1 5 (hTo.at 1 rfl).2 4 (by decide)).trans hk_1376
          exact K_v hx hb hr hlocks hP hD hK hS hT hE ⟨rfl, hF, _, _, _, _, _, _, _, _, hk_1382, hk_1383, hk_1384, hk_1385, hk_1387, hk_1388, hk_1389, hk_1390, trivial, trivial, fun h9 => (absurd ((hrel_1261 (hrel_1289 ((hrel_1345 (hrel_1369 h9)).1))).1) hrel_1218), trivial, trivial, trivial, trivial, trivial, hO5, (gte_b hg1 hg2 hg3) ▸ hrq_1378, fun h9 => (c_618 (by rw [hRQ.K]; exact (gte_ok h9).2.1.2)).elim⟩ (Nat.le_of_ble_eq_true rfl) (Nat.le_of_ble_eq_true rfl) dX2_readTest_115
        · refine lv_iconst (v := 1) hx hb dX2_readTest_77 (by decide) ?_
          refine lv_goto (tgt := 82) hx hb dX2_readTest_78 (by decide) ?_
          have hTo := hT
          refine T_put (ci := 5) (v := .int 1) (ty := .boolean) (t := tI) (C := RX5) (T := TX5) (N := 8) hx hb hts inw_X2_readTest_5 tyX5 tyX5_ok nmX5 hown hK hP hD hS hT 1 rfl rfl 4 (by decide) (hts (.fieldLink RX2 97 "VatHouse$Step" "below" "Z") (List.mem_of_getElem? (i := 4) (by exact rfl))) (fun _ h9 => h9) rfl (tyX5_ok 4 (by decide)) rfl rfl rfl ⟨_, rfl⟩ dX2_readTest_82 (fun f_1391 H locs hP hD hS hT hE1 hrd_1392 hup_1393 => ?_)
          have hO5 := hO5.put hrd_1392 (by simp)
          have hF := Fr.put (a := o) (ci := 5) hF hE ((hE1 o (hT.at 1 rfl).1).2.symm.trans (hT.at 1 rfl).2) (by decide) hrd_1392 hup_1393
          have hE := hE.tr hE1
          have hk_1394 : rd f_1391 h0 1 = .int ax_1279 := ((Fr.put (cs := [(5, 4)]) (a := o) (ci := 5) Fr.rf Ext.rf (hTo.at 1 rfl).2 (by decide) hrd_1392 hup_1393).1 h0 (hTo.at 0 rfl).1 2 (hTo.at 0 rfl).2 1 (by decide)).trans hk_1302
          have hk_1395 : rd f_1391 h0 2 = .int tn_1280 := ((Fr.put (cs := [(5, 4)]) (a := o) (ci := 5) Fr.rf Ext.rf (hTo.at 1 rfl).2 (by decide) hrd_1392 hup_1393).1 h0 (hTo.at 0 rfl).1 2 (hTo.at 0 rfl).2 2 (by decide)).trans hk_1303
          have hk_1396 : rd f_1391 h0 3 = .int fa_1281 := ((Fr.put (cs := [(5, 4)]) (a := o) (ci := 5) Fr.rf Ext.rf (hTo.at 1 rfl).2 (by decide) hrd_1392 hup_1393).1 h0 (hTo.at 0 rfl).1 2 (hTo.at 0 rfl).2 3 (by decide)).trans hk_1304
          have hk_1397 : rd f_1391 h0 4 = .int pw_1282 := ((Fr.put (cs := [(5, 4)]) (a := o) (ci := 5) Fr.rf Ext.rf (hTo.at 1 rfl).2 (by decide) hrd_1392 hup_1393).1 h0 (hTo.at 0 rfl).1 2 (hTo.at 0 rfl).2 4 (by decide)).trans hk_1305
          have hk_1398 : rd f_1391 tok 3 = .int zz := ((Fr.put (cs := [(5, 4)]) (a := o) (ci := 5) Fr.rf Ext.rf (hTo.at 1 rfl).2 (by decide) hrd_1392 hup_1393).1 tok (hTo.at 2 rfl).1 6 (hTo.at 2 rfl).2 3 (by decide)).trans hk_1306
          have hk_1399 : rd f_1391 o 1 = .int z_1277 := ((Fr.put (cs := [(5, 4)]) (a := o) (ci := 5) Fr.rf Ext.rf (hTo.at 1 rfl).2 (by decide) hrd_1392 hup_1393).1 o (hTo.at 1 rfl).1 5 (hTo.at 1 rfl).2 1 (by decide)).trans hk_1307
          have hk_1400 : rd f_1391 o 2 = .int nu := ((Fr.put (cs := [(5, 4)]) (a := o) (ci := 5) Fr.rf Ext.rf (hTo.at 1 rfl).2 (by decide) hrd_1392 hup_1393).1 o (hTo.at 1 rfl).1 5 (hTo.at 1 rfl).2 2 (by decide)).trans hk_1308
          have hk_1401 : rd f_1391 o 3 = .int tn := ((Fr.put (cs := [(5, 4)]) (a := o) (ci := 5) Fr.rf Ext.rf (hTo.at 1 rfl).2 (by decide) hrd_1392 hup_1393).1 o (hTo.at 1 rfl).1 5 (hTo.at 1 rfl).2 3 (by decide)).trans hk_1309
          have hk_1402 : rd f_1391 o 4 = .int 1 := (hrd_1392 o 4).trans (if_pos ⟨rfl, rfl⟩)
          have hg3 : (if Kp tt ln (gnu (Kp tt ln) (Vp tt ln) (nq tt ln) 0 5 (gpa (Kp tt ln) (nq tt ln) (Kp tt ln q.1) (grf 1 q))).1 = 60 then (60 : Int32) else 61) = 60 := if_pos (by rw [← hrq_1298.K]; exact c_1314)
          have hg4 : (1 : Int32) = if Kp tt ln (gnu (Kp tt ln) (Vp tt ln) (nq tt ln) 0 5 (gpa (Kp tt ln) (nq tt ln) (Kp tt ln q.1) (grf 1 q))).1 = 60 then 1 else 0 := (if_pos (by rw [← hrq_1298.K]; exact c_1314)).symm
          refine lv_aload_n hx hb dX2_readTest_85 rfl (lv_at hl 0 rfl) ?_
          refine lv_aload_n hx hb dX2_readTest_86 rfl (lv_at hl 1 rfl) ?_
          refine T_get (ci := 5) (C := RX5) (T := TX5) (N := 8) (t := tI) hx hb hts inw_X2_readTest_5 hown hK hP hT 1 rfl rfl 4 (by decide) (hts (.fieldLink RX2 97 "VatHouse$Step" "below" "Z") (List.mem_of_getElem? (i := 4) (by exact rfl))) (fun _ h9 => h9) rfl dX2_readTest_87 (fun v_1405 hv_1403 hr_1404 => ?_)
          obtain rfl : v_1405 = .int 1 := hr_1404.symm.trans hk_1402
          refine lv_if_eq (tgt := 98) hx hb dX2_readTest_90 (by decide) (fun c_1406 => ?_) (fun c_1406 => ?_)
          · exact absurd c_1406 (by decide)
          refine lv_bipush (v := 60) hx hb dX2_readTest_93 (by decide) ?_
          refine lv_goto (tgt := 100) hx hb dX2_readTest_95 (by decide) ?_
          have hTo := hT
          refine K_V ⟨hx, hb, hml, hown, hts⟩ (t_X2_pass l dC dI sa hlt g _ _ tt ln M (gnu (Kp tt ln) (Vp tt ln) (nq tt ln) 0 5 (gpa (Kp tt ln) (nq tt ln) (Kp tt ln q.1) (grf 1 q))) h0 60 tok ka sta vaa ax_1279 tn_1280 fa_1281 pw_1282 zz _ (hT.sub [0, 2, 3, 4, 5] rfl)  hk_1394 hk_1395 hk_1396 hk_1397 hk_1398 ((hF.1 h0 (hT0.at 0 rfl).1 2 (hT0.at 0 rfl).2 0 (by decide)).trans h_tok) ((hF.1 tok (hT0.at 2 rfl).1 6 (hT0.at 2 rfl).2 4 (by decide)).trans h_ka) ((hF.1 tok (hT0.at 2 rfl).1 6 (hT0.at 2 rfl).2 5 (by decide)).trans h_sta) ((hF.1 tok (hT0.at 2 rfl).1 6 (hT0.at 2 rfl).2 6 (by decide)).trans h_vaa) hzz (hTK.go (hF.2 ka (hT0.at 3 rfl).1 0 _ _ (hT0.at 3 rfl).2 (by decide)) (hF.2 sta (hT0.at 4 rfl).1 0 _ _ (hT0.at 4 rfl).2 (by decide)) (hF.2 vaa (hT0.at 5 rfl).1 0 _ _ (hT0.at 5 rfl).2 (by decide))) hrq_1298 (Or.inl (by decide))) (cwV 1 hts gX2_readTest_X2_pass rfl rfl rfl (by decide +kernel) ⟨Nat.le_of_ble_eq_true rfl, Nat.le_of_ble_eq_true rfl⟩) hP hD hK hS hA hev hT 0 2 rfl rfl rfl rfl hl.1 rfl (Nat.le_of_ble_eq_true rfl) dX2_readTest_100 ⟨Nat.le_of_ble_eq_true rfl, Nat.le_of_ble_eq_true rfl⟩ (fun r L_1407 f_1408 H locs hw_1409 hP hD hS hT hE1 => ?_)
          have hEo := hE
          have hO5 := hO5.call hE (OF.fr hw_1409.2.1 (by decide)) (by simp)
          have hF := Fr.call hF hE hw_1409.2.1 (by decide)
          have hE := hE.tr hE1
          obtain ⟨rfl, hw_1409⟩ := hw_1409
          obtain ⟨hfr_1410, ax_1411, tn_1412, fa_1413, pw_1414, hk_1415, hk_1416, hk_1417, hk_1418, hrel_1419, hrel_1420, hrel_1421, hrel_1422, hex_1423⟩ := hw_1409
          have hk_1424 : rd f_1408 tok 3 = .int zz := (hfr_1410.1 tok (hTo.at 2 rfl).1 6 (hTo.at 2 rfl).2 3 (by decide)).trans hk_1398
          have hk_1425 : rd f_1408 o 1 = .int z_1277 := (hfr_1410.1 o (hTo.at 1 rfl).1 5 (hTo.at 1 rfl).2 1 (by decide)).trans hk_1399
          have hk_1426 : rd f_1408 o 2 = .int nu := (hfr_1410.1 o (hTo.at 1 rfl).1 5 (hTo.at 1 rfl).2 2 (by decide)).trans hk_1400
          have hk_1427 : rd f_1408 o 3 = .int tn := (hfr_1410.1 o (hTo.at 1 rfl).1 5 (hTo.at 1 rfl).2 3 (by decide)).trans hk_1401
          have hk_1428 : rd f_1408 o 4 = .int 1 := (hfr_1410.1 o (hTo.at 1 rfl).1 5 (hTo.at 1 rfl).2 4 (by decide)).trans hk_1402
          have hrq_1429 := hex_1423
          refine W.eq (g2 := F0 m 103 ls []) rfl ?_
          refine lv_aload_n hx hb dX2_readTest_103 rfl (lv_at hl 1 rfl) ?_
          refine lv_aload_n hx hb dX2_readTest_104 rfl (lv_at hl 0 rfl) ?_
          refine lv_iconst (v := 0) hx hb dX2_readTest_105 (by decide) ?_
          refine lv_sipush (v := 9999) hx hb dX2_readTest_106 (by decide) ?_
          have hTo := hT
          refine K_V ⟨hx, hb, hml, hown, hts⟩ (t_X2_readNumber l dC dI sa hlt g _ _ tt ln M (gpa (Kp tt ln) (nq tt ln) 60 (gnu (Kp tt ln) (Vp tt ln) (nq tt ln) 0 5 (gpa (Kp tt ln) (nq tt ln) (Kp tt ln q.1) (grf 1 q)))) h0 0 9999 tok ka sta vaa ax_1411 tn_1412 fa_1413 pw_1414 zz _ (hT.sub [0, 2, 3, 4, 5] rfl)  hk_1415 hk_1416 hk_1417 hk_1418 hk_1424 ((hF.1 h0 (hT0.at 0 rfl).1 2 (hT0.at 0 rfl).2 0 (by decide)).trans h_tok) ((hF.1 tok (hT0.at 2 rfl).1 6 (hT0.at 2 rfl).2 4 (by decide)).trans h_ka) ((hF.1 tok (hT0.at 2 rfl).1 6 (hT0.at 2 rfl).2 5 (by decide)).trans h_sta) ((hF.1 tok (hT0.at 2 rfl).1 6 (hT0.at 2 rfl).2 6 (by decide)).trans h_vaa) hzz (hTK.go (hF.2 ka (hT0.at 3 rfl).1 0 _ _ (hT0.at 3 rfl).2 (by decide)) (hF.2 sta (hT0.at 4 rfl).1 0 _ _ (hT0.at 4 rfl).2 (by decide)) (hF.2 vaa (hT0.at 5 rfl).1 0 _ _ (hT0.at 5 rfl).2 (by decide))) hrq_1429) (cwV 2 hts gX2_readTest_X2_readNumber rfl rfl rfl (by decide +kernel) ⟨Nat.le_of_ble_eq_true rfl, Nat.le_of_ble_eq_true rfl⟩) hP hD hK hS hA hev hT 0 2 rfl rfl rfl rfl hl.1 rfl (Nat.le_of_ble_eq_true rfl) dX2_readTest_109 ⟨Nat.le_of_ble_eq_true rfl, Nat.le_of_ble_eq_true rfl⟩ (fun r L_1430 f_1431 H locs hw_1432 hP hD hS hT hE1 => ?_)
          have hEo := hE
          have hO5 := hO5.call hE (OF.fr hw_1432.2.1 (by decide)) (by simp)
          have hF := Fr.call hF hE hw_1432.2.1 (by decide)
          have hE := hE.tr hE1
          obtain ⟨⟨z_1433, rfl⟩, hw_1432⟩ := hw_1432
          obtain ⟨hfr_1434, ax_1435, tn_1436, fa_1437, pw_1438, hk_1439, hk_1440, hk_1441, hk_1442, hrel_1443, hrel_1444, hrel_1445, hrel_1446, hex_1447⟩ := hw_1432
          have hk_1448 : rd f_1431 tok 3 = .int zz := (hfr_1434.1 tok (hTo.at 2 rfl).1 6 (hTo.at 2 rfl).2 3 (by decide)).trans hk_1424
          have hk_1449 : rd f_1431 o 1 = .int z_1277 := (hfr_1434.1 o (hTo.at 1 rfl).1 5 (hTo.at 1 rfl).2 1 (by decide)).trans hk_1425
          have hk_1450 : rd f_1431 o 2 = .int nu := (hfr_1434.1 o (hTo.at 1 rfl).1 5 (hTo.at 1 rfl).2 2 (by decide)).trans hk_1426
          have hk_1451 : rd f_1431 o 3 = .int tn := (hfr_1434.1 o (hTo.at 1 rfl).1 5 (hTo.at 1 rfl).2 3 (by decide)).trans hk_1427
          have hk_1452 : rd f_1431 o 4 = .int 1 := (hfr_1434.1 o (hTo.at 1 rfl).1 5 (hTo.at 1 rfl).2 4 (by decide)).trans hk_1428
          have hzv_1453 : z_1433 = Vp tt ln (gpa (Kp tt ln) (nq tt ln) 60 (gnu (Kp tt ln) (Vp tt ln) (nq tt ln) 0 5 (gpa (Kp tt ln) (nq tt ln) (Kp tt ln q.1) (grf 1 q)))).1 := sv hex_1447.1
          have hrq_1454 := hex_1447.2
          refine W.eq (g2 := F0 m 112 ls [.int z_1433, .ref o]) rfl ?_
          have hTo := hT
          refine T_put (ci := 5) (v := .int z_1433) (ty := .int) (t := tI) (C := RX5) (T := TX5) (N := 8) hx hb hts inw_X2_readTest_5 tyX5 tyX5_ok nmX5 hown hK hP hD hS hT 1 rfl rfl 2 (by decide) (hts (.fieldLink RX2 79 "VatHouse$Step" "number" "I") (List.mem_of_getElem? (i := 5) (by exact rfl))) (fun _ h9 => h9) rfl (tyX5_ok 2 (by decide)) rfl rfl rfl ⟨_, rfl⟩ dX2_readTest_112 (fun f_1455 H locs hP hD hS hT hE1 hrd_1456 hup_1457 => ?_)
          have hO5 := hO5.put hrd_1456 (by simp)
          have hF := Fr.put (a := o) (ci := 5) hF hE ((hE1 o (hT.at 1 rfl).1).2.symm.trans (hT.at 1 rfl).2) (by decide) hrd_1456 hup_1457
          have hE := hE.tr hE1
          have hk_1458 : rd f_1455 h0 1 = .int ax_1435 := ((Fr.put (cs := [(5, 2)]) (a := o) (ci := 5) Fr.rf Ext.rf (hTo.at 1 rfl).2 (by decide) hrd_1456 hup_1457).1 h0 (hTo.at 0 rfl).1 2 (hTo.at 0 rfl).2 1 (by decide)).trans hk_1439
          have hk_1459 : rd f_1455 h0 2 = .int tn_1436 := ((Fr.put (cs := [(5, 2)]) (a := o) (ci := 5) Fr.rf Ext.rf (hTo.at 1 rfl).2 (by decide) hrd_1456 hup_1457).1 h0 (hTo.at 0 rfl).1 2 (hTo.at 0 rfl).2 2 (by decide)).trans hk_1440
          have hk_1460 : rd f_1455 h0 3 = .int fa_1437 := ((Fr.put (cs := [(5, 2)]) (a := o) (ci := 5) Fr.rf Ext.rf (hTo.at 1 rfl).2 (by decide) hrd_1456 hup_1457).1 h0 (hTo.at 0 rfl).1 2 (hTo.at 0 rfl).2 3 (by decide)).trans hk_1441
          have hk_1461 : rd f_1455 h0 4 = .int pw_1438 := ((Fr.put (cs := [(5, 2)]) (a := o) (ci := 5) Fr.rf Ext.rf (hTo.at 1 rfl).2 (by decide) hrd_1456 hup_1457).1 h0 (hTo.at 0 rfl).1 2 (hTo.at 0 rfl).2 4 (by decide)).trans hk_1442
          have hk_1462 : rd f_1455 tok 3 = .int zz := ((Fr.put (cs := [(5, 2)]) (a := o) (ci := 5) Fr.rf Ext.rf (hTo.at 1 rfl).2 (by decide) hrd_1456 hup_1457).1 tok (hTo.at 2 rfl).1 6 (hTo.at 2 rfl).2 3 (by decide)).trans hk_1448
          have hk_1463 : rd f_1455 o 1 = .int z_1277 := ((Fr.put (cs := [(5, 2)]) (a := o) (ci := 5) Fr.rf Ext.rf (hTo.at 1 rfl).2 (by decide) hrd_1456 hup_1457).1 o (hTo.at 1 rfl).1 5 (hTo.at 1 rfl).2 1 (by decide)).trans hk_1449
          have hk_1464 : rd f_1455 o 2 = .int z_1433 := (hrd_1456 o 2).trans (if_pos ⟨rfl, rfl⟩)
          have hk_1465 : rd f_1455 o 3 = .int tn := ((Fr.put (cs := [(5, 2)]) (a := o) (ci := 5) Fr.rf Ext.rf (hTo.at 1 rfl).2 (by decide) hrd_1456 hup_1457).1 o (hTo.at 1 rfl).1 5 (hTo.at 1 rfl).2 3 (by decide)).trans hk_1451
          have hk_1466 : rd f_1455 o 4 = .int 1 := ((Fr.put (cs := [(5, 2)]) (a := o) (ci := 5) Fr.rf Ext.rf (hTo.at 1 rfl).2 (by decide) hrd_1456 hup_1457).1 o (hTo.at 1 rfl).1 5 (hTo.at 1 rfl).2 4 (by decide)).trans hk_1452
          exact K_v hx hb hr hlocks hP hD hK hS hT hE ⟨rfl, hF, _, _, _, _, _, _, _, _, hk_1458, hk_1459, hk_1460, hk_1461, hk_1463, hk_1464, hk_1465, hk_1466, trivial, trivial, fun h9 => (absurd ((hrel_1261 (hrel_1289 ((hrel_1421 (hrel_1445 h9)).1))).1) hrel_1218), trivial, trivial, trivial, trivial, trivial, hO5, (gte_b hg1 hg2 hg3) ▸ hrq_1454, fun h9 => (c_618 (by rw [hRQ.K]; exact (gte_ok h9).2.1.2)).elim⟩ (Nat.le_of_ble_eq_true rfl) (Nat.le_of_ble_eq_true rfl) dX2_readTest_115
      · refine lv_aload_n hx hb dX2_readTest_48 rfl (lv_at hl 1 rfl) ?_
        refine T_get (ci := 5) (C := RX5) (T := TX5) (N := 8) (t := tI) hx hb hts inw_X2_readTest_5 hown hK hP hT 1 rfl rfl 3 (by decide) (hts (.fieldLink RX2 94 "VatHouse$Step" "look" "I") (List.mem_of_getElem? (i := 2) (by exact rfl))) (fun _ h9 => h9) rfl dX2_readTest_49 (fun v_1469 hv_1467 hr_1468 => ?_)
        obtain rfl : v_1469 = .int tn := hr_1468.symm.trans hk_1267
        refine lv_bipush (v := 18) hx hb dX2_readTest_52 (by decide) ?_
        refine lv_icmp_ne (tgt := 67) hx hb dX2_readTest_54 (by decide) (fun c_1470 => ?_) (fun c_1470 => ?_)
        · have hg2 : gte2 (Kp tt ln) (Vp tt ln) (nq tt ln) (Kp tt ln q.1) (gpa (Kp tt ln) (nq tt ln) (Kp tt ln q.1) (grf 1 q)) = (gpa (Kp tt ln) (nq tt ln) (Kp tt ln q.1) (grf 1 q)) := if_neg (by rw [← hRQ.K]; rintro (h9 | h9); exact c_1273 h9; exact c_1470 h9)
          refine lv_aload_n hx hb dX2_readTest_67 rfl (lv_at hl 1 rfl) ?_
          refine lv_aload_n hx hb dX2_readTest_68 rfl (lv_at hl 0 rfl) ?_
          refine T_get (ci := 2) (C := RX2) (T := TX2) (N := 6) (t := tI) hx hb hts inw_X2_readTest_2 hown hK hP hT 0 rfl rfl 2 (by decide) (hts (.fieldLink RX2 44 "VatHouse$Reader" "token" "I") (List.mem_of_getElem? (i := 1) (by exact rfl))) (fun _ h9 => h9) rfl dX2_readTest_69 (fun v_1473 hv_1471 hr_1472 => ?_)
          obtain rfl : v_1473 = .int tn_1252 := hr_1472.symm.trans hk_1256
          refine lv_bipush (v := 60) hx hb dX2_readTest_72 (by decide) ?_
          refine lv_icmp_ne (tgt := 81) hx hb dX2_readTest_74 (by decide) (fun c_1474 => ?_) (fun c_1474 => ?_)
          · refine lv_iconst (v := 0) hx hb dX2_readTest_81 (by decide) ?_
            have hTo := hT
            refine T_put (ci := 5) (v := .int 0) (ty := .boolean) (t := tI) (C := RX5) (T := TX5) (N := 8) hx hb hts inw_X2_readTest_5 tyX5 tyX5_ok nmX5 hown hK hP hD hS hT 1 rfl rfl 4 (by decide) (hts (.fieldLink RX2 97 "VatHouse$Step" "below" "Z") (List.mem_of_getElem? (i := 4) (by exact rfl))) (fun _ h9 => h9) rfl (tyX5_ok 4 (by decide)) rfl rfl rfl ⟨_, rfl⟩ dX2_readTest_82 (fun f_1475 H locs hP hD hS hT hE1 hrd_1476 hup_1477 => ?_)
            have hO5 := hO5.put hrd_1476 (by simp)
            have hF := Fr.put (a := o) (ci := 5) hF hE ((hE1 o (hT.at 1 rfl).1).2.symm.trans (hT.at 1 rfl).2) (by decide) hrd_1476 hup_1477
            have hE := hE.tr hE1
            have hk_1478 : rd f_1475 h0 1 = .int ax_1251 := ((Fr.put (cs := [(5, 4)]) (a := o) (ci := 5) Fr.rf Ext.rf (hTo.at 1 rfl).2 (by decide) hrd_1476 hup_1477).1 h0 (hTo.at 0 rfl).1 2 (hTo.at 0 rfl).2 1 (by decide)).trans hk_1255
            have hk_1479 : rd f_1475 h0 2 = .int tn_1252 := ((Fr.put (cs := [(5, 4)]) (a := o) (ci := 5) Fr.rf Ext.rf (hTo.at 1 rfl).2 (by decide) hrd_1476 hup_1477).1 h0 (hTo.at 0 rfl).1 2 (hTo.at 0 rfl).2 2 (by decide)).trans hk_1256
            have hk_1480 : rd f_1475 h0 3 = .int fa_1253 := ((Fr.put (cs := [(5, 4)]) (a := o) (ci := 5) Fr.rf Ext.rf (hTo.at 1 rfl).2 (by decide) hrd_1476 hup_1477).1 h0 (hTo.at 0 rfl).1 2 (hTo.at 0 rfl).2 3 (by decide)).trans hk_1257
            have hk_1481 : rd f_1475 h0 4 = .int pw_1254 := ((Fr.put (cs := [(5, 4)]) (a := o) (ci := 5) Fr.rf Ext.rf (hTo.at 1 rfl).2 (by decide) hrd_1476 hup_1477).1 h0 (hTo.at 0 rfl).1 2 (hTo.at 0 rfl).2 4 (by decide)).trans hk_1258
            have hk_1482 : rd f_1475 tok 3 = .int zz := ((Fr.put (cs := [(5, 4)]) (a := o) (ci := 5) Fr.rf Ext.rf (hTo.at 1 rfl).2 (by decide) hrd_1476 hup_1477).1 tok (hTo.at 2 rfl).1 6 (hTo.at 2 rfl).2 3 (by decide)).trans hk_1264
            have hk_1483 : rd f_1475 o 1 = .int vt := ((Fr.put (cs := [(5, 4)]) (a := o) (ci := 5) Fr.rf Ext.rf (hTo.at 1 rfl).2 (by decide) hrd_1476 hup_1477).1 o (hTo.at 1 rfl).1 5 (hTo.at 1 rfl).2 1 (by decide)).trans hk_1265
            have hk_1484 : rd f_1475 o 2 = .int nu := ((Fr.put (cs := [(5, 4)]) (a := o) (ci := 5) Fr.rf Ext.rf (hTo.at 1 rfl).2 (by decide) hrd_1476 hup_1477).1 o (hTo.at 1 rfl).1 5 (hTo.at 1 rfl).2 2 (by decide)).trans hk_1266
            have hk_1485 : rd f_1475 o 3 = .int tn := ((Fr.put (cs := [(5, 4)]) (a := o) (ci := 5) Fr.rf Ext.rf (hTo.at 1 rfl).2 (by decide) hrd_1476 hup_1477).1 o (hTo.at 1 rfl).1 5 (hTo.at 1 rfl).2 3 (by decide)).trans hk_1267
            have hk_1486 : rd f_1475 o 4 = .int 0 := (hrd_1476 o 4).trans (if_pos ⟨rfl, rfl⟩)
            have hg3 : (if Kp tt ln (gpa (Kp tt ln) (nq tt ln) (Kp tt ln q.1) (grf 1 q)).1 = 60 then (60 : Int32) else 61) = 61 := if_neg (by rw [← hrq_1269.K]; exact c_1474)
            have hg4 : (0 : Int32) = if Kp tt ln (gpa (Kp tt ln) (nq tt ln) (Kp tt ln q.1) (grf 1 q)).1 = 60 then 1 else 0 := (if_neg (by rw [← hrq_1269.K]; exact c_1474)).symm
            refine lv_aload_n hx hb dX2_readTest_85 rfl (lv_at hl 0 rfl) ?_
            refine lv_aload_n hx hb dX2_readTest_86 rfl (lv_at hl 1 rfl) ?_
            refine T_get (ci := 5) (C := RX5) (T := TX5) (N := 8) (t := tI) hx hb hts inw_X2_readTest_5 hown hK hP hT 1 rfl rfl 4 (by decide) (hts (.fieldLink RX2 97 "VatHouse$Step" "below" "Z") (List.mem_of_getElem? (i := 4) (by exact rfl))) (fun _ h9 => h9) rfl dX2_readTest_87 (fun v_1489 hv_1487 hr_1488 => ?_)
            obtain rfl : v_1489 = .int 0 := hr_1488.symm.trans hk_1486
            refine lv_if_eq (tgt := 98) hx hb dX2_readTest_90 (by decide) (fun c_1490 => ?_) (fun c_1490 => ?_)
            rotate_left
            · exact absurd c_1490 (by decide)
            refine lv_bipush (v := 61) hx hb dX2_readTest_98 (by decide) ?_
            have hTo := hT
            refine K_V ⟨hx, hb, hml, hown, hts⟩ (t_X2_pass l dC dI sa hlt g _ _ tt ln M (gpa (Kp tt ln) (nq tt ln) (Kp tt ln q.1) (grf 1 q)) h0 61 tok ka sta vaa ax_1251 tn_1252 fa_1253 pw_1254 zz _ (hT.sub [0, 2, 3, 4, 5] rfl)  hk_1478 hk_1479 hk_1480 hk_1481 hk_1482 ((hF.1 h0 (hT0.at 0 rfl).1 2 (hT0.at 0 rfl).2 0 (by decide)).trans h_tok) ((hF.1 tok (hT0.at 2 rfl).1 6 (hT0.at 2 rfl).2 4 (by decide)).trans h_ka) ((hF.1 tok (hT0.at 2 rfl).1 6 (hT0.at 2 rfl).2 5 (by decide)).trans h_sta) ((hF.1 tok (hT0.at 2 rfl).1 6 (hT0.at 2 rfl).2 6 (by decide)).trans h_vaa) hzz (hTK.go (hF.2 ka (hT0.at 3 rfl).1 0 _ _ (hT0.at 3 rfl).2 (by decide)) (hF.2 sta (hT0.at 4 rfl).1 0 _ _ (hT0.at 4 rfl).2 (by decide)) (hF.2 vaa (hT0.at 5 rfl).1 0 _ _ (hT0.at 5 rfl).2 (by decide))) hrq_1269 (Or.inl (by decide))) (cwV 1 hts gX2_readTest_X2_pass rfl rfl rfl (by decide +kernel) ⟨Nat.le_of_ble_eq_true rfl, Nat.le_of_ble_eq_true rfl⟩) hP hD hK hS hA hev hT 0 2 rfl rfl rfl rfl hl.1 rfl (Nat.le_of_ble_eq_true rfl) dX2_readTest_100 ⟨Nat.le_of_ble_eq_true rfl, Nat.le_of_ble_eq_true rfl⟩ (fun r L_1491 f_1492 H locs hw_1493 hP hD hS hT hE1 => ?_)
            have hEo := hE
            have hO5 := hO5.call hE (OF.fr hw_1493.2.1 (by decide)) (by simp)
            have hF := Fr.call hF hE hw_1493.2.1 (by decide)
            have hE := hE.tr hE1
            obtain ⟨rfl, hw_1493⟩ := hw_1493
            obtain ⟨hfr_1494, ax_1495, tn_1496, fa_1497, pw_1498, hk_1499, hk_1500, hk_1501, hk_1502, hrel_1503, hrel_1504, hrel_1505, hrel_1506, hex_1507⟩ := hw_1493
            have hk_1508 : rd f_1492 tok 3 = .int zz := (hfr_1494.1 tok (hTo.at 2 rfl).1 6 (hTo.at 2 rfl).2 3 (by decide)).trans hk_1482
            have hk_1509 : rd f_1492 o 1 = .int vt := (hfr_1494.1 o (hTo.at 1 rfl).1 5 (hTo.at 1 rfl).2 1 (by decide)).trans hk_1483
            have hk_1510 : rd f_1492 o 2 = .int nu := (hfr_1494.1 o (hTo.at 1 rfl).1 5 (hTo.at 1 rfl).2 2 (by decide)).trans hk_1484
            have hk_1511 : rd f_1492 o 3 = .int tn := (hfr_1494.1 o (hTo.at 1 rfl).1 5 (hTo.at 1 rfl).2 3 (by decide)).trans hk_1485
            have hk_1512 : rd f_1492 o 4 = .int 0 := (hfr_1494.1 o (hTo.at 1 rfl).1 5 (hTo.at 1 rfl).2 4 (by decide)).trans hk_1486
            have hrq_1513 := hex_1507
            refine W.eq (g2 := F0 m 103 ls []) rfl ?_
            refine lv_aload_n hx hb dX2_readTest_103 rfl (lv_at hl 1 rfl) ?_
            refine lv_aload_n hx hb dX2_readTest_104 rfl (lv_at hl 0 rfl) ?_
            refine lv_iconst (v := 0) hx hb dX2_readTest_105 (by decide) ?_
            refine lv_sipush (v := 9999) hx hb dX2_readTest_106 (by decide) ?_
            have hTo := hT
            refine K_V ⟨hx, hb, hml, hown, hts⟩ (t_X2_readNumber l dC dI sa hlt g _ _ tt ln M (gpa (Kp tt ln) (nq tt ln) 61 (gpa (Kp tt ln) (nq tt ln) (Kp tt ln q.1) (grf 1 q))) h0 0 9999 tok ka sta vaa ax_1495 tn_1496 fa_1497 pw_1498 zz _ (hT.sub [0, 2, 3, 4, 5] rfl)  hk_1499 hk_1500 hk_1501 hk_1502 hk_1508 ((hF.1 h0 (hT0.at 0 rfl).1 2 (hT0.at 0 rfl).2 0 (by decide)).trans h_tok) ((hF.1 tok (hT0.at 2 rfl).1 6 (hT0.at 2 rfl).2 4 (by decide)).trans h_ka) ((hF.1 tok (hT0.at 2 rfl).1 6 (hT0.at 2 rfl).2 5 (by decide)).trans h_sta) ((hF.1 tok (hT0.at 2 rfl).1 6 (hT0.at 2 rfl).2 6 (by decide)).trans h_vaa) hzz (hTK.go (hF.2 ka (hT0.at 3 rfl).1 0 _ _ (hT0.at 3 rfl).2 (by decide)) (hF.2 sta (hT0.at 4 rfl).1 0 _ _ (hT0.at 4 rfl).2 (by decide)) (hF.2 vaa (hT0.at 5 rfl).1 0 _ _ (hT0.at 5 rfl).2 (by decide))) hrq_1513) (cwV 2 hts gX2_readTest_X2_readNumber rfl rfl rfl (by decide +kernel) ⟨Nat.le_of_ble_eq_true rfl, Nat.le_of_ble_eq_true rfl⟩) hP hD hK hS hA hev hT 0 2 rfl rfl rfl rfl hl.1 rfl (Nat.le_of_ble_eq_true rfl) dX2_readTest_109 ⟨Nat.le_of_ble_eq_true rfl, Nat.le_of_ble_eq_true rfl⟩ (fun r L_1514 f_1515 H locs hw_1516 hP hD hS hT hE1 => ?_)
            have hEo := hE
            have hO5 := hO5.call hE (OF.fr hw_1516.2.1 (by decide)) (by simp)
            have hF := Fr.call hF hE hw_1516.2.1 (by decide)
            have hE := hE.tr hE1
            obtain ⟨⟨z_1517, rfl⟩, hw_1516⟩ := hw_1516
            obtain ⟨hfr_1518, ax_1519, tn_1520, fa_1521, pw_1522, hk_1523, hk_1524, hk_1525, hk_1526, hrel_1527, hrel_1528, hrel_1529, hrel_1530, hex_1531⟩ := hw_1516
            have hk_1532 : rd f_1515 tok 3 = .int zz := (hfr_1518.1 tok (hTo.at 2 rfl).1 6 (hTo.at 2 rfl).2 3 (by decide)).trans hk_1508
            have hk_1533 : rd f_1515 o 1 = .int vt := (hfr_1518.1 o (hTo.at 1 rfl).1 5 (hTo.at 1 rfl).2 1 (by decide)).trans hk_1509
            have hk_1534 : rd f_1515 o 2 = .int nu := (hfr_1518.1 o (hTo.at 1 rfl).1 5 (hTo.at 1 rfl).2 2 (by decide)).trans hk_1510
            have hk_1535 : rd f_1515 o 3 = .int tn := (hfr_1518.1 o (hTo.at 1 rfl).1 5 (hTo.at 1 rfl).2 3 (by decide)).trans hk_1511
            have hk_1536 : rd f_1515 o 4 = .int 0 := (hfr_1518.1 o (hTo.at 1 rfl).1 5 (hTo.at 1 rfl).2 4 (by decide)).trans hk_1512
            have hzv_1537 : z_1517 = Vp tt ln (gpa (Kp tt ln) (nq tt ln) 61 (gpa (Kp tt ln) (nq tt ln) (Kp tt ln q.1) (grf 1 q))).1 := sv hex_1531.1
            have hrq_1538 := hex_1531.2
            refine W.eq (g2 := F0 m 112 ls [.int z_1517, .ref o]) rfl ?_
            have hTo := hT
            refine T_put (ci := 5) (v := .int z_1517) (ty := .int) (t := tI) (C := RX5) (T := TX5) (N := 8) hx hb hts inw_X2_readTest_5 tyX5 tyX5_ok nmX5 hown hK hP hD hS hT 1 rfl rfl 2 (by decide) (hts (.fieldLink RX2 79 "VatHouse$Step" "number" "I") (List.mem_of_getElem? (i := 5) (by exact rfl))) (fun _ h9 => h9) rfl (tyX5_ok 2 (by decide)) rfl rfl rfl ⟨_, rfl⟩ dX2_readTest_112 (fun f_1539 H locs hP hD hS hT hE1 hrd_1540 hup_1541 => ?_)
            have hO5 := hO5.put hrd_1540 (by simp)
            have hF := Fr.put (a := o) (ci := 5) hF hE ((hE1 o (hT.at 1 rfl).1).2.symm.trans (hT.at 1 rfl).2) (by decide) hrd_1540 hup_1541
            have hE := hE.tr hE1
            have hk_1542 : rd f_1539 h0 1 = .int ax_1519 := ((Fr.put (cs := [(5, 2)]) (a := o) (ci := 5) Fr.rf Ext.rf (hTo.at 1 rfl).2 (by decide) hrd_1540 hup_1541).1 h0 (hTo.at 0 rfl).1 2 (hTo.at 0 rfl).2 1 (by decide)).trans hk_1523
            have hk_1543 : rd f_1539 h0 2 = .int tn_1520 := ((Fr.put (cs := [(5, 2)]) (a := o) (ci := 5) Fr.rf Ext.rf (hTo.at 1 rfl).2 (by decide) hrd_1540 hup_1541).1 h0 (hTo.at 0 rfl).1 2 (hTo.at 0 rfl).2 2 (by decide)).trans hk_1524
            have hk_1544 : rd f_1539 h0 3 = .int fa_1521 := ((Fr.put (cs := [(5, 2)]) (a := o) (ci := 5) Fr.rf Ext.rf (hTo.at 1 rfl).2 (by decide) hrd_1540 hup_1541).1 h0 (hTo.at 0 rfl).1 2 (hTo.at 0 rfl).2 3 (by decide)).trans hk_1525
            have hk_1545 : rd f_1539 h0 4 = .int pw_1522 := ((Fr.put (cs := [(5, 2)]) (a := o) (ci := 5) Fr.rf Ext.rf (hTo.at 1 rfl).2 (by decide) hrd_1540 hup_1541).1 h0 (hTo.at 0 rfl).1 2 (hTo.at 0 rfl).2 4 (by decide)).trans hk_1526
            have hk_1546 : rd f_1539 tok 3 = .int zz := ((Fr.put (cs := [(5, 2)]) (a := o) (ci := 5) Fr.rf Ext.rf (hTo.at 1 rfl).2 (by decide) hrd_1540 hup_1541).1 tok (hTo.at 2 rfl).1 6 (hTo.at 2 rfl).2 3 (by decide)).trans hk_1532
            have hk_1547 : rd f_1539 o 1 = .int vt := ((Fr.put (cs := [(5, 2)]) (a := o) (ci := 5) Fr.rf Ext.rf (hTo.at 1 rfl).2 (by decide) hrd_1540 hup_1541).1 o (hTo.at 1 rfl).1 5 (hTo.at 1 rfl).2 1 (by decide)).trans hk_1533
            have hk_1548 : rd f_1539 o 2 = .int z_1517 := (hrd_1540 o 2).trans (if_pos ⟨rfl, rfl⟩)
            have hk_1549 : rd f_1539 o 3 = .int tn := ((Fr.put (cs := [(5, 2)]) (a := o) (ci := 5) Fr.rf Ext.rf (hTo.at 1 rfl).2 (by decide) hrd_1540 hup_1541).1 o (hTo.at 1 rfl).1 5 (hTo.at 1 rfl).2 3 (by decide)).trans hk_1535
            have hk_1550 : rd f_1539 o 4 = .int 0 := ((Fr.put (cs := [(5, 2)]) (a := o) (ci := 5) Fr.rf Ext.rf (hTo.at 1 rfl).2 (by decide) hrd_1540 hup_1541).1 o (hTo.at 1 rfl).1 5 (hTo.at 1 rfl).2 4 (by decide)).trans hk_1536
            exact K_v hx hb hr hlocks hP hD hK hS hT hE ⟨rfl, hF, _, _, _, _, _, _, _, _, hk_1542, hk_1543, hk_1544, hk_1545, hk_1547, hk_1548, hk_1549, hk_1550, trivial, trivial, fun h9 => (absurd ((hrel_1261 ((hrel_1505 (hrel_1529 h9)).1)).1) hrel_1218), trivial, trivial, trivial, trivial, trivial, hO5, (gte_b hg1 hg2 hg3) ▸ hrq_1538, fun h9 => (c_618 (by rw [hRQ.K]; exact (gte_ok h9).2.1.2)).elim⟩ (Nat.le_of_ble_eq_true rfl) (Nat.le_of_ble_eq_true rfl) dX2_readTest_115
          · refine lv_iconst (v := 1) hx hb dX2_readTest_77 (by decide) ?_
            refine lv_goto (tgt := 82) hx hb dX2_readTest_78 (by decide) ?_
            have hTo := hT
            refine T_put (ci := 5) (v := .int 1) (ty := .boolean) (t := tI) (C := RX5) (T := TX5) (N := 8) hx hb hts inw_X2_readTest_5 tyX5 tyX5_ok nmX5 hown hK hP hD hS hT 1 rfl rfl 4 (by decide) (hts (.fieldLink RX2 97 "VatHouse$Step" "below" "Z") (List.mem_of_getElem? (i := 4) (by exact rfl))) (fun _ h9 => h9) rfl (tyX5_ok 4 (by decide)) rfl rfl rfl ⟨_, rfl⟩ dX2_readTest_82 (fun f_1551 H locs hP hD hS hT hE1 hrd_1552 hup_1553 => ?_)
            have hO5 := hO5.put hrd_1552 (by simp)
            have hF := Fr.put (a := o) (ci := 5) hF hE ((hE1 o (hT.at 1 rfl).1).2.symm.trans (hT.at 1 rfl).2) (by decide) hrd_1552 hup_1553
            have hE := hE.tr hE1
            have hk_1554 : rd f_1551 h0 1 = .int ax_1251 := ((Fr.put (cs := [(5, 4)]) (a := o) (ci := 5) Fr.rf Ext.rf (hTo.at 1 rfl).2 (by decide) hrd_1552 hup_1553).1 h0 (hTo.at 0 rfl).1 2 (hTo.at 0 rfl).2 1 (by decide)).trans hk_1255
            have hk_1555 : rd f_1551 h0 2 = .int tn_1252 := ((Fr.put (cs := [(5, 4)]) (a := o) (ci := 5) Fr.rf Ext.rf (hTo.at 1 rfl).2 (by decide) hrd_1552 hup_1553).1 h0 (hTo.at 0 rfl).1 2 (hTo.at 0 rfl).2 2 (by decide)).trans hk_1256
            have hk_1556 : rd f_1551 h0 3 = .int fa_1253 := ((Fr.put (cs := [(5, 4)]) (a := o) (ci := 5) Fr.rf Ext.rf (hTo.at 1 rfl).2 (by decide) hrd_1552 hup_1553).1 h0 (hTo.at 0 rfl).1 2 (hTo.at 0 rfl).2 3 (by decide)).trans hk_1257
            have hk_1557 : rd f_1551 h0 4 = .int pw_1254 := ((Fr.put (cs := [(5, 4)]) (a := o) (ci := 5) Fr.rf Ext.rf (hTo.at 1 rfl).2 (by decide) hrd_1552 hup_1553).1 h0 (hTo.at 0 rfl).1 2 (hTo.at 0 rfl).2 4 (by decide)).trans hk_1258
            have hk_1558 : rd f_1551 tok 3 = .int zz := ((Fr.put (cs := [(5, 4)]) (a := o) (ci := 5) Fr.rf Ext.rf (hTo.at 1 rfl).2 (by decide) hrd_1552 hup_1553).1 tok (hTo.at 2 rfl).1 6 (hTo.at 2 rfl).2 3 (by decide)).trans hk_1264
            have hk_1559 : rd f_1551 o 1 = .int vt := ((Fr.put (cs := [(5, 4)]) (a := o) (ci := 5) Fr.rf Ext.rf (hTo.at 1 rfl).2 (by decide) hrd_1552 hup_1553).1 o (hTo.at 1 rfl).1 5 (hTo.at 1 rfl).2 1 (by decide)).trans hk_1265
            have hk_1560 : rd f_1551 o 2 = .int nu := ((Fr.put (cs := [(5, 4)]) (a := o) (ci := 5) Fr.rf Ext.rf (hTo.at 1 rfl).2 (by decide) hrd_1552 hup_1553).1 o (hTo.at 1 rfl).1 5 (hTo.at 1 rfl).2 2 (by decide)).trans hk_1266
            have hk_1561 : rd f_1551 o 3 = .int tn := ((Fr.put (cs := [(5, 4)]) (a := o) (ci := 5) Fr.rf Ext.rf (hTo.at 1 rfl).2 (by decide) hrd_1552 hup_1553).1 o (hTo.at 1 rfl).1 5 (hTo.at 1 rfl).2 3 (by decide)).trans hk_1267
            have hk_1562 : rd f_1551 o 4 = .int 1 := (hrd_1552 o 4).trans (if_pos ⟨rfl, rfl⟩)
            have hg3 : (if Kp tt ln (gpa (Kp tt ln) (nq tt ln) (Kp tt ln q.1) (grf 1 q)).1 = 60 then (60 : Int32) else 61) = 60 := if_pos (by rw [← hrq_1269.K]; exact c_1474)
            have hg4 : (1 : Int32) = if Kp tt ln (gpa (Kp tt ln) (nq tt ln) (Kp tt ln q.1) (grf 1 q)).1 = 60 then 1 else 0 := (if_pos (by rw [← hrq_1269.K]; exact c_1474)).symm
            refine lv_aload_n hx hb dX2_readTest_85 rfl (lv_at hl 0 rfl) ?_
            refine lv_aload_n hx hb dX2_readTest_86 rfl (lv_at hl 1 rfl) ?_
            refine T_get (ci := 5) (C := RX5) (T := TX5) (N := 8) (t := tI) hx hb hts inw_X2_readTest_5 hown hK hP hT 1 rfl rfl 4 (by decide) (hts (.fieldLink RX2 97 "VatHouse$Step" "below" "Z") (List.mem_of_getElem? (i := 4) (by exact rfl))) (fun _ h9 => h9) rfl dX2_readTest_87 (fun v_1565 hv_1563 hr_1564 => ?_)
            obtain rfl : v_1565 = .int 1 := hr_1564.symm.trans hk_1562
            refine lv_if_eq (tgt := 98) hx hb dX2_readTest_90 (by decide) (fun c_1566 => ?_) (fun c_1566 => ?_)
            · exact absurd c_1566 (by decide)
            refine lv_bipush (v := 60) hx hb dX2_readTest_93 (by decide) ?_
            refine lv_goto (tgt := 100) hx hb dX2_readTest_95 (by decide) ?_
            have hTo := hT
            refine K_V ⟨hx, hb, hml, hown, hts⟩ (t_X2_pass l dC dI sa hlt g _ _ tt ln M (gpa (Kp tt ln) (nq tt ln) (Kp tt ln q.1) (grf 1 q)) h0 60 tok ka sta vaa ax_1251 tn_1252 fa_1253 pw_1254 zz _ (hT.sub [0, 2, 3, 4, 5] rfl)  hk_1554 hk_1555 hk_1556 hk_1557 hk_1558 ((hF.1 h0 (hT0.at 0 rfl).1 2 (hT0.at 0 rfl).2 0 (by decide)).trans h_tok) ((hF.1 tok (hT0.at 2 rfl).1 6 (hT0.at 2 rfl).2 4 (by decide)).trans h_ka) ((hF.1 tok (hT0.at 2 rfl).1 6 (hT0.at 2 rfl).2 5 (by decide)).trans h_sta) ((hF.1 tok (hT0.at 2 rfl).1 6 (hT0.at 2 rfl).2 6 (by decide)).trans h_vaa) hzz (hTK.go (hF.2 ka (hT0.at 3 rfl).1 0 _ _ (hT0.at 3 rfl).2 (by decide)) (hF.2 sta (hT0.at 4 rfl).1 0 _ _ (hT0.at 4 rfl).2 (by decide)) (hF.2 vaa (hT0.at 5 rfl).1 0 _ _ (hT0.at 5 rfl).2 (by decide))) hrq_1269 (Or.inl (by decide))) (cwV 1 hts gX2_readTest_X2_pass rfl rfl rfl (by decide +kernel) ⟨Nat.le_of_ble_eq_true rfl, Nat.le_of_ble_eq_true rfl⟩) hP hD hK hS hA hev hT 0 2 rfl rfl rfl rfl hl.1 rfl (Nat.le_of_ble_eq_true rfl) dX2_readTest_100 ⟨Nat.le_of_ble_eq_true rfl, Nat.le_of_ble_eq_true rfl⟩ (fun r L_1567 f_1568 H locs hw_1569 hP hD hS hT hE1 => ?_)
            have hEo := hE
            have hO5 := hO5.call hE (OF.fr hw_1569.2.1 (by decide)) (by simp)
            have hF := Fr.call hF hE hw_1569.2.1 (by decide)
            have hE := hE.tr hE1
            obtain ⟨rfl, hw_1569⟩ := hw_1569
            obtain ⟨hfr_1570, ax_1571, tn_1572, fa_1573, pw_1574, hk_1575, hk_1576, hk_1577, hk_1578, hrel_1579, hrel_1580, hrel_1581, hrel_1582, hex_1583⟩ := hw_1569
            have hk_1584 : rd f_1568 tok 3 = .int zz := (hfr_1570.1 tok (hTo.at 2 rfl).1 6 (hTo.at 2 rfl).2 3 (by decide)).trans hk_1558
            have hk_1585 : rd f_1568 o 1 = .int vt := (hfr_1570.1 o (hTo.at 1 rfl).1 5 (hTo.at 1 rfl).2 1 (by decide)).trans hk_1559
            have hk_1586 : rd f_1568 o 2 = .int nu := (hfr_1570.1 o (hTo.at 1 rfl).1 5 (hTo.at 1 rfl).2 2 (by decide)).trans hk_1560
            have hk_1587 : rd f_1568 o 3 = .int tn := (hfr_1570.1 o (hTo.at 1 rfl).1 5 (hTo.at 1 rfl).2 3 (by decide)).trans hk_1561
            have hk_1588 : rd f_1568 o 4 = .int 1 := (hfr_1570.1 o (hTo.at 1 rfl).1 5 (hTo.at 1 rfl).2 4 (by decide)).trans hk_1562
            have hrq_1589 := hex_1583
            refine W.eq (g2 := F0 m 103 ls []) rfl ?_
            refine lv_aload_n hx hb dX2_readTest_103 rfl (lv_at hl 1 rfl) ?_
            refine lv_aload_n hx hb dX2_readTest_104 rfl (lv_at hl 0 rfl) ?_
            refine lv_iconst (v := 0) hx hb dX2_readTest_105 (by decide) ?_
            refine lv_sipush (v := 9999) hx hb dX2_readTest_106 (by decide) ?_
            have hTo := hT
            refine K_V ⟨hx, hb, hml, hown, hts⟩ (t_X2_readNumber l dC dI sa hlt g _ _ tt ln M (gpa (Kp tt ln) (nq tt ln) 60 (gpa (Kp tt ln) (nq tt ln) (Kp tt ln q.1) (grf 1 q))) h0 0 9999 tok ka sta vaa ax_1571 tn_1572 fa_1573 pw_1574 zz _ (hT.sub [0, 2, 3, 4, 5] rfl)  hk_1575 hk_1576 hk_1577 hk_1578 hk_1584 ((hF.1 h0 (hT0.at 0 rfl).1 2 (hT0.at 0 rfl).2 0 (by decide)).trans h_tok) ((hF.1 tok (hT0.at 2 rfl).1 6 (hT0.at 2 rfl).2 4 (by decide)).trans h_ka) ((hF.1 tok (hT0.at 2 rfl).1 6 (hT0.at 2 rfl).2 5 (by decide)).trans h_sta) ((hF.1 tok (hT0.at 2 rfl).1 6 (hT0.at 2 rfl).2 6 (by decide)).trans h_vaa) hzz (hTK.go (hF.2 ka (hT0.at 3 rfl).1 0 _ _ (hT0.at 3 rfl).2 (by decide)) (hF.2 sta (hT0.at 4 rfl).1 0 _ _ (hT0.at 4 rfl).2 (by decide)) (hF.2 vaa (hT0.at 5 rfl).1 0 _ _ (hT0.at 5 rfl).2 (by decide))) hrq_1589) (cwV 2 hts gX2_readTest_X2_readNumber rfl rfl rfl (by decide +kernel) ⟨Nat.le_of_ble_eq_true rfl, Nat.le_of_ble_eq_true rfl⟩) hP hD hK hS hA hev hT 0 2 rfl rfl rfl rfl hl.1 rfl (Nat.le_of_ble_eq_true rfl) dX2_readTest_109 ⟨Nat.le_of_ble_eq_true rfl, Nat.le_of_ble_eq_true rfl⟩ (fun r L_1590 f_1591 H locs hw_1592 hP hD hS hT hE1 => ?_)
            have hEo := hE
            have hO5 := hO5.call hE (OF.fr hw_1592.2.1 (by decide)) (by simp)
            have hF := Fr.call hF hE hw_1592.2.1 (by decide)
            have hE := hE.tr hE1
            obtain ⟨⟨z_1593, rfl⟩, hw_1592⟩ := hw_1592
            obtain ⟨hfr_1594, ax_1595, tn_1596, fa_1597, pw_1598, hk_1599, hk_1600, hk_1601, hk_1602, hrel_1603, hrel_1604, hrel_1605, hrel_1606, hex_1607⟩ := hw_1592
            have hk_1608 : rd f_1591 tok 3 = .int zz := (hfr_1594.1 tok (hTo.at 2 rfl).1 6 (hTo.at 2 rfl).2 3 (by decide)).trans hk_1584
            have hk_1609 : rd f_1591 o 1 = .int vt := (hfr_1594.1 o (hTo.at 1 rfl).1 5 (hTo.at 1 rfl).2 1 (by decide)).trans hk_1585
            have hk_1610 : rd f_1591 o 2 = .int nu := (hfr_1594.1 o (hTo.at 1 rfl).1 5 (hTo.at 1 rfl).2 2 (by decide)).trans hk_1586
            have hk_1611 : rd f_1591 o 3 = .int tn := (hfr_1594.1 o (hTo.at 1 rfl).1 5 (hTo.at 1 rfl).2 3 (by decide)).trans hk_1587
            have hk_1612 : rd f_1591 o 4 = .int 1 := (hfr_1594.1 o (hTo.at 1 rfl).1 5 (hTo.at 1 rfl).2 4 (by decide)).trans hk_1588
            have hzv_1613 : z_1593 = Vp tt ln (gpa (Kp tt ln) (nq tt ln) 60 (gpa (Kp tt ln) (nq tt ln) (Kp tt ln q.1) (grf 1 q))).1 := sv hex_1607.1
            have hrq_1614 := hex_1607.2
            refine W.eq (g2 := F0 m 112 ls [.int z_1593, .ref o]) rfl ?_
            have hTo := hT
            refine T_put (ci := 5) (v := .int z_1593) (ty := .int) (t := tI) (C := RX5) (T := TX5) (N := 8) hx hb hts inw_X2_readTest_5 tyX5 tyX5_ok nmX5 hown hK hP hD hS hT 1 rfl rfl 2 (by decide) (hts (.fieldLink RX2 79 "VatHouse$Step" "number" "I") (List.mem_of_getElem? (i := 5) (by exact rfl))) (fun _ h9 => h9) rfl (tyX5_ok 2 (by decide)) rfl rfl rfl ⟨_, rfl⟩ dX2_readTest_112 (fun f_1615 H locs hP hD hS hT hE1 hrd_1616 hup_1617 => ?_)
            have hO5 := hO5.put hrd_1616 (by simp)
            have hF := Fr.put (a := o) (ci := 5) hF hE ((hE1 o (hT.at 1 rfl).1).2.symm.trans (hT.at 1 rfl).2) (by decide) hrd_1616 hup_1617
            have hE := hE.tr hE1
            have hk_1618 : rd f_1615 h0 1 = .int ax_1595 := ((Fr.put (cs := [(5, 2)]) (a := o) (ci := 5) Fr.rf Ext.rf (hTo.at 1 rfl).2 (by decide) hrd_1616 hup_1617).1 h0 (hTo.at 0 rfl).1 2 (hTo.at 0 rfl).2 1 (by decide)).trans hk_1599
            have hk_1619 : rd f_1615 h0 2 = .int tn_1596 := ((Fr.put (cs := [(5, 2)]) (a := o) (ci := 5) Fr.rf Ext.rf (hTo.at 1 rfl).2 (by decide) hrd_1616 hup_1617).1 h0 (hTo.at 0 rfl).1 2 (hTo.at 0 rfl).2 2 (by decide)).trans hk_1600
            have hk_1620 : rd f_1615 h0 3 = .int fa_1597 := ((Fr.put (cs := [(5, 2)]) (a := o) (ci := 5) Fr.rf Ext.rf (hTo.at 1 rfl).2 (by decide) hrd_1616 hup_1617).1 h0 (hTo.at 0 rfl).1 2 (hTo.at 0 rfl).2 3 (by decide)).trans hk_1601
            have hk_1621 : rd f_1615 h0 4 = .int pw_1598 := ((Fr.put (cs := [(5, 2)]) (a := o) (ci := 5) Fr.rf Ext.rf (hTo.at 1 rfl).2 (by decide) hrd_1616 hup_1617).1 h0 (hTo.at 0 rfl).1 2 (hTo.at 0 rfl).2 4 (by decide)).trans hk_1602
            have hk_1622 : rd f_1615 tok 3 = .int zz := ((Fr.put (cs := [(5, 2)]) (a := o) (ci := 5) Fr.rf Ext.rf (hTo.at 1 rfl).2 (by decide) hrd_1616 hup_1617).1 tok (hTo.at 2 rfl).1 6 (hTo.at 2 rfl).2 3 (by decide)).trans hk_1608
            have hk_1623 : rd f_1615 o 1 = .int vt := ((Fr.put (cs := [(5, 2)]) (a := o) (ci := 5) Fr.rf Ext.rf (hTo.at 1 rfl).2 (by decide) hrd_1616 hup_1617).1 o (hTo.at 1 rfl).1 5 (hTo.at 1 rfl).2 1 (by decide)).trans hk_1609
            have hk_1624 : rd f_1615 o 2 = .int z_1593 := (hrd_1616 o 2).trans (if_pos ⟨rfl, rfl⟩)
            have hk_1625 : rd f_1615 o 3 = .int tn := ((Fr.put (cs := [(5, 2)]) (a := o) (ci := 5) Fr.rf Ext.rf (hTo.at 1 rfl).2 (by decide) hrd_1616 hup_1617).1 o (hTo.at 1 rfl).1 5 (hTo.at 1 rfl).2 3 (by decide)).trans hk_1611
            have hk_1626 : rd f_1615 o 4 = .int 1 := ((Fr.put (cs := [(5, 2)]) (a := o) (ci := 5) Fr.rf Ext.rf (hTo.at 1 rfl).2 (by decide) hrd_1616 hup_1617).1 o (hTo.at 1 rfl).1 5 (hTo.at 1 rfl).2 4 (by decide)).trans hk_1612
            exact K_v hx hb hr hlocks hP hD hK hS hT hE ⟨rfl, hF, _, _, _, _, _, _, _, _, hk_1618, hk_1619, hk_1620, hk_1621, hk_1623, hk_1624, hk_1625, hk_1626, trivial, trivial, fun h9 => (absurd ((hrel_1261 ((hrel_1581 (hrel_1605 h9)).1)).1) hrel_1218), trivial, trivial, trivial, trivial, trivial, hO5, (gte_b hg1 hg2 hg3) ▸ hrq_1614, fun h9 => (c_618 (by rw [hRQ.K]; exact (gte_ok h9).2.1.2)).elim⟩ (Nat.le_of_ble_eq_true rfl) (Nat.le_of_ble_eq_true rfl) dX2_readTest_115
        · refine lv_aload_n hx hb dX2_readTest_57 rfl (lv_at hl 1 rfl) ?_
          refine lv_aload_n hx hb dX2_readTest_58 rfl (lv_at hl 0 rfl) ?_
          refine lv_iconst (v := 0) hx hb dX2_readTest_59 (by decide) ?_
          refine lv_iconst (v := 5) hx hb dX2_readTest_60 (by decide) ?_
          have hTo := hT
          refine K_V ⟨hx, hb, hml, hown, hts⟩ (t_X2_readNumber l dC dI sa hlt g _ _ tt ln M (gpa (Kp tt ln) (nq tt ln) (Kp tt ln q.1) (grf 1 q)) h0 0 5 tok ka sta vaa ax_1251 tn_1252 fa_1253 pw_1254 zz _ (hT.sub [0, 2, 3, 4, 5] rfl)  hk_1255 hk_1256 hk_1257 hk_1258 hk_1264 ((hF.1 h0 (hT0.at 0 rfl).1 2 (hT0.at 0 rfl).2 0 (by decide)).trans h_tok) ((hF.1 tok (hT0.at 2 rfl).1 6 (hT0.at 2 rfl).2 4 (by decide)).trans h_ka) ((hF.1 tok (hT0.at 2 rfl).1 6 (hT0.at 2 rfl).2 5 (by decide)).trans h_sta) ((hF.1 tok (hT0.at 2 rfl).1 6 (hT0.at 2 rfl).2 6 (by decide)).trans h_vaa) hzz (hTK.go (hF.2 ka (hT0.at 3 rfl).1 0 _ _ (hT0.at 3 rfl).2 (by decide)) (hF.2 sta (hT0.at 4 rfl).1 0 _ _ (hT0.at 4 rfl).2 (by decide)) (hF.2 vaa (hT0.at 5 rfl).1 0 _ _ (hT0.at 5 rfl).2 (by decide))) hrq_1269) (cwV 2 hts gX2_readTest_X2_readNumber rfl rfl rfl (by decide +kernel) ⟨Nat.le_of_ble_eq_true rfl, Nat.le_of_ble_eq_true rfl⟩) hP hD hK hS hA hev hT 0 2 rfl rfl rfl rfl hl.1 rfl (Nat.le_of_ble_eq_true rfl) dX2_readTest_61 ⟨Nat.le_of_ble_eq_true rfl, Nat.le_of_ble_eq_true rfl⟩ (fun r L_1627 f_1628 H locs hw_1629 hP hD hS hT hE1 => ?_)
          have hEo := hE
          have hO5 := hO5.call hE (OF.fr hw_1629.2.1 (by decide)) (by simp)
          have hF := Fr.call hF hE hw_1629.2.1 (by decide)
          have hE := hE.tr hE1
          obtain ⟨⟨z_1630, rfl⟩, hw_1629⟩ := hw_1629
          obtain ⟨hfr_1631, ax_1632, tn_1633, fa_1634, pw_1635, hk_1636, hk_1637, hk_1638, hk_1639, hrel_1640, hrel_1641, hrel_1642, hrel_1643, hex_1644⟩ := hw_1629
          have hk_1645 : rd f_1628 tok 3 = .int zz := (hfr_1631.1 tok (hTo.at 2 rfl).1 6 (hTo.at 2 rfl).2 3 (by decide)).trans hk_1264
          have hk_1646 : rd f_1628 o 1 = .int vt := (hfr_1631.1 o (hTo.at 1 rfl).1 5 (hTo.at 1 rfl).2 1 (by decide)).trans hk_1265
          have hk_1647 : rd f_1628 o 2 = .int nu := (hfr_1631.1 o (hTo.at 1 rfl).1 5 (hTo.at 1 rfl).2 2 (by decide)).trans hk_1266
          have hk_1648 : rd f_1628 o 3 = .int tn := (hfr_1631.1 o (hTo.at 1 rfl).1 5 (hTo.at 1 rfl).2 3 (by decide)).trans hk_1267
          have hk_1649 : rd f_1628 o 4 = .int be := (hfr_1631.1 o (hTo.at 1 rfl).1 5 (hTo.at 1 rfl).2 4 (by decide)).trans hk_1268
          have hzv_1650 : z_1630 = Vp tt ln (gpa (Kp tt ln) (nq tt ln) (Kp tt ln q.1) (grf 1 q)).1 := sv hex_1644.1
          have hrq_1651 := hex_1644.2
          refine W.eq (g2 := F0 m 64 ls [.int z_1630, .ref o]) rfl ?_
          have hTo := hT
          refine T_put (ci := 5) (v := .int z_1630) (ty := .int) (t := tI) (C := RX5) (T := TX5) (N := 8) hx hb hts inw_X2_readTest_5 tyX5 tyX5_ok nmX5 hown hK hP hD hS hT 1 rfl rfl 1 (by decide) (hts (.fieldLink RX2 76 "VatHouse$Step" "vat" "I") (List.mem_of_getElem? (i := 3) (by exact rfl))) (fun _ h9 => h9) rfl (tyX5_ok 1 (by decide)) rfl rfl rfl ⟨_, rfl⟩ dX2_readTest_64 (fun f_1652 H locs hP hD hS hT hE1 hrd_1653 hup_1654 => ?_)
          have hO5 := hO5.put hrd_1653 (by simp)
          have hF := Fr.put (a := o) (ci := 5) hF hE ((hE1 o (hT.at 1 rfl).1).2.symm.trans (hT.at 1 rfl).2) (by decide) hrd_1653 hup_1654
          have hE := hE.tr hE1
          have hk_1655 : rd f_1652 h0 1 = .int ax_1632 := ((Fr.put (cs := [(5, 1)]) (a := o) (ci := 5) Fr.rf Ext.rf (hTo.at 1 rfl).2 (by decide) hrd_1653 hup_1654).1 h0 (hTo.at 0 rfl).1 2 (hTo.at 0 rfl).2 1 (by decide)).trans hk_1636
          have hk_1656 : rd f_1652 h0 2 = .int tn_1633 := ((Fr.put (cs := [(5, 1)]) (a := o) (ci := 5) Fr.rf Ext.rf (hTo.at 1 rfl).2 (by decide) hrd_1653 hup_1654).1 h0 (hTo.at 0 rfl).1 2 (hTo.at 0 rfl).2 2 (by decide)).trans hk_1637
          have hk_1657 : rd f_1652 h0 3 = .int fa_1634 := ((Fr.put (cs := [(5, 1)]) (a := o) (ci := 5) Fr.rf Ext.rf (hTo.at 1 rfl).2 (by decide) hrd_1653 hup_1654).1 h0 (hTo.at 0 rfl).1 2 (hTo.at 0 rfl).2 3 (by decide)).trans hk_1638
          have hk_1658 : rd f_1652 h0 4 = .int pw_1635 := ((Fr.put (cs := [(5, 1)]) (a := o) (ci := 5) Fr.rf Ext.rf (hTo.at 1 rfl).2 (by decide) hrd_1653 hup_1654).1 h0 (hTo.at 0 rfl).1 2 (hTo.at 0 rfl).2 4 (by decide)).trans hk_1639
          have hk_1659 : rd f_1652 tok 3 = .int zz := ((Fr.put (cs := [(5, 1)]) (a := o) (ci := 5) Fr.rf Ext.rf (hTo.at 1 rfl).2 (by decide) hrd_1653 hup_1654).1 tok (hTo.at 2 rfl).1 6 (hTo.at 2 rfl).2 3 (by decide)).trans hk_1645
          have hk_1660 : rd f_1652 o 1 = .int z_1630 := (hrd_1653 o 1).trans (if_pos ⟨rfl, rfl⟩)
          have hk_1661 : rd f_1652 o 2 = .int nu := ((Fr.put (cs := [(5, 1)]) (a := o) (ci := 5) Fr.rf Ext.rf (hTo.at 1 rfl).2 (by decide) hrd_1653 hup_1654).1 o (hTo.at 1 rfl).1 5 (hTo.at 1 rfl).2 2 (by decide)).trans hk_1647
          have hk_1662 : rd f_1652 o 3 = .int tn := ((Fr.put (cs := [(5, 1)]) (a := o) (ci := 5) Fr.rf Ext.rf (hTo.at 1 rfl).2 (by decide) hrd_1653 hup_1654).1 o (hTo.at 1 rfl).1 5 (hTo.at 1 rfl).2 3 (by decide)).trans hk_1648
          have hk_1663 : rd f_1652 o 4 = .int be := ((Fr.put (cs := [(5, 1)]) (a := o) (ci := 5) Fr.rf Ext.rf (hTo.at 1 rfl).2 (by decide) hrd_1653 hup_1654).1 o (hTo.at 1 rfl).1 5 (hTo.at 1 rfl).2 4 (by decide)).trans hk_1649
          have hg2 : gte2 (Kp tt ln) (Vp tt ln) (nq tt ln) (Kp tt ln q.1) (gpa (Kp tt ln) (nq tt ln) (Kp tt ln q.1) (grf 1 q)) = (gnu (Kp tt ln) (Vp tt ln) (nq tt ln) 0 5 (gpa (Kp tt ln) (nq tt ln) (Kp tt ln q.1) (grf 1 q))) := if_pos (Or.inr (by rw [← hRQ.K]; exact c_1470))
          refine lv_aload_n hx hb dX2_readTest_67 rfl (lv_at hl 1 rfl) ?_
          refine lv_aload_n hx hb dX2_readTest_68 rfl (lv_at hl 0 rfl) ?_
          refine T_get (ci := 2) (C := RX2) (T := TX2) (N := 6) (t := tI) hx hb hts inw_X2_readTest_2 hown hK hP hT 0 rfl rfl 2 (by decide) (hts (.fieldLink RX2 44 "VatHouse$Reader" "token" "I") (List.mem_of_getElem? (i := 1) (by exact rfl))) (fun _ h9 => h9) rfl dX2_readTest_69 (fun v_1666 hv_1664 hr_1665 => ?_)
          obtain rfl : v_1666 = .int tn_1633 := hr_1665.symm.trans hk_1656
          refine lv_bipush (v := 60) hx hb dX2_readTest_72 (by decide) ?_
          refine lv_icmp_ne (tgt := 81) hx hb dX2_readTest_74 (by decide) (fun c_1667 => ?_) (fun c_1667 => ?_)
          · refine lv_iconst (v := 0) hx hb dX2_readTest_81 (by decide) ?_
            have hTo := hT
            refine T_put (ci := 5) (v := .int 0) (ty := .boolean) (t := tI) (C := RX5) (T := TX5) (N := 8) hx hb hts inw_X2_readTest_5 tyX5 tyX5_ok nmX5 hown hK hP hD hS hT 1 rfl rfl 4 (by decide) (hts (.fieldLink RX2 97 "VatHouse$Step" "below" "Z") (List.mem_of_getElem? (i := 4) (by exact rfl))) (fun _ h9 => h9) rfl (tyX5_ok 4 (by decide)) rfl rfl rfl ⟨_, rfl⟩ dX2_readTest_82 (fun f_1668 H locs hP hD hS hT hE1 hrd_1669 hup_1670 => ?_)
            have hO5 := hO5.put hrd_1669 (by simp)
            have hF := Fr.put (a := o) (ci := 5) hF hE ((hE1 o (hT.at 1 rfl).1).2.symm.trans (hT.at 1 rfl).2) (by decide) hrd_1669 hup_1670
            have hE := hE.tr hE1
            have hk_1671 : rd f_1668 h0 1 = .int ax_1632 := ((Fr.put (cs := [(5, 4)]) (a := o) (ci := 5) Fr.rf Ext.rf (hTo.at 1 rfl).2 (by decide) hrd_1669 hup_1670).1 h0 (hTo.at 0 rfl).1 2 (hTo.at 0 rfl).2 1 (by decide)).trans hk_1655
            have hk_1672 : rd f_1668 h0 2 = .int tn_1633 := ((Fr.put (cs := [(5, 4)]) (a := o) (ci := 5) Fr.rf Ext.rf (hTo.at 1 rfl).2 (by decide) hrd_1669 hup_1670).1 h0 (hTo.at 0 rfl).1 2 (hTo.at 0 rfl).2 2 (by decide)).trans hk_1656
            have hk_1673 : rd f_1668 h0 3 = .int fa_1634 := ((Fr.put (cs := [(5, 4)]) (a := o) (ci := 5) Fr.rf Ext.rf (hTo.at 1 rfl).2 (by decide) hrd_1669 hup_1670).1 h0 (hTo.at 0 rfl).1 2 (hTo.at 0 rfl).2 3 (by decide)).trans hk_1657
            have hk_1674 : rd f_1668 h0 4 = .int pw_1635 := ((Fr.put (cs := [(5, 4)]) (a := o) (ci := 5) Fr.rf Ext.rf (hTo.at 1 rfl).2 (by decide) hrd_1669 hup_1670).1 h0 (hTo.at 0 rfl).1 2 (hTo.at 0 rfl).2 4 (by decide)).trans hk_1658
            have hk_1675 : rd f_1668 tok 3 = .int zz := ((Fr.put (cs := [(5, 4)]) (a := o) (ci := 5) Fr.rf Ext.rf (hTo.at 1 rfl).2 (by decide) hrd_1669 hup_1670).1 tok (hTo.at 2 rfl).1 6 (hTo.at 2 rfl).2 3 (by decide)).trans hk_1659
            have hk_1676 : rd f_1668 o 1 = .int z_1630 := ((Fr.put (cs := [(5, 4)]) (a := o) (ci := 5) Fr.rf Ext.rf (hTo.at 1 rfl).2 (by decide) hrd_1669 hup_1670).1 o (hTo.at 1 rfl).1 5 (hTo.at 1 rfl).2 1 (by decide)).trans hk_1660
            have hk_1677 : rd f_1668 o 2 = .int nu := ((Fr.put (cs := [(5, 4)]) (a := o) (ci := 5) Fr.rf Ext.rf (hTo.at 1 rfl).2 (by decide) hrd_1669 hup_1670).1 o (hTo.at 1 rfl).1 5 (hTo.at 1 rfl).2 2 (by decide)).trans hk_1661
            have hk_1678 : rd f_1668 o 3 = .int tn := ((Fr.put (cs := [(5, 4)]) (a := o) (ci := 5) Fr.rf Ext.rf (hTo.at 1 rfl).2 (by decide) hrd_1669 hup_1670).1 o (hTo.at 1 rfl).1 5 (hTo.at 1 rfl).2 3 (by decide)).trans hk_1662
            have hk_1679 : rd f_1668 o 4 = .int 0 := (hrd_1669 o 4).trans (if_pos ⟨rfl, rfl⟩)
            have hg3 : (if Kp tt ln (gnu (Kp tt ln) (Vp tt ln) (nq tt ln) 0 5 (gpa (Kp tt ln) (nq tt ln) (Kp tt ln q.1) (grf 1 q))).1 = 60 then (60 : Int32) else 61) = 61 := if_neg (by rw [← hrq_1651.K]; exact c_1667)
            have hg4 : (0 : Int32) = if Kp tt ln (gnu (Kp tt ln) (Vp tt ln) (nq tt ln) 0 5 (gpa (Kp tt ln) (nq tt ln) (Kp tt ln q.1) (grf 1 q))).1 = 60 then 1 else 0 := (if_neg (by rw [← hrq_1651.K]; exact c_1667)).symm
            refine lv_aload_n hx hb dX2_readTest_85 rfl (lv_at hl 0 rfl) ?_
            refine lv_aload_n hx hb dX2_readTest_86 rfl (lv_at hl 1 rfl) ?_
            refine T_get (ci := 5) (C := RX5) (T := TX5) (N := 8) (t := tI) hx hb hts inw_X2_readTest_5 hown hK hP hT 1 rfl rfl 4 (by decide) (hts (.fieldLink RX2 97 "VatHouse$Step" "below" "Z") (List.mem_of_getElem? (i := 4) (by exact rfl))) (fun _ h9 => h9) rfl dX2_readTest_87 (fun v_1682 hv_1680 hr_1681 => ?_)
            obtain rfl : v_1682 = .int 0 := hr_1681.symm.trans hk_1679
            refine lv_if_eq (tgt := 98) hx hb dX2_readTest_90 (by decide) (fun c_1683 => ?_) (fun c_1683 => ?_)
            rotate_left
            · exact absurd c_1683 (by decide)
            refine lv_bipush (v := 61) hx hb dX2_readTest_98 (by decide) ?_
            have hTo := hT
            refine K_V ⟨hx, hb, hml, hown, hts⟩ (t_X2_pass l dC dI sa hlt g _ _ tt ln M (gnu (Kp tt ln) (Vp tt ln) (nq tt ln) 0 5 (gpa (Kp tt ln) (nq tt ln) (Kp tt ln q.1) (grf 1 q))) h0 61 tok ka sta vaa ax_1632 tn_1633 fa_1634 pw_1635 zz _ (hT.sub [0, 2, 3, 4, 5] rfl)  hk_1671 hk_1672 hk_1673 hk_1674 hk_1675 ((hF.1 h0 (hT0.at 0 rfl).1 2 (hT0.at 0 rfl).2 0 (by decide)).trans h_tok) ((hF.1 tok (hT0.at 2 rfl).1 6 (hT0.at 2 rfl).2 4 (by decide)).trans h_ka) ((hF.1 tok (hT0.at 2 rfl).1 6 (hT0.at 2 rfl).2 5 (by decide)).trans h_sta) ((hF.1 tok (hT0.at 2 rfl).1 6 (hT0.at 2 rfl).2 6 (by decide)).trans h_vaa) hzz (hTK.go (hF.2 ka (hT0.at 3 rfl).1 0 _ _ (hT0.at 3 rfl).2 (by decide)) (hF.2 sta (hT0.at 4 rfl).1 0 _ _ (hT0.at 4 rfl).2 (by decide)) (hF.2 vaa (hT0.at 5 rfl).1 0 _ _ (hT0.at 5 rfl).2 (by decide))) hrq_1651 (Or.inl (by decide))) (cwV 1 hts gX2_readTest_X2_pass rfl rfl rfl (by decide +kernel) ⟨Nat.le_of_ble_eq_true rfl, Nat.le_of_ble_eq_true rfl⟩) hP hD hK hS hA hev hT 0 2 rfl rfl rfl rfl hl.1 rfl (Nat.le_of_ble_eq_true rfl) dX2_readTest_100 ⟨Nat.le_of_ble_eq_true rfl, Nat.le_of_ble_eq_true rfl⟩ (fun r L_1684 f_1685 H locs hw_1686 hP hD hS hT hE1 => ?_)
            have hEo := hE
            have hO5 := hO5.call hE (OF.fr hw_1686.2.1 (by decide)) (by simp)
            have hF := Fr.call hF hE hw_1686.2.1 (by decide)
            have hE := hE.tr hE1
            obtain ⟨rfl, hw_1686⟩ := hw_1686
            obtain ⟨hfr_1687, ax_1688, tn_1689, fa_1690, pw_1691, hk_1692, hk_1693, hk_1694, hk_1695, hrel_1696, hrel_1697, hrel_1698, hrel_1699, hex_1700⟩ := hw_1686
            have hk_1701 : rd f_1685 tok 3 = .int zz := (hfr_1687.1 tok (hTo.at 2 rfl).1 6 (hTo.at 2 rfl).2 3 (by decide)).trans hk_1675
            have hk_1702 : rd f_1685 o 1 = .int z_1630 := (hfr_1687.1 o (hTo.at 1 rfl).1 5 (hTo.at 1 rfl).2 1 (by decide)).trans hk_1676
            have hk_1703 : rd f_1685 o 2 = .int nu := (hfr_1687.1 o (hTo.at 1 rfl).1 5 (hTo.at 1 rfl).2 2 (by decide)).trans hk_1677
            have hk_1704 : rd f_1685 o 3 = .int tn := (hfr_1687.1 o (hTo.at 1 rfl).1 5 (hTo.at 1 rfl).2 3 (by decide)).trans hk_1678
            have hk_1705 : rd f_1685 o 4 = .int 0 := (hfr_1687.1 o (hTo.at 1 rfl).1 5 (hTo.at 1 rfl).2 4 (by decide)).trans hk_1679
            have hrq_1706 := hex_1700
            refine W.eq (g2 := F0 m 103 ls []) rfl ?_
            refine lv_aload_n hx hb dX2_readTest_103 rfl (lv_at hl 1 rfl) ?_
            refine lv_aload_n hx hb dX2_readTest_104 rfl (lv_at hl 0 rfl) ?_
            refine lv_iconst (v := 0) hx hb dX2_readTest_105 (by decide) ?_
            refine lv_sipush (v := 9999) hx hb dX2_readTest_106 (by decide) ?_
            have hTo := hT
            refine K_V ⟨hx, hb, hml, hown, hts⟩ (t_X2_readNumber l dC dI sa hlt g _ _ tt ln M (gpa (Kp tt ln) (nq tt ln) 61 (gnu (Kp tt ln) (Vp tt ln) (nq tt ln) 0 5 (gpa (Kp tt ln) (nq tt ln) (Kp tt ln q.1) (grf 1 q)))) h0 0 9999 tok ka sta vaa ax_1688 tn_1689 fa_1690 pw_1691 zz _ (hT.sub [0, 2, 3, 4, 5] rfl)  hk_1692 hk_1693 hk_1694 hk_1695 hk_1701 ((hF.1 h0 (hT0.at 0 rfl).1 2 (hT0.at 0 rfl).2 0 (by decide)).trans h_tok) ((hF.1 tok (hT0.at 2 rfl).1 6 (hT0.at 2 rfl).2 4 (by decide)).trans h_ka) ((hF.1 tok (hT0.at 2 rfl).1 6 (hT0.at 2 rfl).2 5 (by decide)).trans h_sta) ((hF.1 tok (hT0.at 2 rfl).1 6 (hT0.at 2 rfl).2 6 (by decide)).trans h_vaa) hzz (hTK.go (hF.2 ka (hT0.at 3 rfl).1 0 _ _ (hT0.at 3 rfl).2 (by decide)) (hF.2 sta (hT0.at 4 rfl).1 0 _ _ (hT0.at 4 rfl).2 (by decide)) (hF.2 vaa (hT0.at 5 rfl).1 0 _ _ (hT0.at 5 rfl).2 (by decide))) hrq_1706) (cwV 2 hts gX2_readTest_X2_readNumber rfl rfl rfl (by decide +kernel) ⟨Nat.le_of_ble_eq_true rfl, Nat.le_of_ble_eq_true rfl⟩) hP hD hK hS hA hev hT 0 2 rfl rfl rfl rfl hl.1 rfl (Nat.le_of_ble_eq_true rfl) dX2_readTest_109 ⟨Nat.le_of_ble_eq_true rfl, Nat.le_of_ble_eq_true rfl⟩ (fun r L_1707 f_1708 H locs hw_1709 hP hD hS hT hE1 => ?_)
            have hEo := hE
            have hO5 := hO5.call hE (OF.fr hw_1709.2.1 (by decide)) (by simp)
            have hF := Fr.call hF hE hw_1709.2.1 (by decide)
            have hE := hE.tr hE1
            obtain ⟨⟨z_1710, rfl⟩, hw_1709⟩ := hw_1709
            obtain ⟨hfr_1711, ax_1712, tn_1713, fa_1714, pw_1715, hk_1716, hk_1717, hk_1718, hk_1719, hrel_1720, hrel_1721, hrel_1722, hrel_1723, hex_1724⟩ := hw_1709
            have hk_1725 : rd f_1708 tok 3 = .int zz := (hfr_1711.1 tok (hTo.at 2 rfl).1 6 (hTo.at 2 rfl).2 3 (by decide)).trans hk_1701
            have hk_1726 : rd f_1708 o 1 = .int z_1630 := (hfr_1711.1 o (hTo.at 1 rfl).1 5 (hTo.at 1 rfl).2 1 (by decide)).trans hk_1702
            have hk_1727 : rd f_1708 o 2 = .int nu := (hfr_1711.1 o (hTo.at 1 rfl).1 5 (hTo.at 1 rfl).2 2 (by decide)).trans hk_1703
            have hk_1728 : rd f_1708 o 3 = .int tn := (hfr_1711.1 o (hTo.at 1 rfl).1 5 (hTo.at 1 rfl).2 3 (by decide)).trans hk_1704
            have hk_1729 : rd f_1708 o 4 = .int 0 := (hfr_1711.1 o (hTo.at 1 rfl).1 5 (hTo.at 1 rfl).2 4 (by decide)).trans hk_1705
            have hzv_1730 : z_1710 = Vp tt ln (gpa (Kp tt ln) (nq tt ln) 61 (gnu (Kp tt ln) (Vp tt ln) (nq tt ln) 0 5 (gpa (Kp tt ln) (nq tt ln) (Kp tt ln q.1) (grf 1 q)))).1 := sv hex_1724.1
            have hrq_1731 := hex_1724.2
            refine W.eq (g2 := F0 m 112 ls [.int z_1710, .ref o]) rfl ?_
            have hTo := hT
            refine T_put (ci := 5) (v := .int z_1710) (ty := .int) (t := tI) (C := RX5) (T := TX5) (N := 8) hx hb hts inw_X2_readTest_5 tyX5 tyX5_ok nmX5 hown hK hP hD hS hT 1 rfl rfl 2 (by decide) (hts (.fieldLink RX2 79 "VatHouse$Step" "number" "I") (List.mem_of_getElem? (i := 5) (by exact rfl))) (fun _ h9 => h9) rfl (tyX5_ok 2 (by decide)) rfl rfl rfl ⟨_, rfl⟩ dX2_readTest_112 (fun f_1732 H locs hP hD hS hT hE1 hrd_1733 hup_1734 => ?_)
            have hO5 := hO5.put hrd_1733 (by simp)
            have hF := Fr.put (a := o) (ci := 5) hF hE ((hE1 o (hT.at 1 rfl).1).2.symm.trans (hT.at 1 rfl).2) (by decide) hrd_1733 hup_1734
            have hE := hE.tr hE1
            have hk_1735 : rd f_1732 h0 1 = .int ax_1712 := ((Fr.put (cs := [(5, 2)]) (a := o) (ci := 5) Fr.rf Ext.rf (hTo.at 1 rfl).2 (by decide) hrd_1733 hup_1734).1 h0 (hTo.at 0 rfl).1 2 (hTo.at 0 rfl).2 1 (by decide)).trans hk_1716
            have hk_1736 : rd f_1732 h0 2 = .int tn_1713 := ((Fr.put (cs := [(5, 2)]) (a := o) (ci := 5) Fr.rf Ext.rf (hTo.at 1 rfl).2 (by decide) hrd_1733 hup_1734).1 h0 (hTo.at 0 rfl).1 2 (hTo.at 0 rfl).2 2 (by decide)).trans hk_1717
            have hk_1737 : rd f_1732 h0 3 = .int fa_1714 := ((Fr.put (cs := [(5, 2)]) (a := o) (ci := 5) Fr.rf Ext.rf (hTo.at 1 rfl).2 (by decide) hrd_1733 hup_1734).1 h0 (hTo.at 0 rfl).1 2 (hTo.at 0 rfl).2 3 (by decide)).trans hk_1718
            have hk_1738 : rd f_1732 h0 4 = .int pw_1715 := ((Fr.put (cs := [(5, 2)]) (a := o) (ci := 5) Fr.rf Ext.rf (hTo.at 1 rfl).2 (by decide) hrd_1733 hup_1734).1 h0 (hTo.at 0 rfl).1 2 (hTo.at 0 rfl).2 4 (by decide)).trans hk_1719
            have hk_1739 : rd f_1732 tok 3 = .int zz := ((Fr.put (cs := [(5, 2)]) (a := o) (ci := 5) Fr.rf Ext.rf (hTo.at 1 rfl).2 (by decide) hrd_1733 hup_1734).1 tok (hTo.at 2 rfl).1 6 (hTo.at 2 rfl).2 3 (by decide)).trans hk_1725
            have hk_1740 : rd f_1732 o 1 = .int z_1630 := ((Fr.put (cs := [(5, 2)]) (a := o) (ci := 5) Fr.rf Ext.rf (hTo.at 1 rfl).2 (by decide) hrd_1733 hup_1734).1 o (hTo.at 1 rfl).1 5 (hTo.at 1 rfl).2 1 (by decide)).trans hk_1726
            have hk_1741 : rd f_1732 o 2 = .int z_1710 := (hrd_1733 o 2).trans (if_pos ⟨rfl, rfl⟩)
            have hk_1742 : rd f_1732 o 3 = .int tn := ((Fr.put (cs := [(5, 2)]) (a := o) (ci := 5) Fr.rf Ext.rf (hTo.at 1 rfl).2 (by decide) hrd_1733 hup_1734).1 o (hTo.at 1 rfl).1 5 (hTo.at 1 rfl).2 3 (by decide)).trans hk_1728
            have hk_1743 : rd f_1732 o 4 = .int 0 := ((Fr.put (cs := [(5, 2)]) (a := o) (ci := 5) Fr.rf Ext.rf (hTo.at 1 rfl).2 (by decide) hrd_1733 hup_1734).1 o (hTo.at 1 rfl).1 5 (hTo.at 1 rfl).2 4 (by decide)).trans hk_1729
            exact K_v hx hb hr hlocks hP hD hK hS hT hE ⟨rfl, hF, _, _, _, _, _, _, _, _, hk_1735, hk_1736, hk_1737, hk_1738, hk_1740, hk_1741, hk_1742, hk_1743, trivial, trivial, fun h9 => (absurd ((hrel_1261 (hrel_1642 ((hrel_1698 (hrel_1722 h9)).1))).1) hrel_1218), trivial, trivial, trivial, trivial, trivial, hO5, (gte_b hg1 hg2 hg3) ▸ hrq_1731, fun h9 => (c_618 (by rw [hRQ.K]; exact (gte_ok h9).2.1.2)).elim⟩ (Nat.le_of_ble_eq_true rfl) (Nat.le_of_ble_eq_true rfl) dX2_readTest_115
          · refine lv_iconst (v := 1) hx hb dX2_readTest_77 (by decide) ?_
            refine lv_goto (tgt := 82) hx hb dX2_readTest_78 (by decide) ?_
            have hTo := hT
            refine T_put (ci := 5) (v := .int 1) (ty := .boolean) (t := tI) (C := RX5) (T := TX5) (N := 8) hx hb hts inw_X2_readTest_5 tyX5 tyX5_ok nmX5 hown hK hP hD hS hT 1 rfl rfl 4 (by decide) (hts (.fieldLink RX2 97 "VatHouse$Step" "below" "Z") (List.mem_of_getElem? (i := 4) (by exact rfl))) (fun _ h9 => h9) rfl (tyX5_ok 4 (by decide)) rfl rfl rfl ⟨_, rfl⟩ dX2_readTest_82 (fun f_1744 H locs hP hD hS hT hE1 hrd_1745 hup_1746 => ?_)
            have hO5 := hO5.put hrd_1745 (by simp)
            have hF := Fr.put (a := o) (ci := 5) hF hE ((hE1 o (hT.at 1 rfl).1).2.symm.trans (hT.at 1 rfl).2) (by decide) hrd_1745 hup_1746
            have hE := hE.tr hE1
            have hk_1747 : rd f_1744 h0 1 = .int ax_1632 := ((Fr.put (cs := [(5, 4)]) (a := o) (ci := 5) Fr.rf Ext.rf (hTo.at 1 rfl).2 (by decide) hrd_1745 hup_1746).1 h0 (hTo.at 0 rfl).1 2 (hTo.at 0 rfl).2 1 (by decide)).trans hk_1655
            have hk_1748 : rd f_1744 h0 2 = .int tn_1633 := ((Fr.put (cs := [(5, 4)]) (a := o) (ci := 5) Fr.rf Ext.rf (hTo.at 1 rfl).2 (by decide) hrd_1745 hup_1746).1 h0 (hTo.at 0 rfl).1 2 (hTo.at 0 rfl).2 2 (by decide)).trans hk_1656
            have hk_1749 : rd f_1744 h0 3 = .int fa_1634 := ((Fr.put (cs := [(5, 4)]) (a := o) (ci := 5) Fr.rf Ext.rf (hTo.at 1 rfl).2 (by decide) hrd_1745 hup_1746).1 h0 (hTo.at 0 rfl).1 2 (hTo.at 0 rfl).2 3 (by decide)).trans hk_1657
            have hk_1750 : rd f_1744 h0 4 = .int pw_1635 := ((Fr.put (cs := [(5, 4)]) (a := o) (ci := 5) Fr.rf Ext.rf (hTo.at 1 rfl).2 (by decide) hrd_1745 hup_1746).1 h0 (hTo.at 0 rfl).1 2 (hTo.at 0 rfl).2 4 (by decide)).trans hk_1658
            have hk_1751 : rd f_1744 tok 3 = .int zz := ((Fr.put (cs := [(5, 4)]) (a := o) (ci := 5) Fr.rf Ext.rf (hTo.at 1 rfl).2 (by decide) hrd_1745 hup_1746).1 tok (hTo.at 2 rfl).1 6 (hTo.at 2 rfl).2 3 (by decide)).trans hk_1659
            have hk_1752 : rd f_1744 o 1 = .int z_1630 := ((Fr.put (cs := [(5, 4)]) (a := o) (ci := 5) Fr.rf Ext.rf (hTo.at 1 rfl).2 (by decide) hrd_1745 hup_1746).1 o (hTo.at 1 rfl).1 5 (hTo.at 1 rfl).2 1 (by decide)).trans hk_1660
            have hk_1753 : rd f_1744 o 2 = .int nu := ((Fr.put (cs := [(5, 4)]) (a := o) (ci := 5) Fr.rf Ext.rf (hTo.at 1 rfl).2 (by decide) hrd_1745 hup_1746).1 o (hTo.at 1 rfl).1 5 (hTo.at 1 rfl).2 2 (by decide)).trans hk_1661
            have hk_1754 : rd f_1744 o 3 = .int tn := ((Fr.put (cs := [(5, 4)]) (a := o) (ci := 5) Fr.rf Ext.rf (hTo.at 1 rfl).2 (by decide) hrd_1745 hup_1746).1 o (hTo.at 1 rfl).1 5 (hTo.at 1 rfl).2 3 (by decide)).trans hk_1662
            have hk_1755 : rd f_1744 o 4 = .int 1 := (hrd_1745 o 4).trans (if_pos ⟨rfl, rfl⟩)
            have hg3 : (if Kp tt ln (gnu (Kp tt ln) (Vp tt ln) (nq tt ln) 0 5 (gpa (Kp tt ln) (nq tt ln) (Kp tt ln q.1) (grf 1 q))).1 = 60 then (60 : Int32) else 61) = 60 := if_pos (by rw [← hrq_1651.K]; exact c_1667)
            have hg4 : (1 : Int32) = if Kp tt ln (gnu (Kp tt ln) (Vp tt ln) (nq tt ln) 0 5 (gpa (Kp tt ln) (nq tt ln) (Kp tt ln q.1) (grf 1 q))).1 = 60 then 1 else 0 := (if_pos (by rw [← hrq_1651.K]; exact c_1667)).symm
            refine lv_aload_n hx hb dX2_readTest_85 rfl (lv_at hl 0 rfl) ?_
            refine lv_aload_n hx hb dX2_readTest_86 rfl (lv_at hl 1 rfl) ?_
            refine T_get (ci := 5) (C := RX5) (T := TX5) (N := 8) (t := tI) hx hb hts inw_X2_readTest_5 hown hK hP hT 1 rfl rfl 4 (by decide) (hts (.fieldLink RX2 97 "VatHouse$Step" "below" "Z") (List.mem_of_getElem? (i := 4) (by exact rfl))) (fun _ h9 => h9) rfl dX2_readTest_87 (fun v_1758 hv_1756 hr_1757 => ?_)
            obtain rfl : v_1758 = .int 1 := hr_1757.symm.trans hk_1755
            refine lv_if_eq (tgt := 98) hx hb dX2_readTest_90 (by decide) (fun c_1759 => ?_) (fun c_1759 => ?_)
            · exact absurd c_1759 (by decide)
            refine lv_bipush (v := 60) hx hb dX2_readTest_93 (by decide) ?_
            refine lv_goto (tgt := 100) hx hb dX2_readTest_95 (by decide) ?_
            have hTo := hT
            refine K_V ⟨hx, hb, hml, hown, hts⟩ (t_X2_pass l dC dI sa hlt g _ _ tt ln M (gnu (Kp tt ln) (Vp tt ln) (nq tt ln) 0 5 (gpa (Kp tt ln) (nq tt ln) (Kp tt ln q.1) (grf 1 q))) h0 60 tok ka sta vaa ax_1632 tn_1633 fa_1634 pw_1635 zz _ (hT.sub [0, 2, 3, 4, 5] rfl)  hk_1747 hk_1748 hk_1749 hk_1750 hk_1751 ((hF.1 h0 (hT0.at 0 rfl).1 2 (hT0.at 0 rfl).2 0 (by decide)).trans h_tok) ((hF.1 tok (hT0.at 2 rfl).1 6 (hT0.at 2 rfl).2 4 (by decide)).trans h_ka) ((hF.1 tok (hT0.at 2 rfl).1 6 (hT0.at 2 rfl).2 5 (by decide)).trans h_sta) ((hF.1 tok (hT0.at 2 rfl).1 6 (hT0.at 2 rfl).2 6 (by decide)).trans h_vaa) hzz (hTK.go (hF.2 ka (hT0.at 3 rfl).1 0 _ _ (hT0.at 3 rfl).2 (by decide)) (hF.2 sta (hT0.at 4 rfl).1 0 _ _ (hT0.at 4 rfl).2 (by decide)) (hF.2 vaa (hT0.at 5 rfl).1 0 _ _ (hT0.at 5 rfl).2 (by decide))) hrq_1651 (Or.inl (by decide))) (cwV 1 hts gX2_readTest_X2_pass rfl rfl rfl (by decide +kernel) ⟨Nat.le_of_ble_eq_true rfl, Nat.le_of_ble_eq_true rfl⟩) hP hD hK hS hA hev hT 0 2 rfl rfl rfl rfl hl.1 rfl (Nat.le_of_ble_eq_true rfl) dX2_readTest_100 ⟨Nat.le_of_ble_eq_true rfl, Nat.le_of_ble_eq_true rfl⟩ (fun r L_1760 f_1761 H locs hw_1762 hP hD hS hT hE1 => ?_)
            have hEo := hE
            have hO5 := hO5.call hE (OF.fr hw_1762.2.1 (by decide)) (by simp)
            have hF := Fr.call hF hE hw_1762.2.1 (by decide)
            have hE := hE.tr hE1
            obtain ⟨rfl, hw_1762⟩ := hw_1762
            obtain ⟨hfr_1763, ax_1764, tn_1765, fa_1766, pw_1767, hk_1768, hk_1769, hk_1770, hk_1771, hrel_1772, hrel_1773, hrel_1774, hrel_1775, hex_1776⟩ := hw_1762
            have hk_1777 : rd f_1761 tok 3 = .int zz := (hfr_1763.1 tok (hTo.at 2 rfl).1 6 (hTo.at 2 rfl).2 3 (by decide)).trans hk_1751
            have hk_1778 : rd f_1761 o 1 = .int z_1630 := (hfr_1763.1 o (hTo.at 1 rfl).1 5 (hTo.at 1 rfl).2 1 (by decide)).trans hk_1752
            have hk_1779 : rd f_1761 o 2 = .int nu := (hfr_1763.1 o (hTo.at 1 rfl).1 5 (hTo.at 1 rfl).2 2 (by decide)).trans hk_1753
            have hk_1780 : rd f_1761 o 3 = .int tn := (hfr_1763.1 o (hTo.at 1 rfl).1 5 (hTo.at 1 rfl).2 3 (by decide)).trans hk_1754
            have hk_1781 : rd f_1761 o 4 = .int 1 := (hfr_1763.1 o (hTo.at 1 rfl).1 5 (hTo.at 1 rfl).2 4 (by decide)).trans hk_1755
            have hrq_1782 := hex_1776
            refine W.eq (g2 := F0 m 103 ls []) rfl ?_
            refine lv_aload_n hx hb dX2_readTest_103 rfl (lv_at hl 1 rfl) ?_
            refine lv_aload_n hx hb dX2_readTest_104 rfl (lv_at hl 0 rfl) ?_
            refine lv_iconst (v := 0) hx hb dX2_readTest_105 (by decide) ?_
            refine lv_sipush (v := 9999) hx hb dX2_readTest_106 (by decide) ?_
            have hTo := hT
            refine K_V ⟨hx, hb, hml, hown, hts⟩ (t_X2_readNumber l dC dI sa hlt g _ _ tt ln M (gpa (Kp tt ln) (nq tt ln) 60 (gnu (Kp tt ln) (Vp tt ln) (nq tt ln) 0 5 (gpa (Kp tt ln) (nq tt ln) (Kp tt ln q.1) (grf 1 q)))) h0 0 9999 tok ka sta vaa ax_1764 tn_1765 fa_1766 pw_1767 zz _ (hT.sub [0, 2, 3, 4, 5] rfl)  hk_1768 hk_1769 hk_1770 hk_1771 hk_1777 ((hF.1 h0 (hT0.at 0 rfl).1 2 (hT0.at 0 rfl).2 0 (by decide)).trans h_tok) ((hF.1 tok (hT0.at 2 rfl).1 6 (hT0.at 2 rfl).2 4 (by decide)).trans h_ka) ((hF.1 tok (hT0.at 2 rfl).1 6 (hT0.at 2 rfl).2 5 (by decide)).trans h_sta) ((hF.1 tok (hT0.at 2 rfl).1 6 (hT0.at 2 rfl).2 6 (by decide)).trans h_vaa) hzz (hTK.go (hF.2 ka (hT0.at 3 rfl).1 0 _ _ (hT0.at 3 rfl).2 (by decide)) (hF.2 sta (hT0.at 4 rfl).1 0 _ _ (hT0.at 4 rfl).2 (by decide)) (hF.2 vaa (hT0.at 5 rfl).1 0 _ _ (hT0.at 5 rfl).2 (by decide))) hrq_1782) (cwV 2 hts gX2_readTest_X2_readNumber rfl rfl rfl (by decide +kernel) ⟨Nat.le_of_ble_eq_true rfl, Nat.le_of_ble_eq_true rfl⟩) hP hD hK hS hA hev hT 0 2 rfl rfl rfl rfl hl.1 rfl (Nat.le_of_ble_eq_true rfl) dX2_readTest_109 ⟨Nat.le_of_ble_eq_true rfl, Nat.le_of_ble_eq_true rfl⟩ (fun r L_1783 f_1784 H locs hw_1785 hP hD hS hT hE1 => ?_)
            have hEo := hE
            have hO5 := hO5.call hE (OF.fr hw_1785.2.1 (by decide)) (by simp)
            have hF := Fr.call hF hE hw_1785.2.1 (by decide)
            have hE := hE.tr hE1
            obtain ⟨⟨z_1786, rfl⟩, hw_1785⟩ := hw_1785
            obtain ⟨hfr_1787, ax_1788, tn_1789, fa_1790, pw_1791, hk_1792, hk_1793, hk_1794, hk_1795, hrel_1796, hrel_1797, hrel_1798, hrel_1799, hex_1800⟩ := hw_1785
            have hk_1801 : rd f_1784 tok 3 = .int zz := (hfr_1787.1 tok (hTo.at 2 rfl).1 6 (hTo.at 2 rfl).2 3 (by decide)).trans hk_1777
            have hk_1802 : rd f_1784 o 1 = .int z_1630 := (hfr_1787.1 o (hTo.at 1 rfl).1 5 (hTo.at 1 rfl).2 1 (by decide)).trans hk_1778
            have hk_1803 : rd f_1784 o 2 = .int nu := (hfr_1787.1 o (hTo.at 1 rfl).1 5 (hTo.at 1 rfl).2 2 (by decide)).trans hk_1779
            have hk_1804 : rd f_1784 o 3 = .int tn := (hfr_1787.1 o (hTo.at 1 rfl).1 5 (hTo.at 1 rfl).2 3 (by decide)).trans hk_1780
            have hk_1805 : rd f_1784 o 4 = .int 1 := (hfr_1787.1 o (hTo.at 1 rfl).1 5 (hTo.at 1 rfl).2 4 (by decide)).trans hk_1781
            have hzv_1806 : z_1786 = Vp tt ln (gpa (Kp tt ln) (nq tt ln) 60 (gnu (Kp tt ln) (Vp tt ln) (nq tt ln) 0 5 (gpa (Kp tt ln) (nq tt ln) (Kp tt ln q.1) (grf 1 q)))).1 := sv hex_1800.1
            have hrq_1807 := hex_1800.2
            refine W.eq (g2 := F0 m 112 ls [.int z_1786, .ref o]) rfl ?_
            have hTo := hT
            refine T_put (ci := 5) (v := .int z_1786) (ty := .int) (t := tI) (C := RX5) (T := TX5) (N := 8) hx hb hts inw_X2_readTest_5 tyX5 tyX5_ok nmX5 hown hK hP hD hS hT 1 rfl rfl 2 (by decide) (hts (.fieldLink RX2 79 "VatHouse$Step" "number" "I") (List.mem_of_getElem? (i := 5) (by exact rfl))) (fun _ h9 => h9) rfl (tyX5_ok 2 (by decide)) rfl rfl rfl ⟨_, rfl⟩ dX2_readTest_112 (fun f_1808 H locs hP hD hS hT hE1 hrd_1809 hup_1810 => ?_)
            have hO5 := hO5.put hrd_1809 (by simp)
            have hF := Fr.put (a := o) (ci := 5) hF hE ((hE1 o (hT.at 1 rfl).1).2.symm.trans (hT.at 1 rfl).2) (by decide) hrd_1809 hup_1810
            have hE := hE.tr hE1
            have hk_1811 : rd f_1808 h0 1 = .int ax_1788 := ((Fr.put (cs := [(5, 2)]) (a := o) (ci := 5) Fr.rf Ext.rf (hTo.at 1 rfl).2 (by decide) hrd_1809 hup_1810).1 h0 (hTo.at 0 rfl).1 2 (hTo.at 0 rfl).2 1 (by decide)).trans hk_1792
            have hk_1812 : rd f_1808 h0 2 = .int tn_1789 := ((Fr.put (cs := [(5, 2)]) (a := o) (ci := 5) Fr.rf Ext.rf (hTo.at 1 rfl).2 (by decide) hrd_1809 hup_1810).1 h0 (hTo.at 0 rfl).1 2 (hTo.at 0 rfl).2 2 (by decide)).trans hk_1793
            have hk_1813 : rd f_1808 h0 3 = .int fa_1790 := ((Fr.put (cs := [(5, 2)]) (a := o) (ci := 5) Fr.rf Ext.rf (hTo.at 1 rfl).2 (by decide) hrd_1809 hup_1810).1 h0 (hTo.at 0 rfl).1 2 (hTo.at 0 rfl).2 3 (by decide)).trans hk_1794
            have hk_1814 : rd f_1808 h0 4 = .int pw_1791 := ((Fr.put (cs := [(5, 2)]) (a := o) (ci := 5) Fr.rf Ext.rf (hTo.at 1 rfl).2 (by decide) hrd_1809 hup_1810).1 h0 (hTo.at 0 rfl).1 2 (hTo.at 0 rfl).2 4 (by decide)).trans hk_1795
            have hk_1815 : rd f_1808 tok 3 = .int zz := ((Fr.put (cs := [(5, 2)]) (a := o) (ci := 5) Fr.rf Ext.rf (hTo.at 1 rfl).2 (by decide) hrd_1809 hup_1810).1 tok (hTo.at 2 rfl).1 6 (hTo.at 2 rfl).2 3 (by decide)).trans hk_1801
            have hk_1816 : rd f_1808 o 1 = .int z_1630 := ((Fr.put (cs := [(5, 2)]) (a := o) (ci := 5) Fr.rf Ext.rf (hTo.at 1 rfl).2 (by decide) hrd_1809 hup_1810).1 o (hTo.at 1 rfl).1 5 (hTo.at 1 rfl).2 1 (by decide)).trans hk_1802
            have hk_1817 : rd f_1808 o 2 = .int z_1786 := (hrd_1809 o 2).trans (if_pos ⟨rfl, rfl⟩)
            have hk_1818 : rd f_1808 o 3 = .int tn := ((Fr.put (cs := [(5, 2)]) (a := o) (ci := 5) Fr.rf Ext.rf (hTo.at 1 rfl).2 (by decide) hrd_1809 hup_1810).1 o (hTo.at 1 rfl).1 5 (hTo.at 1 rfl).2 3 (by decide)).trans hk_1804
            have hk_1819 : rd f_1808 o 4 = .int 1 := ((Fr.put (cs := [(5, 2)]) (a := o) (ci := 5) Fr.rf Ext.rf (hTo.at 1 rfl).2 (by decide) hrd_1809 hup_1810).1 o (hTo.at 1 rfl).1 5 (hTo.at 1 rfl).2 4 (by decide)).trans hk_1805
            exact K_v hx hb hr hlocks hP hD hK hS hT hE ⟨rfl, hF, _, _, _, _, _, _, _, _, hk_1811, hk_1812, hk_1813, hk_1814, hk_1816, hk_1817, hk_1818, hk_1819, trivial, trivial, fun h9 => (absurd ((hrel_1261 (hrel_1642 ((hrel_1774 (hrel_1798 h9)).1))).1) hrel_1218), trivial, trivial, trivial, trivial, trivial, hO5, (gte_b hg1 hg2 hg3) ▸ hrq_1807, fun h9 => (c_618 (by rw [hRQ.K]; exact (gte_ok h9).2.1.2)).elim⟩ (Nat.le_of_ble_eq_true rfl) (Nat.le_of_ble_eq_true rfl) dX2_readTest_115
