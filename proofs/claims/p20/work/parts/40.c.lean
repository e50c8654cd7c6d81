noncomputable abbrev rm_X5_initT : Room := { frames := 1, cells := 0, slots := 0, locals := 12 }
set_option maxHeartbeats 800000 in
set_option maxRecDepth 100000 in
theorem t_X5_initT (l : Launch) (dC : Nat → ClassId) (dI : Nat → Nat → Nat) (sa : Nat → Nat) (hlt : l.stackTraces = false) (g : Nat → Nat) (L : List Nat) (f : Nat → va_E) (h0 : Nat) (wo : Int32) (sz : Nat) (hT : TP g L f [(h0, (0, 5, 0))]) : KC l dC dI sa g yX5_init wsX5_init rm_X5_initT [.ref h0, .int wo] L f sz (fun r L' f' => (r = none) ∧ Fr [(5, 0)] L f f' ∧ (∃ wd' : Int32, rd f' h0 0 = .int wd' ∧ (wd' = wo) ∧ (OF 5 [h0] L f f' ∧ (∀ b ∈ L, b ≠ h0 → f' b = f b)))) 0 0 := by
  refine CT.start (cc := cX5_init) (maxL := 2) (ret := none) (by decide) rfl (Nat.le_of_ble_eq_true rfl) ?_
  intro p e s m below meth c ls hst hP hK hD hev hS hl
  obtain ⟨hx, hb, hr, hml, hts, hown, hlocks, hin⟩ := hst
  have hown : s.vm.findClass RX5 = some m.cls := hown
  have hin : meth.name = yX5_init.name := hin
  have hA : ∀ q : Nat, s.heap.size ≤ q → va_A (va_pl L f) s.heap.size q := fun _ h => Or.inr h
  have hE : Ext L f L f := Ext.rf
  have hF : Fr [(5, 0)] L f f := Fr.rf
  have hO5 : OF 5 [h0] L f f := OF.rf
  have hl : lv_has ls 2 [(0, .ref h0), (1, .int wo)] := hl
  refine lv_aload_n hx hb dX5_init_0 rfl (lv_at hl 0 rfl) ?_
  refine W.objInit hx hb hown (hts (.methodLink RX5 1 objectInit) (List.mem_of_getElem? (i := 1) (by exact rfl))) (hts (.instanceMethod objectInit) (List.mem_of_getElem? (i := 2) (by exact rfl))) (hts (.code objectInit ⟨#[0xb1]⟩ 1 none) (List.mem_of_getElem? (i := 3) (by exact rfl))) rfl (by rw [hml]; exact hl.1) rfl dX5_init_1 (Nat.le_of_ble_eq_true rfl) (Nat.le_of_ble_eq_true rfl) ?_
  refine W.eq (g2 := F0 m 4 ls []) rfl ?_
  refine lv_aload_n hx hb dX5_init_4 rfl (lv_at hl 0 rfl) ?_
  refine lv_iload_n hx hb dX5_init_5 rfl (lv_at hl 1 rfl) ?_
  refine T_putF (ci := 5) (v := .int wo) (ty := .int) (t := tI) (C := RX5) (T := TX5) (N := 8) hx hb hts inw_X5_init_5 tyX5 tyX5_ok nmX5 hown hK hP hD hS hT 0 rfl rfl 0 (by decide) (hts (.fieldLink RX5 7 "VatHouse$Step" "word" "I") (List.mem_of_getElem? (i := 4) (by exact rfl))) (fun _ h9 => h9) rfl hin rfl (tyX5_ok 0 (by decide)) rfl rfl rfl ⟨_, rfl⟩ dX5_init_6 (fun f_1 H locs hP hD hS hT hE1 hrd_2 hup_3 => ?_)
  have hO5 := hO5.put hrd_2 (by simp)
  have hF := Fr.put (a := h0) (ci := 5) hF hE ((hE1 h0 (hT.at 0 rfl).1).2.symm.trans (hT.at 0 rfl).2) (by decide) hrd_2 hup_3
  have hE := hE.tr hE1
  have hk_4 : rd f_1 h0 0 = .int wo := (hrd_2 h0 0).trans (if_pos ⟨rfl, rfl⟩)
  exact K_v hx hb hr hlocks hP hD hK hS hT hE ⟨rfl, hF, _, hk_4, rfl, hO5, fun b _ hb => hup_3 b hb⟩ (Nat.le_of_ble_eq_true rfl) (Nat.le_of_ble_eq_true rfl) dX5_init_9

noncomputable abbrev rm_X2_readBlockT (j : Nat) (d : Nat) (P : Nat) (tt : Nat → Int32) (ln : Nat) (M : Nat) (q : SG) (T : TT) (ad : Nat → Nat) : Room := { frames := 4 * j + 30, cells := P, slots := 8 * P, locals := 200 * j + 400 }
noncomputable abbrev rm_X2_readBuiltT (j : Nat) (d : Nat) (P : Nat) (tt : Nat → Int32) (ln : Nat) (M : Nat) (q : SG) (T : TT) (ad : Nat → Nat) (k : Nat) : Room := { frames := 4 * j + 31, cells := P, slots := 8 * P, locals := 200 * j + 430 }
noncomputable abbrev rm_X2_readStepT (j : Nat) (d : Nat) (P : Nat) (tt : Nat → Int32) (ln : Nat) (M : Nat) (q : SG) (T : TT) (ad : Nat → Nat) : Room := { frames := 4 * j + 32, cells := P, slots := 8 * P, locals := 200 * j + 460 }
noncomputable abbrev rm_X2_readStepsT (j : Nat) (d : Nat) (P : Nat) (tt : Nat → Int32) (ln : Nat) (M : Nat) (q : SG) (T : TT) (ad : Nat → Nat) : Room := { frames := 4 * j + 33, cells := P, slots := 8 * P, locals := 200 * j + 490 }
set_option maxHeartbeats 800000 in
set_option maxRecDepth 100000 in
theorem t_X2_readBlockT (l : Launch) (dC : Nat → ClassId) (dI : Nat → Nat → Nat) (sa : Nat → Nat) (hlt : l.stackTraces = false) (g : Nat → Nat) (L : List Nat) (f : Nat → va_E) (j : Nat) (d : Nat) (P : Nat) (tt : Nat → Int32) (ln : Nat) (M : Nat) (q : SG) (T : TT) (ad : Nat → Nat) (h0 : Nat) (dep : Int32) (tok : Nat) (ka : Nat) (sta : Nat) (vaa : Nat) (ax : Int32) (tn : Int32) (fa : Int32) (pw : Int32) (sg : Int32) (zz : Int32) (sz : Nat) (hT : TP g L f [(h0, (0, 2, 0)), (tok, (0, 6, 0)), (ka, (1, g 0, 1501)), (sta, (1, g 5, 1501)), (vaa, (1, g 6, 1501))]) (hm_ax : rd f h0 1 = .int ax) (hm_tn : rd f h0 2 = .int tn) (hm_fa : rd f h0 3 = .int fa) (hm_pw : rd f h0 4 = .int pw) (hm_sg : rd f h0 5 = .int sg) (hm_zz : rd f tok 3 = .int zz) (h_tok : rd f h0 0 = .ref tok) (h_ka : rd f tok 4 = .ref ka) (h_sta : rd f tok 5 = .ref sta) (h_vaa : rd f tok 6 = .ref vaa) (hd : dep = nI d) (hdj : d + j = 8) (hP0 : pot fa sg = P) (hs3 : sg.toInt ≤ 300) (hzz : zz = nI (M + 1)) (hTK : TKS f ka sta vaa tt ln M) (hRQ : RQ tt ln M q ax tn fa pw) (hnd : sg = nI q.2.1 ∧ q.2.1 ≤ 300) (IHR : ∀ j' d' : Nat, d' + j' = 8 → j = j' + 1 → ∀ (L : List Nat) (f : Nat → va_E) (P : Nat) (tt : Nat → Int32) (ln : Nat) (M : Nat) (q : SG) (T : TT) (ad : Nat → Nat) (h0 : Nat) (dep : Int32) (tok : Nat) (ka : Nat) (sta : Nat) (vaa : Nat) (ax : Int32) (tn : Int32) (fa : Int32) (pw : Int32) (sg : Int32) (zz : Int32) (sz : Nat) (hT : TP g L f [(h0, (0, 2, 0)), (tok, (0, 6, 0)), (ka, (1, g 0, 1501)), (sta, (1, g 5, 1501)), (vaa, (1, g 6, 1501))]) (hm_ax : rd f h0 1 = .int ax) (hm_tn : rd f h0 2 = .int tn) (hm_fa : rd f h0 3 = .int fa) (hm_pw : rd f h0 4 = .int pw) (hm_sg : rd f h0 5 = .int sg) (hm_zz : rd f tok 3 = .int zz) (h_tok : rd f h0 0 = .ref tok) (h_ka : rd f tok 4 = .ref ka) (h_sta : rd f tok 5 = .ref sta) (h_vaa : rd f tok 6 = .ref vaa) (hd : dep = nI d') (hP0 : pot fa sg = P) (hs3 : sg.toInt ≤ 300) (hzz : zz = nI (M + 1)) (hTK : TKS f ka sta vaa tt ln M) (hRQ : RQ tt ln M q ax tn fa pw) (hnd : sg = nI q.2.1 ∧ q.2.1 ≤ 300), KZ l dC dI sa g yX2_readSteps wsX2_readSteps (rm_X2_readStepsT j' d' P tt ln M q T ad) [.ref h0, .int dep] L f sz (fun r L' f' => (∃ v : Value, r = some v ∧ okv L' f' (2, 0, 5, 0) v) ∧ Fr [(2, 1), (2, 2), (2, 3), (2, 4), (5, 1), (5, 2), (5, 3), (5, 4), (5, 5), (5, 6), (5, 7), (2, 5)] L f f' ∧ (∃ ax' : Int32, ∃ tn' : Int32, ∃ fa' : Int32, ∃ pw' : Int32, ∃ sg' : Int32, rd f' h0 1 = .int ax' ∧ rd f' h0 2 = .int tn' ∧ rd f' h0 3 = .int fa' ∧ rd f' h0 4 = .int pw' ∧ rd f' h0 5 = .int sg' ∧ (True) ∧ (True) ∧ (True) ∧ (True) ∧ (sg'.toInt ≤ 300) ∧ (OF 5 [] L f f' ∧ (∃ (qn : SG) (T' : TT) (ad' : Nat → Nat), (Ev (Kp tt ln) (Vp tt ln) (nq tt ln) 0 d' q qn) ∧ RQ tt ln M qn ax' tn' fa' pw' ∧ (sg' = nI qn.2.1 ∧ qn.2.1 ≤ 300) ∧ (qn.2.2.1 = 0 → ∃ v9 : Value, r = some v9 ∧ PB (Kp tt ln) (Vp tt ln) (nq tt ln) 0 d' q qn T T' ad ad' L L' f' v9))))) (fun n f' => ∃ a b : Int32, rd f' h0 3 = .int a ∧ rd f' h0 5 = .int b ∧ n + pot a b ≤ P) P (8 * P)) : KZ l dC dI sa g yX2_readBlock wsX2_readBlock (rm_X2_readBlockT j d P tt ln M q T ad) [.ref h0, .int dep] L f sz (fun r L' f' => (∃ v : Value, r = some v ∧ okv L' f' (2, 0, 5, 0) v) ∧ Fr [(2, 1), (2, 2), (2, 3), (2, 4), (5, 1), (5, 2), (5, 3), (5, 4), (5, 5), (5, 6), (5, 7), (2, 5)] L f f' ∧ (∃ ax' : Int32, ∃ tn' : Int32, ∃ fa' : Int32, ∃ pw' : Int32, ∃ sg' : Int32, rd f' h0 1 = .int ax' ∧ rd f' h0 2 = .int tn' ∧ rd f' h0 3 = .int fa' ∧ rd f' h0 4 = .int pw' ∧ rd f' h0 5 = .int sg' ∧ (True) ∧ (True) ∧ (True) ∧ (True) ∧ (sg'.toInt ≤ 300) ∧ (OF 5 [] L f f' ∧ (∃ (qn : SG) (T' : TT) (ad' : Nat → Nat), (Ev (Kp tt ln) (Vp tt ln) (nq tt ln) 2 d q qn) ∧ RQ tt ln M qn ax' tn' fa' pw' ∧ (sg' = nI qn.2.1 ∧ qn.2.1 ≤ 300) ∧ (qn.2.2.1 = 0 → ∃ v9 : Value, r = some v9 ∧ PB (Kp tt ln) (Vp tt ln) (nq tt ln) 2 d q qn T T' ad ad' L L' f' v9))))) (fun n f' => ∃ a b : Int32, rd f' h0 3 = .int a ∧ rd f' h0 5 = .int b ∧ n + pot a b ≤ P) P (8 * P) := by
  refine KZ.start (cc := cX2_readBlock) (maxL := 3) (ret := (some (.object "VatHouse$Step"))) (by decide) rfl (Nat.le_of_ble_eq_true rfl) ?_
  intro p e s m below meth c ls hst hP hK hD hev hS hl
  obtain ⟨hx, hb, hr, hml, hts, hown, hlocks, hin⟩ := hst
  have hown : s.vm.findClass RX2 = some m.cls := hown
  have hin : meth.name = yX2_readBlock.name := hin
  have hA : ∀ q : Nat, s.heap.size ≤ q → va_A (va_pl L f) s.heap.size q := fun _ h => Or.inr h
  have hE : Ext L f L f := Ext.rf
  have hF : Fr [(2, 1), (2, 2), (2, 3), (2, 4), (5, 1), (5, 2), (5, 3), (5, 4), (5, 5), (5, 6), (5, 7), (2, 5)] L f f := Fr.rf
  have hO5 : OF 5 [] L f f := OF.rf
  have hl : lv_has ls 3 [(0, .ref h0), (1, .int dep)] := hl
  have hT0 := hT
  refine lv_aload_n hx hb dX2_readBlock_0 rfl (lv_at hl 0 rfl) ?_
  refine T_get (ci := 2) (C := RX2) (T := TX2) (N := 6) (t := tI) hx hb hts inw_X2_readBlock_2 hown hK hP hT 0 rfl rfl 2 (by decide) (hts (.fieldLink RX2 44 "VatHouse$Reader" "token" "I") (List.mem_of_getElem? (i := 1) (by exact rfl))) (fun _ h9 => h9) rfl dX2_readBlock_1 (fun v_3 hv_1 hr_2 => ?_)
  obtain rfl : v_3 = .int tn := hr_2.symm.trans hm_tn
  refine lv_bipush (v := 123) hx hb dX2_readBlock_4 (by decide) ?_
  refine lv_icmp_ne (tgt := 20) hx hb dX2_readBlock_6 (by decide) (fun c_4 => ?_) (fun c_4 => ?_)
  · have hgo : (if Kp tt ln q.1 = 123 ∧ 8 ≤ d then grf 2 q else q) = q := if_neg (fun h9 => c_4 (hRQ.K.trans h9.1))
    refine lv_aload_n hx hb dX2_readBlock_20 rfl (lv_at hl 0 rfl) ?_
    refine lv_bipush (v := 123) hx hb dX2_readBlock_21 (by decide) ?_
    have hTo := hT
    refine K_V ⟨hx, hb, hml, hown, hts⟩ (t_X2_pass l dC dI sa hlt g _ _ tt ln M q h0 123 tok ka sta vaa ax tn fa pw zz _ (hT.sub [0, 1, 2, 3, 4] rfl)  hm_ax hm_tn hm_fa hm_pw hm_zz ((hF.1 h0 (hT0.at 0 rfl).1 2 (hT0.at 0 rfl).2 0 (by decide)).trans h_tok) ((hF.1 tok (hT0.at 1 rfl).1 6 (hT0.at 1 rfl).2 4 (by decide)).trans h_ka) ((hF.1 tok (hT0.at 1 rfl).1 6 (hT0.at 1 rfl).2 5 (by decide)).trans h_sta) ((hF.1 tok (hT0.at 1 rfl).1 6 (hT0.at 1 rfl).2 6 (by decide)).trans h_vaa) hzz (hTK.go (hF.2 ka (hT0.at 2 rfl).1 0 _ _ (hT0.at 2 rfl).2 (by decide)) (hF.2 sta (hT0.at 3 rfl).1 0 _ _ (hT0.at 3 rfl).2 (by decide)) (hF.2 vaa (hT0.at 4 rfl).1 0 _ _ (hT0.at 4 rfl).2 (by decide))) hRQ (Or.inl (by decide))) (cwV 1 hts gX2_readBlock_X2_pass rfl rfl rfl (by decide +kernel) ⟨(by first | exact Nat.le_of_ble_eq_true rfl | (simp only [rm_X2_pass, rm_X2_readBlockT]; omega)), (by first | exact Nat.le_of_ble_eq_true rfl | (simp only [rm_X2_pass, rm_X2_readBlockT]; omega))⟩) hP hD hK hS hA hev hT 0 2 rfl rfl rfl rfl hl.1 rfl (Nat.le_of_ble_eq_true rfl) dX2_readBlock_23 ⟨(by first | exact Nat.le_of_ble_eq_true rfl | (simp only [rm_X2_readBlockT]; omega) | omega), (by first | exact Nat.le_of_ble_eq_true rfl | (simp only [rm_X2_readBlockT]; omega) | omega)⟩ (fun r L_5 f_6 H locs hw_7 hP hD hS hT hE1 => ?_)
    have hEo := hE
    have hO5 := hO5.call hE (OF.fr hw_7.2.1 (by decide)) (by simp)
    have hF := Fr.call hF hE hw_7.2.1 (by decide)
    have hE := hE.tr hE1
    obtain ⟨rfl, hw_7⟩ := hw_7
    obtain ⟨hfr_8, ax_9, tn_10, fa_11, pw_12, hk_13, hk_14, hk_15, hk_16, hrel_17, hrel_18, hrel_19, hrel_20, hex_21⟩ := hw_7
    have hk_22 : rd f_6 h0 5 = .int sg := (hfr_8.1 h0 (hTo.at 0 rfl).1 2 (hTo.at 0 rfl).2 5 (by decide)).trans hm_sg
    have hk_23 : rd f_6 tok 3 = .int zz := (hfr_8.1 tok (hTo.at 1 rfl).1 6 (hTo.at 1 rfl).2 3 (by decide)).trans hm_zz
    have hq_24 : pot fa_11 sg ≤ pot fa sg := pot_le (fun h9 => (hrel_19 h9).1)
    have hrq_25 := hex_21
    refine W.eq (g2 := F0 m 26 ls []) rfl ?_
    have hrq_26 : RQ tt ln M (gob (Kp tt ln) (nq tt ln) d q) ax_9 tn_10 fa_11 pw_12 := by unfold gob; rw [hgo]; exact hrq_25
    refine lv_aload_n hx hb dX2_readBlock_26 rfl (lv_at hl 0 rfl) ?_
    refine T_get (ci := 2) (C := RX2) (T := TX2) (N := 6) (t := tI) hx hb hts inw_X2_readBlock_2 hown hK hP hT 0 rfl rfl 3 (by decide) (hts (.fieldLink RX2 28 "VatHouse$Reader" "fault" "I") (List.mem_of_getElem? (i := 2) (by exact rfl))) (fun _ h9 => h9) rfl dX2_readBlock_27 (fun v_29 hv_27 hr_28 => ?_)
    obtain rfl : v_29 = .int fa_11 := hr_28.symm.trans hk_15
    refine lv_if_eq (tgt := 35) hx hb dX2_readBlock_30 (by decide) (fun c_30 => ?_) (fun c_30 => ?_)
    · refine lv_aload_n hx hb dX2_readBlock_35 rfl (lv_at hl 0 rfl) ?_
      refine lv_iload_n hx hb dX2_readBlock_36 rfl (lv_at hl 1 rfl) ?_
      refine lv_iconst (v := 1) hx hb dX2_readBlock_37 (by decide) ?_
      refine lv_iadd hx hb dX2_readBlock_38 ?_
      refine lv_topi (fun z_31 ez_31 => ?_)
      exact absurd (hrel_19 c_30).2 c_4
    · refine lv_null hx hb dX2_readBlock_33 ?_
      exact K_aZ hx hb hr (Or.inl ⟨_, rfl⟩) (Or.inl rfl) hlocks hP hD hK hS hT hE ⟨⟨_, rfl, Or.inl rfl⟩, hF, _, _, _, _, _, hk_13, hk_14, hk_15, hk_16, hk_22, trivial, trivial, trivial, trivial, hs3, hO5, ⟨(gob (Kp tt ln) (nq tt ln) d q), T, ad, Ev.block0 (fun h9 => c_30 (hrq_26.F.trans h9)), hrq_26, (by first | exact hnd | (simp only [gpa_nd, gnu_nd, gpl_nd, gte_nd, gob_nd, grf_nd]; exact hnd)), fun h9 => absurd (hrq_26.F.trans h9) c_30⟩⟩ (⟨_, _, hk_15, hk_22, by omega⟩) (by first | exact Nat.le_of_ble_eq_true rfl | (simp only [rm_X2_readBlockT]; omega) | omega) (by first | exact Nat.le_of_ble_eq_true rfl | (simp only [rm_X2_readBlockT]; omega) | omega) (by first | exact Nat.le_of_ble_eq_true rfl | (simp only [rm_X2_readBlockT]; omega) | omega) dX2_readBlock_34
  · refine lv_iload_n hx hb dX2_readBlock_9 rfl (lv_at hl 1 rfl) ?_
    refine lv_bipush (v := 8) hx hb dX2_readBlock_10 (by decide) ?_
    refine lv_icmp_lt (tgt := 20) hx hb dX2_readBlock_12 (by decide) (fun c_32 => ?_) (fun c_32 => ?_)
    · have hgo : (if Kp tt ln q.1 = 123 ∧ 8 ≤ d then grf 2 q else q) = q := if_neg (fun h9 => by have g9 := c_32; rw [hd] at g9; have g9 : nI d < nI 8 := g9; rw [nI_ltI (by omega) (by omega)] at g9; omega)
      refine lv_aload_n hx hb dX2_readBlock_20 rfl (lv_at hl 0 rfl) ?_
      refine lv_bipush (v := 123) hx hb dX2_readBlock_21 (by decide) ?_
      have hTo := hT
      refine K_V ⟨hx, hb, hml, hown, hts⟩ (t_X2_pass l dC dI sa hlt g _ _ tt ln M q h0 123 tok ka sta vaa ax tn fa pw zz _ (hT.sub [0, 1, 2, 3, 4] rfl)  hm_ax hm_tn hm_fa hm_pw hm_zz ((hF.1 h0 (hT0.at 0 rfl).1 2 (hT0.at 0 rfl).2 0 (by decide)).trans h_tok) ((hF.1 tok (hT0.at 1 rfl).1 6 (hT0.at 1 rfl).2 4 (by decide)).trans h_ka) ((hF.1 tok (hT0.at 1 rfl).1 6 (hT0.at 1 rfl).2 5 (by decide)).trans h_sta) ((hF.1 tok (hT0.at 1 rfl).1 6 (hT0.at 1 rfl).2 6 (by decide)).trans h_vaa) hzz (hTK.go (hF.2 ka (hT0.at 2 rfl).1 0 _ _ (hT0.at 2 rfl).2 (by decide)) (hF.2 sta (hT0.at 3 rfl).1 0 _ _ (hT0.at 3 rfl).2 (by decide)) (hF.2 vaa (hT0.at 4 rfl).1 0 _ _ (hT0.at 4 rfl).2 (by decide))) hRQ (Or.inl (by decide))) (cwV 1 hts gX2_readBlock_X2_pass rfl rfl rfl (by decide +kernel) ⟨(by first | exact Nat.le_of_ble_eq_true rfl | (simp only [rm_X2_pass, rm_X2_readBlockT]; omega)), (by first | exact Nat.le_of_ble_eq_true rfl | (simp only [rm_X2_pass, rm_X2_readBlockT]; omega))⟩) hP hD hK hS hA hev hT 0 2 rfl rfl rfl rfl hl.1 rfl (Nat.le_of_ble_eq_true rfl) dX2_readBlock_23 ⟨(by first | exact Nat.le_of_ble_eq_true rfl | (simp only [rm_X2_readBlockT]; omega) | omega), (by first | exact Nat.le_of_ble_eq_true rfl | (simp only [rm_X2_readBlockT]; omega) | omega)⟩ (fun r L_33 f_34 H locs hw_35 hP hD hS hT hE1 => ?_)
      have hEo := hE
      have hO5 := hO5.call hE (OF.fr hw_35.2.1 (by decide)) (by simp)
      have hF := Fr.call hF hE hw_35.2.1 (by decide)
      have hE := hE.tr hE1
      obtain ⟨rfl, hw_35⟩ := hw_35
      obtain ⟨hfr_36, ax_37, tn_38, fa_39, pw_40, hk_41, hk_42, hk_43, hk_44, hrel_45, hrel_46, hrel_47, hrel_48, hex_49⟩ := hw_35
      have hk_50 : rd f_34 h0 5 = .int sg := (hfr_36.1 h0 (hTo.at 0 rfl).1 2 (hTo.at 0 rfl).2 5 (by decide)).trans hm_sg
      have hk_51 : rd f_34 tok 3 = .int zz := (hfr_36.1 tok (hTo.at 1 rfl).1 6 (hTo.at 1 rfl).2 3 (by decide)).trans hm_zz
      have hq_52 : pot fa_39 sg ≤ pot fa sg := pot_le (fun h9 => (hrel_47 h9).1)
      have hrq_53 := hex_49
      refine W.eq (g2 := F0 m 26 ls []) rfl ?_
      have hrq_54 : RQ tt ln M (gob (Kp tt ln) (nq tt ln) d q) ax_37 tn_38 fa_39 pw_40 := by unfold gob; rw [hgo]; exact hrq_53
      refine lv_aload_n hx hb dX2_readBlock_26 rfl (lv_at hl 0 rfl) ?_
      refine T_get (ci := 2) (C := RX2) (T := TX2) (N := 6) (t := tI) hx hb hts inw_X2_readBlock_2 hown hK hP hT 0 rfl rfl 3 (by decide) (hts (.fieldLink RX2 28 "VatHouse$Reader" "fault" "I") (List.mem_of_getElem? (i := 2) (by exact rfl))) (fun _ h9 => h9) rfl dX2_readBlock_27 (fun v_57 hv_55 hr_56 => ?_)
      obtain rfl : v_57 = .int fa_39 := hr_56.symm.trans hk_43
      refine lv_if_eq (tgt := 35) hx hb dX2_readBlock_30 (by decide) (fun c_58 => ?_) (fun c_58 => ?_)
      · refine lv_aload_n hx hb dX2_readBlock_35 rfl (lv_at hl 0 rfl) ?_
        refine lv_iload_n hx hb dX2_readBlock_36 rfl (lv_at hl 1 rfl) ?_
        refine lv_iconst (v := 1) hx hb dX2_readBlock_37 (by decide) ?_
        refine lv_iadd hx hb dX2_readBlock_38 ?_
        refine lv_topi (fun z_59 ez_59 => ?_)
        obtain ⟨j1, hj_60⟩ : ∃ j1, j = j1 + 1 := ⟨j - 1, by have := lv7 hd c_32 (by omega); omega⟩
        have hEc_61 := hE
        have hTo := hT
        refine K_VZ ⟨hx, hb, hml, hown, hts⟩ (IHR j1 (d + 1) (by omega) hj_60 _ _ (pot fa_39 sg) tt ln M (gob (Kp tt ln) (nq tt ln) d q) T ad h0 z_59 tok ka sta vaa ax_37 tn_38 fa_39 pw_40 sg zz _ (hT.sub [0, 1, 2, 3, 4] rfl)  hk_41 hk_42 hk_43 hk_44 hk_50 hk_51 ((hF.1 h0 (hT0.at 0 rfl).1 2 (hT0.at 0 rfl).2 0 (by decide)).trans h_tok) ((hF.1 tok (hT0.at 1 rfl).1 6 (hT0.at 1 rfl).2 4 (by decide)).trans h_ka) ((hF.1 tok (hT0.at 1 rfl).1 6 (hT0.at 1 rfl).2 5 (by decide)).trans h_sta) ((hF.1 tok (hT0.at 1 rfl).1 6 (hT0.at 1 rfl).2 6 (by decide)).trans h_vaa) (by rw [ez_59, hd]; exact nI_1 d) rfl hs3 hzz (hTK.go (hF.2 ka (hT0.at 2 rfl).1 0 _ _ (hT0.at 2 rfl).2 (by decide)) (hF.2 sta (hT0.at 3 rfl).1 0 _ _ (hT0.at 3 rfl).2 (by decide)) (hF.2 vaa (hT0.at 4 rfl).1 0 _ _ (hT0.at 4 rfl).2 (by decide))) hrq_54 (by first | exact hnd | (simp only [gpa_nd, gnu_nd, gpl_nd, gte_nd, gob_nd, grf_nd]; exact hnd))) (cwV 1 hts gX2_readBlock_X2_readSteps rfl rfl rfl (by decide +kernel) ⟨(by first | exact Nat.le_of_ble_eq_true rfl | (simp only [rm_X2_readStepsT, rm_X2_readBlockT]; omega)), (by first | exact Nat.le_of_ble_eq_true rfl | (simp only [rm_X2_readStepsT, rm_X2_readBlockT]; omega))⟩) hP hD hK hS hA hev hT 0 2 rfl rfl rfl rfl hl.1 rfl (Nat.le_of_ble_eq_true rfl) dX2_readBlock_39 ⟨(by first | exact Nat.le_of_ble_eq_true rfl | (simp only [rm_X2_readBlockT]; omega) | omega), (by first | exact Nat.le_of_ble_eq_true rfl | (simp only [rm_X2_readBlockT]; omega) | omega)⟩ (fun r L_62 f_63 n_65 H locs hw_64 hn_66 hP hD hS hT hE1 => ?_)
        have hEo := hE
        have hF := Fr.call hF hE hw_64.2.1 (by decide)
        have hE := hE.tr hE1
        obtain ⟨⟨v_67, rfl, hv9⟩, hw_64⟩ := hw_64
        rcases hv9 with rfl | ⟨b_68, rfl, hb9⟩
        · obtain ⟨hfr_69, ax_70, tn_71, fa_72, pw_73, sg_74, hk_75, hk_76, hk_77, hk_78, hk_79, hrel_80, hrel_81, hrel_82, hrel_83, hrel_84, hex_85⟩ := hw_64
          obtain ⟨hof_86, hex_87⟩ := hex_85
          have hO5 := hO5.call hEo hof_86 (by simp)
          have hk_88 : rd f_63 tok 3 = .int zz := (hfr_69.1 tok (hTo.at 1 rfl).1 6 (hTo.at 1 rfl).2 3 (by decide)).trans hk_51
          have hq_89 : n_65 + pot fa_72 sg_74 ≤ pot fa_39 sg := by
            obtain ⟨a9, b9, g1, g2, g3⟩ := hn_66
            cases g1.symm.trans hk_77
            cases g2.symm.trans hk_79
            exact g3
          have hE9 := hE1
          obtain ⟨qn_90, Tn_91, an_92, hev_93, hrq_94, hsg_95, hpk_96⟩ := hex_87
          have hpk_97 : qn_90.2.2.1 = 0 → PB (Kp tt ln) (Vp tt ln) (nq tt ln) 0 (d + 1) (gob (Kp tt ln) (nq tt ln) d q) qn_90 T Tn_91 ad an_92 L_33 L_62 f_63 (.null) := fun h9 => by
            obtain ⟨v9, e9, g9⟩ := hpk_96 h9
            cases e9
            exact g9
          have hEb0 : Ext L_62 f_63 L_62 f_63 := Ext.rf
          have hOb0 : OF 5 [] L_62 f_63 f_63 := OF.rf
          have hO9__98 := hof_86
          have hE9__99 := hE9
          refine W.eq (g2 := F0 m 42 ls [.null]) rfl ?_
          refine lv_astore_nN (lv' := [(2, .null), (0, .ref h0), (1, .int dep)]) hx hb dX2_readBlock_42 rfl hl (by decide) rfl (fun ls hl => ?_)
          refine lv_aload_n hx hb dX2_readBlock_43 rfl (lv_at hl 1 rfl) ?_
          refine lv_bipush (v := 125) hx hb dX2_readBlock_44 (by decide) ?_
          have hTo := hT
          refine K_V ⟨hx, hb, hml, hown, hts⟩ (t_X2_pass l dC dI sa hlt g _ _ tt ln M qn_90 h0 125 tok ka sta vaa ax_70 tn_71 fa_72 pw_73 zz _ (hT.sub [0, 1, 2, 3, 4] rfl)  hk_75 hk_76 hk_77 hk_78 hk_88 ((hF.1 h0 (hT0.at 0 rfl).1 2 (hT0.at 0 rfl).2 0 (by decide)).trans h_tok) ((hF.1 tok (hT0.at 1 rfl).1 6 (hT0.at 1 rfl).2 4 (by decide)).trans h_ka) ((hF.1 tok (hT0.at 1 rfl).1 6 (hT0.at 1 rfl).2 5 (by decide)).trans h_sta) ((hF.1 tok (hT0.at 1 rfl).1 6 (hT0.at 1 rfl).2 6 (by decide)).trans h_vaa) hzz (hTK.go (hF.2 ka (hT0.at 2 rfl).1 0 _ _ (hT0.at 2 rfl).2 (by decide)) (hF.2 sta (hT0.at 3 rfl).1 0 _ _ (hT0.at 3 rfl).2 (by decide)) (hF.2 vaa (hT0.at 4 rfl).1 0 _ _ (hT0.at 4 rfl).2 (by decide))) hrq_94 (Or.inl (by decide))) (cwV 1 hts gX2_readBlock_X2_pass rfl rfl rfl (by decide +kernel) ⟨(by first | exact Nat.le_of_ble_eq_true rfl | (simp only [rm_X2_pass, rm_X2_readBlockT]; omega)), (by first | exact Nat.le_of_ble_eq_true rfl | (simp only [rm_X2_pass, rm_X2_readBlockT]; omega))⟩) hP hD hK hS hA hev hT 0 2 rfl rfl rfl rfl hl.1 rfl (Nat.le_of_ble_eq_true rfl) dX2_readBlock_46 ⟨(by first | exact Nat.le_of_ble_eq_true rfl | (simp only [rm_X2_readBlockT]; omega) | omega), (by first | exact Nat.le_of_ble_eq_true rfl | (simp only [rm_X2_readBlockT]; omega) | omega)⟩ (fun r L_100 f_101 H locs hw_102 hP hD hS hT hE1 => ?_)
          have hEo := hE
          have hO5 := hO5.call hE (OF.fr hw_102.2.1 (by decide)) (by simp)
          have hF := Fr.call hF hE hw_102.2.1 (by decide)
          have hE := hE.tr hE1
          obtain ⟨rfl, hw_102⟩ := hw_102
          obtain ⟨hfr_103, ax_104, tn_105, fa_106, pw_107, hk_108, hk_109, hk_110, hk_111, hrel_112, hrel_113, hrel_114, hrel_115, hex_116⟩ := hw_102
          have hk_117 : rd f_101 h0 5 = .int sg_74 := (hfr_103.1 h0 (hTo.at 0 rfl).1 2 (hTo.at 0 rfl).2 5 (by decide)).trans hk_79
          have hk_118 : rd f_101 tok 3 = .int zz := (hfr_103.1 tok (hTo.at 1 rfl).1 6 (hTo.at 1 rfl).2 3 (by decide)).trans hk_88
          have hOb0 := hOb0.call hEb0 (OF.fr hfr_103 (by decide)) (by simp)
          have hEb0 := hEb0.tr hE1
          have hq_119 : pot fa_106 sg_74 ≤ pot fa_72 sg_74 := pot_le (fun h9 => (hrel_114 h9).1)
          have hrq_120 := hex_116
          refine W.eq (g2 := F0 m 49 ls []) rfl ?_
          refine lv_aload_nN hx hb dX2_readBlock_49 rfl (lv_at hl 0 rfl) ?_
          exact K_aZ hx hb hr (Or.inl ⟨_, rfl⟩) (Or.inl rfl) hlocks hP hD hK hS hT hE ⟨⟨_, rfl, Or.inl rfl⟩, hF, _, _, _, _, _, hk_108, hk_109, hk_110, hk_111, hk_117, trivial, trivial, trivial, trivial, hrel_84, hO5, ⟨(gpa (Kp tt ln) (nq tt ln) 125 qn_90), Tn_91, an_92, Ev.block (hrq_54.F.symm.trans c_58) hev_93, hrq_120, (by first | exact hsg_95 | (simp only [gpa_nd, gnu_nd, gpl_nd, gte_nd, gob_nd, grf_nd]; exact hsg_95)), fun h9 => ⟨_, rfl, PB.block hpk_97 (hrq_54.F.symm.trans c_58) h9 (fun b9 hb9 => (hEc_61 b9 hb9).1) hEb0 hOb0⟩⟩⟩ (⟨_, _, hk_110, hk_117, by omega⟩) (by first | exact Nat.le_of_ble_eq_true rfl | (simp only [rm_X2_readBlockT]; omega) | omega) (by first | exact Nat.le_of_ble_eq_true rfl | (simp only [rm_X2_readBlockT]; omega) | omega) (by first | exact Nat.le_of_ble_eq_true rfl | (simp only [rm_X2_readBlockT]; omega) | omega) dX2_readBlock_50
        · have hT := hT.add hb9
          obtain ⟨hfr_121, ax_122, tn_123, fa_124, pw_125, sg_126, hk_127, hk_128, hk_129, hk_130, hk_131, hrel_132, hrel_133, hrel_134, hrel_135, hrel_136, hex_137⟩ := hw_64
          obtain ⟨hof_138, hex_139⟩ := hex_137
          have hO5 := hO5.call hEo hof_138 (by simp)
          have hk_140 : rd f_63 tok 3 = .int zz := (hfr_121.1 tok (hTo.at 1 rfl).1 6 (hTo.at 1 rfl).2 3 (by decide)).trans hk_51
          have hq_141 : n_65 + pot fa_124 sg_126 ≤ pot fa_39 sg := by
            obtain ⟨a9, b9, g1, g2, g3⟩ := hn_66
            cases g1.symm.trans hk_129
            cases g2.symm.trans hk_131
            exact g3
          have hE9 := hE1
          obtain ⟨qn_142, Tn_143, an_144, hev_145, hrq_146, hsg_147, hpk_148⟩ := hex_139
          have hpk_149 : qn_142.2.2.1 = 0 → PB (Kp tt ln) (Vp tt ln) (nq tt ln) 0 (d + 1) (gob (Kp tt ln) (nq tt ln) d q) qn_142 T Tn_143 ad an_144 L_33 L_62 f_63 (.ref b_68) := fun h9 => by
            obtain ⟨v9, e9, g9⟩ := hpk_148 h9
            cases e9
            exact g9
          have hEb0 : Ext L_62 f_63 L_62 f_63 := Ext.rf
          have hOb0 : OF 5 [] L_62 f_63 f_63 := OF.rf
          have hO9__150 := hof_138
          have hE9__151 := hE9
          refine W.eq (g2 := F0 m 42 ls [.ref b_68]) rfl ?_
          refine lv_astore_n (lv' := [(2, .ref b_68), (0, .ref h0), (1, .int dep)]) hx hb dX2_readBlock_42 rfl hl (by decide) rfl (fun ls hl => ?_)
          refine lv_aload_n hx hb dX2_readBlock_43 rfl (lv_at hl 1 rfl) ?_
          refine lv_bipush (v := 125) hx hb dX2_readBlock_44 (by decide) ?_
          have hTo := hT
          refine K_V ⟨hx, hb, hml, hown, hts⟩ (t_X2_pass l dC dI sa hlt g _ _ tt ln M qn_142 h0 125 tok ka sta vaa ax_122 tn_123 fa_124 pw_125 zz _ (hT.sub [1, 2, 3, 4, 5] rfl)  hk_127 hk_128 hk_129 hk_130 hk_140 ((hF.1 h0 (hT0.at 0 rfl).1 2 (hT0.at 0 rfl).2 0 (by decide)).trans h_tok) ((hF.1 tok (hT0.at 1 rfl).1 6 (hT0.at 1 rfl).2 4 (by decide)).trans h_ka) ((hF.1 tok (hT0.at 1 rfl).1 6 (hT0.at 1 rfl).2 5 (by decide)).trans h_sta) ((hF.1 tok (hT0.at 1 rfl).1 6 (hT0.at 1 rfl).2 6 (by decide)).trans h_vaa) hzz (hTK.go (hF.2 ka (hT0.at 2 rfl).1 0 _ _ (hT0.at 2 rfl).2 (by decide)) (hF.2 sta (hT0.at 3 rfl).1 0 _ _ (hT0.at 3 rfl).2 (by decide)) (hF.2 vaa (hT0.at 4 rfl).1 0 _ _ (hT0.at 4 rfl).2 (by decide))) hrq_146 (Or.inl (by decide))) (cwV 1 hts gX2_readBlock_X2_pass rfl rfl rfl (by decide +kernel) ⟨(by first | exact Nat.le_of_ble_eq_true rfl | (simp only [rm_X2_pass, rm_X2_readBlockT]; omega)), (by first | exact Nat.le_of_ble_eq_true rfl | (simp only [rm_X2_pass, rm_X2_readBlockT]; omega))⟩) hP hD hK hS hA hev hT 1 2 rfl rfl rfl rfl hl.1 rfl (Nat.le_of_ble_eq_true rfl) dX2_readBlock_46 ⟨(by first | exact Nat.le_of_ble_eq_true rfl | (simp only [rm_X2_readBlockT]; omega) | omega), (by first | exact Nat.le_of_ble_eq_true rfl | (simp only [rm_X2_readBlockT]; omega) | omega)⟩ (fun r L_152 f_153 H locs hw_154 hP hD hS hT hE1 => ?_)
          have hEo := hE
          have hO5 := hO5.call hE (OF.fr hw_154.2.1 (by decide)) (by simp)
          have hF := Fr.call hF hE hw_154.2.1 (by decide)
          have hE := hE.tr hE1
          obtain ⟨rfl, hw_154⟩ := hw_154
          obtain ⟨hfr_155, ax_156, tn_157, fa_158, pw_159, hk_160, hk_161, hk_162, hk_163, hrel_164, hrel_165, hrel_166, hrel_167, hex_168⟩ := hw_154
          have hk_169 : rd f_153 h0 5 = .int sg_126 := (hfr_155.1 h0 (hTo.at 1 rfl).1 2 (hTo.at 1 rfl).2 5 (by decide)).trans hk_131
          have hk_170 : rd f_153 tok 3 = .int zz := (hfr_155.1 tok (hTo.at 2 rfl).1 6 (hTo.at 2 rfl).2 3 (by decide)).trans hk_140
          have hOb0 := hOb0.call hEb0 (OF.fr hfr_155 (by decide)) (by simp)
          have hEb0 := hEb0.tr hE1
          have hq_171 : pot fa_158 sg_126 ≤ pot fa_124 sg_126 := pot_le (fun h9 => (hrel_166 h9).1)
          have hrq_172 := hex_168
          refine W.eq (g2 := F0 m 49 ls []) rfl ?_
          refine lv_aload_n hx hb dX2_readBlock_49 rfl (lv_at hl 0 rfl) ?_
          exact K_aZ hx hb hr (Or.inl ⟨_, rfl⟩) (Or.inr ⟨_, rfl⟩) hlocks hP hD hK hS hT hE ⟨⟨_, rfl, Or.inr ⟨_, rfl, hT.at 0 rfl⟩⟩, hF, _, _, _, _, _, hk_160, hk_161, hk_162, hk_163, hk_169, trivial, trivial, trivial, trivial, hrel_136, hO5, ⟨(gpa (Kp tt ln) (nq tt ln) 125 qn_142), Tn_143, an_144, Ev.block (hrq_54.F.symm.trans c_58) hev_145, hrq_172, (by first | exact hsg_147 | (simp only [gpa_nd, gnu_nd, gpl_nd, gte_nd, gob_nd, grf_nd]; exact hsg_147)), fun h9 => ⟨_, rfl, PB.block hpk_149 (hrq_54.F.symm.trans c_58) h9 (fun b9 hb9 => (hEc_61 b9 hb9).1) hEb0 hOb0⟩⟩⟩ (⟨_, _, hk_162, hk_169, by omega⟩) (by first | exact Nat.le_of_ble_eq_true rfl | (simp only [rm_X2_readBlockT]; omega) | omega) (by first | exact Nat.le_of_ble_eq_true rfl | (simp only [rm_X2_readBlockT]; omega) | omega) (by first | exact Nat.le_of_ble_eq_true rfl | (simp only [rm_X2_readBlockT]; omega) | omega) dX2_readBlock_50
      · refine lv_null hx hb dX2_readBlock_33 ?_
        exact K_aZ hx hb hr (Or.inl ⟨_, rfl⟩) (Or.inl rfl) hlocks hP hD hK hS hT hE ⟨⟨_, rfl, Or.inl rfl⟩, hF, _, _, _, _, _, hk_41, hk_42, hk_43, hk_44, hk_50, trivial, trivial, trivial, trivial, hs3, hO5, ⟨(gob (Kp tt ln) (nq tt ln) d q), T, ad, Ev.block0 (fun h9 => c_58 (hrq_54.F.trans h9)), hrq_54, (by first | exact hnd | (simp only [gpa_nd, gnu_nd, gpl_nd, gte_nd, gob_nd, grf_nd]; exact hnd)), fun h9 => absurd (hrq_54.F.trans h9) c_58⟩⟩ (⟨_, _, hk_43, hk_50, by omega⟩) (by first | exact Nat.le_of_ble_eq_true rfl | (simp only [rm_X2_readBlockT]; omega) | omega) (by first | exact Nat.le_of_ble_eq_true rfl | (simp only [rm_X2_readBlockT]; omega) | omega) (by first | exact Nat.le_of_ble_eq_true rfl | (simp only [rm_X2_readBlockT]; omega) | omega) dX2_readBlock_34
    · refine lv_aload_n hx hb dX2_readBlock_15 rfl (lv_at hl 0 rfl) ?_
      refine lv_iconst (v := 2) hx hb dX2_readBlock_16 (by decide) ?_
      have hTo := hT
      refine K_V ⟨hx, hb, hml, hown, hts⟩ (t_X2_refuse l dC dI sa hlt g _ _ tt ln M q h0 2 tok ka sta vaa ax tn fa pw _ (hT.sub [0, 1, 2, 3, 4] rfl)  hm_ax hm_tn hm_fa hm_pw ((hF.1 h0 (hT0.at 0 rfl).1 2 (hT0.at 0 rfl).2 0 (by decide)).trans h_tok) ((hF.1 tok (hT0.at 1 rfl).1 6 (hT0.at 1 rfl).2 4 (by decide)).trans h_ka) ((hF.1 tok (hT0.at 1 rfl).1 6 (hT0.at 1 rfl).2 5 (by decide)).trans h_sta) ((hF.1 tok (hT0.at 1 rfl).1 6 (hT0.at 1 rfl).2 6 (by decide)).trans h_vaa) (by decide) (hTK.go (hF.2 ka (hT0.at 2 rfl).1 0 _ _ (hT0.at 2 rfl).2 (by decide)) (hF.2 sta (hT0.at 3 rfl).1 0 _ _ (hT0.at 3 rfl).2 (by decide)) (hF.2 vaa (hT0.at 4 rfl).1 0 _ _ (hT0.at 4 rfl).2 (by decide))) hRQ) (cwV 1 hts gX2_readBlock_X2_refuse rfl rfl rfl (by decide +kernel) ⟨(by first | exact Nat.le_of_ble_eq_true rfl | (simp only [rm_X2_refuse, rm_X2_readBlockT]; omega)), (by first | exact Nat.le_of_ble_eq_true rfl | (simp only [rm_X2_refuse, rm_X2_readBlockT]; omega))⟩) hP hD hK hS hA hev hT 0 2 rfl rfl rfl rfl hl.1 rfl (Nat.le_of_ble_eq_true rfl) dX2_readBlock_17 ⟨(by first | exact Nat.le_of_ble_eq_true rfl | (simp only [rm_X2_readBlockT]; omega) | omega), (by first | exact Nat.le_of_ble_eq_true rfl | (simp only [rm_X2_readBlockT]; omega) | omega)⟩ (fun r L_173 f_174 H locs hw_175 hP hD hS hT hE1 => ?_)
      have hEo := hE
      have hO5 := hO5.call hE (OF.fr hw_175.2.1 (by decide)) (by simp)
      have hF := Fr.call hF hE hw_175.2.1 (by decide)
      have hE := hE.tr hE1
      obtain ⟨rfl, hw_175⟩ := hw_175
      obtain ⟨hfr_176, fa_177, pw_178, hk_179, hk_180, hrel_181, hrel_182, hex_183⟩ := hw_175
      have hk_184 : rd f_174 h0 1 = .int ax := (hfr_176.1 h0 (hTo.at 0 rfl).1 2 (hTo.at 0 rfl).2 1 (by decide)).trans hm_ax
      have hk_185 : rd f_174 h0 2 = .int tn := (hfr_176.1 h0 (hTo.at 0 rfl).1 2 (hTo.at 0 rfl).2 2 (by decide)).trans hm_tn
      have hk_186 : rd f_174 h0 5 = .int sg := (hfr_176.1 h0 (hTo.at 0 rfl).1 2 (hTo.at 0 rfl).2 5 (by decide)).trans hm_sg
      have hk_187 : rd f_174 tok 3 = .int zz := (hfr_176.1 tok (hTo.at 1 rfl).1 6 (hTo.at 1 rfl).2 3 (by decide)).trans hm_zz
      have hq_188 := pot_ne sg hrel_181
      have hrq_189 := hex_183
      refine W.eq (g2 := F0 m 20 ls []) rfl ?_
      have hgo : (if Kp tt ln q.1 = 123 ∧ 8 ≤ d then grf 2 q else q) = (grf 2 q) := if_pos ⟨hRQ.K.symm.trans c_4, by have h9 := c_32; rw [hd] at h9; have h9 : ¬ nI d < nI 8 := h9; rw [nI_ltI (by omega) (by omega)] at h9; omega⟩
      refine lv_aload_n hx hb dX2_readBlock_20 rfl (lv_at hl 0 rfl) ?_
      refine lv_bipush (v := 123) hx hb dX2_readBlock_21 (by decide) ?_
      have hTo := hT
      refine K_V ⟨hx, hb, hml, hown, hts⟩ (t_X2_pass l dC dI sa hlt g _ _ tt ln M (grf 2 q) h0 123 tok ka sta vaa ax tn fa_177 pw_178 zz _ (hT.sub [0, 1, 2, 3, 4] rfl)  hk_184 hk_185 hk_179 hk_180 hk_187 ((hF.1 h0 (hT0.at 0 rfl).1 2 (hT0.at 0 rfl).2 0 (by decide)).trans h_tok) ((hF.1 tok (hT0.at 1 rfl).1 6 (hT0.at 1 rfl).2 4 (by decide)).trans h_ka) ((hF.1 tok (hT0.at 1 rfl).1 6 (hT0.at 1 rfl).2 5 (by decide)).trans h_sta) ((hF.1 tok (hT0.at 1 rfl).1 6 (hT0.at 1 rfl).2 6 (by decide)).trans h_vaa) hzz (hTK.go (hF.2 ka (hT0.at 2 rfl).1 0 _ _ (hT0.at 2 rfl).2 (by decide)) (hF.2 sta (hT0.at 3 rfl).1 0 _ _ (hT0.at 3 rfl).2 (by decide)) (hF.2 vaa (hT0.at 4 rfl).1 0 _ _ (hT0.at 4 rfl).2 (by decide))) hrq_189 (Or.inl (by decide))) (cwV 1 hts gX2_readBlock_X2_pass rfl rfl rfl (by decide +kernel) ⟨(by first | exact Nat.le_of_ble_eq_true rfl | (simp only [rm_X2_pass, rm_X2_readBlockT]; omega)), (by first | exact Nat.le_of_ble_eq_true rfl | (simp only [rm_X2_pass, rm_X2_readBlockT]; omega))⟩) hP hD hK hS hA hev hT 0 2 rfl rfl rfl rfl hl.1 rfl (Nat.le_of_ble_eq_true rfl) dX2_readBlock_23 ⟨(by first | exact Nat.le_of_ble_eq_true rfl | (simp only [rm_X2_readBlockT]; omega) | omega), (by first | exact Nat.le_of_ble_eq_true rfl | (simp only [rm_X2_readBlockT]; omega) | omega)⟩ (fun r L_190 f_191 H locs hw_192 hP hD hS hT hE1 => ?_)
      have hEo := hE
      have hO5 := hO5.call hE (OF.fr hw_192.2.1 (by decide)) (by simp)
      have hF := Fr.call hF hE hw_192.2.1 (by decide)
      have hE := hE.tr hE1
      obtain ⟨rfl, hw_192⟩ := hw_192
      obtain ⟨hfr_193, ax_194, tn_195, fa_196, pw_197, hk_198, hk_199, hk_200, hk_201, hrel_202, hrel_203, hrel_204, hrel_205, hex_206⟩ := hw_192
      have hk_207 : rd f_191 h0 5 = .int sg := (hfr_193.1 h0 (hTo.at 0 rfl).1 2 (hTo.at 0 rfl).2 5 (by decide)).trans hk_186
      have hk_208 : rd f_191 tok 3 = .int zz := (hfr_193.1 tok (hTo.at 1 rfl).1 6 (hTo.at 1 rfl).2 3 (by decide)).trans hk_187
      have hq_209 : pot fa_196 sg ≤ pot fa_177 sg := pot_le (fun h9 => (hrel_204 h9).1)
      have hrq_210 := hex_206
      refine W.eq (g2 := F0 m 26 ls []) rfl ?_
      have hrq_211 : RQ tt ln M (gob (Kp tt ln) (nq tt ln) d q) ax_194 tn_195 fa_196 pw_197 := by unfold gob; rw [hgo]; exact hrq_210
      refine lv_aload_n hx hb dX2_readBlock_26 rfl (lv_at hl 0 rfl) ?_
      refine T_get (ci := 2) (C := RX2) (T := TX2) (N := 6) (t := tI) hx hb hts inw_X2_readBlock_2 hown hK hP hT 0 rfl rfl 3 (by decide) (hts (.fieldLink RX2 28 "VatHouse$Reader" "fault" "I") (List.mem_of_getElem? (i := 2) (by exact rfl))) (fun _ h9 => h9) rfl dX2_readBlock_27 (fun v_214 hv_212 hr_213 => ?_)
      obtain rfl : v_214 = .int fa_196 := hr_213.symm.trans hk_200
      refine lv_if_eq (tgt := 35) hx hb dX2_readBlock_30 (by decide) (fun c_215 => ?_) (fun c_215 => ?_)
      · refine lv_aload_n hx hb dX2_readBlock_35 rfl (lv_at hl 0 rfl) ?_
        refine lv_iload_n hx hb dX2_readBlock_36 rfl (lv_at hl 1 rfl) ?_
        refine lv_iconst (v := 1) hx hb dX2_readBlock_37 (by decide) ?_
        refine lv_iadd hx hb dX2_readBlock_38 ?_
        refine lv_topi (fun z_216 ez_216 => ?_)
        exact absurd (hrel_204 c_215).1 hrel_181
      · refine lv_null hx hb dX2_readBlock_33 ?_
        exact K_aZ hx hb hr (Or.inl ⟨_, rfl⟩) (Or.inl rfl) hlocks hP hD hK hS hT hE ⟨⟨_, rfl, Or.inl rfl⟩, hF, _, _, _, _, _, hk_198, hk_199, hk_200, hk_201, hk_207, trivial, trivial, trivial, trivial, hs3, hO5, ⟨(gob (Kp tt ln) (nq tt ln) d q), T, ad, Ev.block0 (fun h9 => c_215 (hrq_211.F.trans h9)), hrq_211, (by first | exact hnd | (simp only [gpa_nd, gnu_nd, gpl_nd, gte_nd, gob_nd, grf_nd]; exact hnd)), fun h9 => absurd (hrq_211.F.trans h9) c_215⟩⟩ (⟨_, _, hk_200, hk_207, by omega⟩) (by first | exact Nat.le_of_ble_eq_true rfl | (simp only [rm_X2_readBlockT]; omega) | omega) (by first | exact Nat.le_of_ble_eq_true rfl | (simp only [rm_X2_readBlockT]; omega) | omega) (by first | exact Nat.le_of_ble_eq_true rfl | (simp only [rm_X2_readBlockT]; omega) | omega) dX2_readBlock_34

theorem ev2_0 {K V : Nat → Int32} {N : Nat → Nat} {d : Nat} {u x : SG} (h : Ev K V N 2 d u x) (h0 : x.2.2.1 = 0) : u.2.2.1 = 0 := by
  by_cases e : u.2.2.1 = 0
  · exact e
  · have := h.one (Ev.fx2 e)
    subst this
    exact absurd h0 e

set_option maxHeartbeats 4000000 in
set_option maxRecDepth 100000 in
theorem t_X2_readBuiltT (l : Launch) (dC : Nat → ClassId) (dI : Nat → Nat → Nat) (sa : Nat → Nat) (hlt : l.stackTraces = false) (g : Nat → Nat) (L : List Nat) (f : Nat → va_E) (j : Nat) (d : Nat) (P : Nat) (tt : Nat → Int32) (ln : Nat) (M : Nat) (q : SG) (T : TT) (ad : Nat → Nat) (k : Nat) (h0 : Nat) (o : Nat) (dep : Int32) (tok : Nat) (ka : Nat) (sta : Nat) (vaa : Nat) (ax : Int32) (tn : Int32) (fa : Int32) (pw : Int32) (sg : Int32) (zz : Int32) (wd : Int32) (vt : Int32) (nu : Int32) (lo : Int32) (be : Int32) (sz : Nat) (hT : TP g L f [(h0, (0, 2, 0)), (o, (0, 5, 0)), (tok, (0, 6, 0)), (ka, (1, g 0, 1501)), (sta, (1, g 5, 1501)), (vaa, (1, g 6, 1501))]) (hm_ax : rd f h0 1 = .int ax) (hm_tn : rd f h0 2 = .int tn) (hm_fa : rd f h0 3 = .int fa) (hm_pw : rd f h0 4 = .int pw) (hm_sg : rd f h0 5 = .int sg) (hm_zz : rd f tok 3 = .int zz) (hm_wd : rd f o 0 = .int wd) (hm_vt : rd f o 1 = .int vt) (hm_nu : rd f o 2 = .int nu) (hm_lo : rd f o 3 = .int lo) (hm_be : rd f o 4 = .int be) (h_tok : rd f h0 0 = .ref tok) (h_ka : rd f tok 4 = .ref ka) (h_sta : rd f tok 5 = .ref sta) (h_vaa : rd f tok 6 = .ref vaa) (hd : dep = nI d) (hdj : d + j = 8) (hP0 : pot fa sg = P) (hs3 : sg.toInt ≤ 300) (hzz : zz = nI (M + 1)) (hTK : TKS f ka sta vaa tt ln M) (hRQ : RQ tt ln M q ax tn fa pw) (hnd : sg = nI q.2.1 ∧ q.2.1 ≤ 300) (hqk : q.2.1 = k + 1) (hT2 : T 2 k = 0) (hs6 : rd f o 6 = .null) (IHR : ∀ j' d' : Nat, d' + j' = 8 → j = j' + 1 → ∀ (L : List Nat) (f : Nat → va_E) (P : Nat) (tt : Nat → Int32) (ln : Nat) (M : Nat) (q : SG) (T : TT) (ad : Nat → Nat) (h0 : Nat) (dep : Int32) (tok : Nat) (ka : Nat) (sta : Nat) (vaa : Nat) (ax : Int32) (tn : Int32) (fa : Int32) (pw : Int32) (sg : Int32) (zz : Int32) (sz : Nat) (hT : TP g L f [(h0, (0, 2, 0)), (tok, (0, 6, 0)), (ka, (1, g 0, 1501)), (sta, (1, g 5, 1501)), (vaa, (1, g 6, 1501))]) (hm_ax : rd f h0 1 = .int ax) (hm_tn : rd f h0 2 = .int tn) (hm_fa : rd f h0 3 = .int fa) (hm_pw : rd f h0 4 = .int pw) (hm_sg : rd f h0 5 = .int sg) (hm_zz : rd f tok 3 = .int zz) (h_tok : rd f h0 0 = .ref tok) (h_ka : rd f tok 4 = .ref ka) (h_sta : rd f tok 5 = .ref sta) (h_vaa : rd f tok 6 = .ref vaa) (hd : dep = nI d') (hP0 : pot fa sg = P) (hs3 : sg.toInt ≤ 300) (hzz : zz = nI (M + 1)) (hTK : TKS f ka sta vaa tt ln M) (hRQ : RQ tt ln M q ax tn fa pw) (hnd : sg = nI q.2.1 ∧ q.2.1 ≤ 300), KZ l dC dI sa g yX2_readSteps wsX2_readSteps (rm_X2_readStepsT j' d' P tt ln M q T ad) [.ref h0, .int dep] L f sz (fun r L' f' => (∃ v : Value, r = some v ∧ okv L' f' (2, 0, 5, 0) v) ∧ Fr [(2, 1), (2, 2), (2, 3), (2, 4), (5, 1), (5, 2), (5, 3), (5, 4), (5, 5), (5, 6), (5, 7), (2, 5)] L f f' ∧ (∃ ax' : Int32, ∃ tn' : Int32, ∃ fa' : Int32, ∃ pw' : Int32, ∃ sg' : Int32, rd f' h0 1 = .int ax' ∧ rd f' h0 2 = .int tn' ∧ rd f' h0 3 = .int fa' ∧ rd f' h0 4 = .int pw' ∧ rd f' h0 5 = .int sg' ∧ (True) ∧ (True) ∧ (True) ∧ (True) ∧ (sg'.toInt ≤ 300) ∧ (OF 5 [] L f f' ∧ (∃ (qn : SG) (T' : TT) (ad' : Nat → Nat), (Ev (Kp tt ln) (Vp tt ln) (nq tt ln) 0 d' q qn) ∧ RQ tt ln M qn ax' tn' fa' pw' ∧ (sg' = nI qn.2.1 ∧ qn.2.1 ≤ 300) ∧ (qn.2.2.1 = 0 → ∃ v9 : Value, r = some v9 ∧ PB (Kp tt ln) (Vp tt ln) (nq tt ln) 0 d' q qn T T' ad ad' L L' f' v9))))) (fun n f' => ∃ a b : Int32, rd f' h0 3 = .int a ∧ rd f' h0 5 = .int b ∧ n + pot a b ≤ P) P (8 * P)) : KZ l dC dI sa g yX2_readBuilt wsX2_readBuilt (rm_X2_readBuiltT j d P tt ln M q T ad k) [.ref h0, .ref o, .int dep] L f sz (fun r L' f' => (r = none) ∧ Fr [(2, 1), (2, 2), (2, 3), (2, 4), (5, 1), (5, 2), (5, 3), (5, 4), (5, 5), (5, 6), (5, 7), (2, 5)] L f f' ∧ (∃ ax' : Int32, ∃ tn' : Int32, ∃ fa' : Int32, ∃ pw' : Int32, ∃ sg' : Int32, ∃ vt' : Int32, ∃ nu' : Int32, ∃ lo' : Int32, ∃ be' : Int32, rd f' h0 1 = .int ax' ∧ rd f' h0 2 = .int tn' ∧ rd f' h0 3 = .int fa' ∧ rd f' h0 4 = .int pw' ∧ rd f' h0 5 = .int sg' ∧ rd f' o 1 = .int vt' ∧ rd f' o 2 = .int nu' ∧ rd f' o 3 = .int lo' ∧ rd f' o 4 = .int be' ∧ (True) ∧ (True) ∧ (True) ∧ (True) ∧ (sg'.toInt ≤ 300) ∧ (True) ∧ (True) ∧ (True) ∧ (True) ∧ (OF 5 [o] L f f' ∧ (rd f' o 7 = rd f o 7 ∧ ∃ (qn : SG) (T' : TT) (ad' : Nat → Nat), (BU (Kp tt ln) (Vp tt ln) (nq tt ln) wd d q qn) ∧ RQ tt ln M qn ax' tn' fa' pw' ∧ (sg' = nI qn.2.1 ∧ qn.2.1 ≤ 300) ∧ (qn.2.2.1 = 0 → PUb (Kp tt ln) (Vp tt ln) (nq tt ln) wd d k o q qn T T' ad ad' L L' f' ∧ (wd = 8 ∨ wd = 9 → nu' = Vp tt ln q.1) ∧ (wd = 10 → ctT (Kp tt ln) (Vp tt ln) (nq tt ln) q.1 vt' nu' lo' be')))))) (fun n f' => ∃ a b : Int32, rd f' h0 3 = .int a ∧ rd f' h0 5 = .int b ∧ n + pot a b ≤ P) P (8 * P) := by
  refine KZ.start (cc := cX2_readBuilt) (maxL := 3) (ret := none) (by decide) rfl (Nat.le_of_ble_eq_true rfl) ?_
  intro p e s m below meth c ls hst hP hK hD hev hS hl
  obtain ⟨hx, hb, hr, hml, hts, hown, hlocks, hin⟩ := hst
  have hown : s.vm.findClass RX2 = some m.cls := hown
  have hin : meth.name = yX2_readBuilt.name := hin
  have hA : ∀ q : Nat, s.heap.size ≤ q → va_A (va_pl L f) s.heap.size q := fun _ h => Or.inr h
  have hE : Ext L f L f := Ext.rf
  have hF : Fr [(2, 1), (2, 2), (2, 3), (2, 4), (5, 1), (5, 2), (5, 3), (5, 4), (5, 5), (5, 6), (5, 7), (2, 5)] L f f := Fr.rf
  have hO5 : OF 5 [o] L f f := OF.rf
  have hl : lv_has ls 3 [(0, .ref h0), (1, .ref o), (2, .int dep)] := hl
  have hT0 := hT
  refine lv_aload_n hx hb dX2_readBuilt_0 rfl (lv_at hl 1 rfl) ?_
  refine T_get (ci := 5) (C := RX5) (T := TX5) (N := 8) (t := tI) hx hb hts inw_X2_readBuilt_5 hown hK hP hT 1 rfl rfl 0 (by decide) (hts (.fieldLink RX2 61 "VatHouse$Step" "word" "I") (List.mem_of_getElem? (i := 1) (by exact rfl))) (fun _ h9 => h9) rfl dX2_readBuilt_1 (fun v_3 hv_1 hr_2 => ?_)
  obtain rfl : v_3 = .int wd := hr_2.symm.trans hm_wd
  by_cases c_4 : wd = 8
  · refine lv_tableIn (tgt := 32) hx hb dX2_readBuilt_4 (by rw [c_4]; decide) (by rw [c_4]; decide) (by rw [c_4]; rfl) (by decide) ?_
    refine lv_aload_n hx hb dX2_readBuilt_32 rfl (lv_at hl 1 rfl) ?_
    refine lv_aload_n hx hb dX2_readBuilt_33 rfl (lv_at hl 0 rfl) ?_
    refine lv_iconst (v := 0) hx hb dX2_readBuilt_34 (by decide) ?_
    refine lv_bipush (v := 50) hx hb dX2_readBuilt_35 (by decide) ?_
    have hTo := hT
    refine K_V ⟨hx, hb, hml, hown, hts⟩ (t_X2_readNumber l dC dI sa hlt g _ _ tt ln M q h0 0 50 tok ka sta vaa ax tn fa pw zz _ (hT.sub [0, 2, 3, 4, 5] rfl)  hm_ax hm_tn hm_fa hm_pw hm_zz ((hF.1 h0 (hT0.at 0 rfl).1 2 (hT0.at 0 rfl).2 0 (by decide)).trans h_tok) ((hF.1 tok (hT0.at 2 rfl).1 6 (hT0.at 2 rfl).2 4 (by decide)).trans h_ka) ((hF.1 tok (hT0.at 2 rfl).1 6 (hT0.at 2 rfl).2 5 (by decide)).trans h_sta) ((hF.1 tok (hT0.at 2 rfl).1 6 (hT0.at 2 rfl).2 6 (by decide)).trans h_vaa) hzz (hTK.go (hF.2 ka (hT0.at 3 rfl).1 0 _ _ (hT0.at 3 rfl).2 (by decide)) (hF.2 sta (hT0.at 4 rfl).1 0 _ _ (hT0.at 4 rfl).2 (by decide)) (hF.2 vaa (hT0.at 5 rfl).1 0 _ _ (hT0.at 5 rfl).2 (by decide))) hRQ) (cwV 2 hts gX2_readBuilt_X2_readNumber rfl rfl rfl (by decide +kernel) ⟨(by first | exact Nat.le_of_ble_eq_true rfl | (simp only [rm_X2_readNumber, rm_X2_readBuiltT]; omega)), (by first | exact Nat.le_of_ble_eq_true rfl | (simp only [rm_X2_readNumber, rm_X2_readBuiltT]; omega))⟩) hP hD hK hS hA hev hT 0 2 rfl rfl rfl rfl hl.1 rfl (Nat.le_of_ble_eq_true rfl) dX2_readBuilt_37 ⟨(by first | exact Nat.le_of_ble_eq_true rfl | (simp only [rm_X2_readBuiltT]; omega) | omega), (by first | exact Nat.le_of_ble_eq_true rfl | (simp only [rm_X2_readBuiltT]; omega) | omega)⟩ (fun r L_5 f_6 H locs hw_7 hP hD hS hT hE1 => ?_)
    have hEo := hE
    have hO5 := hO5.call hE (OF.fr hw_7.2.1 (by decide)) (by simp)
    have hF := Fr.call hF hE hw_7.2.1 (by decide)
    have hE := hE.tr hE1
    obtain ⟨⟨z_8, rfl⟩, hw_7⟩ := hw_7
    obtain ⟨hfr_9, ax_10, tn_11, fa_12, pw_13, hk_14, hk_15, hk_16, hk_17, hrel_18, hrel_19, hrel_20, hrel_21, hex_22⟩ := hw_7
    have hk_23 : rd f_6 h0 5 = .int sg := (hfr_9.1 h0 (hTo.at 0 rfl).1 2 (hTo.at 0 rfl).2 5 (by decide)).trans hm_sg
    have hk_24 : rd f_6 tok 3 = .int zz := (hfr_9.1 tok (hTo.at 2 rfl).1 6 (hTo.at 2 rfl).2 3 (by decide)).trans hm_zz
    have hk_25 : rd f_6 o 0 = .int wd := (hfr_9.1 o (hTo.at 1 rfl).1 5 (hTo.at 1 rfl).2 0 (by decide)).trans hm_wd
    have hk_26 : rd f_6 o 1 = .int vt := (hfr_9.1 o (hTo.at 1 rfl).1 5 (hTo.at 1 rfl).2 1 (by decide)).trans hm_vt
    have hk_27 : rd f_6 o 2 = .int nu := (hfr_9.1 o (hTo.at 1 rfl).1 5 (hTo.at 1 rfl).2 2 (by decide)).trans hm_nu
    have hk_28 : rd f_6 o 3 = .int lo := (hfr_9.1 o (hTo.at 1 rfl).1 5 (hTo.at 1 rfl).2 3 (by decide)).trans hm_lo
    have hk_29 : rd f_6 o 4 = .int be := (hfr_9.1 o (hTo.at 1 rfl).1 5 (hTo.at 1 rfl).2 4 (by decide)).trans hm_be
    have hzv_30 : z_8 = Vp tt ln q.1 := sv hex_22.1
    have htv_31 : rd f_6 o 6 = .null := (hfr_9.1 o (hTo.at 1 rfl).1 5 (hTo.at 1 rfl).2 6 (by decide)).trans hs6
    have htv_32 : rd f_6 o 7 = (rd f o 7) := (hfr_9.1 o (hTo.at 1 rfl).1 5 (hTo.at 1 rfl).2 7 (by decide)).trans rfl
    have hq_33 : pot fa_12 sg ≤ pot fa sg := pot_le (fun h9 => (hrel_20 h9))
    have hrq_34 := hex_22.2
    refine W.eq (g2 := F0 m 40 ls [.int z_8, .ref o]) rfl ?_
    have hTo := hT
    refine T_put (ci := 5) (v := .int z_8) (ty := .int) (t := tI) (C := RX5) (T := TX5) (N := 8) hx hb hts inw_X2_readBuilt_5 tyX5 tyX5_ok nmX5 hown hK hP hD hS hT 1 rfl rfl 2 (by decide) (hts (.fieldLink RX2 79 "VatHouse$Step" "number" "I") (List.mem_of_getElem? (i := 2) (by exact rfl))) (fun _ h9 => h9) rfl (tyX5_ok 2 (by decide)) rfl rfl rfl ⟨_, rfl⟩ dX2_readBuilt_40 (fun f_35 H locs hP hD hS hT hE1 hrd_36 hup_37 => ?_)
    have hO5 := hO5.put hrd_36 (by simp)
    have hF := Fr.put (a := o) (ci := 5) hF hE ((hE1 o (hT.at 1 rfl).1).2.symm.trans (hT.at 1 rfl).2) (by decide) hrd_36 hup_37
    have hE := hE.tr hE1
    have hk_38 : rd f_35 h0 1 = .int ax_10 := ((Fr.put (cs := [(5, 2)]) (a := o) (ci := 5) Fr.rf Ext.rf (hTo.at 1 rfl).2 (by decide) hrd_36 hup_37).1 h0 (hTo.at 0 rfl).1 2 (hTo.at 0 rfl).2 1 (by decide)).trans hk_14
    have hk_39 : rd f_35 h0 2 = .int tn_11 := ((Fr.put (cs := [(5, 2)]) (a := o) (ci := 5) Fr.rf Ext.rf (hTo.at 1 rfl).2 (by decide) hrd_36 hup_37).1 h0 (hTo.at 0 rfl).1 2 (hTo.at 0 rfl).2 2 (by decide)).trans hk_15
    have hk_40 : rd f_35 h0 3 = .int fa_12 := ((Fr.put (cs := [(5, 2)]) (a := o) (ci := 5) Fr.rf Ext.rf (hTo.at 1 rfl).2 (by decide) hrd_36 hup_37).1 h0 (hTo.at 0 rfl).1 2 (hTo.at 0 rfl).2 3 (by decide)).trans hk_16
    have hk_41 : rd f_35 h0 4 = .int pw_13 := ((Fr.put (cs := [(5, 2)]) (a := o) (ci := 5) Fr.rf Ext.rf (hTo.at 1 rfl).2 (by decide) hrd_36 hup_37).1 h0 (hTo.at 0 rfl).1 2 (hTo.at 0 rfl).2 4 (by decide)).trans hk_17
    have hk_42 : rd f_35 h0 5 = .int sg := ((Fr.put (cs := [(5, 2)]) (a := o) (ci := 5) Fr.rf Ext.rf (hTo.at 1 rfl).2 (by decide) hrd_36 hup_37).1 h0 (hTo.at 0 rfl).1 2 (hTo.at 0 rfl).2 5 (by decide)).trans hk_23
    have hk_43 : rd f_35 tok 3 = .int zz := ((Fr.put (cs := [(5, 2)]) (a := o) (ci := 5) Fr.rf Ext.rf (hTo.at 1 rfl).2 (by decide) hrd_36 hup_37).1 tok (hTo.at 2 rfl).1 6 (hTo.at 2 rfl).2 3 (by decide)).trans hk_24
    have hk_44 : rd f_35 o 0 = .int wd := ((Fr.put (cs := [(5, 2)]) (a := o) (ci := 5) Fr.rf Ext.rf (hTo.at 1 rfl).2 (by decide) hrd_36 hup_37).1 o (hTo.at 1 rfl).1 5 (hTo.at 1 rfl).2 0 (by decide)).trans hk_25
    have hk_45 : rd f_35 o 1 = .int vt := ((Fr.put (cs := [(5, 2)]) (a := o) (ci := 5) Fr.rf Ext.rf (hTo.at 1 rfl).2 (by decide) hrd_36 hup_37).1 o (hTo.at 1 rfl).1 5 (hTo.at 1 rfl).2 1 (by decide)).trans hk_26
    have hk_46 : rd f_35 o 2 = .int z_8 := (hrd_36 o 2).trans (if_pos ⟨rfl, rfl⟩)
    have hk_47 : rd f_35 o 3 = .int lo := ((Fr.put (cs := [(5, 2)]) (a := o) (ci := 5) Fr.rf Ext.rf (hTo.at 1 rfl).2 (by decide) hrd_36 hup_37).1 o (hTo.at 1 rfl).1 5 (hTo.at 1 rfl).2 3 (by decide)).trans hk_28
    have hk_48 : rd f_35 o 4 = .int be := ((Fr.put (cs := [(5, 2)]) (a := o) (ci := 5) Fr.rf Ext.rf (hTo.at 1 rfl).2 (by decide) hrd_36 hup_37).1 o (hTo.at 1 rfl).1 5 (hTo.at 1 rfl).2 4 (by decide)).trans hk_29
    have htv_49 : rd f_35 o 6 = .null := ((hrd_36 o 6).trans (if_neg (fun h9 => absurd h9.2 (by decide)))).trans htv_31
    have htv_50 : rd f_35 o 7 = (rd f o 7) := ((hrd_36 o 7).trans (if_neg (fun h9 => absurd h9.2 (by decide)))).trans htv_32
    refine lv_aload_n hx hb dX2_readBuilt_43 rfl (lv_at hl 1 rfl) ?_
    refine lv_aload_n hx hb dX2_readBuilt_44 rfl (lv_at hl 0 rfl) ?_
    refine lv_iload_n hx hb dX2_readBuilt_45 rfl (lv_at hl 2 rfl) ?_
    have hEc_51 := hE
    have hTo := hT
    refine K_VZ ⟨hx, hb, hml, hown, hts⟩ (t_X2_readBlockT l dC dI sa hlt g _ _ j d (pot fa_12 sg) tt ln M (gnu (Kp tt ln) (Vp tt ln) (nq tt ln) 0 50 q) T ad h0 dep tok ka sta vaa ax_10 tn_11 fa_12 pw_13 sg zz _ (hT.sub [0, 2, 3, 4, 5] rfl)  hk_38 hk_39 hk_40 hk_41 hk_42 hk_43 ((hF.1 h0 (hT0.at 0 rfl).1 2 (hT0.at 0 rfl).2 0 (by decide)).trans h_tok) ((hF.1 tok (hT0.at 2 rfl).1 6 (hT0.at 2 rfl).2 4 (by decide)).trans h_ka) ((hF.1 tok (hT0.at 2 rfl).1 6 (hT0.at 2 rfl).2 5 (by decide)).trans h_sta) ((hF.1 tok (hT0.at 2 rfl).1 6 (hT0.at 2 rfl).2 6 (by decide)).trans h_vaa) hd hdj rfl hs3 hzz (hTK.go (hF.2 ka (hT0.at 3 rfl).1 0 _ _ (hT0.at 3 rfl).2 (by decide)) (hF.2 sta (hT0.at 4 rfl).1 0 _ _ (hT0.at 4 rfl).2 (by decide)) (hF.2 vaa (hT0.at 5 rfl).1 0 _ _ (hT0.at 5 rfl).2 (by decide))) hrq_34 (by first | exact hnd | (simp only [gpa_nd, gnu_nd, gpl_nd, gte_nd, gob_nd, grf_nd]; exact hnd)) IHR) (cwV 1 hts gX2_readBuilt_X2_readBlock rfl rfl rfl (by decide +kernel) ⟨(by first | exact Nat.le_of_ble_eq_true rfl | (simp only [rm_X2_readBlockT, rm_X2_readBuiltT]; omega)), (by first | exact Nat.le_of_ble_eq_true rfl | (simp only [rm_X2_readBlockT, rm_X2_readBuiltT]; omega))⟩) hP hD hK hS hA hev hT 0 2 rfl rfl rfl rfl hl.1 rfl (Nat.le_of_ble_eq_true rfl) dX2_readBuilt_46 ⟨(by first | exact Nat.le_of_ble_eq_true rfl | (simp only [rm_X2_readBuiltT]; omega) | omega), (by first | exact Nat.le_of_ble_eq_true rfl | (simp only [rm_X2_readBuiltT]; omega) | omega)⟩ (fun r L_52 f_53 n_55 H locs hw_54 hn_56 hP hD hS hT hE1 => ?_)
    have hEo := hE
    have hF := Fr.call hF hE hw_54.2.1 (by decide)
    have hE := hE.tr hE1
    obtain ⟨⟨v_57, rfl, hv9⟩, hw_54⟩ := hw_54
    rcases hv9 with rfl | ⟨b_58, rfl, hb9⟩
    · obtain ⟨hfr_59, ax_60, tn_61, fa_62, pw_63, sg_64, hk_65, hk_66, hk_67, hk_68, hk_69, hrel_70, hrel_71, hrel_72, hrel_73, hrel_74, hex_75⟩ := hw_54
      obtain ⟨hof_76, hex_77⟩ := hex_75
      have hO5 := hO5.call hEo hof_76 (by simp)
      have hk_78 : rd f_53 tok 3 = .int zz := (hfr_59.1 tok (hTo.at 2 rfl).1 6 (hTo.at 2 rfl).2 3 (by decide)).trans hk_43
      have hk_79 : rd f_53 o 0 = .int wd := (hfr_59.1 o (hTo.at 1 rfl).1 5 (hTo.at 1 rfl).2 0 (by decide)).trans hk_44
      have hk_80 : rd f_53 o 1 = .int vt := (hof_76 o (hTo.at 1 rfl).1 (hTo.at 1 rfl).2 (by simp) 1).trans hk_45
      have hk_81 : rd f_53 o 2 = .int z_8 := (hof_76 o (hTo.at 1 rfl).1 (hTo.at 1 rfl).2 (by simp) 2).trans hk_46
      have hk_82 : rd f_53 o 3 = .int lo := (hof_76 o (hTo.at 1 rfl).1 (hTo.at 1 rfl).2 (by simp) 3).trans hk_47
      have hk_83 : rd f_53 o 4 = .int be := (hof_76 o (hTo.at 1 rfl).1 (hTo.at 1 rfl).2 (by simp) 4).trans hk_48
      have hq_84 : n_55 + pot fa_62 sg_64 ≤ pot fa_12 sg := by
        obtain ⟨a9, b9, g1, g2, g3⟩ := hn_56
        cases g1.symm.trans hk_67
        cases g2.symm.trans hk_69
        exact g3
      have htv_92 : rd f_53 o 6 = .null := (hof_76 o (hTo.at 1 rfl).1 (hTo.at 1 rfl).2 (by simp) 6).trans htv_49
      have htv_93 : rd f_53 o 7 = (rd f o 7) := (hof_76 o (hTo.at 1 rfl).1 (hTo.at 1 rfl).2 (by simp) 7).trans htv_50
      have hE9 := hE1
      obtain ⟨qn_85, Tn_86, an_87, hev_88, hrq_89, hsg_90, hpk_91⟩ := hex_77
      have hpk_94 : qn_85.2.2.1 = 0 → PB (Kp tt ln) (Vp tt ln) (nq tt ln) 2 d (gnu (Kp tt ln) (Vp tt ln) (nq tt ln) 0 50 q) qn_85 T Tn_86 ad an_87 L_5 L_52 f_53 (.null) := fun h9 => by
        obtain ⟨v9, e9, g9⟩ := hpk_91 h9
        cases e9
        exact g9
      have hEb0 : Ext L_52 f_53 L_52 f_53 := Ext.rf
      have hOb0 : OF 5 [o] L_52 f_53 f_53 := OF.rf
      have hO9__95 := hof_76
      have hE9__96 := hE9
      refine W.eq (g2 := F0 m 49 ls [.null, .ref o]) rfl ?_
      have hTo := hT
      refine T_put (ci := 5) (v := .null) (ty := .object "VatHouse$Step") (t := (2, 0, 5, 0)) (C := RX5) (T := TX5) (N := 8) hx hb hts inw_X2_readBuilt_5 tyX5 tyX5_ok nmX5 hown hK hP hD hS hT 1 rfl rfl 5 (by decide) (hts (.fieldLink RX2 85 "VatHouse$Step" "block" "LVatHouse$Step;") (List.mem_of_getElem? (i := 3) (by exact rfl))) (fun _ h9 => h9) rfl (tyX5_ok 5 (by decide)) rfl rfl rfl (Or.inl rfl) dX2_readBuilt_49 (fun f_97 H locs hP hD hS hT hE1 hrd_98 hup_99 => ?_)
      have hO5 := hO5.put hrd_98 (by simp)
      have hF := Fr.put (a := o) (ci := 5) hF hE ((hE1 o (hT.at 1 rfl).1).2.symm.trans (hT.at 1 rfl).2) (by decide) hrd_98 hup_99
      have hE := hE.tr hE1
      have hk_100 : rd f_97 h0 1 = .int ax_60 := ((Fr.put (cs := [(5, 5)]) (a := o) (ci := 5) Fr.rf Ext.rf (hTo.at 1 rfl).2 (by decide) hrd_98 hup_99).1 h0 (hTo.at 0 rfl).1 2 (hTo.at 0 rfl).2 1 (by decide)).trans hk_65
      have hk_101 : rd f_97 h0 2 = .int tn_61 := ((Fr.put (cs := [(5, 5)]) (a := o) (ci := 5) Fr.rf Ext.rf (hTo.at 1 rfl).2 (by decide) hrd_98 hup_99).1 h0 (hTo.at 0 rfl).1 2 (hTo.at 0 rfl).2 2 (by decide)).trans hk_66
      have hk_102 : rd f_97 h0 3 = .int fa_62 := ((Fr.put (cs := [(5, 5)]) (a := o) (ci := 5) Fr.rf Ext.rf (hTo.at 1 rfl).2 (by decide) hrd_98 hup_99).1 h0 (hTo.at 0 rfl).1 2 (hTo.at 0 rfl).2 3 (by decide)).trans hk_67
      have hk_103 : rd f_97 h0 4 = .int pw_63 := ((Fr.put (cs := [(5, 5)]) (a := o) (ci := 5) Fr.rf Ext.rf (hTo.at 1 rfl).2 (by decide) hrd_98 hup_99).1 h0 (hTo.at 0 rfl).1 2 (hTo.at 0 rfl).2 4 (by decide)).trans hk_68
      have hk_104 : rd f_97 h0 5 = .int sg_64 := ((Fr.put (cs := [(5, 5)]) (a := o) (ci := 5) Fr.rf Ext.rf (hTo.at 1 rfl).2 (by decide) hrd_98 hup_99).1 h0 (hTo.at 0 rfl).1 2 (hTo.at 0 rfl).2 5 (by decide)).trans hk_69
      have hk_105 : rd f_97 tok 3 = .int zz := ((Fr.put (cs := [(5, 5)]) (a := o) (ci := 5) Fr.rf Ext.rf (hTo.at 1 rfl).2 (by decide) hrd_98 hup_99).1 tok (hTo.at 2 rfl).1 6 (hTo.at 2 rfl).2 3 (by decide)).trans hk_78
      have hk_106 : rd f_97 o 0 = .int wd := ((Fr.put (cs := [(5, 5)]) (a := o) (ci := 5) Fr.rf Ext.rf (hTo.at 1 rfl).2 (by decide) hrd_98 hup_99).1 o (hTo.at 1 rfl).1 5 (hTo.at 1 rfl).2 0 (by decide)).trans hk_79
      have hk_107 : rd f_97 o 1 = .int vt := ((Fr.put (cs := [(5, 5)]) (a := o) (ci := 5) Fr.rf Ext.rf (hTo.at 1 rfl).2 (by decide) hrd_98 hup_99).1 o (hTo.at 1 rfl).1 5 (hTo.at 1 rfl).2 1 (by decide)).trans hk_80
      have hk_108 : rd f_97 o 2 = .int z_8 := ((Fr.put (cs := [(5, 5)]) (a := o) (ci := 5) Fr.rf Ext.rf (hTo.at 1 rfl).2 (by decide) hrd_98 hup_99).1 o (hTo.at 1 rfl).1 5 (hTo.at 1 rfl).2 2 (by decide)).trans hk_81
      have hk_109 : rd f_97 o 3 = .int lo := ((Fr.put (cs := [(5, 5)]) (a := o) (ci := 5) Fr.rf Ext.rf (hTo.at 1 rfl).2 (by decide) hrd_98 hup_99).1 o (hTo.at 1 rfl).1 5 (hTo.at 1 rfl).2 3 (by decide)).trans hk_82
      have hk_110 : rd f_97 o 4 = .int be := ((Fr.put (cs := [(5, 5)]) (a := o) (ci := 5) Fr.rf Ext.rf (hTo.at 1 rfl).2 (by decide) hrd_98 hup_99).1 o (hTo.at 1 rfl).1 5 (hTo.at 1 rfl).2 4 (by decide)).trans hk_83
      have hOb0 := hOb0.put hrd_98 (by simp)
      have hEb0 := hEb0.tr hE1
      have htv_111 : rd f_97 o 6 = .null := ((hrd_98 o 6).trans (if_neg (fun h9 => absurd h9.2 (by decide)))).trans htv_92
      have htv_112 : rd f_97 o 7 = (rd f o 7) := ((hrd_98 o 7).trans (if_neg (fun h9 => absurd h9.2 (by decide)))).trans htv_93
      have htv_113 : rd f_97 o 5 = .null := (hrd_98 o 5).trans (if_pos ⟨rfl, rfl⟩)
      refine lv_goto (tgt := 158) hx hb dX2_readBuilt_52 (by decide) ?_
      exact K_vZ hx hb hr hlocks hP hD hK hS hT hE ⟨rfl, hF, _, _, _, _, _, _, _, _, _, hk_100, hk_101, hk_102, hk_103, hk_104, hk_107, hk_108, hk_109, hk_110, trivial, trivial, trivial, trivial, hrel_74, trivial, trivial, trivial, trivial, hO5, htv_112, ⟨qn_85, (tset Tn_86 1 k (thd (k + 1) qn_85.2.1)), an_87, Or.inl ⟨c_4, hev_88⟩, hrq_89, (by first | exact hsg_90 | (simp only [gpa_nd, gnu_nd, gpl_nd, gte_nd, gob_nd, grf_nd]; exact hsg_90)), fun h9 => ⟨PUb.one (hpk_94 h9) (by first | exact hqk | (rw [gnu_nd]; exact hqk) | (rw [gte_nd]; exact hqk)) (fun b9 hb9 => (hEc_51 b9 hb9).1) (hEc_51 o (hT0.at 1 rfl).1).1 hEb0 hOb0 htv_113 htv_111 hT2 hqk (fun g9 => Or.inl ⟨c_4, _, g9, rfl⟩), ⟨fun _ => hzv_30, fun h8 => by rw [c_4] at h8; exact absurd h8 (by decide)⟩⟩⟩⟩ (⟨_, _, hk_102, hk_104, by omega⟩) (by first | exact Nat.le_of_ble_eq_true rfl | (simp only [rm_X2_readBuiltT]; omega) | omega) (by first | exact Nat.le_of_ble_eq_true rfl | (simp only [rm_X2_readBuiltT]; omega) | omega) (by first | exact Nat.le_of_ble_eq_true rfl | (simp only [rm_X2_readBuiltT]; omega) | omega) dX2_readBuilt_158
    · have hT := hT.add hb9
      obtain ⟨hfr_114, ax_115, tn_116, fa_117, pw_118, sg_119, hk_120, hk_121, hk_122, hk_123, hk_124, hrel_125, hrel_126, hrel_127, hrel_128, hrel_129, hex_130⟩ := hw_54
      obtain ⟨hof_131, hex_132⟩ := hex_130
      have hO5 := hO5.call hEo hof_131 (by simp)
      have hk_133 : rd f_53 tok 3 = .int zz := (hfr_114.1 tok (hTo.at 2 rfl).1 6 (hTo.at 2 rfl).2 3 (by decide)).trans hk_43
      have hk_134 : rd f_53 o 0 = .int wd := (hfr_114.1 o (hTo.at 1 rfl).1 5 (hTo.at 1 rfl).2 0 (by decide)).trans hk_44
      have hk_135 : rd f_53 o 1 = .int vt := (hof_131 o (hTo.at 1 rfl).1 (hTo.at 1 rfl).2 (by simp) 1).trans hk_45
      have hk_136 : rd f_53 o 2 = .int z_8 := (hof_131 o (hTo.at 1 rfl).1 (hTo.at 1 rfl).2 (by simp) 2).trans hk_46
      have hk_137 : rd f_53 o 3 = .int lo := (hof_131 o (hTo.at 1 rfl).1 (hTo.at 1 rfl).2 (by simp) 3).trans hk_47
      have hk_138 : rd f_53 o 4 = .int be := (hof_131 o (hTo.at 1 rfl).1 (hTo.at 1 rfl).2 (by simp) 4).trans hk_48
      have hq_139 : n_55 + pot fa_117 sg_119 ≤ pot fa_12 sg := by
        obtain ⟨a9, b9, g1, g2, g3⟩ := hn_56
        cases g1.symm.trans hk_122
        cases g2.symm.trans hk_124
        exact g3
      have htv_147 : rd f_53 o 6 = .null := (hof_131 o (hTo.at 1 rfl).1 (hTo.at 1 rfl).2 (by simp) 6).trans htv_49
      have htv_148 : rd f_53 o 7 = (rd f o 7) := (hof_131 o (hTo.at 1 rfl).1 (hTo.at 1 rfl).2 (by simp) 7).trans htv_50
      have hE9 := hE1
      obtain ⟨qn_140, Tn_141, an_142, hev_143, hrq_144, hsg_145, hpk_146⟩ := hex_132
      have hpk_149 : qn_140.2.2.1 = 0 → PB (Kp tt ln) (Vp tt ln) (nq tt ln) 2 d (gnu (Kp tt ln) (Vp tt ln) (nq tt ln) 0 50 q) qn_140 T Tn_141 ad an_142 L_5 L_52 f_53 (.ref b_58) := fun h9 => by
        obtain ⟨v9, e9, g9⟩ := hpk_146 h9
        cases e9
        exact g9
      have hEb0 : Ext L_52 f_53 L_52 f_53 := Ext.rf
      have hOb0 : OF 5 [o] L_52 f_53 f_53 := OF.rf
      have hO9__150 := hof_131
      have hE9__151 := hE9
      refine W.eq (g2 := F0 m 49 ls [.ref b_58, .ref o]) rfl ?_
      have hTo := hT
      refine T_put (ci := 5) (v := .ref b_58) (ty := .object "VatHouse$Step") (t := (2, 0, 5, 0)) (C := RX5) (T := TX5) (N := 8) hx hb hts inw_X2_readBuilt_5 tyX5 tyX5_ok nmX5 hown hK hP hD hS hT 2 rfl rfl 5 (by decide) (hts (.fieldLink RX2 85 "VatHouse$Step" "block" "LVatHouse$Step;") (List.mem_of_getElem? (i := 3) (by exact rfl))) (fun _ h9 => h9) rfl (tyX5_ok 5 (by decide)) rfl rfl rfl (Or.inr ⟨_, rfl, hT.at 0 rfl⟩) dX2_readBuilt_49 (fun f_152 H locs hP hD hS hT hE1 hrd_153 hup_154 => ?_)
      have hO5 := hO5.put hrd_153 (by simp)
      have hF := Fr.put (a := o) (ci := 5) hF hE ((hE1 o (hT.at 2 rfl).1).2.symm.trans (hT.at 2 rfl).2) (by decide) hrd_153 hup_154
      have hE := hE.tr hE1
      have hk_155 : rd f_152 h0 1 = .int ax_115 := ((Fr.put (cs := [(5, 5)]) (a := o) (ci := 5) Fr.rf Ext.rf (hTo.at 2 rfl).2 (by decide) hrd_153 hup_154).1 h0 (hTo.at 1 rfl).1 2 (hTo.at 1 rfl).2 1 (by decide)).trans hk_120
      have hk_156 : rd f_152 h0 2 = .int tn_116 := ((Fr.put (cs := [(5, 5)]) (a := o) (ci := 5) Fr.rf Ext.rf (hTo.at 2 rfl).2 (by decide) hrd_153 hup_154).1 h0 (hTo.at 1 rfl).1 2 (hTo.at 1 rfl).2 2 (by decide)).trans hk_121
      have hk_157 : rd f_152 h0 3 = .int fa_117 := ((Fr.put (cs := [(5, 5)]) (a := o) (ci := 5) Fr.rf Ext.rf (hTo.at 2 rfl).2 (by decide) hrd_153 hup_154).1 h0 (hTo.at 1 rfl).1 2 (hTo.at 1 rfl).2 3 (by decide)).trans hk_122
      have hk_158 : rd f_152 h0 4 = .int pw_118 := ((Fr.put (cs := [(5, 5)]) (a := o) (ci := 5) Fr.rf Ext.rf (hTo.at 2 rfl).2 (by decide) hrd_153 hup_154).1 h0 (hTo.at 1 rfl).1 2 (hTo.at 1 rfl).2 4 (by decide)).trans hk_123
      have hk_159 : rd f_152 h0 5 = .int sg_119 := ((Fr.put (cs := [(5, 5)]) (a := o) (ci := 5) Fr.rf Ext.rf (hTo.at 2 rfl).2 (by decide) hrd_153 hup_154).1 h0 (hTo.at 1 rfl).1 2 (hTo.at 1 rfl).2 5 (by decide)).trans hk_124
      have hk_160 : rd f_152 tok 3 = .int zz := ((Fr.put (cs := [(5, 5)]) (a := o) (ci := 5) Fr.rf Ext.rf (hTo.at 2 rfl).2 (by decide) hrd_153 hup_154).1 tok (hTo.at 3 rfl).1 6 (hTo.at 3 rfl).2 3 (by decide)).trans hk_133
      have hk_161 : rd f_152 o 0 = .int wd := ((Fr.put (cs := [(5, 5)]) (a := o) (ci := 5) Fr.rf Ext.rf (hTo.at 2 rfl).2 (by decide) hrd_153 hup_154).1 o (hTo.at 2 rfl).1 5 (hTo.at 2 rfl).2 0 (by decide)).trans hk_134
      have hk_162 : rd f_152 o 1 = .int vt := ((Fr.put (cs := [(5, 5)]) (a := o) (ci := 5) Fr.rf Ext.rf (hTo.at 2 rfl).2 (by decide) hrd_153 hup_154).1 o (hTo.at 2 rfl).1 5 (hTo.at 2 rfl).2 1 (by decide)).trans hk_135
      have hk_163 : rd f_152 o 2 = .int z_8 := ((Fr.put (cs := [(5, 5)]) (a := o) (ci := 5) Fr.rf Ext.rf (hTo.at 2 rfl).2 (by decide) hrd_153 hup_154).1 o (hTo.at 2 rfl).1 5 (hTo.at 2 rfl).2 2 (by decide)).trans hk_136
      have hk_164 : rd f_152 o 3 = .int lo := ((Fr.put (cs := [(5, 5)]) (a := o) (ci := 5) Fr.rf Ext.rf (hTo.at 2 rfl).2 (by decide) hrd_153 hup_154).1 o (hTo.at 2 rfl).1 5 (hTo.at 2 rfl).2 3 (by decide)).trans hk_137
      have hk_165 : rd f_152 o 4 = .int be := ((Fr.put (cs := [(5, 5)]) (a := o) (ci := 5) Fr.rf Ext.rf (hTo.at 2 rfl).2 (by decide) hrd_153 hup_154).1 o (hTo.at 2 rfl).1 5 (hTo.at 2 rfl).2 4 (by decide)).trans hk_138
      have hOb0 := hOb0.put hrd_153 (by simp)
      have hEb0 := hEb0.tr hE1
      have htv_166 : rd f_152 o 6 = .null := ((hrd_153 o 6).trans (if_neg (fun h9 => absurd h9.2 (by decide)))).trans htv_147
      have htv_167 : rd f_152 o 7 = (rd f o 7) := ((hrd_153 o 7).trans (if_neg (fun h9 => absurd h9.2 (by decide)))).trans htv_148
      have htv_168 : rd f_152 o 5 = .ref b_58 := (hrd_153 o 5).trans (if_pos ⟨rfl, rfl⟩)
      refine lv_goto (tgt := 158) hx hb dX2_readBuilt_52 (by decide) ?_
      exact K_vZ hx hb hr hlocks hP hD hK hS hT hE ⟨rfl, hF, _, _, _, _, _, _, _, _, _, hk_155, hk_156, hk_157, hk_158, hk_159, hk_162, hk_163, hk_164, hk_165, trivial, trivial, trivial, trivial, hrel_129, trivial, trivial, trivial, trivial, hO5, htv_167, ⟨qn_140, (tset Tn_141 1 k (thd (k + 1) qn_140.2.1)), an_142, Or.inl ⟨c_4, hev_143⟩, hrq_144, (by first | exact hsg_145 | (simp only [gpa_nd, gnu_nd, gpl_nd, gte_nd, gob_nd, grf_nd]; exact hsg_145)), fun h9 => ⟨PUb.one (hpk_149 h9) (by first | exact hqk | (rw [gnu_nd]; exact hqk) | (rw [gte_nd]; exact hqk)) (fun b9 hb9 => (hEc_51 b9 hb9).1) (hEc_51 o (hT0.at 1 rfl).1).1 hEb0 hOb0 htv_168 htv_166 hT2 hqk (fun g9 => Or.inl ⟨c_4, _, g9, rfl⟩), ⟨fun _ => hzv_30, fun h8 => by rw [c_4] at h8; exact absurd h8 (by decide)⟩⟩⟩⟩ (⟨_, _, hk_157, hk_159, by omega⟩) (by first | exact Nat.le_of_ble_eq_true rfl | (simp only [rm_X2_readBuiltT]; omega) | omega) (by first | exact Nat.le_of_ble_eq_true rfl | (simp only [rm_X2_readBuiltT]; omega) | omega) (by first | exact Nat.le_of_ble_eq_true rfl | (simp only [rm_X2_readBuiltT]; omega) | omega) dX2_readBuilt_158
  by_cases c_169 : wd = 9
  · refine lv_tableIn (tgt := 55) hx hb dX2_readBuilt_4 (by rw [c_169]; decide) (by rw [c_169]; decide) (by rw [c_169]; rfl) (by decide) ?_
    refine lv_aload_n hx hb dX2_readBuilt_55 rfl (lv_at hl 1 rfl) ?_
    refine lv_aload_n hx hb dX2_readBuilt_56 rfl (lv_at hl 0 rfl) ?_
    refine lv_iconst (v := 0) hx hb dX2_readBuilt_57 (by decide) ?_
    refine lv_sipush (v := 200) hx hb dX2_readBuilt_58 (by decide) ?_
    have hTo := hT
    refine K_V ⟨hx, hb, hml, hown, hts⟩ (t_X2_readNumber l dC dI sa hlt g _ _ tt ln M q h0 0 200 tok ka sta vaa ax tn fa pw zz _ (hT.sub [0, 2, 3, 4, 5] rfl)  hm_ax hm_tn hm_fa hm_pw hm_zz ((hF.1 h0 (hT0.at 0 rfl).1 2 (hT0.at 0 rfl).2 0 (by decide)).trans h_tok) ((hF.1 tok (hT0.at 2 rfl).1 6 (hT0.at 2 rfl).2 4 (by decide)).trans h_ka) ((hF.1 tok (hT0.at 2 rfl).1 6 (hT0.at 2 rfl).2 5 (by decide)).trans h_sta) ((hF.1 tok (hT0.at 2 rfl).1 6 (hT0.at 2 rfl).2 6 (by decide)).trans h_vaa) hzz (hTK.go (hF.2 ka (hT0.at 3 rfl).1 0 _ _ (hT0.at 3 rfl).2 (by decide)) (hF.2 sta (hT0.at 4 rfl).1 0 _ _ (hT0.at 4 rfl).2 (by decide)) (hF.2 vaa (hT0.at 5 rfl).1 0 _ _ (hT0.at 5 rfl).2 (by decide))) hRQ) (cwV 2 hts gX2_readBuilt_X2_readNumber rfl rfl rfl (by decide +kernel) ⟨(by first | exact Nat.le_of_ble_eq_true rfl | (simp only [rm_X2_readNumber, rm_X2_readBuiltT]; omega)), (by first | exact Nat.le_of_ble_eq_true rfl | (simp only [rm_X2_readNumber, rm_X2_readBuiltT]; omega))⟩) hP hD hK hS hA hev hT 0 2 rfl rfl rfl rfl hl.1 rfl (Nat.le_of_ble_eq_true rfl) dX2_readBuilt_61 ⟨(by first | exact Nat.le_of_ble_eq_true rfl | (simp only [rm_X2_readBuiltT]; omega) | omega), (by first | exact Nat.le_of_ble_eq_true rfl | (simp only [rm_X2_readBuiltT]; omega) | omega)⟩ (fun r L_170 f_171 H locs hw_172 hP hD hS hT hE1 => ?_)
    have hEo := hE
    have hO5 := hO5.call hE (OF.fr hw_172.2.1 (by decide)) (by simp)
    have hF := Fr.call hF hE hw_172.2.1 (by decide)
    have hE := hE.tr hE1
    obtain ⟨⟨z_173, rfl⟩, hw_172⟩ := hw_172
    obtain ⟨hfr_174, ax_175, tn_176, fa_177, pw_178, hk_179, hk_180, hk_181, hk_182, hrel_183, hrel_184, hrel_185, hrel_186, hex_187⟩ := hw_172
    have hk_188 : rd f_171 h0 5 = .int sg := (hfr_174.1 h0 (hTo.at 0 rfl).1 2 (hTo.at 0 rfl).2 5 (by decide)).trans hm_sg
    have hk_189 : rd f_171 tok 3 = .int zz := (hfr_174.1 tok (hTo.at 2 rfl).1 6 (hTo.at 2 rfl).2 3 (by decide)).trans hm_zz
    have hk_190 : rd f_171 o 0 = .int wd := (hfr_174.1 o (hTo.at 1 rfl).1 5 (hTo.at 1 rfl).2 0 (by decide)).trans hm_wd
    have hk_191 : rd f_171 o 1 = .int vt := (hfr_174.1 o (hTo.at 1 rfl).1 5 (hTo.at 1 rfl).2 1 (by decide)).trans hm_vt
    have hk_192 : rd f_171 o 2 = .int nu := (hfr_174.1 o (hTo.at 1 rfl).1 5 (hTo.at 1 rfl).2 2 (by decide)).trans hm_nu
    have hk_193 : rd f_171 o 3 = .int lo := (hfr_174.1 o (hTo.at 1 rfl).1 5 (hTo.at 1 rfl).2 3 (by decide)).trans hm_lo
    have hk_194 : rd f_171 o 4 = .int be := (hfr_174.1 o (hTo.at 1 rfl).1 5 (hTo.at 1 rfl).2 4 (by decide)).trans hm_be
    have hzv_195 : z_173 = Vp tt ln q.1 := sv hex_187.1
    have htv_196 : rd f_171 o 6 = .null := (hfr_174.1 o (hTo.at 1 rfl).1 5 (hTo.at 1 rfl).2 6 (by decide)).trans hs6
    have htv_197 : rd f_171 o 7 = (rd f o 7) := (hfr_174.1 o (hTo.at 1 rfl).1 5 (hTo.at 1 rfl).2 7 (by decide)).trans rfl
    have hq_198 : pot fa_177 sg ≤ pot fa sg := pot_le (fun h9 => (hrel_185 h9))
    have hrq_199 := hex_187.2
    refine W.eq (g2 := F0 m 64 ls [.int z_173, .ref o]) rfl ?_
    have hTo := hT
    refine T_put (ci := 5) (v := .int z_173) (ty := .int) (t := tI) (C := RX5) (T := TX5) (N := 8) hx hb hts inw_X2_readBuilt_5 tyX5 tyX5_ok nmX5 hown hK hP hD hS hT 1 rfl rfl 2 (by decide) (hts (.fieldLink RX2 79 "VatHouse$Step" "number" "I") (List.mem_of_getElem? (i := 2) (by exact rfl))) (fun _ h9 => h9) rfl (tyX5_ok 2 (by decide)) rfl rfl rfl ⟨_, rfl⟩ dX2_readBuilt_64 (fun f_200 H locs hP hD hS hT hE1 hrd_201 hup_202 => ?_)
    have hO5 := hO5.put hrd_201 (by simp)
    have hF := Fr.put (a := o) (ci := 5) hF hE ((hE1 o (hT.at 1 rfl).1).2.symm.trans (hT.at 1 rfl).2) (by decide) hrd_201 hup_202
    have hE := hE.tr hE1
    have hk_203 : rd f_200 h0 1 = .int ax_175 := ((Fr.put (cs := [(5, 2)]) (a := o) (ci := 5) Fr.rf Ext.rf (hTo.at 1 rfl).2 (by decide) hrd_201 hup_202).1 h0 (hTo.at 0 rfl).1 2 (hTo.at 0 rfl).2 1 (by decide)).trans hk_179
    have hk_204 : rd f_200 h0 2 = .int tn_176 := ((Fr.put (cs := [(5, 2)]) (a := o) (ci := 5) Fr.rf Ext.rf (hTo.at 1 rfl).2 (by decide) hrd_201 hup_202).1 h0 (hTo.at 0 rfl).1 2 (hTo.at 0 rfl).2 2 (by decide)).trans hk_180
    have hk_205 : rd f_200 h0 3 = .int fa_177 := ((Fr.put (cs := [(5, 2)]) (a := o) (ci := 5) Fr.rf Ext.rf (hTo.at 1 rfl).2 (by decide) hrd_201 hup_202).1 h0 (hTo.at 0 rfl).1 2 (hTo.at 0 rfl).2 3 (by decide)).trans hk_181
    have hk_206 : rd f_200 h0 4 = .int pw_178 := ((Fr.put (cs := [(5, 2)]) (a := o) (ci := 5) Fr.rf Ext.rf (hTo.at 1 rfl).2 (by decide) hrd_201 hup_202).1 h0 (hTo.at 0 rfl).1 2 (hTo.at 0 rfl).2 4 (by decide)).trans hk_182
    have hk_207 : rd f_200 h0 5 = .int sg := ((Fr.put (cs := [(5, 2)]) (a := o) (ci := 5) Fr.rf Ext.rf (hTo.at 1 rfl).2 (by decide) hrd_201 hup_202).1 h0 (hTo.at 0 rfl).1 2 (hTo.at 0 rfl).2 5 (by decide)).trans hk_188
    have hk_208 : rd f_200 tok 3 = .int zz := ((Fr.put (cs := [(5, 2)]) (a := o) (ci := 5) Fr.rf Ext.rf (hTo.at 1 rfl).2 (by decide) hrd_201 hup_202).1 tok (hTo.at 2 rfl).1 6 (hTo.at 2 rfl).2 3 (by decide)).trans hk_189
    have hk_209 : rd f_200 o 0 = .int wd := ((Fr.put (cs := [(5, 2)]) (a := o) (ci := 5) Fr.rf Ext.rf (hTo.at 1 rfl).2 (by decide) hrd_201 hup_202).1 o (hTo.at 1 rfl).1 5 (hTo.at 1 rfl).2 0 (by decide)).trans hk_190
    have hk_210 : rd f_200 o 1 = .int vt := ((Fr.put (cs := [(5, 2)]) (a := o) (ci := 5) Fr.rf Ext.rf (hTo.at 1 rfl).2 (by decide) hrd_201 hup_202).1 o (hTo.at 1 rfl).1 5 (hTo.at 1 rfl).2 1 (by decide)).trans hk_191
    have hk_211 : rd f_200 o 2 = .int z_173 := (hrd_201 o 2).trans (if_pos ⟨rfl, rfl⟩)
    have hk_212 : rd f_200 o 3 = .int lo := ((Fr.put (cs := [(5, 2)]) (a := o) (ci := 5) Fr.rf Ext.rf (hTo.at 1 rfl).2 (by decide) hrd_201 hup_202).1 o (hTo.at 1 rfl).1 5 (hTo.at 1 rfl).2 3 (by decide)).trans hk_193
    have hk_213 : rd f_200 o 4 = .int be := ((Fr.put (cs := [(5, 2)]) (a := o) (ci := 5) Fr.rf Ext.rf (hTo.at 1 rfl).2 (by decide) hrd_201 hup_202).1 o (hTo.at 1 rfl).1 5 (hTo.at 1 rfl).2 4 (by decide)).trans hk_194
    have htv_214 : rd f_200 o 6 = .null := ((hrd_201 o 6).trans (if_neg (fun h9 => absurd h9.2 (by decide)))).trans htv_196
    have htv_215 : rd f_200 o 7 = (rd f o 7) := ((hrd_201 o 7).trans (if_neg (fun h9 => absurd h9.2 (by decide)))).trans htv_197
    refine lv_aload_n hx hb dX2_readBuilt_67 rfl (lv_at hl 1 rfl) ?_
    refine lv_aload_n hx hb dX2_readBuilt_68 rfl (lv_at hl 0 rfl) ?_
    refine lv_iload_n hx hb dX2_readBuilt_69 rfl (lv_at hl 2 rfl) ?_
    have hEc_216 := hE
    have hTo := hT
    refine K_VZ ⟨hx, hb, hml, hown, hts⟩ (t_X2_readBlockT l dC dI sa hlt g _ _ j d (pot fa_177 sg) tt ln M (gnu (Kp tt ln) (Vp tt ln) (nq tt ln) 0 200 q) T ad h0 dep tok ka sta vaa ax_175 tn_176 fa_177 pw_178 sg zz _ (hT.sub [0, 2, 3, 4, 5] rfl)  hk_203 hk_204 hk_205 hk_206 hk_207 hk_208 ((hF.1 h0 (hT0.at 0 rfl).1 2 (hT0.at 0 rfl).2 0 (by decide)).trans h_tok) ((hF.1 tok (hT0.at 2 rfl).1 6 (hT0.at 2 rfl).2 4 (by decide)).trans h_ka) ((hF.1 tok (hT0.at 2 rfl).1 6 (hT0.at 2 rfl).2 5 (by decide)).trans h_sta) ((hF.1 tok (hT0.at 2 rfl).1 6 (hT0.at 2 rfl).2 6 (by decide)).trans h_vaa) hd hdj rfl hs3 hzz (hTK.go (hF.2 ka (hT0.at 3 rfl).1 0 _ _ (hT0.at 3 rfl).2 (by decide)) (hF.2 sta (hT0.at 4 rfl).1 0 _ _ (hT0.at 4 rfl).2 (by decide)) (hF.2 vaa (hT0.at 5 rfl).1 0 _ _ (hT0.at 5 rfl).2 (by decide))) hrq_199 (by first | exact hnd | (simp only [gpa_nd, gnu_nd, gpl_nd, gte_nd, gob_nd, grf_nd]; exact hnd)) IHR) (cwV 1 hts gX2_readBuilt_X2_readBlock rfl rfl rfl (by decide +kernel) ⟨(by first | exact Nat.le_of_ble_eq_true rfl | (simp only [rm_X2_readBlockT, rm_X2_readBuiltT]; omega)), (by first | exact Nat.le_of_ble_eq_true rfl | (simp only [rm_X2_readBlockT, rm_X2_readBuiltT]; omega))⟩) hP hD hK hS hA hev hT 0 2 rfl rfl rfl rfl hl.1 rfl (Nat.le_of_ble_eq_true rfl) dX2_readBuilt_70 ⟨(by first | exact Nat.le_of_ble_eq_true rfl | (simp only [rm_X2_readBuiltT]; omega) | omega), (by first | exact Nat.le_of_ble_eq_true rfl | (simp only [rm_X2_readBuiltT]; omega) | omega)⟩ (fun r L_217 f_218 n_220 H locs hw_219 hn_221 hP hD hS hT hE1 => ?_)
    have hEo := hE
    have hF := Fr.call hF hE hw_219.2.1 (by decide)
    have hE := hE.tr hE1
    obtain ⟨⟨v_222, rfl, hv9⟩, hw_219⟩ := hw_219
    rcases hv9 with rfl | ⟨b_223, rfl, hb9⟩
    · obtain ⟨hfr_224, ax_225, tn_226, fa_227, pw_228, sg_229, hk_230, hk_231, hk_232, hk_233, hk_234, hrel_235, hrel_236, hrel_237, hrel_238, hrel_239, hex_240⟩ := hw_219
      obtain ⟨hof_241, hex_242⟩ := hex_240
      have hO5 := hO5.call hEo hof_241 (by simp)
      have hk_243 : rd f_218 tok 3 = .int zz := (hfr_224.1 tok (hTo.at 2 rfl).1 6 (hTo.at 2 rfl).2 3 (by decide)).trans hk_208
      have hk_244 : rd f_218 o 0 = .int wd := (hfr_224.1 o (hTo.at 1 rfl).1 5 (hTo.at 1 rfl).2 0 (by decide)).trans hk_209
      have hk_245 : rd f_218 o 1 = .int vt := (hof_241 o (hTo.at 1 rfl).1 (hTo.at 1 rfl).2 (by simp) 1).trans hk_210
      have hk_246 : rd f_218 o 2 = .int z_173 := (hof_241 o (hTo.at 1 rfl).1 (hTo.at 1 rfl).2 (by simp) 2).trans hk_211
      have hk_247 : rd f_218 o 3 = .int lo := (hof_241 o (hTo.at 1 rfl).1 (hTo.at 1 rfl).2 (by simp) 3).trans hk_212
      have hk_248 : rd f_218 o 4 = .int be := (hof_241 o (hTo.at 1 rfl).1 (hTo.at 1 rfl).2 (by simp) 4).trans hk_213
      have hq_249 : n_220 + pot fa_227 sg_229 ≤ pot fa_177 sg := by
        obtain ⟨a9, b9, g1, g2, g3⟩ := hn_221
        cases g1.symm.trans hk_232
        cases g2.symm.trans hk_234
        exact g3
      have htv_257 : rd f_218 o 6 = .null := (hof_241 o (hTo.at 1 rfl).1 (hTo.at 1 rfl).2 (by simp) 6).trans htv_214
      have htv_258 : rd f_218 o 7 = (rd f o 7) := (hof_241 o (hTo.at 1 rfl).1 (hTo.at 1 rfl).2 (by simp) 7).trans htv_215
      have hE9 := hE1
      obtain ⟨qn_250, Tn_251, an_252, hev_253, hrq_254, hsg_255, hpk_256⟩ := hex_242
      have hpk_259 : qn_250.2.2.1 = 0 → PB (Kp tt ln) (Vp tt ln) (nq tt ln) 2 d (gnu (Kp tt ln) (Vp tt ln) (nq tt ln) 0 200 q) qn_250 T Tn_251 ad an_252 L_170 L_217 f_218 (.null) := fun h9 => by
        obtain ⟨v9, e9, g9⟩ := hpk_256 h9
        cases e9
        exact g9
      have hEb0 : Ext L_217 f_218 L_217 f_218 := Ext.rf
      have hOb0 : OF 5 [o] L_217 f_218 f_218 := OF.rf
      have hO9__260 := hof_241
      have hE9__261 := hE9
      refine W.eq (g2 := F0 m 73 ls [.null, .ref o]) rfl ?_
      have hTo := hT
      refine T_put (ci := 5) (v := .null) (ty := .object "VatHouse$Step") (t := (2, 0, 5, 0)) (C := RX5) (T := TX5) (N := 8) hx hb hts inw_X2_readBuilt_5 tyX5 tyX5_ok nmX5 hown hK hP hD hS hT 1 rfl rfl 5 (by decide) (hts (.fieldLink RX2 85 "VatHouse$Step" "block" "LVatHouse$Step;") (List.mem_of_getElem? (i := 3) (by exact rfl))) (fun _ h9 => h9) rfl (tyX5_ok 5 (by decide)) rfl rfl rfl (Or.inl rfl) dX2_readBuilt_73 (fun f_262 H locs hP hD hS hT hE1 hrd_263 hup_264 => ?_)
      have hO5 := hO5.put hrd_263 (by simp)
      have hF := Fr.put (a := o) (ci := 5) hF hE ((hE1 o (hT.at 1 rfl).1).2.symm.trans (hT.at 1 rfl).2) (by decide) hrd_263 hup_264
      have hE := hE.tr hE1
      have hk_265 : rd f_262 h0 1 = .int ax_225 := ((Fr.put (cs := [(5, 5)]) (a := o) (ci := 5) Fr.rf Ext.rf (hTo.at 1 rfl).2 (by decide) hrd_263 hup_264).1 h0 (hTo.at 0 rfl).1 2 (hTo.at 0 rfl).2 1 (by decide)).trans hk_230
      have hk_266 : rd f_262 h0 2 = .int tn_226 := ((Fr.put (cs := [(5, 5)]) (a := o) (ci := 5) Fr.rf Ext.rf (hTo.at 1 rfl).2 (by decide) hrd_263 hup_264).1 h0 (hTo.at 0 rfl).1 2 (hTo.at 0 rfl).2 2 (by decide)).trans hk_231
      have hk_267 : rd f_262 h0 3 = .int fa_227 := ((Fr.put (cs := [(5, 5)]) (a := o) (ci := 5) Fr.rf Ext.rf (hTo.at 1 rfl).2 (by decide) hrd_263 hup_264).1 h0 (hTo.at 0 rfl).1 2 (hTo.at 0 rfl).2 3 (by decide)).trans hk_232
      have hk_268 : rd f_262 h0 4 = .int pw_228 := ((Fr.put (cs := [(5, 5)]) (a := o) (ci := 5) Fr.rf Ext.rf (hTo.at 1 rfl).2 (by decide) hrd_263 hup_264).1 h0 (hTo.at 0 rfl).1 2 (hTo.at 0 rfl).2 4 (by decide)).trans hk_233
      have hk_269 : rd f_262 h0 5 = .int sg_229 := ((Fr.put (cs := [(5, 5)]) (a := o) (ci := 5) Fr.rf Ext.rf (hTo.at 1 rfl).2 (by decide) hrd_263 hup_264).1 h0 (hTo.at 0 rfl).1 2 (hTo.at 0 rfl).2 5 (by decide)).trans hk_234
      have hk_270 : rd f_262 tok 3 = .int zz := ((Fr.put (cs := [(5, 5)]) (a := o) (ci := 5) Fr.rf Ext.rf (hTo.at 1 rfl).2 (by decide) hrd_263 hup_264).1 tok (hTo.at 2 rfl).1 6 (hTo.at 2 rfl).2 3 (by decide)).trans hk_243
      have hk_271 : rd f_262 o 0 = .int wd := ((Fr.put (cs := [(5, 5)]) (a := o) (ci := 5) Fr.rf Ext.rf (hTo.at 1 rfl).2 (by decide) hrd_263 hup_264).1 o (hTo.at 1 rfl).1 5 (hTo.at 1 rfl).2 0 (by decide)).trans hk_244
      have hk_272 : rd f_262 o 1 = .int vt := ((Fr.put (cs := [(5, 5)]) (a := o) (ci := 5) Fr.rf Ext.rf (hTo.at 1 rfl).2 (by decide) hrd_263 hup_264).1 o (hTo.at 1 rfl).1 5 (hTo.at 1 rfl).2 1 (by decide)).trans hk_245
      have hk_273 : rd f_262 o 2 = .int z_173 := ((Fr.put (cs := [(5, 5)]) (a := o) (ci := 5) Fr.rf Ext.rf (hTo.at 1 rfl).2 (by decide) hrd_263 hup_264).1 o (hTo.at 1 rfl).1 5 (hTo.at 1 rfl).2 2 (by decide)).trans hk_246
      have hk_274 : rd f_262 o 3 = .int lo := ((Fr.put (cs := [(5, 5)]) (a := o) (ci := 5) Fr.rf Ext.rf (hTo.at 1 rfl).2 (by decide) hrd_263 hup_264).1 o (hTo.at 1 rfl).1 5 (hTo.at 1 rfl).2 3 (by decide)).trans hk_247
      have hk_275 : rd f_262 o 4 = .int be := ((Fr.put (cs := [(5, 5)]) (a := o) (ci := 5) Fr.rf Ext.rf (hTo.at 1 rfl).2 (by decide) hrd_263 hup_264).1 o (hTo.at 1 rfl).1 5 (hTo.at 1 rfl).2 4 (by decide)).trans hk_248
      have hOb0 := hOb0.put hrd_263 (by simp)
      have hEb0 := hEb0.tr hE1
      have htv_276 : rd f_262 o 6 = .null := ((hrd_263 o 6).trans (if_neg (fun h9 => absurd h9.2 (by decide)))).trans htv_257
      have htv_277 : rd f_262 o 7 = (rd f o 7) := ((hrd_263 o 7).trans (if_neg (fun h9 => absurd h9.2 (by decide)))).trans htv_258
      have htv_278 : rd f_262 o 5 = .null := (hrd_263 o 5).trans (if_pos ⟨rfl, rfl⟩)
      refine lv_goto (tgt := 158) hx hb dX2_readBuilt_76 (by decide) ?_
      exact K_vZ hx hb hr hlocks hP hD hK hS hT hE ⟨rfl, hF, _, _, _, _, _, _, _, _, _, hk_265, hk_266, hk_267, hk_268, hk_269, hk_272, hk_273, hk_274, hk_275, trivial, trivial, trivial, trivial, hrel_239, trivial, trivial, trivial, trivial, hO5, htv_277, ⟨qn_250, (tset Tn_251 1 k (thd (k + 1) qn_250.2.1)), an_252, Or.inr (Or.inl ⟨c_169, hev_253⟩), hrq_254, (by first | exact hsg_255 | (simp only [gpa_nd, gnu_nd, gpl_nd, gte_nd, gob_nd, grf_nd]; exact hsg_255)), fun h9 => ⟨PUb.one (hpk_259 h9) (by first | exact hqk | (rw [gnu_nd]; exact hqk) | (rw [gte_nd]; exact hqk)) (fun b9 hb9 => (hEc_216 b9 hb9).1) (hEc_216 o (hT0.at 1 rfl).1).1 hEb0 hOb0 htv_278 htv_276 hT2 hqk (fun g9 => Or.inr (Or.inl ⟨c_169, _, g9, rfl⟩)), ⟨fun _ => hzv_195, fun h8 => by rw [c_169] at h8; exact absurd h8 (by decide)⟩⟩⟩⟩ (⟨_, _, hk_267, hk_269, by omega⟩) (by first | exact Nat.le_of_ble_eq_true rfl | (simp only [rm_X2_readBuiltT]; omega) | omega) (by first | exact Nat.le_of_ble_eq_true rfl | (simp only [rm_X2_readBuiltT]; omega) | omega) (by first | exact Nat.le_of_ble_eq_true rfl | (simp only [rm_X2_readBuiltT]; omega) | omega) dX2_readBuilt_158
    · have hT := hT.add hb9
      obtain ⟨hfr_279, ax_280, tn_281, fa_282, pw_283, sg_284, hk_285, hk_286, hk_287, hk_288, hk_289, hrel_290, hrel_291, hrel_292, hrel_293, hrel_294, hex_295⟩ := hw_219
      obtain ⟨hof_296, hex_297⟩ := hex_295
      have hO5 := hO5.call hEo hof_296 (by simp)
      have hk_298 : rd f_218 tok 3 = .int zz := (hfr_279.1 tok (hTo.at 2 rfl).1 6 (hTo.at 2 rfl).2 3 (by decide)).trans hk_208
      have hk_299 : rd f_218 o 0 = .int wd := (hfr_279.1 o (hTo.at 1 rfl).1 5 (hTo.at 1 rfl).2 0 (by decide)).trans hk_209
      have hk_300 : rd f_218 o 1 = .int vt := (hof_296 o (hTo.at 1 rfl).1 (hTo.at 1 rfl).2 (by simp) 1).trans hk_210
      have hk_301 : rd f_218 o 2 = .int z_173 := (hof_296 o (hTo.at 1 rfl).1 (hTo.at 1 rfl).2 (by simp) 2).trans hk_211
      have hk_302 : rd f_218 o 3 = .int lo := (hof_296 o (hTo.at 1 rfl).1 (hTo.at 1 rfl).2 (by simp) 3).trans hk_212
      have hk_303 : rd f_218 o 4 = .int be := (hof_296 o (hTo.at 1 rfl).1 (hTo.at 1 rfl).2 (by simp) 4).trans hk_213
      have hq_304 : n_220 + pot fa_282 sg_284 ≤ pot fa_177 sg := by
        obtain ⟨a9, b9, g1, g2, g3⟩ := hn_221
        cases g1.symm.trans hk_287
        cases g2.symm.trans hk_289
        exact g3
      have htv_312 : rd f_218 o 6 = .null := (hof_296 o (hTo.at 1 rfl).1 (hTo.at 1 rfl).2 (by simp) 6).trans htv_214
      have htv_313 : rd f_218 o 7 = (rd f o 7) := (hof_296 o (hTo.at 1 rfl).1 (hTo.at 1 rfl).2 (by simp) 7).trans htv_215
      have hE9 := hE1
      obtain ⟨qn_305, Tn_306, an_307, hev_308, hrq_309, hsg_310, hpk_311⟩ := hex_297
      have hpk_314 : qn_305.2.2.1 = 0 → PB (Kp tt ln) (Vp tt ln) (nq tt ln) 2 d (gnu (Kp tt ln) (Vp tt ln) (nq tt ln) 0 200 q) qn_305 T Tn_306 ad an_307 L_170 L_217 f_218 (.ref b_223) := fun h9 => by
        obtain ⟨v9, e9, g9⟩ := hpk_311 h9
        cases e9
        exact g9
      have hEb0 : Ext L_217 f_218 L_217 f_218 := Ext.rf
      have hOb0 : OF 5 [o] L_217 f_218 f_218 := OF.rf
      have hO9__315 := hof_296
      have hE9__316 := hE9
      refine W.eq (g2 := F0 m 73 ls [.ref b_223, .ref o]) rfl ?_
      have hTo := hT
      refine T_put (ci := 5) (v := .ref b_223) (ty := .object "VatHouse$Step") (t := (2, 0, 5, 0)) (C := RX5) (T := TX5) (N := 8) hx hb hts inw_X2_readBuilt_5 tyX5 tyX5_ok nmX5 hown hK hP hD hS hT 2 rfl rfl 5 (by decide) (hts (.fieldLink RX2 85 "VatHouse$Step" "block" "LVatHouse$Step;") (List.mem_of_getElem? (i := 3) (by exact rfl))) (fun _ h9 => h9) rfl (tyX5_ok 5 (by decide)) rfl rfl rfl (Or.inr ⟨_, rfl, hT.at 0 rfl⟩) dX2_readBuilt_73 (fun f_317 H locs hP hD hS hT hE1 hrd_318 hup_319 => ?_)
      have hO5 := hO5.put hrd_318 (by simp)
      have hF := Fr.put (a := o) (ci := 5) hF hE ((hE1 o (hT.at 2 rfl).1).2.symm.trans (hT.at 2 rfl).2) (by decide) hrd_318 hup_319
      have hE := hE.tr hE1
      have hk_320 : rd f_317 h0 1 = .int ax_280 := ((Fr.put (cs := [(5, 5)]) (a := o) (ci := 5) Fr.rf Ext.rf (hTo.at 2 rfl).2 (by decide) hrd_318 hup_319).1 h0 (hTo.at 1 rfl).1 2 (hTo.at 1 rfl).2 1 (by decide)).trans hk_285
      have hk_321 : rd f_317 h0 2 = .int tn_281 := ((Fr.put (cs := [(5, 5)]) (a := o) (ci := 5) Fr.rf Ext.rf (hTo.at 2 rfl).2 (by decide) hrd_318 hup_319).1 h0 (hTo.at 1 rfl).1 2 (hTo.at 1 rfl).2 2 (by decide)).trans hk_286
      have hk_322 : rd f_317 h0 3 = .int fa_282 := ((Fr.put (cs := [(5, 5)]) (a := o) (ci := 5) Fr.rf Ext.rf (hTo.at 2 rfl).2 (by decide) hrd_318 hup_319).1 h0 (hTo.at 1 rfl).1 2 (hTo.at 1 rfl).2 3 (by decide)).trans hk_287
      have hk_323 : rd f_317 h0 4 = .int pw_283 := ((Fr.put (cs := [(5, 5)]) (a := o) (ci := 5) Fr.rf Ext.rf (hTo.at 2 rfl).2 (by decide) hrd_318 hup_319).1 h0 (hTo.at 1 rfl).1 2 (hTo.at 1 rfl).2 4 (by decide)).trans hk_288
      have hk_324 : rd f_317 h0 5 = .int sg_284 := ((Fr.put (cs := [(5, 5)]) (a := o) (ci := 5) Fr.rf Ext.rf (hTo.at 2 rfl).2 (by decide) hrd_318 hup_319).1 h0 (hTo.at 1 rfl).1 2 (hTo.at 1 rfl).2 5 (by decide)).trans hk_289
      have hk_325 : rd f_317 tok 3 = .int zz := ((Fr.put (cs := [(5, 5)]) (a := o) (ci := 5) Fr.rf Ext.rf (hTo.at 2 rfl).2 (by decide) hrd_318 hup_319).1 tok (hTo.at 3 rfl).1 6 (hTo.at 3 rfl).2 3 (by decide)).trans hk_298
      have hk_326 : rd f_317 o 0 = .int wd := ((Fr.put (cs := [(5, 5)]) (a := o) (ci := 5) Fr.rf Ext.rf (hTo.at 2 rfl).2 (by decide) hrd_318 hup_319).1 o (hTo.at 2 rfl).1 5 (hTo.at 2 rfl).2 0 (by decide)).trans hk_299
      have hk_327 : rd f_317 o 1 = .int vt := ((Fr.put (cs := [(5, 5)]) (a := o) (ci := 5) Fr.rf Ext.rf (hTo.at 2 rfl).2 (by decide) hrd_318 hup_319).1 o (hTo.at 2 rfl).1 5 (hTo.at 2 rfl).2 1 (by decide)).trans hk_300
      have hk_328 : rd f_317 o 2 = .int z_173 := ((Fr.put (cs := [(5, 5)]) (a := o) (ci := 5) Fr.rf Ext.rf (hTo.at 2 rfl).2 (by decide) hrd_318 hup_319).1 o (hTo.at 2 rfl).1 5 (hTo.at 2 rfl).2 2 (by decide)).trans hk_301
      have hk_329 : rd f_317 o 3 = .int lo := ((Fr.put (cs := [(5, 5)]) (a := o) (ci := 5) Fr.rf Ext.rf (hTo.at 2 rfl).2 (by decide) hrd_318 hup_319).1 o (hTo.at 2 rfl).1 5 (hTo.at 2 rfl).2 3 (by decide)).trans hk_302
      have hk_330 : rd f_317 o 4 = .int be := ((Fr.put (cs := [(5, 5)]) (a := o) (ci := 5) Fr.rf Ext.rf (hTo.at 2 rfl).2 (by decide) hrd_318 hup_319).1 o (hTo.at 2 rfl).1 5 (hTo.at 2 rfl).2 4 (by decide)).trans hk_303
      have hOb0 := hOb0.put hrd_318 (by simp)
      have hEb0 := hEb0.tr hE1
      have htv_331 : rd f_317 o 6 = .null := ((hrd_318 o 6).trans (if_neg (fun h9 => absurd h9.2 (by decide)))).trans htv_312
      have htv_332 : rd f_317 o 7 = (rd f o 7) := ((hrd_318 o 7).trans (if_neg (fun h9 => absurd h9.2 (by decide)))).trans htv_313
      have htv_333 : rd f_317 o 5 = .ref b_223 := (hrd_318 o 5).trans (if_pos ⟨rfl, rfl⟩)
      refine lv_goto (tgt := 158) hx hb dX2_readBuilt_76 (by decide) ?_
      exact K_vZ hx hb hr hlocks hP hD hK hS hT hE ⟨rfl, hF, _, _, _, _, _, _, _, _, _, hk_320, hk_321, hk_322, hk_323, hk_324, hk_327, hk_328, hk_329, hk_330, trivial, trivial, trivial, trivial, hrel_294, trivial, trivial, trivial, trivial, hO5, htv_332, ⟨qn_305, (tset Tn_306 1 k (thd (k + 1) qn_305.2.1)), an_307, Or.inr (Or.inl ⟨c_169, hev_308⟩), hrq_309, (by first | exact hsg_310 | (simp only [gpa_nd, gnu_nd, gpl_nd, gte_nd, gob_nd, grf_nd]; exact hsg_310)), fun h9 => ⟨PUb.one (hpk_314 h9) (by first | exact hqk | (rw [gnu_nd]; exact hqk) | (rw [gte_nd]; exact hqk)) (fun b9 hb9 => (hEc_216 b9 hb9).1) (hEc_216 o (hT0.at 1 rfl).1).1 hEb0 hOb0 htv_333 htv_331 hT2 hqk (fun g9 => Or.inr (Or.inl ⟨c_169, _, g9, rfl⟩)), ⟨fun _ => hzv_195, fun h8 => by rw [c_169] at h8; exact absurd h8 (by decide)⟩⟩⟩⟩ (⟨_, _, hk_322, hk_324, by omega⟩) (by first | exact Nat.le_of_ble_eq_true rfl | (simp only [rm_X2_readBuiltT]; omega) | omega) (by first | exact Nat.le_of_ble_eq_true rfl | (simp only [rm_X2_readBuiltT]; omega) | omega) (by first | exact Nat.le_of_ble_eq_true rfl | (simp only [rm_X2_readBuiltT]; omega) | omega) dX2_readBuilt_158
  by_cases c_334 : wd = 10
  · refine lv_tableIn (tgt := 79) hx hb dX2_readBuilt_4 (by rw [c_334]; decide) (by rw [c_334]; decide) (by rw [c_334]; rfl) (by decide) ?_
    refine lv_aload_n hx hb dX2_readBuilt_79 rfl (lv_at hl 0 rfl) ?_
    refine lv_aload_n hx hb dX2_readBuilt_80 rfl (lv_at hl 1 rfl) ?_
    have hTo := hT
    refine K_V ⟨hx, hb, hml, hown, hts⟩ (t_X2_readTestT l dC dI sa hlt g _ _ tt ln M q h0 o tok ka sta vaa ax tn fa pw zz vt nu lo be _ (hT.sub [0, 1, 2, 3, 4, 5] rfl)  hm_ax hm_tn hm_fa hm_pw hm_zz hm_vt hm_nu hm_lo hm_be ((hF.1 h0 (hT0.at 0 rfl).1 2 (hT0.at 0 rfl).2 0 (by decide)).trans h_tok) ((hF.1 tok (hT0.at 2 rfl).1 6 (hT0.at 2 rfl).2 4 (by decide)).trans h_ka) ((hF.1 tok (hT0.at 2 rfl).1 6 (hT0.at 2 rfl).2 5 (by decide)).trans h_sta) ((hF.1 tok (hT0.at 2 rfl).1 6 (hT0.at 2 rfl).2 6 (by decide)).trans h_vaa) hzz (hTK.go (hF.2 ka (hT0.at 3 rfl).1 0 _ _ (hT0.at 3 rfl).2 (by decide)) (hF.2 sta (hT0.at 4 rfl).1 0 _ _ (hT0.at 4 rfl).2 (by decide)) (hF.2 vaa (hT0.at 5 rfl).1 0 _ _ (hT0.at 5 rfl).2 (by decide))) hRQ) (cwV 1 hts gX2_readBuilt_X2_readTest rfl rfl rfl (by decide +kernel) ⟨(by first | exact Nat.le_of_ble_eq_true rfl | (simp only [rm_X2_readTestT, rm_X2_readBuiltT]; omega)), (by first | exact Nat.le_of_ble_eq_true rfl | (simp only [rm_X2_readTestT, rm_X2_readBuiltT]; omega))⟩) hP hD hK hS hA hev hT 0 2 rfl rfl rfl rfl hl.1 rfl (Nat.le_of_ble_eq_true rfl) dX2_readBuilt_81 ⟨(by first | exact Nat.le_of_ble_eq_true rfl | (simp only [rm_X2_readBuiltT]; omega) | omega), (by first | exact Nat.le_of_ble_eq_true rfl | (simp only [rm_X2_readBuiltT]; omega) | omega)⟩ (fun r L_335 f_336 H locs hw_337 hP hD hS hT hE1 => ?_)
    have hEo := hE
    have hF := Fr.call hF hE hw_337.2.1 (by decide)
    have hE := hE.tr hE1
    obtain ⟨rfl, hw_337⟩ := hw_337
    obtain ⟨hfr_338, ax_339, tn_340, fa_341, pw_342, vt_343, nu_344, lo_345, be_346, hk_347, hk_348, hk_349, hk_350, hk_351, hk_352, hk_353, hk_354, hrel_355, hrel_356, hrel_357, hrel_358, hrel_359, hrel_360, hrel_361, hrel_362, hex_363⟩ := hw_337
    obtain ⟨hof_364, hex_365⟩ := hex_363
    have hO5 := hO5.call hEo hof_364 (by simp)
    have hk_366 : rd f_336 h0 5 = .int sg := (hfr_338.1 h0 (hTo.at 0 rfl).1 2 (hTo.at 0 rfl).2 5 (by decide)).trans hm_sg
    have hk_367 : rd f_336 tok 3 = .int zz := (hfr_338.1 tok (hTo.at 2 rfl).1 6 (hTo.at 2 rfl).2 3 (by decide)).trans hm_zz
    have hk_368 : rd f_336 o 0 = .int wd := (hfr_338.1 o (hTo.at 1 rfl).1 5 (hTo.at 1 rfl).2 0 (by decide)).trans hm_wd
    have htv_369 : rd f_336 o 6 = .null := (hfr_338.1 o (hTo.at 1 rfl).1 5 (hTo.at 1 rfl).2 6 (by decide)).trans hs6
    have htv_370 : rd f_336 o 7 = (rd f o 7) := (hfr_338.1 o (hTo.at 1 rfl).1 5 (hTo.at 1 rfl).2 7 (by decide)).trans rfl
    have hq_371 : pot fa_341 sg ≤ pot fa sg := pot_le (fun h9 => (hrel_357 h9))
    have hrq_372 := hex_365.1
    refine W.eq (g2 := F0 m 84 ls []) rfl ?_
    refine lv_aload_n hx hb dX2_readBuilt_84 rfl (lv_at hl 1 rfl) ?_
    refine lv_aload_n hx hb dX2_readBuilt_85 rfl (lv_at hl 0 rfl) ?_
    refine lv_iload_n hx hb dX2_readBuilt_86 rfl (lv_at hl 2 rfl) ?_
    have hEc_373 := hE
    have hTo := hT
    refine K_VZ ⟨hx, hb, hml, hown, hts⟩ (t_X2_readBlockT l dC dI sa hlt g _ _ j d (pot fa_341 sg) tt ln M (gte (Kp tt ln) (Vp tt ln) (nq tt ln) q) T ad h0 dep tok ka sta vaa ax_339 tn_340 fa_341 pw_342 sg zz _ (hT.sub [0, 2, 3, 4, 5] rfl)  hk_347 hk_348 hk_349 hk_350 hk_366 hk_367 ((hF.1 h0 (hT0.at 0 rfl).1 2 (hT0.at 0 rfl).2 0 (by decide)).trans h_tok) ((hF.1 tok (hT0.at 2 rfl).1 6 (hT0.at 2 rfl).2 4 (by decide)).trans h_ka) ((hF.1 tok (hT0.at 2 rfl).1 6 (hT0.at 2 rfl).2 5 (by decide)).trans h_sta) ((hF.1 tok (hT0.at 2 rfl).1 6 (hT0.at 2 rfl).2 6 (by decide)).trans h_vaa) hd hdj rfl hs3 hzz (hTK.go (hF.2 ka (hT0.at 3 rfl).1 0 _ _ (hT0.at 3 rfl).2 (by decide)) (hF.2 sta (hT0.at 4 rfl).1 0 _ _ (hT0.at 4 rfl).2 (by decide)) (hF.2 vaa (hT0.at 5 rfl).1 0 _ _ (hT0.at 5 rfl).2 (by decide))) hrq_372 (by first | exact hnd | (simp only [gpa_nd, gnu_nd, gpl_nd, gte_nd, gob_nd, grf_nd]; exact hnd)) IHR) (cwV 1 hts gX2_readBuilt_X2_readBlock rfl rfl rfl (by decide +kernel) ⟨(by first | exact Nat.le_of_ble_eq_true rfl | (simp only [rm_X2_readBlockT, rm_X2_readBuiltT]; omega)), (by first | exact Nat.le_of_ble_eq_true rfl | (simp only [rm_X2_readBlockT, rm_X2_readBuiltT]; omega))⟩) hP hD hK hS hA hev hT 0 2 rfl rfl rfl rfl hl.1 rfl (Nat.le_of_ble_eq_true rfl) dX2_readBuilt_87 ⟨(by first | exact Nat.le_of_ble_eq_true rfl | (simp only [rm_X2_readBuiltT]; omega) | omega), (by first | exact Nat.le_of_ble_eq_true rfl | (simp only [rm_X2_readBuiltT]; omega) | omega)⟩ (fun r L_374 f_375 n_377 H locs hw_376 hn_378 hP hD hS hT hE1 => ?_)
    have hEo := hE
    have hF := Fr.call hF hE hw_376.2.1 (by decide)
    have hE := hE.tr hE1
    obtain ⟨⟨v_379, rfl, hv9⟩, hw_376⟩ := hw_376
    rcases hv9 with rfl | ⟨b_380, rfl, hb9⟩
    · obtain ⟨hfr_381, ax_382, tn_383, fa_384, pw_385, sg_386, hk_387, hk_388, hk_389, hk_390, hk_391, hrel_392, hrel_393, hrel_394, hrel_395, hrel_396, hex_397⟩ := hw_376
      obtain ⟨hof_398, hex_399⟩ := hex_397
      have hO5 := hO5.call hEo hof_398 (by simp)
      have hk_400 : rd f_375 tok 3 = .int zz := (hfr_381.1 tok (hTo.at 2 rfl).1 6 (hTo.at 2 rfl).2 3 (by decide)).trans hk_367
      have hk_401 : rd f_375 o 0 = .int wd := (hfr_381.1 o (hTo.at 1 rfl).1 5 (hTo.at 1 rfl).2 0 (by decide)).trans hk_368
      have hk_402 : rd f_375 o 1 = .int vt_343 := (hof_398 o (hTo.at 1 rfl).1 (hTo.at 1 rfl).2 (by simp) 1).trans hk_351
      have hk_403 : rd f_375 o 2 = .int nu_344 := (hof_398 o (hTo.at 1 rfl).1 (hTo.at 1 rfl).2 (by simp) 2).trans hk_352
      have hk_404 : rd f_375 o 3 = .int lo_345 := (hof_398 o (hTo.at 1 rfl).1 (hTo.at 1 rfl).2 (by simp) 3).trans hk_353
      have hk_405 : rd f_375 o 4 = .int be_346 := (hof_398 o (hTo.at 1 rfl).1 (hTo.at 1 rfl).2 (by simp) 4).trans hk_354
      have hq_406 : n_377 + pot fa_384 sg_386 ≤ pot fa_341 sg := by
        obtain ⟨a9, b9, g1, g2, g3⟩ := hn_378
        cases g1.symm.trans hk_389
        cases g2.symm.trans hk_391
        exact g3
      have htv_414 : rd f_375 o 6 = .null := (hof_398 o (hTo.at 1 rfl).1 (hTo.at 1 rfl).2 (by simp) 6).trans htv_369
      have htv_415 : rd f_375 o 7 = (rd f o 7) := (hof_398 o (hTo.at 1 rfl).1 (hTo.at 1 rfl).2 (by simp) 7).trans htv_370
      have hE9 := hE1
      obtain ⟨qn_407, Tn_408, an_409, hev_410, hrq_411, hsg_412, hpk_413⟩ := hex_399
      have hpk_416 : qn_407.2.2.1 = 0 → PB (Kp tt ln) (Vp tt ln) (nq tt ln) 2 d (gte (Kp tt ln) (Vp tt ln) (nq tt ln) q) qn_407 T Tn_408 ad an_409 L_335 L_374 f_375 (.null) := fun h9 => by
        obtain ⟨v9, e9, g9⟩ := hpk_413 h9
        cases e9
        exact g9
      have hEb0 : Ext L_374 f_375 L_374 f_375 := Ext.rf
      have hOb0 : OF 5 [o] L_374 f_375 f_375 := OF.rf
      have hO9__417 := hof_398
      have hE9__418 := hE9
      refine W.eq (g2 := F0 m 90 ls [.null, .ref o]) rfl ?_
      have hTo := hT
      refine T_put (ci := 5) (v := .null) (ty := .object "VatHouse$Step") (t := (2, 0, 5, 0)) (C := RX5) (T := TX5) (N := 8) hx hb hts inw_X2_readBuilt_5 tyX5 tyX5_ok nmX5 hown hK hP hD hS hT 1 rfl rfl 5 (by decide) (hts (.fieldLink RX2 85 "VatHouse$Step" "block" "LVatHouse$Step;") (List.mem_of_getElem? (i := 3) (by exact rfl))) (fun _ h9 => h9) rfl (tyX5_ok 5 (by decide)) rfl rfl rfl (Or.inl rfl) dX2_readBuilt_90 (fun f_419 H locs hP hD hS hT hE1 hrd_420 hup_421 => ?_)
      have hO5 := hO5.put hrd_420 (by simp)
      have hF := Fr.put (a := o) (ci := 5) hF hE ((hE1 o (hT.at 1 rfl).1).2.symm.trans (hT.at 1 rfl).2) (by decide) hrd_420 hup_421
      have hE := hE.tr hE1
      have hk_422 : rd f_419 h0 1 = .int ax_382 := ((Fr.put (cs := [(5, 5)]) (a := o) (ci := 5) Fr.rf Ext.rf (hTo.at 1 rfl).2 (by decide) hrd_420 hup_421).1 h0 (hTo.at 0 rfl).1 2 (hTo.at 0 rfl).2 1 (by decide)).trans hk_387
      have hk_423 : rd f_419 h0 2 = .int tn_383 := ((Fr.put (cs := [(5, 5)]) (a := o) (ci := 5) Fr.rf Ext.rf (hTo.at 1 rfl).2 (by decide) hrd_420 hup_421).1 h0 (hTo.at 0 rfl).1 2 (hTo.at 0 rfl).2 2 (by decide)).trans hk_388
      have hk_424 : rd f_419 h0 3 = .int fa_384 := ((Fr.put (cs := [(5, 5)]) (a := o) (ci := 5) Fr.rf Ext.rf (hTo.at 1 rfl).2 (by decide) hrd_420 hup_421).1 h0 (hTo.at 0 rfl).1 2 (hTo.at 0 rfl).2 3 (by decide)).trans hk_389
      have hk_425 : rd f_419 h0 4 = .int pw_385 := ((Fr.put (cs := [(5, 5)]) (a := o) (ci := 5) Fr.rf Ext.rf (hTo.at 1 rfl).2 (by decide) hrd_420 hup_421).1 h0 (hTo.at 0 rfl).1 2 (hTo.at 0 rfl).2 4 (by decide)).trans hk_390
      have hk_426 : rd f_419 h0 5 = .int sg_386 := ((Fr.put (cs := [(5, 5)]) (a := o) (ci := 5) Fr.rf Ext.rf (hTo.at 1 rfl).2 (by decide) hrd_420 hup_421).1 h0 (hTo.at 0 rfl).1 2 (hTo.at 0 rfl).2 5 (by decide)).trans hk_391
      have hk_427 : rd f_419 tok 3 = .int zz := ((Fr.put (cs := [(5, 5)]) (a := o) (ci := 5) Fr.rf Ext.rf (hTo.at 1 rfl).2 (by decide) hrd_420 hup_421).1 tok (hTo.at 2 rfl).1 6 (hTo.at 2 rfl).2 3 (by decide)).trans hk_400
      have hk_428 : rd f_419 o 0 = .int wd := ((Fr.put (cs := [(5, 5)]) (a := o) (ci := 5) Fr.rf Ext.rf (hTo.at 1 rfl).2 (by decide) hrd_420 hup_421).1 o (hTo.at 1 rfl).1 5 (hTo.at 1 rfl).2 0 (by decide)).trans hk_401
      have hk_429 : rd f_419 o 1 = .int vt_343 := ((Fr.put (cs := [(5, 5)]) (a := o) (ci := 5) Fr.rf Ext.rf (hTo.at 1 rfl).2 (by decide) hrd_420 hup_421).1 o (hTo.at 1 rfl).1 5 (hTo.at 1 rfl).2 1 (by decide)).trans hk_402
      have hk_430 : rd f_419 o 2 = .int nu_344 := ((Fr.put (cs := [(5, 5)]) (a := o) (ci := 5) Fr.rf Ext.rf (hTo.at 1 rfl).2 (by decide) hrd_420 hup_421).1 o (hTo.at 1 rfl).1 5 (hTo.at 1 rfl).2 2 (by decide)).trans hk_403
      have hk_431 : rd f_419 o 3 = .int lo_345 := ((Fr.put (cs := [(5, 5)]) (a := o) (ci := 5) Fr.rf Ext.rf (hTo.at 1 rfl).2 (by decide) hrd_420 hup_421).1 o (hTo.at 1 rfl).1 5 (hTo.at 1 rfl).2 3 (by decide)).trans hk_404
      have hk_432 : rd f_419 o 4 = .int be_346 := ((Fr.put (cs := [(5, 5)]) (a := o) (ci := 5) Fr.rf Ext.rf (hTo.at 1 rfl).2 (by decide) hrd_420 hup_421).1 o (hTo.at 1 rfl).1 5 (hTo.at 1 rfl).2 4 (by decide)).trans hk_405
      have hOb0 := hOb0.put hrd_420 (by simp)
      have hEb0 := hEb0.tr hE1
      have htv_433 : rd f_419 o 6 = .null := ((hrd_420 o 6).trans (if_neg (fun h9 => absurd h9.2 (by decide)))).trans htv_414
      have htv_434 : rd f_419 o 7 = (rd f o 7) := ((hrd_420 o 7).trans (if_neg (fun h9 => absurd h9.2 (by decide)))).trans htv_415
      have htv_435 : rd f_419 o 5 = .null := (hrd_420 o 5).trans (if_pos ⟨rfl, rfl⟩)
      refine lv_aload_n hx hb dX2_readBuilt_93 rfl (lv_at hl 0 rfl) ?_
      refine T_get (ci := 2) (C := RX2) (T := TX2) (N := 6) (t := tI) hx hb hts inw_X2_readBuilt_2 hown hK hP hT 0 rfl rfl 2 (by decide) (hts (.fieldLink RX2 44 "VatHouse$Reader" "token" "I") (List.mem_of_getElem? (i := 4) (by exact rfl))) (fun _ h9 => h9) rfl dX2_readBuilt_94 (fun v_438 hv_436 hr_437 => ?_)
      obtain rfl : v_438 = .int tn_383 := hr_437.symm.trans hk_423
      refine lv_bipush (v := 13) hx hb dX2_readBuilt_97 (by decide) ?_
      refine lv_icmp_ne (tgt := 158) hx hb dX2_readBuilt_99 (by decide) (fun c_439 => ?_) (fun c_439 => ?_)
      · exact K_vZ hx hb hr hlocks hP hD hK hS hT hE ⟨rfl, hF, _, _, _, _, _, _, _, _, _, hk_422, hk_423, hk_424, hk_425, hk_426, hk_429, hk_430, hk_431, hk_432, trivial, trivial, trivial, trivial, hrel_396, trivial, trivial, trivial, trivial, hO5, htv_434, ⟨qn_407, (tset Tn_408 1 k (thd (k + 1) qn_407.2.1)), an_409, Or.inr (Or.inr (Or.inl ⟨c_334, _, hev_410, Or.inl ⟨fun h9 => c_439 (hrq_411.K.trans h9), rfl⟩⟩)), hrq_411, (by first | exact hsg_412 | (simp only [gpa_nd, gnu_nd, gpl_nd, gte_nd, gob_nd, grf_nd]; exact hsg_412)), fun h9 => ⟨PUb.one (hpk_416 h9) (by first | exact hqk | (rw [gnu_nd]; exact hqk) | (rw [gte_nd]; exact hqk)) (fun b9 hb9 => (hEc_373 b9 hb9).1) (hEc_373 o (hT0.at 1 rfl).1).1 hEb0 hOb0 htv_435 htv_433 hT2 hqk (fun g9 => Or.inr (Or.inr (Or.inl ⟨c_334, _, g9, Or.inl ⟨fun h8 => c_439 (hrq_411.K.trans h8), rfl⟩⟩))), ⟨fun h8 => by rw [c_334] at h8; exact absurd h8 (by decide), fun _ => hex_365.2 (ev2_0 hev_410 h9)⟩⟩⟩⟩ (⟨_, _, hk_424, hk_426, by omega⟩) (by first | exact Nat.le_of_ble_eq_true rfl | (simp only [rm_X2_readBuiltT]; omega) | omega) (by first | exact Nat.le_of_ble_eq_true rfl | (simp only [rm_X2_readBuiltT]; omega) | omega) (by first | exact Nat.le_of_ble_eq_true rfl | (simp only [rm_X2_readBuiltT]; omega) | omega) dX2_readBuilt_158
      · refine lv_aload_n hx hb dX2_readBuilt_102 rfl (lv_at hl 0 rfl) ?_
        refine lv_bipush (v := 13) hx hb dX2_readBuilt_103 (by decide) ?_
        have hTo := hT
        refine K_V ⟨hx, hb, hml, hown, hts⟩ (t_X2_pass l dC dI sa hlt g _ _ tt ln M qn_407 h0 13 tok ka sta vaa ax_382 tn_383 fa_384 pw_385 zz _ (hT.sub [0, 2, 3, 4, 5] rfl)  hk_422 hk_423 hk_424 hk_425 hk_427 ((hF.1 h0 (hT0.at 0 rfl).1 2 (hT0.at 0 rfl).2 0 (by decide)).trans h_tok) ((hF.1 tok (hT0.at 2 rfl).1 6 (hT0.at 2 rfl).2 4 (by decide)).trans h_ka) ((hF.1 tok (hT0.at 2 rfl).1 6 (hT0.at 2 rfl).2 5 (by decide)).trans h_sta) ((hF.1 tok (hT0.at 2 rfl).1 6 (hT0.at 2 rfl).2 6 (by decide)).trans h_vaa) hzz (hTK.go (hF.2 ka (hT0.at 3 rfl).1 0 _ _ (hT0.at 3 rfl).2 (by decide)) (hF.2 sta (hT0.at 4 rfl).1 0 _ _ (hT0.at 4 rfl).2 (by decide)) (hF.2 vaa (hT0.at 5 rfl).1 0 _ _ (hT0.at 5 rfl).2 (by decide))) hrq_411 (Or.inl (by decide))) (cwV 1 hts gX2_readBuilt_X2_pass rfl rfl rfl (by decide +kernel) ⟨(by first | exact Nat.le_of_ble_eq_true rfl | (simp only [rm_X2_pass, rm_X2_readBuiltT]; omega)), (by first | exact Nat.le_of_ble_eq_true rfl | (simp only [rm_X2_pass, rm_X2_readBuiltT]; omega))⟩) hP hD hK hS hA hev hT 0 2 rfl rfl rfl rfl hl.1 rfl (Nat.le_of_ble_eq_true rfl) dX2_readBuilt_105 ⟨(by first | exact Nat.le_of_ble_eq_true rfl | (simp only [rm_X2_readBuiltT]; omega) | omega), (by first | exact Nat.le_of_ble_eq_true rfl | (simp only [rm_X2_readBuiltT]; omega) | omega)⟩ (fun r L_440 f_441 H locs hw_442 hP hD hS hT hE1 => ?_)
        have hEo := hE
        have hO5 := hO5.call hE (OF.fr hw_442.2.1 (by decide)) (by simp)
        have hF := Fr.call hF hE hw_442.2.1 (by decide)
        have hE := hE.tr hE1
        obtain ⟨rfl, hw_442⟩ := hw_442
        obtain ⟨hfr_443, ax_444, tn_445, fa_446, pw_447, hk_448, hk_449, hk_450, hk_451, hrel_452, hrel_453, hrel_454, hrel_455, hex_456⟩ := hw_442
        have hk_457 : rd f_441 h0 5 = .int sg_386 := (hfr_443.1 h0 (hTo.at 0 rfl).1 2 (hTo.at 0 rfl).2 5 (by decide)).trans hk_426
        have hk_458 : rd f_441 tok 3 = .int zz := (hfr_443.1 tok (hTo.at 2 rfl).1 6 (hTo.at 2 rfl).2 3 (by decide)).trans hk_427
        have hk_459 : rd f_441 o 0 = .int wd := (hfr_443.1 o (hTo.at 1 rfl).1 5 (hTo.at 1 rfl).2 0 (by decide)).trans hk_428
        have hk_460 : rd f_441 o 1 = .int vt_343 := (hfr_443.1 o (hTo.at 1 rfl).1 5 (hTo.at 1 rfl).2 1 (by decide)).trans hk_429
        have hk_461 : rd f_441 o 2 = .int nu_344 := (hfr_443.1 o (hTo.at 1 rfl).1 5 (hTo.at 1 rfl).2 2 (by decide)).trans hk_430
        have hk_462 : rd f_441 o 3 = .int lo_345 := (hfr_443.1 o (hTo.at 1 rfl).1 5 (hTo.at 1 rfl).2 3 (by decide)).trans hk_431
        have hk_463 : rd f_441 o 4 = .int be_346 := (hfr_443.1 o (hTo.at 1 rfl).1 5 (hTo.at 1 rfl).2 4 (by decide)).trans hk_432
        have hOb0 := hOb0.call hEb0 (OF.fr hfr_443 (by decide)) (by simp)
        have hEb0 := hEb0.tr hE1
        have htv_464 : rd f_441 o 6 = .null := (hfr_443.1 o (hTo.at 1 rfl).1 5 (hTo.at 1 rfl).2 6 (by decide)).trans htv_433
        have htv_465 : rd f_441 o 7 = (rd f o 7) := (hfr_443.1 o (hTo.at 1 rfl).1 5 (hTo.at 1 rfl).2 7 (by decide)).trans htv_434
        have htv_466 : rd f_441 o 5 = .null := (hfr_443.1 o (hTo.at 1 rfl).1 5 (hTo.at 1 rfl).2 5 (by decide)).trans htv_435
        have hq_467 : pot fa_446 sg_386 ≤ pot fa_384 sg_386 := pot_le (fun h9 => (hrel_454 h9).1)
        have hrq_468 := hex_456
        refine W.eq (g2 := F0 m 108 ls []) rfl ?_
        refine lv_aload_n hx hb dX2_readBuilt_108 rfl (lv_at hl 1 rfl) ?_
        refine lv_aload_n hx hb dX2_readBuilt_109 rfl (lv_at hl 0 rfl) ?_
        refine lv_iload_n hx hb dX2_readBuilt_110 rfl (lv_at hl 2 rfl) ?_
        have hEw_469 := hEb0
        have hOw_470 := hOb0
        have hEc_471 := hE
        have hTo := hT
        refine K_VZ ⟨hx, hb, hml, hown, hts⟩ (t_X2_readBlockT l dC dI sa hlt g _ _ j d (pot fa_446 sg_386) tt ln M (gpa (Kp tt ln) (nq tt ln) 13 qn_407) (tset Tn_408 1 k (thd (k + 1) qn_407.2.1)) an_409 h0 dep tok ka sta vaa ax_444 tn_445 fa_446 pw_447 sg_386 zz _ (hT.sub [0, 2, 3, 4, 5] rfl)  hk_448 hk_449 hk_450 hk_451 hk_457 hk_458 ((hF.1 h0 (hT0.at 0 rfl).1 2 (hT0.at 0 rfl).2 0 (by decide)).trans h_tok) ((hF.1 tok (hT0.at 2 rfl).1 6 (hT0.at 2 rfl).2 4 (by decide)).trans h_ka) ((hF.1 tok (hT0.at 2 rfl).1 6 (hT0.at 2 rfl).2 5 (by decide)).trans h_sta) ((hF.1 tok (hT0.at 2 rfl).1 6 (hT0.at 2 rfl).2 6 (by decide)).trans h_vaa) hd hdj rfl hrel_396 hzz (hTK.go (hF.2 ka (hT0.at 3 rfl).1 0 _ _ (hT0.at 3 rfl).2 (by decide)) (hF.2 sta (hT0.at 4 rfl).1 0 _ _ (hT0.at 4 rfl).2 (by decide)) (hF.2 vaa (hT0.at 5 rfl).1 0 _ _ (hT0.at 5 rfl).2 (by decide))) hrq_468 (by first | exact hsg_412 | (simp only [gpa_nd, gnu_nd, gpl_nd, gte_nd, gob_nd, grf_nd]; exact hsg_412)) IHR) (cwV 1 hts gX2_readBuilt_X2_readBlock rfl rfl rfl (by decide +kernel) ⟨(by first | exact Nat.le_of_ble_eq_true rfl | (simp only [rm_X2_readBlockT, rm_X2_readBuiltT]; omega)), (by first | exact Nat.le_of_ble_eq_true rfl | (simp only [rm_X2_readBlockT, rm_X2_readBuiltT]; omega))⟩) hP hD hK hS hA hev hT 0 2 rfl rfl rfl rfl hl.1 rfl (Nat.le_of_ble_eq_true rfl) dX2_readBuilt_111 ⟨(by first | exact Nat.le_of_ble_eq_true rfl | (simp only [rm_X2_readBuiltT]; omega) | omega), (by first | exact Nat.le_of_ble_eq_true rfl | (simp only [rm_X2_readBuiltT]; omega) | omega)⟩ (fun r L_472 f_473 n_475 H locs hw_474 hn_476 hP hD hS hT hE1 => ?_)
        have hEo := hE
        have hF := Fr.call hF hE hw_474.2.1 (by decide)
        have hE := hE.tr hE1
        obtain ⟨⟨v_477, rfl, hv9⟩, hw_474⟩ := hw_474
        rcases hv9 with rfl | ⟨b_478, rfl, hb9⟩
        · obtain ⟨hfr_479, ax_480, tn_481, fa_482, pw_483, sg_484, hk_485, hk_486, hk_487, hk_488, hk_489, hrel_490, hrel_491, hrel_492, hrel_493, hrel_494, hex_495⟩ := hw_474
          obtain ⟨hof_496, hex_497⟩ := hex_495
          have hO5 := hO5.call hEo hof_496 (by simp)
          have hk_498 : rd f_473 tok 3 = .int zz := (hfr_479.1 tok (hTo.at 2 rfl).1 6 (hTo.at 2 rfl).2 3 (by decide)).trans hk_458
          have hk_499 : rd f_473 o 0 = .int wd := (hfr_479.1 o (hTo.at 1 rfl).1 5 (hTo.at 1 rfl).2 0 (by decide)).trans hk_459
          have hk_500 : rd f_473 o 1 = .int vt_343 := (hof_496 o (hTo.at 1 rfl).1 (hTo.at 1 rfl).2 (by simp) 1).trans hk_460
          have hk_501 : rd f_473 o 2 = .int nu_344 := (hof_496 o (hTo.at 1 rfl).1 (hTo.at 1 rfl).2 (by simp) 2).trans hk_461
          have hk_502 : rd f_473 o 3 = .int lo_345 := (hof_496 o (hTo.at 1 rfl).1 (hTo.at 1 rfl).2 (by simp) 3).trans hk_462
          have hk_503 : rd f_473 o 4 = .int be_346 := (hof_496 o (hTo.at 1 rfl).1 (hTo.at 1 rfl).2 (by simp) 4).trans hk_463
          have hq_504 : n_475 + pot fa_482 sg_484 ≤ pot fa_446 sg_386 := by
            obtain ⟨a9, b9, g1, g2, g3⟩ := hn_476
            cases g1.symm.trans hk_487
            cases g2.symm.trans hk_489
            exact g3
          have hOb0 := hOb0.call hEb0 hof_496 (by simp)
          have hEb0 := hEb0.tr hE1
          have htv_512 : rd f_473 o 6 = .null := (hof_496 o (hTo.at 1 rfl).1 (hTo.at 1 rfl).2 (by simp) 6).trans htv_464
          have htv_513 : rd f_473 o 7 = (rd f o 7) := (hof_496 o (hTo.at 1 rfl).1 (hTo.at 1 rfl).2 (by simp) 7).trans htv_465
          have htv_514 : rd f_473 o 5 = .null := (hof_496 o (hTo.at 1 rfl).1 (hTo.at 1 rfl).2 (by simp) 5).trans htv_466
          have hE9 := hE1
          obtain ⟨qn_505, Tn_506, an_507, hev_508, hrq_509, hsg_510, hpk_511⟩ := hex_497
          have hpk_515 : qn_505.2.2.1 = 0 → PB (Kp tt ln) (Vp tt ln) (nq tt ln) 2 d (gpa (Kp tt ln) (nq tt ln) 13 qn_407) qn_505 (tset Tn_408 1 k (thd (k + 1) qn_407.2.1)) Tn_506 an_409 an_507 L_440 L_472 f_473 (.null) := fun h9 => by
            obtain ⟨v9, e9, g9⟩ := hpk_511 h9
            cases e9
            exact g9
          have hEb1 : Ext L_472 f_473 L_472 f_473 := Ext.rf
          have hOb1 : OF 5 [o] L_472 f_473 f_473 := OF.rf
          have hO9__516 := hof_496
          have hE9__517 := hE9
          refine W.eq (g2 := F0 m 114 ls [.null, .ref o]) rfl ?_
          have hTo := hT
          refine T_put (ci := 5) (v := .null) (ty := .object "VatHouse$Step") (t := (2, 0, 5, 0)) (C := RX5) (T := TX5) (N := 8) hx hb hts inw_X2_readBuilt_5 tyX5 tyX5_ok nmX5 hown hK hP hD hS hT 1 rfl rfl 6 (by decide) (hts (.fieldLink RX2 91 "VatHouse$Step" "other" "LVatHouse$Step;") (List.mem_of_getElem? (i := 5) (by exact rfl))) (fun _ h9 => h9) rfl (tyX5_ok 6 (by decide)) rfl rfl rfl (Or.inl rfl) dX2_readBuilt_114 (fun f_518 H locs hP hD hS hT hE1 hrd_519 hup_520 => ?_)
          have hO5 := hO5.put hrd_519 (by simp)
          have hF := Fr.put (a := o) (ci := 5) hF hE ((hE1 o (hT.at 1 rfl).1).2.symm.trans (hT.at 1 rfl).2) (by decide) hrd_519 hup_520
          have hE := hE.tr hE1
          have hk_521 : rd f_518 h0 1 = .int ax_480 := ((Fr.put (cs := [(5, 6)]) (a := o) (ci := 5) Fr.rf Ext.rf (hTo.at 1 rfl).2 (by decide) hrd_519 hup_520).1 h0 (hTo.at 0 rfl).1 2 (hTo.at 0 rfl).2 1 (by decide)).trans hk_485
          have hk_522 : rd f_518 h0 2 = .int tn_481 := ((Fr.put (cs := [(5, 6)]) (a := o) (ci := 5) Fr.rf Ext.rf (hTo.at 1 rfl).2 (by decide) hrd_519 hup_520).1 h0 (hTo.at 0 rfl).1 2 (hTo.at 0 rfl).2 2 (by decide)).trans hk_486
          have hk_523 : rd f_518 h0 3 = .int fa_482 := ((Fr.put (cs := [(5, 6)]) (a := o) (ci := 5) Fr.rf Ext.rf (hTo.at 1 rfl).2 (by decide) hrd_519 hup_520).1 h0 (hTo.at 0 rfl).1 2 (hTo.at 0 rfl).2 3 (by decide)).trans hk_487
          have hk_524 : rd f_518 h0 4 = .int pw_483 := ((Fr.put (cs := [(5, 6)]) (a := o) (ci := 5) Fr.rf Ext.rf (hTo.at 1 rfl).2 (by decide) hrd_519 hup_520).1 h0 (hTo.at 0 rfl).1 2 (hTo.at 0 rfl).2 4 (by decide)).trans hk_488
          have hk_525 : rd f_518 h0 5 = .int sg_484 := ((Fr.put (cs := [(5, 6)]) (a := o) (ci := 5) Fr.rf Ext.rf (hTo.at 1 rfl).2 (by decide) hrd_519 hup_520).1 h0 (hTo.at 0 rfl).1 2 (hTo.at 0 rfl).2 5 (by decide)).trans hk_489
          have hk_526 : rd f_518 tok 3 = .int zz := ((Fr.put (cs := [(5, 6)]) (a := o) (ci := 5) Fr.rf Ext.rf (hTo.at 1 rfl).2 (by decide) hrd_519 hup_520).1 tok (hTo.at 2 rfl).1 6 (hTo.at 2 rfl).2 3 (by decide)).trans hk_498
          have hk_527 : rd f_518 o 0 = .int wd := ((Fr.put (cs := [(5, 6)]) (a := o) (ci := 5) Fr.rf Ext.rf (hTo.at 1 rfl).2 (by decide) hrd_519 hup_520).1 o (hTo.at 1 rfl).1 5 (hTo.at 1 rfl).2 0 (by decide)).trans hk_499
          have hk_528 : rd f_518 o 1 = .int vt_343 := ((Fr.put (cs := [(5, 6)]) (a := o) (ci := 5) Fr.rf Ext.rf (hTo.at 1 rfl).2 (by decide) hrd_519 hup_520).1 o (hTo.at 1 rfl).1 5 (hTo.at 1 rfl).2 1 (by decide)).trans hk_500
          have hk_529 : rd f_518 o 2 = .int nu_344 := ((Fr.put (cs := [(5, 6)]) (a := o) (ci := 5) Fr.rf Ext.rf (hTo.at 1 rfl).2 (by decide) hrd_519 hup_520).1 o (hTo.at 1 rfl).1 5 (hTo.at 1 rfl).2 2 (by decide)).trans hk_501
          have hk_530 : rd f_518 o 3 = .int lo_345 := ((Fr.put (cs := [(5, 6)]) (a := o) (ci := 5) Fr.rf Ext.rf (hTo.at 1 rfl).2 (by decide) hrd_519 hup_520).1 o (hTo.at 1 rfl).1 5 (hTo.at 1 rfl).2 3 (by decide)).trans hk_502
          have hk_531 : rd f_518 o 4 = .int be_346 := ((Fr.put (cs := [(5, 6)]) (a := o) (ci := 5) Fr.rf Ext.rf (hTo.at 1 rfl).2 (by decide) hrd_519 hup_520).1 o (hTo.at 1 rfl).1 5 (hTo.at 1 rfl).2 4 (by decide)).trans hk_503
          have hOb0 := hOb0.put hrd_519 (by simp)
          have hEb0 := hEb0.tr hE1
          have hOb1 := hOb1.put hrd_519 (by simp)
          have hEb1 := hEb1.tr hE1
          have htv_533 : rd f_518 o 7 = (rd f o 7) := ((hrd_519 o 7).trans (if_neg (fun h9 => absurd h9.2 (by decide)))).trans htv_513
          have htv_534 : rd f_518 o 5 = .null := ((hrd_519 o 5).trans (if_neg (fun h9 => absurd h9.2 (by decide)))).trans htv_514
          have htv_535 : rd f_518 o 6 = .null := (hrd_519 o 6).trans (if_pos ⟨rfl, rfl⟩)
          refine lv_goto (tgt := 158) hx hb dX2_readBuilt_117 (by decide) ?_
          exact K_vZ hx hb hr hlocks hP hD hK hS hT hE ⟨rfl, hF, _, _, _, _, _, _, _, _, _, hk_521, hk_522, hk_523, hk_524, hk_525, hk_528, hk_529, hk_530, hk_531, trivial, trivial, trivial, trivial, hrel_494, trivial, trivial, trivial, trivial, hO5, htv_533, ⟨qn_505, (tset Tn_506 2 k (thd qn_407.2.1 qn_505.2.1)), an_507, Or.inr (Or.inr (Or.inl ⟨c_334, _, hev_410, Or.inr ⟨hrq_411.K.symm.trans c_439, hev_508⟩⟩)), hrq_509, (by first | exact hsg_510 | (simp only [gpa_nd, gnu_nd, gpl_nd, gte_nd, gob_nd, grf_nd]; exact hsg_510)), fun h9 => ⟨PUb.two hpk_416 (hpk_515 h9) h9 (by first | exact hqk | (rw [gnu_nd]; exact hqk) | (rw [gte_nd]; exact hqk)) (fun b9 hb9 => (hEc_373 b9 hb9).1) (hEc_373 o (hT0.at 1 rfl).1).1 hEw_469 hOw_470 hE9__517 hO9__516 hEb1 hOb1 (fun b9 hb9 => (hE9__418 b9 hb9).1) htv_534 htv_535 hqk (fun g9 g8 => Or.inr (Or.inr (Or.inl ⟨c_334, _, g9, Or.inr ⟨hrq_411.K.symm.trans c_439, _, g8, rfl⟩⟩))), ⟨fun h8 => by rw [c_334] at h8; exact absurd h8 (by decide), fun _ => hex_365.2 (ev2_0 hev_410 (gpa_ok (ev2_0 hev_508 h9)).1)⟩⟩⟩⟩ (⟨_, _, hk_523, hk_525, by omega⟩) (by first | exact Nat.le_of_ble_eq_true rfl | (simp only [rm_X2_readBuiltT]; omega) | omega) (by first | exact Nat.le_of_ble_eq_true rfl | (simp only [rm_X2_readBuiltT]; omega) | omega) (by first | exact Nat.le_of_ble_eq_true rfl | (simp only [rm_X2_readBuiltT]; omega) | omega) dX2_readBuilt_158
        · have hT := hT.add hb9
          obtain ⟨hfr_536, ax_537, tn_538, fa_539, pw_540, sg_541, hk_542, hk_543, hk_544, hk_545, hk_546, hrel_547, hrel_548, hrel_549, hrel_550, hrel_551, hex_552⟩ := hw_474
          obtain ⟨hof_553, hex_554⟩ := hex_552
          have hO5 := hO5.call hEo hof_553 (by simp)
          have hk_555 : rd f_473 tok 3 = .int zz := (hfr_536.1 tok (hTo.at 2 rfl).1 6 (hTo.at 2 rfl).2 3 (by decide)).trans hk_458
          have hk_556 : rd f_473 o 0 = .int wd := (hfr_536.1 o (hTo.at 1 rfl).1 5 (hTo.at 1 rfl).2 0 (by decide)).trans hk_459
          have hk_557 : rd f_473 o 1 = .int vt_343 := (hof_553 o (hTo.at 1 rfl).1 (hTo.at 1 rfl).2 (by simp) 1).trans hk_460
          have hk_558 : rd f_473 o 2 = .int nu_344 := (hof_553 o (hTo.at 1 rfl).1 (hTo.at 1 rfl).2 (by simp) 2).trans hk_461
          have hk_559 : rd f_473 o 3 = .int lo_345 := (hof_553 o (hTo.at 1 rfl).1 (hTo.at 1 rfl).2 (by simp) 3).trans hk_462
          have hk_560 : rd f_473 o 4 = .int be_346 := (hof_553 o (hTo.at 1 rfl).1 (hTo.at 1 rfl).2 (by simp) 4).trans hk_463
          have hq_561 : n_475 + pot fa_539 sg_541 ≤ pot fa_446 sg_386 := by
            obtain ⟨a9, b9, g1, g2, g3⟩ := hn_476
            cases g1.symm.trans hk_544
            cases g2.symm.trans hk_546
            exact g3
          have hOb0 := hOb0.call hEb0 hof_553 (by simp)
          have hEb0 := hEb0.tr hE1
          have htv_569 : rd f_473 o 6 = .null := (hof_553 o (hTo.at 1 rfl).1 (hTo.at 1 rfl).2 (by simp) 6).trans htv_464
          have htv_570 : rd f_473 o 7 = (rd f o 7) := (hof_553 o (hTo.at 1 rfl).1 (hTo.at 1 rfl).2 (by simp) 7).trans htv_465
          have htv_571 : rd f_473 o 5 = .null := (hof_553 o (hTo.at 1 rfl).1 (hTo.at 1 rfl).2 (by simp) 5).trans htv_466
          have hE9 := hE1
          obtain ⟨qn_562, Tn_563, an_564, hev_565, hrq_566, hsg_567, hpk_568⟩ := hex_554
          have hpk_572 : qn_562.2.2.1 = 0 → PB (Kp tt ln) (Vp tt ln) (nq tt ln) 2 d (gpa (Kp tt ln) (nq tt ln) 13 qn_407) qn_562 (tset Tn_408 1 k (thd (k + 1) qn_407.2.1)) Tn_563 an_409 an_564 L_440 L_472 f_473 (.ref b_478) := fun h9 => by
            obtain ⟨v9, e9, g9⟩ := hpk_568 h9
            cases e9
            exact g9
          have hEb1 : Ext L_472 f_473 L_472 f_473 := Ext.rf
          have hOb1 : OF 5 [o] L_472 f_473 f_473 := OF.rf
          have hO9__573 := hof_553
          have hE9__574 := hE9
          refine W.eq (g2 := F0 m 114 ls [.ref b_478, .ref o]) rfl ?_
          have hTo := hT
          refine T_put (ci := 5) (v := .ref b_478) (ty := .object "VatHouse$Step") (t := (2, 0, 5, 0)) (C := RX5) (T := TX5) (N := 8) hx hb hts inw_X2_readBuilt_5 tyX5 tyX5_ok nmX5 hown hK hP hD hS hT 2 rfl rfl 6 (by decide) (hts (.fieldLink RX2 91 "VatHouse$Step" "other" "LVatHouse$Step;") (List.mem_of_getElem? (i := 5) (by exact rfl))) (fun _ h9 => h9) rfl (tyX5_ok 6 (by decide)) rfl rfl rfl (Or.inr ⟨_, rfl, hT.at 0 rfl⟩) dX2_readBuilt_114 (fun f_575 H locs hP hD hS hT hE1 hrd_576 hup_577 => ?_)
          have hO5 := hO5.put hrd_576 (by simp)
          have hF := Fr.put (a := o) (ci := 5) hF hE ((hE1 o (hT.at 2 rfl).1).2.symm.trans (hT.at 2 rfl).2) (by decide) hrd_576 hup_577
          have hE := hE.tr hE1
          have hk_578 : rd f_575 h0 1 = .int ax_537 := ((Fr.put (cs := [(5, 6)]) (a := o) (ci := 5) Fr.rf Ext.rf (hTo.at 2 rfl).2 (by decide) hrd_576 hup_577).1 h0 (hTo.at 1 rfl).1 2 (hTo.at 1 rfl).2 1 (by decide)).trans hk_542
          have hk_579 : rd f_575 h0 2 = .int tn_538 := ((Fr.put (cs := [(5, 6)]) (a := o) (ci := 5) Fr.rf Ext.rf (hTo.at 2 rfl).2 (by decide) hrd_576 hup_577).1 h0 (hTo.at 1 rfl).1 2 (hTo.at 1 rfl).2 2 (by decide)).trans hk_543
          have hk_580 : rd f_575 h0 3 = .int fa_539 := ((Fr.put (cs := [(5, 6)]) (a := o) (ci := 5) Fr.rf Ext.rf (hTo.at 2 rfl).2 (by decide) hrd_576 hup_577).1 h0 (hTo.at 1 rfl).1 2 (hTo.at 1 rfl).2 3 (by decide)).trans hk_544
          have hk_581 : rd f_575 h0 4 = .int pw_540 := ((Fr.put (cs := [(5, 6)]) (a := o) (ci := 5) Fr.rf Ext.rf (hTo.at 2 rfl).2 (by decide) hrd_576 hup_577).1 h0 (hTo.at 1 rfl).1 2 (hTo.at 1 rfl).2 4 (by decide)).trans hk_545
          have hk_582 : rd f_575 h0 5 = .int sg_541 := ((Fr.put (cs := [(5, 6)]) (a := o) (ci := 5) Fr.rf Ext.rf (hTo.at 2 rfl).2 (by decide) hrd_576 hup_577).1 h0 (hTo.at 1 rfl).1 2 (hTo.at 1 rfl).2 5 (by decide)).trans hk_546
          have hk_583 : rd f_575 tok 3 = .int zz := ((Fr.put (cs := [(5, 6)]) (a := o) (ci := 5) Fr.rf Ext.rf (hTo.at 2 rfl).2 (by decide) hrd_576 hup_577).1 tok (hTo.at 3 rfl).1 6 (hTo.at 3 rfl).2 3 (by decide)).trans hk_555
          have hk_584 : rd f_575 o 0 = .int wd := ((Fr.put (cs := [(5, 6)]) (a := o) (ci := 5) Fr.rf Ext.rf (hTo.at 2 rfl).2 (by decide) hrd_576 hup_577).1 o (hTo.at 2 rfl).1 5 (hTo.at 2 rfl).2 0 (by decide)).trans hk_556
          have hk_585 : rd f_575 o 1 = .int vt_343 := ((Fr.put (cs := [(5, 6)]) (a := o) (ci := 5) Fr.rf Ext.rf (hTo.at 2 rfl).2 (by decide) hrd_576 hup_577).1 o (hTo.at 2 rfl).1 5 (hTo.at 2 rfl).2 1 (by decide)).trans hk_557
          have hk_586 : rd f_575 o 2 = .int nu_344 := ((Fr.put (cs := [(5, 6)]) (a := o) (ci := 5) Fr.rf Ext.rf (hTo.at 2 rfl).2 (by decide) hrd_576 hup_577).1 o (hTo.at 2 rfl).1 5 (hTo.at 2 rfl).2 2 (by decide)).trans hk_558
          have hk_587 : rd f_575 o 3 = .int lo_345 := ((Fr.put (cs := [(5, 6)]) (a := o) (ci := 5) Fr.rf Ext.rf (hTo.at 2 rfl).2 (by decide) hrd_576 hup_577).1 o (hTo.at 2 rfl).1 5 (hTo.at 2 rfl).2 3 (by decide)).trans hk_559
          have hk_588 : rd f_575 o 4 = .int be_346 := ((Fr.put (cs := [(5, 6)]) (a := o) (ci := 5) Fr.rf Ext.rf (hTo.at 2 rfl).2 (by decide) hrd_576 hup_577).1 o (hTo.at 2 rfl).1 5 (hTo.at 2 rfl).2 4 (by decide)).trans hk_560
          have hOb0 := hOb0.put hrd_576 (by simp)
          have hEb0 := hEb0.tr hE1
          have hOb1 := hOb1.put hrd_576 (by simp)
          have hEb1 := hEb1.tr hE1
          have htv_590 : rd f_575 o 7 = (rd f o 7) := ((hrd_576 o 7).trans (if_neg (fun h9 => absurd h9.2 (by decide)))).trans htv_570
          have htv_591 : rd f_575 o 5 = .null := ((hrd_576 o 5).trans (if_neg (fun h9 => absurd h9.2 (by decide)))).trans htv_571
          have htv_592 : rd f_575 o 6 = .ref b_478 := (hrd_576 o 6).trans (if_pos ⟨rfl, rfl⟩)
          refine lv_goto (tgt := 158) hx hb dX2_readBuilt_117 (by decide) ?_
          exact K_vZ hx hb hr hlocks hP hD hK hS hT hE ⟨rfl, hF, _, _, _, _, _, _, _, _, _, hk_578, hk_579, hk_580, hk_581, hk_582, hk_585, hk_586, hk_587, hk_588, trivial, trivial, trivial, trivial, hrel_551, trivial, trivial, trivial, trivial, hO5, htv_590, ⟨qn_562, (tset Tn_563 2 k (thd qn_407.2.1 qn_562.2.1)), an_564, Or.inr (Or.inr (Or.inl ⟨c_334, _, hev_410, Or.inr ⟨hrq_411.K.symm.trans c_439, hev_565⟩⟩)), hrq_566, (by first | exact hsg_567 | (simp only [gpa_nd, gnu_nd, gpl_nd, gte_nd, gob_nd, grf_nd]; exact hsg_567)), fun h9 => ⟨PUb.two hpk_416 (hpk_572 h9) h9 (by first | exact hqk | (rw [gnu_nd]; exact hqk) | (rw [gte_nd]; exact hqk)) (fun b9 hb9 => (hEc_373 b9 hb9).1) (hEc_373 o (hT0.at 1 rfl).1).1 hEw_469 hOw_470 hE9__574 hO9__573 hEb1 hOb1 (fun b9 hb9 => (hE9__418 b9 hb9).1) htv_591 htv_592 hqk (fun g9 g8 => Or.inr (Or.inr (Or.inl ⟨c_334, _, g9, Or.inr ⟨hrq_411.K.symm.trans c_439, _, g8, rfl⟩⟩))), ⟨fun h8 => by rw [c_334] at h8; exact absurd h8 (by decide), fun _ => hex_365.2 (ev2_0 hev_410 (gpa_ok (ev2_0 hev_565 h9)).1)⟩⟩⟩⟩ (⟨_, _, hk_580, hk_582, by omega⟩) (by first | exact Nat.le_of_ble_eq_true rfl | (simp only [rm_X2_readBuiltT]; omega) | omega) (by first | exact Nat.le_of_ble_eq_true rfl | (simp only [rm_X2_readBuiltT]; omega) | omega) (by first | exact Nat.le_of_ble_eq_true rfl | (simp only [rm_X2_readBuiltT]; omega) | omega) dX2_readBuilt_158
    · have hT := hT.add hb9
      obtain ⟨hfr_593, ax_594, tn_595, fa_596, pw_597, sg_598, hk_599, hk_600, hk_601, hk_602, hk_603, hrel_604, hrel_605, hrel_606, hrel_607, hrel_608, hex_609⟩ := hw_376
      obtain ⟨hof_610, hex_611⟩ := hex_609
      have hO5 := hO5.call hEo hof_610 (by simp)
      have hk_612 : rd f_375 tok 3 = .int zz := (hfr_593.1 tok (hTo.at 2 rfl).1 6 (hTo.at 2 rfl).2 3 (by decide)).trans hk_367
      have hk_613 : rd f_375 o 0 = .int wd := (hfr_593.1 o (hTo.at 1 rfl).1 5 (hTo.at 1 rfl).2 0 (by decide)).trans hk_368
      have hk_614 : rd f_375 o 1 = .int vt_343 := (hof_610 o (hTo.at 1 rfl).1 (hTo.at 1 rfl).2 (by simp) 1).trans hk_351
      have hk_615 : rd f_375 o 2 = .int nu_344 := (hof_610 o (hTo.at 1 rfl).1 (hTo.at 1 rfl).2 (by simp) 2).trans hk_352
      have hk_616 : rd f_375 o 3 = .int lo_345 := (hof_610 o (hTo.at 1 rfl).1 (hTo.at 1 rfl).2 (by simp) 3).trans hk_353
      have hk_617 : rd f_375 o 4 = .int be_346 := (hof_610 o (hTo.at 1 rfl).1 (hTo.at 1 rfl).2 (by simp) 4).trans hk_354
      have hq_618 : n_377 + pot fa_596 sg_598 ≤ pot fa_341 sg := by
        obtain ⟨a9, b9, g1, g2, g3⟩ := hn_378
        cases g1.symm.trans hk_601
        cases g2.symm.trans hk_603
        exact g3
      have htv_626 : rd f_375 o 6 = .null := (hof_610 o (hTo.at 1 rfl).1 (hTo.at 1 rfl).2 (by simp) 6).trans htv_369
      have htv_627 : rd f_375 o 7 = (rd f o 7) := (hof_610 o (hTo.at 1 rfl).1 (hTo.at 1 rfl).2 (by simp) 7).trans htv_370
      have hE9 := hE1
      obtain ⟨qn_619, Tn_620, an_621, hev_622, hrq_623, hsg_624, hpk_625⟩ := hex_611
      have hpk_628 : qn_619.2.2.1 = 0 → PB (Kp tt ln) (Vp tt ln) (nq tt ln) 2 d (gte (Kp tt ln) (Vp tt ln) (nq tt ln) q) qn_619 T Tn_620 ad an_621 L_335 L_374 f_375 (.ref b_380) := fun h9 => by
        obtain ⟨v9, e9, g9⟩ := hpk_625 h9
        cases e9
        exact g9
      have hEb0 : Ext L_374 f_375 L_374 f_375 := Ext.rf
      have hOb0 : OF 5 [o] L_374 f_375 f_375 := OF.rf
      have hO9__629 := hof_610
      have hE9__630 := hE9
      refine W.eq (g2 := F0 m 90 ls [.ref b_380, .ref o]) rfl ?_
      have hTo := hT
      refine T_put (ci := 5) (v := .ref b_380) (ty := .object "VatHouse$Step") (t := (2, 0, 5, 0)) (C := RX5) (T := TX5) (N := 8) hx hb hts inw_X2_readBuilt_5 tyX5 tyX5_ok nmX5 hown hK hP hD hS hT 2 rfl rfl 5 (by decide) (hts (.fieldLink RX2 85 "VatHouse$Step" "block" "LVatHouse$Step;") (List.mem_of_getElem? (i := 3) (by exact rfl))) (fun _ h9 => h9) rfl (tyX5_ok 5 (by decide)) rfl rfl rfl (Or.inr ⟨_, rfl, hT.at 0 rfl⟩) dX2_readBuilt_90 (fun f_631 H locs hP hD hS hT hE1 hrd_632 hup_633 => ?_)
      have hO5 := hO5.put hrd_632 (by simp)
      have hF := Fr.put (a := o) (ci := 5) hF hE ((hE1 o (hT.at 2 rfl).1).2.symm.trans (hT.at 2 rfl).2) (by decide) hrd_632 hup_633
      have hE := hE.tr hE1
      have hk_634 : rd f_631 h0 1 = .int ax_594 := ((Fr.put (cs := [(5, 5)]) (a := o) (ci := 5) Fr.rf Ext.rf (hTo.at 2 rfl).2 (by decide) hrd_632 hup_633).1 h0 (hTo.at 1 rfl).1 2 (hTo.at 1 rfl).2 1 (by decide)).trans hk_599
      have hk_635 : rd f_631 h0 2 = .int tn_595 := ((Fr.put (cs := [(5, 5)]) (a := o) (ci := 5) Fr.rf Ext.rf (hTo.at 2 rfl).2 (by decide) hrd_632 hup_633).1 h0 (hTo.at 1 rfl).1 2 (hTo.at 1 rfl).2 2 (by decide)).trans hk_600
      have hk_636 : rd f_631 h0 3 = .int fa_596 := ((Fr.put (cs := [(5, 5)]) (a := o) (ci := 5) Fr.rf Ext.rf (hTo.at 2 rfl).2 (by decide) hrd_632 hup_633).1 h0 (hTo.at 1 rfl).1 2 (hTo.at 1 rfl).2 3 (by decide)).trans hk_601
      have hk_637 : rd f_631 h0 4 = .int pw_597 := ((Fr.put (cs := [(5, 5)]) (a := o) (ci := 5) Fr.rf Ext.rf (hTo.at 2 rfl).2 (by decide) hrd_632 hup_633).1 h0 (hTo.at 1 rfl).1 2 (hTo.at 1 rfl).2 4 (by decide)).trans hk_602
      have hk_638 : rd f_631 h0 5 = .int sg_598 := ((Fr.put (cs := [(5, 5)]) (a := o) (ci := 5) Fr.rf Ext.rf (hTo.at 2 rfl).2 (by decide) hrd_632 hup_633).1 h0 (hTo.at 1 rfl).1 2 (hTo.at 1 rfl).2 5 (by decide)).trans hk_603
      have hk_639 : rd f_631 tok 3 = .int zz := ((Fr.put (cs := [(5, 5)]) (a := o) (ci := 5) Fr.rf Ext.rf (hTo.at 2 rfl).2 (by decide) hrd_632 hup_633).1 tok (hTo.at 3 rfl).1 6 (hTo.at 3 rfl).2 3 (by decide)).trans hk_612
      have hk_640 : rd f_631 o 0 = .int wd := ((Fr.put (cs := [(5, 5)]) (a := o) (ci := 5) Fr.rf Ext.rf (hTo.at 2 rfl).2 (by decide) hrd_632 hup_633).1 o (hTo.at 2 rfl).1 5 (hTo.at 2 rfl).2 0 (by decide)).trans hk_613
      have hk_641 : rd f_631 o 1 = .int vt_343 := ((Fr.put (cs := [(5, 5)]) (a := o) (ci := 5) Fr.rf Ext.rf (hTo.at 2 rfl).2 (by decide) hrd_632 hup_633).1 o (hTo.at 2 rfl).1 5 (hTo.at 2 rfl).2 1 (by decide)).trans hk_614
      have hk_642 : rd f_631 o 2 = .int nu_344 := ((Fr.put (cs := [(5, 5)]) (a := o) (ci := 5) Fr.rf Ext.rf (hTo.at 2 rfl).2 (by decide) hrd_632 hup_633).1 o (hTo.at 2 rfl).1 5 (hTo.at 2 rfl).2 2 (by decide)).trans hk_615
      have hk_643 : rd f_631 o 3 = .int lo_345 := ((Fr.put (cs := [(5, 5)]) (a := o) (ci := 5) Fr.rf Ext.rf (hTo.at 2 rfl).2 (by decide) hrd_632 hup_633).1 o (hTo.at 2 rfl).1 5 (hTo.at 2 rfl).2 3 (by decide)).trans hk_616
      have hk_644 : rd f_631 o 4 = .int be_346 := ((Fr.put (cs := [(5, 5)]) (a := o) (ci := 5) Fr.rf Ext.rf (hTo.at 2 rfl).2 (by decide) hrd_632 hup_633).1 o (hTo.at 2 rfl).1 5 (hTo.at 2 rfl).2 4 (by decide)).trans hk_617
      have hOb0 := hOb0.put hrd_632 (by simp)
      have hEb0 := hEb0.tr hE1
      have htv_645 : rd f_631 o 6 = .null := ((hrd_632 o 6).trans (if_neg (fun h9 => absurd h9.2 (by decide)))).trans htv_626
      have htv_646 : rd f_631 o 7 = (rd f o 7) := ((hrd_632 o 7).trans (if_neg (fun h9 => absurd h9.2 (by decide)))).trans htv_627
      have htv_647 : rd f_631 o 5 = .ref b_380 := (hrd_632 o 5).trans (if_pos ⟨rfl, rfl⟩)
      refine lv_aload_n hx hb dX2_readBuilt_93 rfl (lv_at hl 0 rfl) ?_
      refine T_get (ci := 2) (C := RX2) (T := TX2) (N := 6) (t := tI) hx hb hts inw_X2_readBuilt_2 hown hK hP hT 1 rfl rfl 2 (by decide) (hts (.fieldLink RX2 44 "VatHouse$Reader" "token" "I") (List.mem_of_getElem? (i := 4) (by exact rfl))) (fun _ h9 => h9) rfl dX2_readBuilt_94 (fun v_650 hv_648 hr_649 => ?_)
      obtain rfl : v_650 = .int tn_595 := hr_649.symm.trans hk_635
      refine lv_bipush (v := 13) hx hb dX2_readBuilt_97 (by decide) ?_
      refine lv_icmp_ne (tgt := 158) hx hb dX2_readBuilt_99 (by decide) (fun c_651 => ?_) (fun c_651 => ?_)
      · exact K_vZ hx hb hr hlocks hP hD hK hS hT hE ⟨rfl, hF, _, _, _, _, _, _, _, _, _, hk_634, hk_635, hk_636, hk_637, hk_638, hk_641, hk_642, hk_643, hk_644, trivial, trivial, trivial, trivial, hrel_608, trivial, trivial, trivial, trivial, hO5, htv_646, ⟨qn_619, (tset Tn_620 1 k (thd (k + 1) qn_619.2.1)), an_621, Or.inr (Or.inr (Or.inl ⟨c_334, _, hev_622, Or.inl ⟨fun h9 => c_651 (hrq_623.K.trans h9), rfl⟩⟩)), hrq_623, (by first | exact hsg_624 | (simp only [gpa_nd, gnu_nd, gpl_nd, gte_nd, gob_nd, grf_nd]; exact hsg_624)), fun h9 => ⟨PUb.one (hpk_628 h9) (by first | exact hqk | (rw [gnu_nd]; exact hqk) | (rw [gte_nd]; exact hqk)) (fun b9 hb9 => (hEc_373 b9 hb9).1) (hEc_373 o (hT0.at 1 rfl).1).1 hEb0 hOb0 htv_647 htv_645 hT2 hqk (fun g9 => Or.inr (Or.inr (Or.inl ⟨c_334, _, g9, Or.inl ⟨fun h8 => c_651 (hrq_623.K.trans h8), rfl⟩⟩))), ⟨fun h8 => by rw [c_334] at h8; exact absurd h8 (by decide), fun _ => hex_365.2 (ev2_0 hev_622 h9)⟩⟩⟩⟩ (⟨_, _, hk_636, hk_638, by omega⟩) (by first | exact Nat.le_of_ble_eq_true rfl | (simp only [rm_X2_readBuiltT]; omega) | omega) (by first | exact Nat.le_of_ble_eq_true rfl | (simp only [rm_X2_readBuiltT]; omega) | omega) (by first | exact Nat.le_of_ble_eq_true rfl | (simp only [rm_X2_readBuiltT]; omega) | omega) dX2_readBuilt_158
      · refine lv_aload_n hx hb dX2_readBuilt_102 rfl (lv_at hl 0 rfl) ?_
        refine lv_bipush (v := 13) hx hb dX2_readBuilt_103 (by decide) ?_
        have hTo := hT
        refine K_V ⟨hx, hb, hml, hown, hts⟩ (t_X2_pass l dC dI sa hlt g _ _ tt ln M qn_619 h0 13 tok ka sta vaa ax_594 tn_595 fa_596 pw_597 zz _ (hT.sub [1, 3, 4, 5, 6] rfl)  hk_634 hk_635 hk_636 hk_637 hk_639 ((hF.1 h0 (hT0.at 0 rfl).1 2 (hT0.at 0 rfl).2 0 (by decide)).trans h_tok) ((hF.1 tok (hT0.at 2 rfl).1 6 (hT0.at 2 rfl).2 4 (by decide)).trans h_ka) ((hF.1 tok (hT0.at 2 rfl).1 6 (hT0.at 2 rfl).2 5 (by decide)).trans h_sta) ((hF.1 tok (hT0.at 2 rfl).1 6 (hT0.at 2 rfl).2 6 (by decide)).trans h_vaa) hzz (hTK.go (hF.2 ka (hT0.at 3 rfl).1 0 _ _ (hT0.at 3 rfl).2 (by decide)) (hF.2 sta (hT0.at 4 rfl).1 0 _ _ (hT0.at 4 rfl).2 (by decide)) (hF.2 vaa (hT0.at 5 rfl).1 0 _ _ (hT0.at 5 rfl).2 (by decide))) hrq_623 (Or.inl (by decide))) (cwV 1 hts gX2_readBuilt_X2_pass rfl rfl rfl (by decide +kernel) ⟨(by first | exact Nat.le_of_ble_eq_true rfl | (simp only [rm_X2_pass, rm_X2_readBuiltT]; omega)), (by first | exact Nat.le_of_ble_eq_true rfl | (simp only [rm_X2_pass, rm_X2_readBuiltT]; omega))⟩) hP hD hK hS hA hev hT 1 2 rfl rfl rfl rfl hl.1 rfl (Nat.le_of_ble_eq_true rfl) dX2_readBuilt_105 ⟨(by first | exact Nat.le_of_ble_eq_true rfl | (simp only [rm_X2_readBuiltT]; omega) | omega), (by first | exact Nat.le_of_ble_eq_true rfl | (simp only [rm_X2_readBuiltT]; omega) | omega)⟩ (fun r L_652 f_653 H locs hw_654 hP hD hS hT hE1 => ?_)
        have hEo := hE
        have hO5 := hO5.call hE (OF.fr hw_654.2.1 (by decide)) (by simp)
        have hF := Fr.call hF hE hw_654.2.1 (by decide)
        have hE := hE.tr hE1
        obtain ⟨rfl, hw_654⟩ := hw_654
        obtain ⟨hfr_655, ax_656, tn_657, fa_658, pw_659, hk_660, hk_661, hk_662, hk_663, hrel_664, hrel_665, hrel_666, hrel_667, hex_668⟩ := hw_654
        have hk_669 : rd f_653 h0 5 = .int sg_598 := (hfr_655.1 h0 (hTo.at 1 rfl).1 2 (hTo.at 1 rfl).2 5 (by decide)).trans hk_638
        have hk_670 : rd f_653 tok 3 = .int zz := (hfr_655.1 tok (hTo.at 3 rfl).1 6 (hTo.at 3 rfl).2 3 (by decide)).trans hk_639
        have hk_671 : rd f_653 o 0 = .int wd := (hfr_655.1 o (hTo.at 2 rfl).1 5 (hTo.at 2 rfl).2 0 (by decide)).trans hk_640
        have hk_672 : rd f_653 o 1 = .int vt_343 := (hfr_655.1 o (hTo.at 2 rfl).1 5 (hTo.at 2 rfl).2 1 (by decide)).trans hk_641
        have hk_673 : rd f_653 o 2 = .int nu_344 := (hfr_655.1 o (hTo.at 2 rfl).1 5 (hTo.at 2 rfl).2 2 (by decide)).trans hk_642
        have hk_674 : rd f_653 o 3 = .int lo_345 := (hfr_655.1 o (hTo.at 2 rfl).1 5 (hTo.at 2 rfl).2 3 (by decide)).trans hk_643
        have hk_675 : rd f_653 o 4 = .int be_346 := (hfr_655.1 o (hTo.at 2 rfl).1 5 (hTo.at 2 rfl).2 4 (by decide)).trans hk_644
        have hOb0 := hOb0.call hEb0 (OF.fr hfr_655 (by decide)) (by simp)
        have hEb0 := hEb0.tr hE1
        have htv_676 : rd f_653 o 6 = .null := (hfr_655.1 o (hTo.at 2 rfl).1 5 (hTo.at 2 rfl).2 6 (by decide)).trans htv_645
        have htv_677 : rd f_653 o 7 = (rd f o 7) := (hfr_655.1 o (hTo.at 2 rfl).1 5 (hTo.at 2 rfl).2 7 (by decide)).trans htv_646
        have htv_678 : rd f_653 o 5 = .ref b_380 := (hfr_655.1 o (hTo.at 2 rfl).1 5 (hTo.at 2 rfl).2 5 (by decide)).trans htv_647
        have hq_679 : pot fa_658 sg_598 ≤ pot fa_596 sg_598 := pot_le (fun h9 => (hrel_666 h9).1)
        have hrq_680 := hex_668
        refine W.eq (g2 := F0 m 108 ls []) rfl ?_
        refine lv_aload_n hx hb dX2_readBuilt_108 rfl (lv_at hl 1 rfl) ?_
        refine lv_aload_n hx hb dX2_readBuilt_109 rfl (lv_at hl 0 rfl) ?_
        refine lv_iload_n hx hb dX2_readBuilt_110 rfl (lv_at hl 2 rfl) ?_
        have hEw_681 := hEb0
        have hOw_682 := hOb0
        have hEc_683 := hE
        have hTo := hT
        refine K_VZ ⟨hx, hb, hml, hown, hts⟩ (t_X2_readBlockT l dC dI sa hlt g _ _ j d (pot fa_658 sg_598) tt ln M (gpa (Kp tt ln) (nq tt ln) 13 qn_619) (tset Tn_620 1 k (thd (k + 1) qn_619.2.1)) an_621 h0 dep tok ka sta vaa ax_656 tn_657 fa_658 pw_659 sg_598 zz _ (hT.sub [1, 3, 4, 5, 6] rfl)  hk_660 hk_661 hk_662 hk_663 hk_669 hk_670 ((hF.1 h0 (hT0.at 0 rfl).1 2 (hT0.at 0 rfl).2 0 (by decide)).trans h_tok) ((hF.1 tok (hT0.at 2 rfl).1 6 (hT0.at 2 rfl).2 4 (by decide)).trans h_ka) ((hF.1 tok (hT0.at 2 rfl).1 6 (hT0.at 2 rfl).2 5 (by decide)).trans h_sta) ((hF.1 tok (hT0.at 2 rfl).1 6 (hT0.at 2 rfl).2 6 (by decide)).trans h_vaa) hd hdj rfl hrel_608 hzz (hTK.go (hF.2 ka (hT0.at 3 rfl).1 0 _ _ (hT0.at 3 rfl).2 (by decide)) (hF.2 sta (hT0.at 4 rfl).1 0 _ _ (hT0.at 4 rfl).2 (by decide)) (hF.2 vaa (hT0.at 5 rfl).1 0 _ _ (hT0.at 5 rfl).2 (by decide))) hrq_680 (by first | exact hsg_624 | (simp only [gpa_nd, gnu_nd, gpl_nd, gte_nd, gob_nd, grf_nd]; exact hsg_624)) IHR) (cwV 1 hts gX2_readBuilt_X2_readBlock rfl rfl rfl (by decide +kernel) ⟨(by first | exact Nat.le_of_ble_eq_true rfl | (simp only [rm_X2_readBlockT, rm_X2_readBuiltT]; omega)), (by first | exact Nat.le_of_ble_eq_true rfl | (simp only [rm_X2_readBlockT, rm_X2_readBuiltT]; omega))⟩) hP hD hK hS hA hev hT 1 2 rfl rfl rfl rfl hl.1 rfl (Nat.le_of_ble_eq_true rfl) dX2_readBuilt_111 ⟨(by first | exact Nat.le_of_ble_eq_true rfl | (simp only [rm_X2_readBuiltT]; omega) | omega), (by first | exact Nat.le_of_ble_eq_true rfl | (simp only [rm_X2_readBuiltT]; omega) | omega)⟩ (fun r L_684 f_685 n_687 H locs hw_686 hn_688 hP hD hS hT hE1 => ?_)
        have hEo := hE
        have hF := Fr.call hF hE hw_686.2.1 (by decide)
        have hE := hE.tr hE1
        obtain ⟨⟨v_689, rfl, hv9⟩, hw_686⟩ := hw_686
        rcases hv9 with rfl | ⟨b_690, rfl, hb9⟩
        · obtain ⟨hfr_691, ax_692, tn_693, fa_694, pw_695, sg_696, hk_697, hk_698, hk_699, hk_700, hk_701, hrel_702, hrel_703, hrel_704, hrel_705, hrel_706, hex_707⟩ := hw_686
          obtain ⟨hof_708, hex_709⟩ := hex_707
          have hO5 := hO5.call hEo hof_708 (by simp)
          have hk_710 : rd f_685 tok 3 = .int zz := (hfr_691.1 tok (hTo.at 3 rfl).1 6 (hTo.at 3 rfl).2 3 (by decide)).trans hk_670
          have hk_711 : rd f_685 o 0 = .int wd := (hfr_691.1 o (hTo.at 2 rfl).1 5 (hTo.at 2 rfl).2 0 (by decide)).trans hk_671
          have hk_712 : rd f_685 o 1 = .int vt_343 := (hof_708 o (hTo.at 2 rfl).1 (hTo.at 2 rfl).2 (by simp) 1).trans hk_672
          have hk_713 : rd f_685 o 2 = .int nu_344 := (hof_708 o (hTo.at 2 rfl).1 (hTo.at 2 rfl).2 (by simp) 2).trans hk_673
          have hk_714 : rd f_685 o 3 = .int lo_345 := (hof_708 o (hTo.at 2 rfl).1 (hTo.at 2 rfl).2 (by simp) 3).trans hk_674
          have hk_715 : rd f_685 o 4 = .int be_346 := (hof_708 o (hTo.at 2 rfl).1 (hTo.at 2 rfl).2 (by simp) 4).trans hk_675
          have hq_716 : n_687 + pot fa_694 sg_696 ≤ pot fa_658 sg_598 := by
            obtain ⟨a9, b9, g1, g2, g3⟩ := hn_688
            cases g1.symm.trans hk_699
            cases g2.symm.trans hk_701
            exact g3
          have hOb0 := hOb0.call hEb0 hof_708 (by simp)
          have hEb0 := hEb0.tr hE1
          have htv_724 : rd f_685 o 6 = .null := (hof_708 o (hTo.at 2 rfl).1 (hTo.at 2 rfl).2 (by simp) 6).trans htv_676
          have htv_725 : rd f_685 o 7 = (rd f o 7) := (hof_708 o (hTo.at 2 rfl).1 (hTo.at 2 rfl).2 (by simp) 7).trans htv_677
          have htv_726 : rd f_685 o 5 = .ref b_380 := (hof_708 o (hTo.at 2 rfl).1 (hTo.at 2 rfl).2 (by simp) 5).trans htv_678
          have hE9 := hE1
          obtain ⟨qn_717, Tn_718, an_719, hev_720, hrq_721, hsg_722, hpk_723⟩ := hex_709
          have hpk_727 : qn_717.2.2.1 = 0 → PB (Kp tt ln) (Vp tt ln) (nq tt ln) 2 d (gpa (Kp tt ln) (nq tt ln) 13 qn_619) qn_717 (tset Tn_620 1 k (thd (k + 1) qn_619.2.1)) Tn_718 an_621 an_719 L_652 L_684 f_685 (.null) := fun h9 => by
            obtain ⟨v9, e9, g9⟩ := hpk_723 h9
            cases e9
            exact g9
          have hEb1 : Ext L_684 f_685 L_684 f_685 := Ext.rf
          have hOb1 : OF 5 [o] L_684 f_685 f_685 := OF.rf
          have hO9__728 := hof_708
          have hE9__729 := hE9
          refine W.eq (g2 := F0 m 114 ls [.null, .ref o]) rfl ?_
          have hTo := hT
          refine T_put (ci := 5) (v := .null) (ty := .object "VatHouse$Step") (t := (2, 0, 5, 0)) (C := RX5) (T := TX5) (N := 8) hx hb hts inw_X2_readBuilt_5 tyX5 tyX5_ok nmX5 hown hK hP hD hS hT 2 rfl rfl 6 (by decide) (hts (.fieldLink RX2 91 "VatHouse$Step" "other" "LVatHouse$Step;") (List.mem_of_getElem? (i := 5) (by exact rfl))) (fun _ h9 => h9) rfl (tyX5_ok 6 (by decide)) rfl rfl rfl (Or.inl rfl) dX2_readBuilt_114 (fun f_730 H locs hP hD hS hT hE1 hrd_731 hup_732 => ?_)
          have hO5 := hO5.put hrd_731 (by simp)
          have hF := Fr.put (a := o) (ci := 5) hF hE ((hE1 o (hT.at 2 rfl).1).2.symm.trans (hT.at 2 rfl).2) (by decide) hrd_731 hup_732
          have hE := hE.tr hE1
          have hk_733 : rd f_730 h0 1 = .int ax_692 := ((Fr.put (cs := [(5, 6)]) (a := o) (ci := 5) Fr.rf Ext.rf (hTo.at 2 rfl).2 (by decide) hrd_731 hup_732).1 h0 (hTo.at 1 rfl).1 2 (hTo.at 1 rfl).2 1 (by decide)).trans hk_697
          have hk_734 : rd f_730 h0 2 = .int tn_693 := ((Fr.put (cs := [(5, 6)]) (a := o) (ci := 5) Fr.rf Ext.rf (hTo.at 2 rfl).2 (by decide) hrd_731 hup_732).1 h0 (hTo.at 1 rfl).1 2 (hTo.at 1 rfl).2 2 (by decide)).trans hk_698
          have hk_735 : rd f_730 h0 3 = .int fa_694 := ((Fr.put (cs := [(5, 6)]) (a := o) (ci := 5) Fr.rf Ext.rf (hTo.at 2 rfl).2 (by decide) hrd_731 hup_732).1 h0 (hTo.at 1 rfl).1 2 (hTo.at 1 rfl).2 3 (by decide)).trans hk_699
          have hk_736 : rd f_730 h0 4 = .int pw_695 := ((Fr.put (cs := [(5, 6)]) (a := o) (ci := 5) Fr.rf Ext.rf (hTo.at 2 rfl).2 (by decide) hrd_731 hup_732).1 h0 (hTo.at 1 rfl).1 2 (hTo.at 1 rfl).2 4 (by decide)).trans hk_700
          have hk_737 : rd f_730 h0 5 = .int sg_696 := ((Fr.put (cs := [(5, 6)]) (a := o) (ci := 5) Fr.rf Ext.rf (hTo.at 2 rfl).2 (by decide) hrd_731 hup_732).1 h0 (hTo.at 1 rfl).1 2 (hTo.at 1 rfl).2 5 (by decide)).trans hk_701
          have hk_738 : rd f_730 tok 3 = .int zz := ((Fr.put (cs := [(5, 6)]) (a := o) (ci := 5) Fr.rf Ext.rf (hTo.at 2 rfl).2 (by decide) hrd_731 hup_732).1 tok (hTo.at 3 rfl).1 6 (hTo.at 3 rfl).2 3 (by decide)).trans hk_710
          have hk_739 : rd f_730 o 0 = .int wd := ((Fr.put (cs := [(5, 6)]) (a := o) (ci := 5) Fr.rf Ext.rf (hTo.at 2 rfl).2 (by decide) hrd_731 hup_732).1 o (hTo.at 2 rfl).1 5 (hTo.at 2 rfl).2 0 (by decide)).trans hk_711
          have hk_740 : rd f_730 o 1 = .int vt_343 := ((Fr.put (cs := [(5, 6)]) (a := o) (ci := 5) Fr.rf Ext.rf (hTo.at 2 rfl).2 (by decide) hrd_731 hup_732).1 o (hTo.at 2 rfl).1 5 (hTo.at 2 rfl).2 1 (by decide)).trans hk_712
          have hk_741 : rd f_730 o 2 = .int nu_344 := ((Fr.put (cs := [(5, 6)]) (a := o) (ci := 5) Fr.rf Ext.rf (hTo.at 2 rfl).2 (by decide) hrd_731 hup_732).1 o (hTo.at 2 rfl).1 5 (hTo.at 2 rfl).2 2 (by decide)).trans hk_713
          have hk_742 : rd f_730 o 3 = .int lo_345 := ((Fr.put (cs := [(5, 6)]) (a := o) (ci := 5) Fr.rf Ext.rf (hTo.at 2 rfl).2 (by decide) hrd_731 hup_732).1 o (hTo.at 2 rfl).1 5 (hTo.at 2 rfl).2 3 (by decide)).trans hk_714
          have hk_743 : rd f_730 o 4 = .int be_346 := ((Fr.put (cs := [(5, 6)]) (a := o) (ci := 5) Fr.rf Ext.rf (hTo.at 2 rfl).2 (by decide) hrd_731 hup_732).1 o (hTo.at 2 rfl).1 5 (hTo.at 2 rfl).2 4 (by decide)).trans hk_715
          have hOb0 := hOb0.put hrd_731 (by simp)
          have hEb0 := hEb0.tr hE1
          have hOb1 := hOb1.put hrd_731 (by simp)
          have hEb1 := hEb1.tr hE1
          have htv_745 : rd f_730 o 7 = (rd f o 7) := ((hrd_731 o 7).trans (if_neg (fun h9 => absurd h9.2 (by decide)))).trans htv_725
          have htv_746 : rd f_730 o 5 = .ref b_380 := ((hrd_731 o 5).trans (if_neg (fun h9 => absurd h9.2 (by decide)))).trans htv_726
          have htv_747 : rd f_730 o 6 = .null := (hrd_731 o 6).trans (if_pos ⟨rfl, rfl⟩)
          refine lv_goto (tgt := 158) hx hb dX2_readBuilt_117 (by decide) ?_
          exact K_vZ hx hb hr hlocks hP hD hK hS hT hE ⟨rfl, hF, _, _, _, _, _, _, _, _, _, hk_733, hk_734, hk_735, hk_736, hk_737, hk_740, hk_741, hk_742, hk_743, trivial, trivial, trivial, trivial, hrel_706, trivial, trivial, trivial, trivial, hO5, htv_745, ⟨qn_717, (tset Tn_718 2 k (thd qn_619.2.1 qn_717.2.1)), an_719, Or.inr (Or.inr (Or.inl ⟨c_334, _, hev_622, Or.inr ⟨hrq_623.K.symm.trans c_651, hev_720⟩⟩)), hrq_721, (by first | exact hsg_722 | (simp only [gpa_nd, gnu_nd, gpl_nd, gte_nd, gob_nd, grf_nd]; exact hsg_722)), fun h9 => ⟨PUb.two hpk_628 (hpk_727 h9) h9 (by first | exact hqk | (rw [gnu_nd]; exact hqk) | (rw [gte_nd]; exact hqk)) (fun b9 hb9 => (hEc_373 b9 hb9).1) (hEc_373 o (hT0.at 1 rfl).1).1 hEw_681 hOw_682 hE9__729 hO9__728 hEb1 hOb1 (fun b9 hb9 => (hE9__630 b9 hb9).1) htv_746 htv_747 hqk (fun g9 g8 => Or.inr (Or.inr (Or.inl ⟨c_334, _, g9, Or.inr ⟨hrq_623.K.symm.trans c_651, _, g8, rfl⟩⟩))), ⟨fun h8 => by rw [c_334] at h8; exact absurd h8 (by decide), fun _ => hex_365.2 (ev2_0 hev_622 (gpa_ok (ev2_0 hev_720 h9)).1)⟩⟩⟩⟩ (⟨_, _, hk_735, hk_737, by omega⟩) (by first | exact Nat.le_of_ble_eq_true rfl | (simp only [rm_X2_readBuiltT]; omega) | omega) (by first | exact Nat.le_of_ble_eq_true rfl | (simp only [rm_X2_readBuiltT]; omega) | omega) (by first | exact Nat.le_of_ble_eq_true rfl | (simp only [rm_X2_readBuiltT]; omega) | omega) dX2_readBuilt_158
        · have hT := hT.add hb9
          obtain ⟨hfr_748, ax_749, tn_750, fa_751, pw_752, sg_753, hk_754, hk_755, hk_756, hk_757, hk_758, hrel_759, hrel_760, hrel_761, hrel_762, hrel_763, hex_764⟩ := hw_686
          obtain ⟨hof_765, hex_766⟩ := hex_764
          have hO5 := hO5.call hEo hof_765 (by simp)
          have hk_767 : rd f_685 tok 3 = .int zz := (hfr_748.1 tok (hTo.at 3 rfl).1 6 (hTo.at 3 rfl).2 3 (by decide)).trans hk_670
          have hk_768 : rd f_685 o 0 = .int wd := (hfr_748.1 o (hTo.at 2 rfl).1 5 (hTo.at 2 rfl).2 0 (by decide)).trans hk_671
          have hk_769 : rd f_685 o 1 = .int vt_343 := (hof_765 o (hTo.at 2 rfl).1 (hTo.at 2 rfl).2 (by simp) 1).trans hk_672
          have hk_770 : rd f_685 o 2 = .int nu_344 := (hof_765 o (hTo.at 2 rfl).1 (hTo.at 2 rfl).2 (by simp) 2).trans hk_673
          have hk_771 : rd f_685 o 3 = .int lo_345 := (hof_765 o (hTo.at 2 rfl).1 (hTo.at 2 rfl).2 (by simp) 3).trans hk_674
          have hk_772 : rd f_685 o 4 = .int be_346 := (hof_765 o (hTo.at 2 rfl).1 (hTo.at 2 rfl).2 (by simp) 4).trans hk_675
          have hq_773 : n_687 + pot fa_751 sg_753 ≤ pot fa_658 sg_598 := by
            obtain ⟨a9, b9, g1, g2, g3⟩ := hn_688
            cases g1.symm.trans hk_756
            cases g2.symm.trans hk_758
            exact g3
          have hOb0 := hOb0.call hEb0 hof_765 (by simp)
          have hEb0 := hEb0.tr hE1
          have htv_781 : rd f_685 o 6 = .null := (hof_765 o (hTo.at 2 rfl).1 (hTo.at 2 rfl).2 (by simp) 6).trans htv_676
          have htv_782 : rd f_685 o 7 = (rd f o 7) := (hof_765 o (hTo.at 2 rfl).1 (hTo.at 2 rfl).2 (by simp) 7).trans htv_677
          have htv_783 : rd f_685 o 5 = .ref b_380 := (hof_765 o (hTo.at 2 rfl).1 (hTo.at 2 rfl).2 (by simp) 5).trans htv_678
          have hE9 := hE1
          obtain ⟨qn_774, Tn_775, an_776, hev_777, hrq_778, hsg_779, hpk_780⟩ := hex_766
          have hpk_784 : qn_774.2.2.1 = 0 → PB (Kp tt ln) (Vp tt ln) (nq tt ln) 2 d (gpa (Kp tt ln) (nq tt ln) 13 qn_619) qn_774 (tset Tn_620 1 k (thd (k + 1) qn_619.2.1)) Tn_775 an_621 an_776 L_652 L_684 f_685 (.ref b_690) := fun h9 => by
            obtain ⟨v9, e9, g9⟩ := hpk_780 h9
            cases e9
            exact g9
          have hEb1 : Ext L_684 f_685 L_684 f_685 := Ext.rf
          have hOb1 : OF 5 [o] L_684 f_685 f_685 := OF.rf
          have hO9__785 := hof_765
          have hE9__786 := hE9
          refine W.eq (g2 := F0 m 114 ls [.ref b_690, .ref o]) rfl ?_
          have hTo := hT
          refine T_put (ci := 5) (v := .ref b_690) (ty := .object "VatHouse$Step") (t := (2, 0, 5, 0)) (C := RX5) (T := TX5) (N := 8) hx hb hts inw_X2_readBuilt_5 tyX5 tyX5_ok nmX5 hown hK hP hD hS hT 3 rfl rfl 6 (by decide) (hts (.fieldLink RX2 91 "VatHouse$Step" "other" "LVatHouse$Step;") (List.mem_of_getElem? (i := 5) (by exact rfl))) (fun _ h9 => h9) rfl (tyX5_ok 6 (by decide)) rfl rfl rfl (Or.inr ⟨_, rfl, hT.at 0 rfl⟩) dX2_readBuilt_114 (fun f_787 H locs hP hD hS hT hE1 hrd_788 hup_789 => ?_)
          have hO5 := hO5.put hrd_788 (by simp)
          have hF := Fr.put (a := o) (ci := 5) hF hE ((hE1 o (hT.at 3 rfl).1).2.symm.trans (hT.at 3 rfl).2) (by decide) hrd_788 hup_789
          have hE := hE.tr hE1
          have hk_790 : rd f_787 h0 1 = .int ax_749 := ((Fr.put (cs := [(5, 6)]) (a := o) (ci := 5) Fr.rf Ext.rf (hTo.at 3 rfl).2 (by decide) hrd_788 hup_789).1 h0 (hTo.at 2 rfl).1 2 (hTo.at 2 rfl).2 1 (by decide)).trans hk_754
          have hk_791 : rd f_787 h0 2 = .int tn_750 := ((Fr.put (cs := [(5, 6)]) (a := o) (ci := 5) Fr.rf Ext.rf (hTo.at 3 rfl).2 (by decide) hrd_788 hup_789).1 h0 (hTo.at 2 rfl).1 2 (hTo.at 2 rfl).2 2 (by decide)).trans hk_755
          have hk_792 : rd f_787 h0 3 = .int fa_751 := ((Fr.put (cs := [(5, 6)]) (a := o) (ci := 5) Fr.rf Ext.rf (hTo.at 3 rfl).2 (by decide) hrd_788 hup_789).1 h0 (hTo.at 2 rfl).1 2 (hTo.at 2 rfl).2 3 (by decide)).trans hk_756
          have hk_793 : rd f_787 h0 4 = .int pw_752 := ((Fr.put (cs := [(5, 6)]) (a := o) (ci := 5) Fr.rf Ext.rf (hTo.at 3 rfl).2 (by decide) hrd_788 hup_789).1 h0 (hTo.at 2 rfl).1 2 (hTo.at 2 rfl).2 4 (by decide)).trans hk_757
          have hk_794 : rd f_787 h0 5 = .int sg_753 := ((Fr.put (cs := [(5, 6)]) (a := o) (ci := 5) Fr.rf Ext.rf (hTo.at 3 rfl).2 (by decide) hrd_788 hup_789).1 h0 (hTo.at 2 rfl).1 2 (hTo.at 2 rfl).2 5 (by decide)).trans hk_758
          have hk_795 : rd f_787 tok 3 = .int zz := ((Fr.put (cs := [(5, 6)]) (a := o) (ci := 5) Fr.rf Ext.rf (hTo.at 3 rfl).2 (by decide) hrd_788 hup_789).1 tok (hTo.at 4 rfl).1 6 (hTo.at 4 rfl).2 3 (by decide)).trans hk_767
          have hk_796 : rd f_787 o 0 = .int wd := ((Fr.put (cs := [(5, 6)]) (a := o) (ci := 5) Fr.rf Ext.rf (hTo.at 3 rfl).2 (by decide) hrd_788 hup_789).1 o (hTo.at 3 rfl).1 5 (hTo.at 3 rfl).2 0 (by decide)).trans hk_768
          have hk_797 : rd f_787 o 1 = .int vt_343 := ((Fr.put (cs := [(5, 6)]) (a := o) (ci := 5) Fr.rf Ext.rf (hTo.at 3 rfl).2 (by decide) hrd_788 hup_789).1 o (hTo.at 3 rfl).1 5 (hTo.at 3 rfl).2 1 (by decide)).trans hk_769
          have hk_798 : rd f_787 o 2 = .int nu_344 := ((Fr.put (cs := [(5, 6)]) (a := o) (ci := 5) Fr.rf Ext.rf (hTo.at 3 rfl).2 (by decide) hrd_788 hup_789).1 o (hTo.at 3 rfl).1 5 (hTo.at 3 rfl).2 2 (by decide)).trans hk_770
          have hk_799 : rd f_787 o 3 = .int lo_345 := ((Fr.put (cs := [(5, 6)]) (a := o) (ci := 5) Fr.rf Ext.rf (hTo.at 3 rfl).2 (by decide) hrd_788 hup_789).1 o (hTo.at 3 rfl).1 5 (hTo.at 3 rfl).2 3 (by decide)).trans hk_771
          have hk_800 : rd f_787 o 4 = .int be_346 := ((Fr.put (cs := [(5, 6)]) (a := o) (ci := 5) Fr.rf Ext.rf (hTo.at 3 rfl).2 (by decide) hrd_788 hup_789).1 o (hTo.at 3 rfl).1 5 (hTo.at 3 rfl).2 4 (by decide)).trans hk_772
          have hOb0 := hOb0.put hrd_788 (by simp)
          have hEb0 := hEb0.tr hE1
          have hOb1 := hOb1.put hrd_788 (by simp)
          have hEb1 := hEb1.tr hE1
          have htv_802 : rd f_787 o 7 = (rd f o 7) := ((hrd_788 o 7).trans (if_neg (fun h9 => absurd h9.2 (by decide)))).trans htv_782
          have htv_803 : rd f_787 o 5 = .ref b_380 := ((hrd_788 o 5).trans (if_neg (fun h9 => absurd h9.2 (by decide)))).trans htv_783
          have htv_804 : rd f_787 o 6 = .ref b_690 := (hrd_788 o 6).trans (if_pos ⟨rfl, rfl⟩)
          refine lv_goto (tgt := 158) hx hb dX2_readBuilt_117 (by decide) ?_
          exact K_vZ hx hb hr hlocks hP hD hK hS hT hE ⟨rfl, hF, _, _, _, _, _, _, _, _, _, hk_790, hk_791, hk_792, hk_793, hk_794, hk_797, hk_798, hk_799, hk_800, trivial, trivial, trivial, trivial, hrel_763, trivial, trivial, trivial, trivial, hO5, htv_802, ⟨qn_774, (tset Tn_775 2 k (thd qn_619.2.1 qn_774.2.1)), an_776, Or.inr (Or.inr (Or.inl ⟨c_334, _, hev_622, Or.inr ⟨hrq_623.K.symm.trans c_651, hev_777⟩⟩)), hrq_778, (by first | exact hsg_779 | (simp only [gpa_nd, gnu_nd, gpl_nd, gte_nd, gob_nd, grf_nd]; exact hsg_779)), fun h9 => ⟨PUb.two hpk_628 (hpk_784 h9) h9 (by first | exact hqk | (rw [gnu_nd]; exact hqk) | (rw [gte_nd]; exact hqk)) (fun b9 hb9 => (hEc_373 b9 hb9).1) (hEc_373 o (hT0.at 1 rfl).1).1 hEw_681 hOw_682 hE9__786 hO9__785 hEb1 hOb1 (fun b9 hb9 => (hE9__630 b9 hb9).1) htv_803 htv_804 hqk (fun g9 g8 => Or.inr (Or.inr (Or.inl ⟨c_334, _, g9, Or.inr ⟨hrq_623.K.symm.trans c_651, _, g8, rfl⟩⟩))), ⟨fun h8 => by rw [c_334] at h8; exact absurd h8 (by decide), fun _ => hex_365.2 (ev2_0 hev_622 (gpa_ok (ev2_0 hev_777 h9)).1)⟩⟩⟩⟩ (⟨_, _, hk_792, hk_794, by omega⟩) (by first | exact Nat.le_of_ble_eq_true rfl | (simp only [rm_X2_readBuiltT]; omega) | omega) (by first | exact Nat.le_of_ble_eq_true rfl | (simp only [rm_X2_readBuiltT]; omega) | omega) (by first | exact Nat.le_of_ble_eq_true rfl | (simp only [rm_X2_readBuiltT]; omega) | omega) dX2_readBuilt_158
  refine lv_tableOut (tgt := 120) hx hb dX2_readBuilt_4 (tab_out_8_10 c_4 c_169 c_334) (by decide) ?_
  refine lv_aload_n hx hb dX2_readBuilt_120 rfl (lv_at hl 1 rfl) ?_
  refine lv_aload_n hx hb dX2_readBuilt_121 rfl (lv_at hl 0 rfl) ?_
  refine lv_iload_n hx hb dX2_readBuilt_122 rfl (lv_at hl 2 rfl) ?_
  have hEc_805 := hE
  have hTo := hT
  refine K_VZ ⟨hx, hb, hml, hown, hts⟩ (t_X2_readBlockT l dC dI sa hlt g _ _ j d (pot fa sg) tt ln M q T ad h0 dep tok ka sta vaa ax tn fa pw sg zz _ (hT.sub [0, 2, 3, 4, 5] rfl)  hm_ax hm_tn hm_fa hm_pw hm_sg hm_zz ((hF.1 h0 (hT0.at 0 rfl).1 2 (hT0.at 0 rfl).2 0 (by decide)).trans h_tok) ((hF.1 tok (hT0.at 2 rfl).1 6 (hT0.at 2 rfl).2 4 (by decide)).trans h_ka) ((hF.1 tok (hT0.at 2 rfl).1 6 (hT0.at 2 rfl).2 5 (by decide)).trans h_sta) ((hF.1 tok (hT0.at 2 rfl).1 6 (hT0.at 2 rfl).2 6 (by decide)).trans h_vaa) hd hdj rfl hs3 hzz (hTK.go (hF.2 ka (hT0.at 3 rfl).1 0 _ _ (hT0.at 3 rfl).2 (by decide)) (hF.2 sta (hT0.at 4 rfl).1 0 _ _ (hT0.at 4 rfl).2 (by decide)) (hF.2 vaa (hT0.at 5 rfl).1 0 _ _ (hT0.at 5 rfl).2 (by decide))) hRQ (by first | exact hnd | (simp only [gpa_nd, gnu_nd, gpl_nd, gte_nd, gob_nd, grf_nd]; exact hnd)) IHR) (cwV 1 hts gX2_readBuilt_X2_readBlock rfl rfl rfl (by decide +kernel) ⟨(by first | exact Nat.le_of_ble_eq_true rfl | (simp only [rm_X2_readBlockT, rm_X2_readBuiltT]; omega)), (by first | exact Nat.le_of_ble_eq_true rfl | (simp only [rm_X2_readBlockT, rm_X2_readBuiltT]; omega))⟩) hP hD hK hS hA hev hT 0 2 rfl rfl rfl rfl hl.1 rfl (Nat.le_of_ble_eq_true rfl) dX2_readBuilt_123 ⟨(by first | exact Nat.le_of_ble_eq_true rfl | (simp only [rm_X2_readBuiltT]; omega) | omega), (by first | exact Nat.le_of_ble_eq_true rfl | (simp only [rm_X2_readBuiltT]; omega) | omega)⟩ (fun r L_806 f_807 n_809 H locs hw_808 hn_810 hP hD hS hT hE1 => ?_)
  have hEo := hE
  have hF := Fr.call hF hE hw_808.2.1 (by decide)
  have hE := hE.tr hE1
  obtain ⟨⟨v_811, rfl, hv9⟩, hw_808⟩ := hw_808
  rcases hv9 with rfl | ⟨b_812, rfl, hb9⟩
  · obtain ⟨hfr_813, ax_814, tn_815, fa_816, pw_817, sg_818, hk_819, hk_820, hk_821, hk_822, hk_823, hrel_824, hrel_825, hrel_826, hrel_827, hrel_828, hex_829⟩ := hw_808
    obtain ⟨hof_830, hex_831⟩ := hex_829
    have hO5 := hO5.call hEo hof_830 (by simp)
    have hk_832 : rd f_807 tok 3 = .int zz := (hfr_813.1 tok (hTo.at 2 rfl).1 6 (hTo.at 2 rfl).2 3 (by decide)).trans hm_zz
    have hk_833 : rd f_807 o 0 = .int wd := (hfr_813.1 o (hTo.at 1 rfl).1 5 (hTo.at 1 rfl).2 0 (by decide)).trans hm_wd
    have hk_834 : rd f_807 o 1 = .int vt := (hof_830 o (hTo.at 1 rfl).1 (hTo.at 1 rfl).2 (by simp) 1).trans hm_vt
    have hk_835 : rd f_807 o 2 = .int nu := (hof_830 o (hTo.at 1 rfl).1 (hTo.at 1 rfl).2 (by simp) 2).trans hm_nu
    have hk_836 : rd f_807 o 3 = .int lo := (hof_830 o (hTo.at 1 rfl).1 (hTo.at 1 rfl).2 (by simp) 3).trans hm_lo
    have hk_837 : rd f_807 o 4 = .int be := (hof_830 o (hTo.at 1 rfl).1 (hTo.at 1 rfl).2 (by simp) 4).trans hm_be
    have hq_838 : n_809 + pot fa_816 sg_818 ≤ pot fa sg := by
      obtain ⟨a9, b9, g1, g2, g3⟩ := hn_810
      cases g1.symm.trans hk_821
      cases g2.symm.trans hk_823
      exact g3
    have htv_846 : rd f_807 o 6 = .null := (hof_830 o (hTo.at 1 rfl).1 (hTo.at 1 rfl).2 (by simp) 6).trans hs6
    have htv_847 : rd f_807 o 7 = (rd f o 7) := (hof_830 o (hTo.at 1 rfl).1 (hTo.at 1 rfl).2 (by simp) 7).trans rfl
    have hE9 := hE1
    obtain ⟨qn_839, Tn_840, an_841, hev_842, hrq_843, hsg_844, hpk_845⟩ := hex_831
    have hpk_848 : qn_839.2.2.1 = 0 → PB (Kp tt ln) (Vp tt ln) (nq tt ln) 2 d q qn_839 T Tn_840 ad an_841 L L_806 f_807 (.null) := fun h9 => by
      obtain ⟨v9, e9, g9⟩ := hpk_845 h9
      cases e9
      exact g9
    have hEb0 : Ext L_806 f_807 L_806 f_807 := Ext.rf
    have hOb0 : OF 5 [o] L_806 f_807 f_807 := OF.rf
    have hO9__849 := hof_830
    have hE9__850 := hE9
    refine W.eq (g2 := F0 m 126 ls [.null, .ref o]) rfl ?_
    have hTo := hT
    refine T_put (ci := 5) (v := .null) (ty := .object "VatHouse$Step") (t := (2, 0, 5, 0)) (C := RX5) (T := TX5) (N := 8) hx hb hts inw_X2_readBuilt_5 tyX5 tyX5_ok nmX5 hown hK hP hD hS hT 1 rfl rfl 5 (by decide) (hts (.fieldLink RX2 85 "VatHouse$Step" "block" "LVatHouse$Step;") (List.mem_of_getElem? (i := 3) (by exact rfl))) (fun _ h9 => h9) rfl (tyX5_ok 5 (by decide)) rfl rfl rfl (Or.inl rfl) dX2_readBuilt_126 (fun f_851 H locs hP hD hS hT hE1 hrd_852 hup_853 => ?_)
    have hO5 := hO5.put hrd_852 (by simp)
    have hF := Fr.put (a := o) (ci := 5) hF hE ((hE1 o (hT.at 1 rfl).1).2.symm.trans (hT.at 1 rfl).2) (by decide) hrd_852 hup_853
    have hE := hE.tr hE1
    have hk_854 : rd f_851 h0 1 = .int ax_814 := ((Fr.put (cs := [(5, 5)]) (a := o) (ci := 5) Fr.rf Ext.rf (hTo.at 1 rfl).2 (by decide) hrd_852 hup_853).1 h0 (hTo.at 0 rfl).1 2 (hTo.at 0 rfl).2 1 (by decide)).trans hk_819
    have hk_855 : rd f_851 h0 2 = .int tn_815 := ((Fr.put (cs := [(5, 5)]) (a := o) (ci := 5) Fr.rf Ext.rf (hTo.at 1 rfl).2 (by decide) hrd_852 hup_853).1 h0 (hTo.at 0 rfl).1 2 (hTo.at 0 rfl).2 2 (by decide)).trans hk_820
    have hk_856 : rd f_851 h0 3 = .int fa_816 := ((Fr.put (cs := [(5, 5)]) (a := o) (ci := 5) Fr.rf Ext.rf (hTo.at 1 rfl).2 (by decide) hrd_852 hup_853).1 h0 (hTo.at 0 rfl).1 2 (hTo.at 0 rfl).2 3 (by decide)).trans hk_821
    have hk_857 : rd f_851 h0 4 = .int pw_817 := ((Fr.put (cs := [(5, 5)]) (a := o) (ci := 5) Fr.rf Ext.rf (hTo.at 1 rfl).2 (by decide) hrd_852 hup_853).1 h0 (hTo.at 0 rfl).1 2 (hTo.at 0 rfl).2 4 (by decide)).trans hk_822
    have hk_858 : rd f_851 h0 5 = .int sg_818 := ((Fr.put (cs := [(5, 5)]) (a := o) (ci := 5) Fr.rf Ext.rf (hTo.at 1 rfl).2 (by decide) hrd_852 hup_853).1 h0 (hTo.at 0 rfl).1 2 (hTo.at 0 rfl).2 5 (by decide)).trans hk_823
    have hk_859 : rd f_851 tok 3 = .int zz := ((Fr.put (cs := [(5, 5)]) (a := o) (ci := 5) Fr.rf Ext.rf (hTo.at 1 rfl).2 (by decide) hrd_852 hup_853).1 tok (hTo.at 2 rfl).1 6 (hTo.at 2 rfl).2 3 (by decide)).trans hk_832
    have hk_860 : rd f_851 o 0 = .int wd := ((Fr.put (cs := [(5, 5)]) (a := o) (ci := 5) Fr.rf Ext.rf (hTo.at 1 rfl).2 (by decide) hrd_852 hup_853).1 o (hTo.at 1 rfl).1 5 (hTo.at 1 rfl).2 0 (by decide)).trans hk_833
    have hk_861 : rd f_851 o 1 = .int vt := ((Fr.put (cs := [(5, 5)]) (a := o) (ci := 5) Fr.rf Ext.rf (hTo.at 1 rfl).2 (by decide) hrd_852 hup_853).1 o (hTo.at 1 rfl).1 5 (hTo.at 1 rfl).2 1 (by decide)).trans hk_834
    have hk_862 : rd f_851 o 2 = .int nu := ((Fr.put (cs := [(5, 5)]) (a := o) (ci := 5) Fr.rf Ext.rf (hTo.at 1 rfl).2 (by decide) hrd_852 hup_853).1 o (hTo.at 1 rfl).1 5 (hTo.at 1 rfl).2 2 (by decide)).trans hk_835
    have hk_863 : rd f_851 o 3 = .int lo := ((Fr.put (cs := [(5, 5)]) (a := o) (ci := 5) Fr.rf Ext.rf (hTo.at 1 rfl).2 (by decide) hrd_852 hup_853).1 o (hTo.at 1 rfl).1 5 (hTo.at 1 rfl).2 3 (by decide)).trans hk_836
    have hk_864 : rd f_851 o 4 = .int be := ((Fr.put (cs := [(5, 5)]) (a := o) (ci := 5) Fr.rf Ext.rf (hTo.at 1 rfl).2 (by decide) hrd_852 hup_853).1 o (hTo.at 1 rfl).1 5 (hTo.at 1 rfl).2 4 (by decide)).trans hk_837
    have hOb0 := hOb0.put hrd_852 (by simp)
    have hEb0 := hEb0.tr hE1
    have htv_865 : rd f_851 o 6 = .null := ((hrd_852 o 6).trans (if_neg (fun h9 => absurd h9.2 (by decide)))).trans htv_846
    have htv_866 : rd f_851 o 7 = (rd f o 7) := ((hrd_852 o 7).trans (if_neg (fun h9 => absurd h9.2 (by decide)))).trans htv_847
    have htv_867 : rd f_851 o 5 = .null := (hrd_852 o 5).trans (if_pos ⟨rfl, rfl⟩)
    refine lv_aload_n hx hb dX2_readBuilt_129 rfl (lv_at hl 0 rfl) ?_
    refine lv_aload_n hx hb dX2_readBuilt_130 rfl (lv_at hl 1 rfl) ?_
    refine T_get (ci := 5) (C := RX5) (T := TX5) (N := 8) (t := tI) hx hb hts inw_X2_readBuilt_5 hown hK hP hT 1 rfl rfl 0 (by decide) (hts (.fieldLink RX2 61 "VatHouse$Step" "word" "I") (List.mem_of_getElem? (i := 1) (by exact rfl))) (fun _ h9 => h9) rfl dX2_readBuilt_131 (fun v_870 hv_868 hr_869 => ?_)
    obtain rfl : v_870 = .int wd := hr_869.symm.trans hk_860
    refine lv_bipush (v := 11) hx hb dX2_readBuilt_134 (by decide) ?_
    refine lv_icmp_ne (tgt := 144) hx hb dX2_readBuilt_136 (by decide) (fun c_871 => ?_) (fun c_871 => ?_)
    · refine lv_bipush (v := 14) hx hb dX2_readBuilt_144 (by decide) ?_
      have hTo := hT
      refine K_V ⟨hx, hb, hml, hown, hts⟩ (t_X2_pass l dC dI sa hlt g _ _ tt ln M qn_839 h0 14 tok ka sta vaa ax_814 tn_815 fa_816 pw_817 zz _ (hT.sub [0, 2, 3, 4, 5] rfl)  hk_854 hk_855 hk_856 hk_857 hk_859 ((hF.1 h0 (hT0.at 0 rfl).1 2 (hT0.at 0 rfl).2 0 (by decide)).trans h_tok) ((hF.1 tok (hT0.at 2 rfl).1 6 (hT0.at 2 rfl).2 4 (by decide)).trans h_ka) ((hF.1 tok (hT0.at 2 rfl).1 6 (hT0.at 2 rfl).2 5 (by decide)).trans h_sta) ((hF.1 tok (hT0.at 2 rfl).1 6 (hT0.at 2 rfl).2 6 (by decide)).trans h_vaa) hzz (hTK.go (hF.2 ka (hT0.at 3 rfl).1 0 _ _ (hT0.at 3 rfl).2 (by decide)) (hF.2 sta (hT0.at 4 rfl).1 0 _ _ (hT0.at 4 rfl).2 (by decide)) (hF.2 vaa (hT0.at 5 rfl).1 0 _ _ (hT0.at 5 rfl).2 (by decide))) hrq_843 (Or.inl (by decide))) (cwV 1 hts gX2_readBuilt_X2_pass rfl rfl rfl (by decide +kernel) ⟨(by first | exact Nat.le_of_ble_eq_true rfl | (simp only [rm_X2_pass, rm_X2_readBuiltT]; omega)), (by first | exact Nat.le_of_ble_eq_true rfl | (simp only [rm_X2_pass, rm_X2_readBuiltT]; omega))⟩) hP hD hK hS hA hev hT 0 2 rfl rfl rfl rfl hl.1 rfl (Nat.le_of_ble_eq_true rfl) dX2_readBuilt_146 ⟨(by first | exact Nat.le_of_ble_eq_true rfl | (simp only [rm_X2_readBuiltT]; omega) | omega), (by first | exact Nat.le_of_ble_eq_true rfl | (simp only [rm_X2_readBuiltT]; omega) | omega)⟩ (fun r L_872 f_873 H locs hw_874 hP hD hS hT hE1 => ?_)
      have hEo := hE
      have hO5 := hO5.call hE (OF.fr hw_874.2.1 (by decide)) (by simp)
      have hF := Fr.call hF hE hw_874.2.1 (by decide)
      have hE := hE.tr hE1
      obtain ⟨rfl, hw_874⟩ := hw_874
      obtain ⟨hfr_875, ax_876, tn_877, fa_878, pw_879, hk_880, hk_881, hk_882, hk_883, hrel_884, hrel_885, hrel_886, hrel_887, hex_888⟩ := hw_874
      have hk_889 : rd f_873 h0 5 = .int sg_818 := (hfr_875.1 h0 (hTo.at 0 rfl).1 2 (hTo.at 0 rfl).2 5 (by decide)).trans hk_858
      have hk_890 : rd f_873 tok 3 = .int zz := (hfr_875.1 tok (hTo.at 2 rfl).1 6 (hTo.at 2 rfl).2 3 (by decide)).trans hk_859
      have hk_891 : rd f_873 o 0 = .int wd := (hfr_875.1 o (hTo.at 1 rfl).1 5 (hTo.at 1 rfl).2 0 (by decide)).trans hk_860
      have hk_892 : rd f_873 o 1 = .int vt := (hfr_875.1 o (hTo.at 1 rfl).1 5 (hTo.at 1 rfl).2 1 (by decide)).trans hk_861
      have hk_893 : rd f_873 o 2 = .int nu := (hfr_875.1 o (hTo.at 1 rfl).1 5 (hTo.at 1 rfl).2 2 (by decide)).trans hk_862
      have hk_894 : rd f_873 o 3 = .int lo := (hfr_875.1 o (hTo.at 1 rfl).1 5 (hTo.at 1 rfl).2 3 (by decide)).trans hk_863
      have hk_895 : rd f_873 o 4 = .int be := (hfr_875.1 o (hTo.at 1 rfl).1 5 (hTo.at 1 rfl).2 4 (by decide)).trans hk_864
      have hOb0 := hOb0.call hEb0 (OF.fr hfr_875 (by decide)) (by simp)
      have hEb0 := hEb0.tr hE1
      have htv_896 : rd f_873 o 6 = .null := (hfr_875.1 o (hTo.at 1 rfl).1 5 (hTo.at 1 rfl).2 6 (by decide)).trans htv_865
      have htv_897 : rd f_873 o 7 = (rd f o 7) := (hfr_875.1 o (hTo.at 1 rfl).1 5 (hTo.at 1 rfl).2 7 (by decide)).trans htv_866
      have htv_898 : rd f_873 o 5 = .null := (hfr_875.1 o (hTo.at 1 rfl).1 5 (hTo.at 1 rfl).2 5 (by decide)).trans htv_867
      have hq_899 : pot fa_878 sg_818 ≤ pot fa_816 sg_818 := pot_le (fun h9 => (hrel_886 h9).1)
      have hrq_900 := hex_888
      refine W.eq (g2 := F0 m 149 ls []) rfl ?_
      refine lv_aload_n hx hb dX2_readBuilt_149 rfl (lv_at hl 1 rfl) ?_
      refine lv_aload_n hx hb dX2_readBuilt_150 rfl (lv_at hl 0 rfl) ?_
      refine lv_iload_n hx hb dX2_readBuilt_151 rfl (lv_at hl 2 rfl) ?_
      have hEw_901 := hEb0
      have hOw_902 := hOb0
      have hEc_903 := hE
      have hTo := hT
      refine K_VZ ⟨hx, hb, hml, hown, hts⟩ (t_X2_readBlockT l dC dI sa hlt g _ _ j d (pot fa_878 sg_818) tt ln M (gpa (Kp tt ln) (nq tt ln) 14 qn_839) (tset Tn_840 1 k (thd (k + 1) qn_839.2.1)) an_841 h0 dep tok ka sta vaa ax_876 tn_877 fa_878 pw_879 sg_818 zz _ (hT.sub [0, 2, 3, 4, 5] rfl)  hk_880 hk_881 hk_882 hk_883 hk_889 hk_890 ((hF.1 h0 (hT0.at 0 rfl).1 2 (hT0.at 0 rfl).2 0 (by decide)).trans h_tok) ((hF.1 tok (hT0.at 2 rfl).1 6 (hT0.at 2 rfl).2 4 (by decide)).trans h_ka) ((hF.1 tok (hT0.at 2 rfl).1 6 (hT0.at 2 rfl).2 5 (by decide)).trans h_sta) ((hF.1 tok (hT0.at 2 rfl).1 6 (hT0.at 2 rfl).2 6 (by decide)).trans h_vaa) hd hdj rfl hrel_828 hzz (hTK.go (hF.2 ka (hT0.at 3 rfl).1 0 _ _ (hT0.at 3 rfl).2 (by decide)) (hF.2 sta (hT0.at 4 rfl).1 0 _ _ (hT0.at 4 rfl).2 (by decide)) (hF.2 vaa (hT0.at 5 rfl).1 0 _ _ (hT0.at 5 rfl).2 (by decide))) hrq_900 (by first | exact hsg_844 | (simp only [gpa_nd, gnu_nd, gpl_nd, gte_nd, gob_nd, grf_nd]; exact hsg_844)) IHR) (cwV 1 hts gX2_readBuilt_X2_readBlock rfl rfl rfl (by decide +kernel) ⟨(by first | exact Nat.le_of_ble_eq_true rfl | (simp only [rm_X2_readBlockT, rm_X2_readBuiltT]; omega)), (by first | exact Nat.le_of_ble_eq_true rfl | (simp only [rm_X2_readBlockT, rm_X2_readBuiltT]; omega))⟩) hP hD hK hS hA hev hT 0 2 rfl rfl rfl rfl hl.1 rfl (Nat.le_of_ble_eq_true rfl) dX2_readBuilt_152 ⟨(by first | exact Nat.le_of_ble_eq_true rfl | (simp only [rm_X2_readBuiltT]; omega) | omega), (by first | exact Nat.le_of_ble_eq_true rfl | (simp only [rm_X2_readBuiltT]; omega) | omega)⟩ (fun r L_904 f_905 n_907 H locs hw_906 hn_908 hP hD hS hT hE1 => ?_)
      have hEo := hE
      have hF := Fr.call hF hE hw_906.2.1 (by decide)
      have hE := hE.tr hE1
      obtain ⟨⟨v_909, rfl, hv9⟩, hw_906⟩ := hw_906
      rcases hv9 with rfl | ⟨b_910, rfl, hb9⟩
      · obtain ⟨hfr_911, ax_912, tn_913, fa_914, pw_915, sg_916, hk_917, hk_918, hk_919, hk_920, hk_921, hrel_922, hrel_923, hrel_924, hrel_925, hrel_926, hex_927⟩ := hw_906
        obtain ⟨hof_928, hex_929⟩ := hex_927
        have hO5 := hO5.call hEo hof_928 (by simp)
        have hk_930 : rd f_905 tok 3 = .int zz := (hfr_911.1 tok (hTo.at 2 rfl).1 6 (hTo.at 2 rfl).2 3 (by decide)).trans hk_890
        have hk_931 : rd f_905 o 0 = .int wd := (hfr_911.1 o (hTo.at 1 rfl).1 5 (hTo.at 1 rfl).2 0 (by decide)).trans hk_891
        have hk_932 : rd f_905 o 1 = .int vt := (hof_928 o (hTo.at 1 rfl).1 (hTo.at 1 rfl).2 (by simp) 1).trans hk_892
        have hk_933 : rd f_905 o 2 = .int nu := (hof_928 o (hTo.at 1 rfl).1 (hTo.at 1 rfl).2 (by simp) 2).trans hk_893
        have hk_934 : rd f_905 o 3 = .int lo := (hof_928 o (hTo.at 1 rfl).1 (hTo.at 1 rfl).2 (by simp) 3).trans hk_894
        have hk_935 : rd f_905 o 4 = .int be := (hof_928 o (hTo.at 1 rfl).1 (hTo.at 1 rfl).2 (by simp) 4).trans hk_895
        have hq_936 : n_907 + pot fa_914 sg_916 ≤ pot fa_878 sg_818 := by
          obtain ⟨a9, b9, g1, g2, g3⟩ := hn_908
          cases g1.symm.trans hk_919
          cases g2.symm.trans hk_921
          exact g3
        have hOb0 := hOb0.call hEb0 hof_928 (by simp)
        have hEb0 := hEb0.tr hE1
        have htv_944 : rd f_905 o 6 = .null := (hof_928 o (hTo.at 1 rfl).1 (hTo.at 1 rfl).2 (by simp) 6).trans htv_896
        have htv_945 : rd f_905 o 7 = (rd f o 7) := (hof_928 o (hTo.at 1 rfl).1 (hTo.at 1 rfl).2 (by simp) 7).trans htv_897
        have htv_946 : rd f_905 o 5 = .null := (hof_928 o (hTo.at 1 rfl).1 (hTo.at 1 rfl).2 (by simp) 5).trans htv_898
        have hE9 := hE1
        obtain ⟨qn_937, Tn_938, an_939, hev_940, hrq_941, hsg_942, hpk_943⟩ := hex_929
        have hpk_947 : qn_937.2.2.1 = 0 → PB (Kp tt ln) (Vp tt ln) (nq tt ln) 2 d (gpa (Kp tt ln) (nq tt ln) 14 qn_839) qn_937 (tset Tn_840 1 k (thd (k + 1) qn_839.2.1)) Tn_938 an_841 an_939 L_872 L_904 f_905 (.null) := fun h9 => by
          obtain ⟨v9, e9, g9⟩ := hpk_943 h9
          cases e9
          exact g9
        have hEb1 : Ext L_904 f_905 L_904 f_905 := Ext.rf
        have hOb1 : OF 5 [o] L_904 f_905 f_905 := OF.rf
        have hO9__948 := hof_928
        have hE9__949 := hE9
        refine W.eq (g2 := F0 m 155 ls [.null, .ref o]) rfl ?_
        have hTo := hT
        refine T_put (ci := 5) (v := .null) (ty := .object "VatHouse$Step") (t := (2, 0, 5, 0)) (C := RX5) (T := TX5) (N := 8) hx hb hts inw_X2_readBuilt_5 tyX5 tyX5_ok nmX5 hown hK hP hD hS hT 1 rfl rfl 6 (by decide) (hts (.fieldLink RX2 91 "VatHouse$Step" "other" "LVatHouse$Step;") (List.mem_of_getElem? (i := 5) (by exact rfl))) (fun _ h9 => h9) rfl (tyX5_ok 6 (by decide)) rfl rfl rfl (Or.inl rfl) dX2_readBuilt_155 (fun f_950 H locs hP hD hS hT hE1 hrd_951 hup_952 => ?_)
        have hO5 := hO5.put hrd_951 (by simp)
        have hF := Fr.put (a := o) (ci := 5) hF hE ((hE1 o (hT.at 1 rfl).1).2.symm.trans (hT.at 1 rfl).2) (by decide) hrd_951 hup_952
        have hE := hE.tr hE1
        have hk_953 : rd f_950 h0 1 = .int ax_912 := ((Fr.put (cs := [(5, 6)]) (a := o) (ci := 5) Fr.rf Ext.rf (hTo.at 1 rfl).2 (by decide) hrd_951 hup_952).1 h0 (hTo.at 0 rfl).1 2 (hTo.at 0 rfl).2 1 (by decide)).trans hk_917
        have hk_954 : rd f_950 h0 2 = .int tn_913 := ((Fr.put (cs := [(5, 6)]) (a := o) (ci := 5) Fr.rf Ext.rf (hTo.at 1 rfl).2 (by decide) hrd_951 hup_952).1 h0 (hTo.at 0 rfl).1 2 (hTo.at 0 rfl).2 2 (by decide)).trans hk_918
        have hk_955 : rd f_950 h0 3 = .int fa_914 := ((Fr.put (cs := [(5, 6)]) (a := o) (ci := 5) Fr.rf Ext.rf (hTo.at 1 rfl).2 (by decide) hrd_951 hup_952).1 h0 (hTo.at 0 rfl).1 2 (hTo.at 0 rfl).2 3 (by decide)).trans hk_919
        have hk_956 : rd f_950 h0 4 = .int pw_915 := ((Fr.put (cs := [(5, 6)]) (a := o) (ci := 5) Fr.rf Ext.rf (hTo.at 1 rfl).2 (by decide) hrd_951 hup_952).1 h0 (hTo.at 0 rfl).1 2 (hTo.at 0 rfl).2 4 (by decide)).trans hk_920
        have hk_957 : rd f_950 h0 5 = .int sg_916 := ((Fr.put (cs := [(5, 6)]) (a := o) (ci := 5) Fr.rf Ext.rf (hTo.at 1 rfl).2 (by decide) hrd_951 hup_952).1 h0 (hTo.at 0 rfl).1 2 (hTo.at 0 rfl).2 5 (by decide)).trans hk_921
        have hk_958 : rd f_950 tok 3 = .int zz := ((Fr.put (cs := [(5, 6)]) (a := o) (ci := 5) Fr.rf Ext.rf (hTo.at 1 rfl).2 (by decide) hrd_951 hup_952).1 tok (hTo.at 2 rfl).1 6 (hTo.at 2 rfl).2 3 (by decide)).trans hk_930
        have hk_959 : rd f_950 o 0 = .int wd := ((Fr.put (cs := [(5, 6)]) (a := o) (ci := 5) Fr.rf Ext.rf (hTo.at 1 rfl).2 (by decide) hrd_951 hup_952).1 o (hTo.at 1 rfl).1 5 (hTo.at 1 rfl).2 0 (by decide)).trans hk_931
        have hk_960 : rd f_950 o 1 = .int vt := ((Fr.put (cs := [(5, 6)]) (a := o) (ci := 5) Fr.rf Ext.rf (hTo.at 1 rfl).2 (by decide) hrd_951 hup_952).1 o (hTo.at 1 rfl).1 5 (hTo.at 1 rfl).2 1 (by decide)).trans hk_932
        have hk_961 : rd f_950 o 2 = .int nu := ((Fr.put (cs := [(5, 6)]) (a := o) (ci := 5) Fr.rf Ext.rf (hTo.at 1 rfl).2 (by decide) hrd_951 hup_952).1 o (hTo.at 1 rfl).1 5 (hTo.at 1 rfl).2 2 (by decide)).trans hk_933
        have hk_962 : rd f_950 o 3 = .int lo := ((Fr.put (cs := [(5, 6)]) (a := o) (ci := 5) Fr.rf Ext.rf (hTo.at 1 rfl).2 (by decide) hrd_951 hup_952).1 o (hTo.at 1 rfl).1 5 (hTo.at 1 rfl).2 3 (by decide)).trans hk_934
        have hk_963 : rd f_950 o 4 = .int be := ((Fr.put (cs := [(5, 6)]) (a := o) (ci := 5) Fr.rf Ext.rf (hTo.at 1 rfl).2 (by decide) hrd_951 hup_952).1 o (hTo.at 1 rfl).1 5 (hTo.at 1 rfl).2 4 (by decide)).trans hk_935
        have hOb0 := hOb0.put hrd_951 (by simp)
        have hEb0 := hEb0.tr hE1
        have hOb1 := hOb1.put hrd_951 (by simp)
        have hEb1 := hEb1.tr hE1
        have htv_965 : rd f_950 o 7 = (rd f o 7) := ((hrd_951 o 7).trans (if_neg (fun h9 => absurd h9.2 (by decide)))).trans htv_945
        have htv_966 : rd f_950 o 5 = .null := ((hrd_951 o 5).trans (if_neg (fun h9 => absurd h9.2 (by decide)))).trans htv_946
        have htv_967 : rd f_950 o 6 = .null := (hrd_951 o 6).trans (if_pos ⟨rfl, rfl⟩)
        exact K_vZ hx hb hr hlocks hP hD hK hS hT hE ⟨rfl, hF, _, _, _, _, _, _, _, _, _, hk_953, hk_954, hk_955, hk_956, hk_957, hk_960, hk_961, hk_962, hk_963, trivial, trivial, trivial, trivial, hrel_926, trivial, trivial, trivial, trivial, hO5, htv_965, ⟨qn_937, (tset Tn_938 2 k (thd qn_839.2.1 qn_937.2.1)), an_939, Or.inr (Or.inr (Or.inr ⟨⟨c_4, c_169, c_334⟩, _, hev_842, by rw [if_neg c_871]; exact hev_940⟩)), hrq_941, (by first | exact hsg_942 | (simp only [gpa_nd, gnu_nd, gpl_nd, gte_nd, gob_nd, grf_nd]; exact hsg_942)), fun h9 => ⟨PUb.two hpk_848 (hpk_947 h9) h9 (by first | exact hqk | (rw [gnu_nd]; exact hqk) | (rw [gte_nd]; exact hqk)) (fun b9 hb9 => (hEc_805 b9 hb9).1) (hEc_805 o (hT0.at 1 rfl).1).1 hEw_901 hOw_902 hE9__949 hO9__948 hEb1 hOb1 (fun b9 hb9 => (hE9__850 b9 hb9).1) htv_966 htv_967 hqk (fun g9 g8 => Or.inr (Or.inr (Or.inr ⟨⟨c_4, c_169, c_334⟩, _, g9, _, by rw [if_neg c_871]; exact g8, rfl⟩))), ⟨fun h8 => (h8.elim c_4 c_169).elim, fun h8 => absurd h8 c_334⟩⟩⟩⟩ (⟨_, _, hk_955, hk_957, by omega⟩) (by first | exact Nat.le_of_ble_eq_true rfl | (simp only [rm_X2_readBuiltT]; omega) | omega) (by first | exact Nat.le_of_ble_eq_true rfl | (simp only [rm_X2_readBuiltT]; omega) | omega) (by first | exact Nat.le_of_ble_eq_true rfl | (simp only [rm_X2_readBuiltT]; omega) | omega) dX2_readBuilt_158
      · have hT := hT.add hb9
        obtain ⟨hfr_968, ax_969, tn_970, fa_971, pw_972, sg_973, hk_974, hk_975, hk_976, hk_977, hk_978, hrel_979, hrel_980, hrel_981, hrel_982, hrel_983, hex_984⟩ := hw_906
        obtain ⟨hof_985, hex_986⟩ := hex_984
        have hO5 := hO5.call hEo hof_985 (by simp)
        have hk_987 : rd f_905 tok 3 = .int zz := (hfr_968.1 tok (hTo.at 2 rfl).1 6 (hTo.at 2 rfl).2 3 (by decide)).trans hk_890
        have hk_988 : rd f_905 o 0 = .int wd := (hfr_968.1 o (hTo.at 1 rfl).1 5 (hTo.at 1 rfl).2 0 (by decide)).trans hk_891
        have hk_989 : rd f_905 o 1 = .int vt := (hof_985 o (hTo.at 1 rfl).1 (hTo.at 1 rfl).2 (by simp) 1).trans hk_892
        have hk_990 : rd f_905 o 2 = .int nu := (hof_985 o (hTo.at 1 rfl).1 (hTo.at 1 rfl).2 (by simp) 2).trans hk_893
        have hk_991 : rd f_905 o 3 = .int lo := (hof_985 o (hTo.at 1 rfl).1 (hTo.at 1 rfl).2 (by simp) 3).trans hk_894
        have hk_992 : rd f_905 o 4 = .int be := (hof_985 o (hTo.at 1 rfl).1 (hTo.at 1 rfl).2 (by simp) 4).trans hk_895
        have hq_993 : n_907 + pot fa_971 sg_973 ≤ pot fa_878 sg_818 := by
          obtain ⟨a9, b9, g1, g2, g3⟩ := hn_908
          cases g1.symm.trans hk_976
          cases g2.symm.trans hk_978
          exact g3
        have hOb0 := hOb0.call hEb0 hof_985 (by simp)
        have hEb0 := hEb0.tr hE1
        have htv_1001 : rd f_905 o 6 = .null := (hof_985 o (hTo.at 1 rfl).1 (hTo.at 1 rfl).2 (by simp) 6).trans htv_896
        have htv_1002 : rd f_905 o 7 = (rd f o 7) := (hof_985 o (hTo.at 1 rfl).1 (hTo.at 1 rfl).2 (by simp) 7).trans htv_897
        have htv_1003 : rd f_905 o 5 = .null := (hof_985 o (hTo.at 1 rfl).1 (hTo.at 1 rfl).2 (by simp) 5).trans htv_898
        have hE9 := hE1
        obtain ⟨qn_994, Tn_995, an_996, hev_997, hrq_998, hsg_999, hpk_1000⟩ := hex_986
        have hpk_1004 : qn_994.2.2.1 = 0 → PB (Kp tt ln) (Vp tt ln) (nq tt ln) 2 d (gpa (Kp tt ln) (nq tt ln) 14 qn_839) qn_994 (tset Tn_840 1 k (thd (k + 1) qn_839.2.1)) Tn_995 an_841 an_996 L_872 L_904 f_905 (.ref b_910) := fun h9 => by
          obtain ⟨v9, e9, g9⟩ := hpk_1000 h9
          cases e9
          exact g9
        have hEb1 : Ext L_904 f_905 L_904 f_905 := Ext.rf
        have hOb1 : OF 5 [o] L_904 f_905 f_905 := OF.rf
        have hO9__1005 := hof_985
        have hE9__1006 := hE9
        refine W.eq (g2 := F0 m 155 ls [.ref b_910, .ref o]) rfl ?_
        have hTo := hT
        refine T_put (ci := 5) (v := .ref b_910) (ty := .object "VatHouse$Step") (t := (2, 0, 5, 0)) (C := RX5) (T := TX5) (N := 8) hx hb hts inw_X2_readBuilt_5 tyX5 tyX5_ok nmX5 hown hK hP hD hS hT 2 rfl rfl 6 (by decide) (hts (.fieldLink RX2 91 "VatHouse$Step" "other" "LVatHouse$Step;") (List.mem_of_getElem? (i := 5) (by exact rfl))) (fun _ h9 => h9) rfl (tyX5_ok 6 (by decide)) rfl rfl rfl (Or.inr ⟨_, rfl, hT.at 0 rfl⟩) dX2_readBuilt_155 (fun f_1007 H locs hP hD hS hT hE1 hrd_1008 hup_1009 => ?_)
        have hO5 := hO5.put hrd_1008 (by simp)
        have hF := Fr.put (a := o) (ci := 5) hF hE ((hE1 o (hT.at 2 rfl).1).2.symm.trans (hT.at 2 rfl).2) (by decide) hrd_1008 hup_1009
        have hE := hE.tr hE1
        have hk_1010 : rd f_1007 h0 1 = .int ax_969 := ((Fr.put (cs := [(5, 6)]) (a := o) (ci := 5) Fr.rf Ext.rf (hTo.at 2 rfl).2 (by decide) hrd_1008 hup_1009).1 h0 (hTo.at 1 rfl).1 2 (hTo.at 1 rfl).2 1 (by decide)).trans hk_974
        have hk_1011 : rd f_1007 h0 2 = .int tn_970 := ((Fr.put (cs := [(5, 6)]) (a := o) (ci := 5) Fr.rf Ext.rf (hTo.at 2 rfl).2 (by decide) hrd_1008 hup_1009).1 h0 (hTo.at 1 rfl).1 2 (hTo.at 1 rfl).2 2 (by decide)).trans hk_975
        have hk_1012 : rd f_1007 h0 3 = .int fa_971 := ((Fr.put (cs := [(5, 6)]) (a := o) (ci := 5) Fr.rf Ext.rf (hTo.at 2 rfl).2 (by decide) hrd_1008 hup_1009).1 h0 (hTo.at 1 rfl).1 2 (hTo.at 1 rfl).2 3 (by decide)).trans hk_976
        have hk_1013 : rd f_1007 h0 4 = .int pw_972 := ((Fr.put (cs := [(5, 6)]) (a := o) (ci := 5) Fr.rf Ext.rf (hTo.at 2 rfl).2 (by decide) hrd_1008 hup_1009).1 h0 (hTo.at 1 rfl).1 2 (hTo.at 1 rfl).2 4 (by decide)).trans hk_977
        have hk_1014 : rd f_1007 h0 5 = .int sg_973 := ((Fr.put (cs := [(5, 6)]) (a := o) (ci := 5) Fr.rf Ext.rf (hTo.at 2 rfl).2 (by decide) hrd_1008 hup_1009).1 h0 (hTo.at 1 rfl).1 2 (hTo.at 1 rfl).2 5 (by decide)).trans hk_978
        have hk_1015 : rd f_1007 tok 3 = .int zz := ((Fr.put (cs := [(5, 6)]) (a := o) (ci := 5) Fr.rf Ext.rf (hTo.at 2 rfl).2 (by decide) hrd_1008 hup_1009).1 tok (hTo.at 3 rfl).1 6 (hTo.at 3 rfl).2 3 (by decide)).trans hk_987
        have hk_1016 : rd f_1007 o 0 = .int wd := ((Fr.put (cs := [(5, 6)]) (a := o) (ci := 5) Fr.rf Ext.rf (hTo.at 2 rfl).2 (by decide) hrd_1008 hup_1009).1 o (hTo.at 2 rfl).1 5 (hTo.at 2 rfl).2 0 (by decide)).trans hk_988
        have hk_1017 : rd f_1007 o 1 = .int vt := ((Fr.put (cs := [(5, 6)]) (a := o) (ci := 5) Fr.rf Ext.rf (hTo.at 2 rfl).2 (by decide) hrd_1008 hup_1009).1 o (hTo.at 2 rfl).1 5 (hTo.at 2 rfl).2 1 (by decide)).trans hk_989
        have hk_1018 : rd f_1007 o 2 = .int nu := ((Fr.put (cs := [(5, 6)]) (a := o) (ci := 5) Fr.rf Ext.rf (hTo.at 2 rfl).2 (by decide) hrd_1008 hup_1009).1 o (hTo.at 2 rfl).1 5 (hTo.at 2 rfl).2 2 (by decide)).trans hk_990
        have hk_1019 : rd f_1007 o 3 = .int lo := ((Fr.put (cs := [(5, 6)]) (a := o) (ci := 5) Fr.rf Ext.rf (hTo.at 2 rfl).2 (by decide) hrd_1008 hup_1009).1 o (hTo.at 2 rfl).1 5 (hTo.at 2 rfl).2 3 (by decide)).trans hk_991
        have hk_1020 : rd f_1007 o 4 = .int be := ((Fr.put (cs := [(5, 6)]) (a := o) (ci := 5) Fr.rf Ext.rf (hTo.at 2 rfl).2 (by decide) hrd_1008 hup_1009).1 o (hTo.at 2 rfl).1 5 (hTo.at 2 rfl).2 4 (by decide)).trans hk_992
        have hOb0 := hOb0.put hrd_1008 (by simp)
        have hEb0 := hEb0.tr hE1
        have hOb1 := hOb1.put hrd_1008 (by simp)
        have hEb1 := hEb1.tr hE1
        have htv_1022 : rd f_1007 o 7 = (rd f o 7) := ((hrd_1008 o 7).trans (if_neg (fun h9 => absurd h9.2 (by decide)))).trans htv_1002
        have htv_1023 : rd f_1007 o 5 = .null := ((hrd_1008 o 5).trans (if_neg (fun h9 => absurd h9.2 (by decide)))).trans htv_1003
        have htv_1024 : rd f_1007 o 6 = .ref b_910 := (hrd_1008 o 6).trans (if_pos ⟨rfl, rfl⟩)
        exact K_vZ hx hb hr hlocks hP hD hK hS hT hE ⟨rfl, hF, _, _, _, _, _, _, _, _, _, hk_1010, hk_1011, hk_1012, hk_1013, hk_1014, hk_1017, hk_1018, hk_1019, hk_1020, trivial, trivial, trivial, trivial, hrel_983, trivial, trivial, trivial, trivial, hO5, htv_1022, ⟨qn_994, (tset Tn_995 2 k (thd qn_839.2.1 qn_994.2.1)), an_996, Or.inr (Or.inr (Or.inr ⟨⟨c_4, c_169, c_334⟩, _, hev_842, by rw [if_neg c_871]; exact hev_997⟩)), hrq_998, (by first | exact hsg_999 | (simp only [gpa_nd, gnu_nd, gpl_nd, gte_nd, gob_nd, grf_nd]; exact hsg_999)), fun h9 => ⟨PUb.two hpk_848 (hpk_1004 h9) h9 (by first | exact hqk | (rw [gnu_nd]; exact hqk) | (rw [gte_nd]; exact hqk)) (fun b9 hb9 => (hEc_805 b9 hb9).1) (hEc_805 o (hT0.at 1 rfl).1).1 hEw_901 hOw_902 hE9__1006 hO9__1005 hEb1 hOb1 (fun b9 hb9 => (hE9__850 b9 hb9).1) htv_1023 htv_1024 hqk (fun g9 g8 => Or.inr (Or.inr (Or.inr ⟨⟨c_4, c_169, c_334⟩, _, g9, _, by rw [if_neg c_871]; exact g8, rfl⟩))), ⟨fun h8 => (h8.elim c_4 c_169).elim, fun h8 => absurd h8 c_334⟩⟩⟩⟩ (⟨_, _, hk_1012, hk_1014, by omega⟩) (by first | exact Nat.le_of_ble_eq_true rfl | (simp only [rm_X2_readBuiltT]; omega) | omega) (by first | exact Nat.le_of_ble_eq_true rfl | (simp only [rm_X2_readBuiltT]; omega) | omega) (by first | exact Nat.le_of_ble_eq_true rfl | (simp only [rm_X2_readBuiltT]; omega) | omega) dX2_readBuilt_158
    · refine lv_bipush (v := 13) hx hb dX2_readBuilt_139 (by decide) ?_
      refine lv_goto (tgt := 146) hx hb dX2_readBuilt_141 (by decide) ?_
      have hTo := hT
      refine K_V ⟨hx, hb, hml, hown, hts⟩ (t_X2_pass l dC dI sa hlt g _ _ tt ln M qn_839 h0 13 tok ka sta vaa ax_814 tn_815 fa_816 pw_817 zz _ (hT.sub [0, 2, 3, 4, 5] rfl)  hk_854 hk_855 hk_856 hk_857 hk_859 ((hF.1 h0 (hT0.at 0 rfl).1 2 (hT0.at 0 rfl).2 0 (by decide)).trans h_tok) ((hF.1 tok (hT0.at 2 rfl).1 6 (hT0.at 2 rfl).2 4 (by decide)).trans h_ka) ((hF.1 tok (hT0.at 2 rfl).1 6 (hT0.at 2 rfl).2 5 (by decide)).trans h_sta) ((hF.1 tok (hT0.at 2 rfl).1 6 (hT0.at 2 rfl).2 6 (by decide)).trans h_vaa) hzz (hTK.go (hF.2 ka (hT0.at 3 rfl).1 0 _ _ (hT0.at 3 rfl).2 (by decide)) (hF.2 sta (hT0.at 4 rfl).1 0 _ _ (hT0.at 4 rfl).2 (by decide)) (hF.2 vaa (hT0.at 5 rfl).1 0 _ _ (hT0.at 5 rfl).2 (by decide))) hrq_843 (Or.inl (by decide))) (cwV 1 hts gX2_readBuilt_X2_pass rfl rfl rfl (by decide +kernel) ⟨(by first | exact Nat.le_of_ble_eq_true rfl | (simp only [rm_X2_pass, rm_X2_readBuiltT]; omega)), (by first | exact Nat.le_of_ble_eq_true rfl | (simp only [rm_X2_pass, rm_X2_readBuiltT]; omega))⟩) hP hD hK hS hA hev hT 0 2 rfl rfl rfl rfl hl.1 rfl (Nat.le_of_ble_eq_true rfl) dX2_readBuilt_146 ⟨(by first | exact Nat.le_of_ble_eq_true rfl | (simp only [rm_X2_readBuiltT]; omega) | omega), (by first | exact Nat.le_of_ble_eq_true rfl | (simp only [rm_X2_readBuiltT]; omega) | omega)⟩ (fun r L_1025 f_1026 H locs hw_1027 hP hD hS hT hE1 => ?_)
      have hEo := hE
      have hO5 := hO5.call hE (OF.fr hw_1027.2.1 (by decide)) (by simp)
      have hF := Fr.call hF hE hw_1027.2.1 (by decide)
      have hE := hE.tr hE1
      obtain ⟨rfl, hw_1027⟩ := hw_1027
      obtain ⟨hfr_1028, ax_1029, tn_1030, fa_1031, pw_1032, hk_1033, hk_1034, hk_1035, hk_1036, hrel_1037, hrel_1038, hrel_1039, hrel_1040, hex_1041⟩ := hw_1027
      have hk_1042 : rd f_1026 h0 5 = .int sg_818 := (hfr_1028.1 h0 (hTo.at 0 rfl).1 2 (hTo.at 0 rfl).2 5 (by decide)).trans hk_858
      have hk_1043 : rd f_1026 tok 3 = .int zz := (hfr_1028.1 tok (hTo.at 2 rfl).1 6 (hTo.at 2 rfl).2 3 (by decide)).trans hk_859
      have hk_1044 : rd f_1026 o 0 = .int wd := (hfr_1028.1 o (hTo.at 1 rfl).1 5 (hTo.at 1 rfl).2 0 (by decide)).trans hk_860
      have hk_1045 : rd f_1026 o 1 = .int vt := (hfr_1028.1 o (hTo.at 1 rfl).1 5 (hTo.at 1 rfl).2 1 (by decide)).trans hk_861
      have hk_1046 : rd f_1026 o 2 = .int nu := (hfr_1028.1 o (hTo.at 1 rfl).1 5 (hTo.at 1 rfl).2 2 (by decide)).trans hk_862
      have hk_1047 : rd f_1026 o 3 = .int lo := (hfr_1028.1 o (hTo.at 1 rfl).1 5 (hTo.at 1 rfl).2 3 (by decide)).trans hk_863
      have hk_1048 : rd f_1026 o 4 = .int be := (hfr_1028.1 o (hTo.at 1 rfl).1 5 (hTo.at 1 rfl).2 4 (by decide)).trans hk_864
      have hOb0 := hOb0.call hEb0 (OF.fr hfr_1028 (by decide)) (by simp)
      have hEb0 := hEb0.tr hE1
      have htv_1049 : rd f_1026 o 6 = .null := (hfr_1028.1 o (hTo.at 1 rfl).1 5 (hTo.at 1 rfl).2 6 (by decide)).trans htv_865
      have htv_1050 : rd f_1026 o 7 = (rd f o 7) := (hfr_1028.1 o (hTo.at 1 rfl).1 5 (hTo.at 1 rfl).2 7 (by decide)).trans htv_866
      have htv_1051 : rd f_1026 o 5 = .null := (hfr_1028.1 o (hTo.at 1 rfl).1 5 (hTo.at 1 rfl).2 5 (by decide)).trans htv_867
      have hq_1052 : pot fa_1031 sg_818 ≤ pot fa_816 sg_818 := pot_le (fun h9 => (hrel_1039 h9).1)
      have hrq_1053 := hex_1041
      refine W.eq (g2 := F0 m 149 ls []) rfl ?_
      refine lv_aload_n hx hb dX2_readBuilt_149 rfl (lv_at hl 1 rfl) ?_
      refine lv_aload_n hx hb dX2_readBuilt_150 rfl (lv_at hl 0 rfl) ?_
      refine lv_iload_n hx hb dX2_readBuilt_151 rfl (lv_at hl 2 rfl) ?_
      have hEw_1054 := hEb0
      have hOw_1055 := hOb0
      have hEc_1056 := hE
      have hTo := hT
      refine K_VZ ⟨hx, hb, hml, hown, hts⟩ (t_X2_readBlockT l dC dI sa hlt g _ _ j d (pot fa_1031 sg_818) tt ln M (gpa (Kp tt ln) (nq tt ln) 13 qn_839) (tset Tn_840 1 k (thd (k + 1) qn_839.2.1)) an_841 h0 dep tok ka sta vaa ax_1029 tn_1030 fa_1031 pw_1032 sg_818 zz _ (hT.sub [0, 2, 3, 4, 5] rfl)  hk_1033 hk_1034 hk_1035 hk_1036 hk_1042 hk_1043 ((hF.1 h0 (hT0.at 0 rfl).1 2 (hT0.at 0 rfl).2 0 (by decide)).trans h_tok) ((hF.1 tok (hT0.at 2 rfl).1 6 (hT0.at 2 rfl).2 4 (by decide)).trans h_ka) ((hF.1 tok (hT0.at 2 rfl).1 6 (hT0.at 2 rfl).2 5 (by decide)).trans h_sta) ((hF.1 tok (hT0.at 2 rfl).1 6 (hT0.at 2 rfl).2 6 (by decide)).trans h_vaa) hd hdj rfl hrel_828 hzz (hTK.go (hF.2 ka (hT0.at 3 rfl).1 0 _ _ (hT0.at 3 rfl).2 (by decide)) (hF.2 sta (hT0.at 4 rfl).1 0 _ _ (hT0.at 4 rfl).2 (by decide)) (hF.2 vaa (hT0.at 5 rfl).1 0 _ _ (hT0.at 5 rfl).2 (by decide))) hrq_1053 (by first | exact hsg_844 | (simp only [gpa_nd, gnu_nd, gpl_nd, gte_nd, gob_nd, grf_nd]; exact hsg_844)) IHR) (cwV 1 hts gX2_readBuilt_X2_readBlock rfl rfl rfl (by decide +kernel) ⟨(by first | exact Nat.le_of_ble_eq_true rfl | (simp only [rm_X2_readBlockT, rm_X2_readBuiltT]; omega)), (by first | exact Nat.le_of_ble_eq_true rfl | (simp only [rm_X2_readBlockT, rm_X2_readBuiltT]; omega))⟩) hP hD hK hS hA hev hT 0 2 rfl rfl rfl rfl hl.1 rfl (Nat.le_of_ble_eq_true rfl) dX2_readBuilt_152 ⟨(by first | exact Nat.le_of_ble_eq_true rfl | (simp only [rm_X2_readBuiltT]; omega) | omega), (by first | exact Nat.le_of_ble_eq_true rfl | (simp only [rm_X2_readBuiltT]; omega) | omega)⟩ (fun r L_1057 f_1058 n_1060 H locs hw_1059 hn_1061 hP hD hS hT hE1 => ?_)
      have hEo := hE
      have hF := Fr.call hF hE hw_1059.2.1 (by decide)
      have hE := hE.tr hE1
      obtain ⟨⟨v_1062, rfl, hv9⟩, hw_1059⟩ := hw_1059
      rcases hv9 with rfl | ⟨b_1063, rfl, hb9⟩
      · obtain ⟨hfr_1064, ax_1065, tn_1066, fa_1067, pw_1068, sg_1069, hk_1070, hk_1071, hk_1072, hk_1073, hk_1074, hrel_1075, hrel_1076, hrel_1077, hrel_1078, hrel_1079, hex_1080⟩ := hw_1059
        obtain ⟨hof_1081, hex_1082⟩ := hex_1080
        have hO5 := hO5.call hEo hof_1081 (by simp)
        have hk_1083 : rd f_1058 tok 3 = .int zz := (hfr_1064.1 tok (hTo.at 2 rfl).1 6 (hTo.at 2 rfl).2 3 (by decide)).trans hk_1043
        have hk_1084 : rd f_1058 o 0 = .int wd := (hfr_1064.1 o (hTo.at 1 rfl).1 5 (hTo.at 1 rfl).2 0 (by decide)).trans hk_1044
        have hk_1085 : rd f_1058 o 1 = .int vt := (hof_1081 o (hTo.at 1 rfl).1 (hTo.at 1 rfl).2 (by simp) 1).trans hk_1045
        have hk_1086 : rd f_1058 o 2 = .int nu := (hof_1081 o (hTo.at 1 rfl).1 (hTo.at 1 rfl).2 (by simp) 2).trans hk_1046
        have hk_1087 : rd f_1058 o 3 = .int lo := (hof_1081 o (hTo.at 1 rfl).1 (hTo.at 1 rfl).2 (by simp) 3).trans hk_1047
        have hk_1088 : rd f_1058 o 4 = .int be := (hof_1081 o (hTo.at 1 rfl).1 (hTo.at 1 rfl).2 (by simp) 4).trans hk_1048
        have hq_1089 : n_1060 + pot fa_1067 sg_1069 ≤ pot fa_1031 sg_818 := by
          obtain ⟨a9, b9, g1, g2, g3⟩ := hn_1061
          cases g1.symm.trans hk_1072
          cases g2.symm.trans hk_1074
          exact g3
        have hOb0 := hOb0.call hEb0 hof_1081 (by simp)
        have hEb0 := hEb0.tr hE1
        have htv_1097 : rd f_1058 o 6 = .null := (hof_1081 o (hTo.at 1 rfl).1 (hTo.at 1 rfl).2 (by simp) 6).trans htv_1049
        have htv_1098 : rd f_1058 o 7 = (rd f o 7) := (hof_1081 o (hTo.at 1 rfl).1 (hTo.at 1 rfl).2 (by simp) 7).trans htv_1050
        have htv_1099 : rd f_1058 o 5 = .null := (hof_1081 o (hTo.at 1 rfl).1 (hTo.at 1 rfl).2 (by simp) 5).trans htv_1051
        have hE9 := hE1
        obtain ⟨qn_1090, Tn_1091, an_1092, hev_1093, hrq_1094, hsg_1095, hpk_1096⟩ := hex_1082
        have hpk_1100 : qn_1090.2.2.1 = 0 → PB (Kp tt ln) (Vp tt ln) (nq tt ln) 2 d (gpa (Kp tt ln) (nq tt ln) 13 qn_839) qn_1090 (tset Tn_840 1 k (thd (k + 1) qn_839.2.1)) Tn_1091 an_841 an_1092 L_1025 L_1057 f_1058 (.null) := fun h9 => by
          obtain ⟨v9, e9, g9⟩ := hpk_1096 h9
          cases e9
          exact g9
        have hEb1 : Ext L_1057 f_1058 L_1057 f_1058 := Ext.rf
        have hOb1 : OF 5 [o] L_1057 f_1058 f_1058 := OF.rf
        have hO9__1101 := hof_1081
        have hE9__1102 := hE9
        refine W.eq (g2 := F0 m 155 ls [.null, .ref o]) rfl ?_
        have hTo := hT
        refine T_put (ci := 5) (v := .null) (ty := .object "VatHouse$Step") (t := (2, 0, 5, 0)) (C := RX5) (T := TX5) (N := 8) hx hb hts inw_X2_readBuilt_5 tyX5 tyX5_ok nmX5 hown hK hP hD hS hT 1 rfl rfl 6 (by decide) (hts (.fieldLink RX2 91 "VatHouse$Step" "other" "LVatHouse$Step;") (List.mem_of_getElem? (i := 5) (by exact rfl))) (fun _ h9 => h9) rfl (tyX5_ok 6 (by decide)) rfl rfl rfl (Or.inl rfl) dX2_readBuilt_155 (fun f_1103 H locs hP hD hS hT hE1 hrd_1104 hup_1105 => ?_)
        have hO5 := hO5.put hrd_1104 (by simp)
        have hF := Fr.put (a := o) (ci := 5) hF hE ((hE1 o (hT.at 1 rfl).1).2.symm.trans (hT.at 1 rfl).2) (by decide) hrd_1104 hup_1105
        have hE := hE.tr hE1
        have hk_1106 : rd f_1103 h0 1 = .int ax_1065 := ((Fr.put (cs := [(5, 6)]) (a := o) (ci := 5) Fr.rf Ext.rf (hTo.at 1 rfl).2 (by decide) hrd_1104 hup_1105).1 h0 (hTo.at 0 rfl).1 2 (hTo.at 0 rfl).2 1 (by decide)).trans hk_1070
        have hk_1107 : rd f_1103 h0 2 = .int tn_1066 := ((Fr.put (cs := [(5, 6)]) (a := o) (ci := 5) Fr.rf Ext.rf (hTo.at 1 rfl).2 (by decide) hrd_1104 hup_1105).1 h0 (hTo.at 0 rfl).1 2 (hTo.at 0 rfl).2 2 (by decide)).trans hk_1071
        have hk_1108 : rd f_1103 h0 3 = .int fa_1067 := ((Fr.put (cs := [(5, 6)]) (a := o) (ci := 5) Fr.rf Ext.rf (hTo.at 1 rfl).2 (by decide) hrd_1104 hup_1105).1 h0 (hTo.at 0 rfl).1 2 (hTo.at 0 rfl).2 3 (by decide)).trans hk_1072
        have hk_1109 : rd f_1103 h0 4 = .int pw_1068 := ((Fr.put (cs := [(5, 6)]) (a := o) (ci := 5) Fr.rf Ext.rf (hTo.at 1 rfl).2 (by decide) hrd_1104 hup_1105).1 h0 (hTo.at 0 rfl).1 2 (hTo.at 0 rfl).2 4 (by decide)).trans hk_1073
        have hk_1110 : rd f_1103 h0 5 = .int sg_1069 := ((Fr.put (cs := [(5, 6)]) (a := o) (ci := 5) Fr.rf Ext.rf (hTo.at 1 rfl).2 (by decide) hrd_1104 hup_1105).1 h0 (hTo.at 0 rfl).1 2 (hTo.at 0 rfl).2 5 (by decide)).trans hk_1074
        have hk_1111 : rd f_1103 tok 3 = .int zz := ((Fr.put (cs := [(5, 6)]) (a := o) (ci := 5) Fr.rf Ext.rf (hTo.at 1 rfl).2 (by decide) hrd_1104 hup_1105).1 tok (hTo.at 2 rfl).1 6 (hTo.at 2 rfl).2 3 (by decide)).trans hk_1083
        have hk_1112 : rd f_1103 o 0 = .int wd := ((Fr.put (cs := [(5, 6)]) (a := o) (ci := 5) Fr.rf Ext.rf (hTo.at 1 rfl).2 (by decide) hrd_1104 hup_1105).1 o (hTo.at 1 rfl).1 5 (hTo.at 1 rfl).2 0 (by decide)).trans hk_1084
        have hk_1113 : rd f_1103 o 1 = .int vt := ((Fr.put (cs := [(5, 6)]) (a := o) (ci := 5) Fr.rf Ext.rf (hTo.at 1 rfl).2 (by decide) hrd_1104 hup_1105).1 o (hTo.at 1 rfl).1 5 (hTo.at 1 rfl).2 1 (by decide)).trans hk_1085
        have hk_1114 : rd f_1103 o 2 = .int nu := ((Fr.put (cs := [(5, 6)]) (a := o) (ci := 5) Fr.rf Ext.rf (hTo.at 1 rfl).2 (by decide) hrd_1104 hup_1105).1 o (hTo.at 1 rfl).1 5 (hTo.at 1 rfl).2 2 (by decide)).trans hk_1086
        have hk_1115 : rd f_1103 o 3 = .int lo := ((Fr.put (cs := [(5, 6)]) (a := o) (ci := 5) Fr.rf Ext.rf (hTo.at 1 rfl).2 (by decide) hrd_1104 hup_1105).1 o (hTo.at 1 rfl).1 5 (hTo.at 1 rfl).2 3 (by decide)).trans hk_1087
        have hk_1116 : rd f_1103 o 4 = .int be := ((Fr.put (cs := [(5, 6)]) (a := o) (ci := 5) Fr.rf Ext.rf (hTo.at 1 rfl).2 (by decide) hrd_1104 hup_1105).1 o (hTo.at 1 rfl).1 5 (hTo.at 1 rfl).2 4 (by decide)).trans hk_1088
        have hOb0 := hOb0.put hrd_1104 (by simp)
        have hEb0 := hEb0.tr hE1
        have hOb1 := hOb1.put hrd_1104 (by simp)
        have hEb1 := hEb1.tr hE1
        have htv_1118 : rd f_1103 o 7 = (rd f o 7) := ((hrd_1104 o 7).trans (if_neg (fun h9 => absurd h9.2 (by decide)))).trans htv_1098
        have htv_1119 : rd f_1103 o 5 = .null := ((hrd_1104 o 5).trans (if_neg (fun h9 => absurd h9.2 (by decide)))).trans htv_1099
        have htv_1120 : rd f_1103 o 6 = .null := (hrd_1104 o 6).trans (if_pos ⟨rfl, rfl⟩)
        exact K_vZ hx hb hr hlocks hP hD hK hS hT hE ⟨rfl, hF, _, _, _, _, _, _, _, _, _, hk_1106, hk_1107, hk_1108, hk_1109, hk_1110, hk_1113, hk_1114, hk_1115, hk_1116, trivial, trivial, trivial, trivial, hrel_1079, trivial, trivial, trivial, trivial, hO5, htv_1118, ⟨qn_1090, (tset Tn_1091 2 k (thd qn_839.2.1 qn_1090.2.1)), an_1092, Or.inr (Or.inr (Or.inr ⟨⟨c_4, c_169, c_334⟩, _, hev_842, by rw [if_pos c_871]; exact hev_1093⟩)), hrq_1094, (by first | exact hsg_1095 | (simp only [gpa_nd, gnu_nd, gpl_nd, gte_nd, gob_nd, grf_nd]; exact hsg_1095)), fun h9 => ⟨PUb.two hpk_848 (hpk_1100 h9) h9 (by first | exact hqk | (rw [gnu_nd]; exact hqk) | (rw [gte_nd]; exact hqk)) (fun b9 hb9 => (hEc_805 b9 hb9).1) (hEc_805 o (hT0.at 1 rfl).1).1 hEw_1054 hOw_1055 hE9__1102 hO9__1101 hEb1 hOb1 (fun b9 hb9 => (hE9__850 b9 hb9).1) htv_1119 htv_1120 hqk (fun g9 g8 => Or.inr (Or.inr (Or.inr ⟨⟨c_4, c_169, c_334⟩, _, g9, _, by rw [if_pos c_871]; exact g8, rfl⟩))), ⟨fun h8 => (h8.elim c_4 c_169).elim, fun h8 => absurd h8 c_334⟩⟩⟩⟩ (⟨_, _, hk_1108, hk_1110, by omega⟩) (by first | exact Nat.le_of_ble_eq_true rfl | (simp only [rm_X2_readBuiltT]; omega) | omega) (by first | exact Nat.le_of_ble_eq_true rfl | (simp only [rm_X2_readBuiltT]; omega) | omega) (by first | exact Nat.le_of_ble_eq_true rfl | (simp only [rm_X2_readBuiltT]; omega) | omega) dX2_readBuilt_158
      · have hT := hT.add hb9
        obtain ⟨hfr_1121, ax_1122, tn_1123, fa_1124, pw_1125, sg_1126, hk_1127, hk_1128, hk_1129, hk_1130, hk_1131, hrel_1132, hrel_1133, hrel_1134, hrel_1135, hrel_1136, hex_1137⟩ := hw_1059
        obtain ⟨hof_1138, hex_1139⟩ := hex_1137
        have hO5 := hO5.call hEo hof_1138 (by simp)
        have hk_1140 : rd f_1058 tok 3 = .int zz := (hfr_1121.1 tok (hTo.at 2 rfl).1 6 (hTo.at 2 rfl).2 3 (by decide)).trans hk_1043
        have hk_1141 : rd f_1058 o 0 = .int wd := (hfr_1121.1 o (hTo.at 1 rfl).1 5 (hTo.at 1 rfl).2 0 (by decide)).trans hk_1044
        have hk_1142 : rd f_1058 o 1 = .int vt := (hof_1138 o (hTo.at 1 rfl).1 (hTo.at 1 rfl).2 (by simp) 1).trans hk_1045
        have hk_1143 : rd f_1058 o 2 = .int nu := (hof_1138 o (hTo.at 1 rfl).1 (hTo.at 1 rfl).2 (by simp) 2).trans hk_1046
        have hk_1144 : rd f_1058 o 3 = .int lo := (hof_1138 o (hTo.at 1 rfl).1 (hTo.at 1 rfl).2 (by simp) 3).trans hk_1047
        have hk_1145 : rd f_1058 o 4 = .int be := (hof_1138 o (hTo.at 1 rfl).1 (hTo.at 1 rfl).2 (by simp) 4).trans hk_1048
        have hq_1146 : n_1060 + pot fa_1124 sg_1126 ≤ pot fa_1031 sg_818 := by
          obtain ⟨a9, b9, g1, g2, g3⟩ := hn_1061
          cases g1.symm.trans hk_1129
          cases g2.symm.trans hk_1131
          exact g3
        have hOb0 := hOb0.call hEb0 hof_1138 (by simp)
        have hEb0 := hEb0.tr hE1
        have htv_1154 : rd f_1058 o 6 = .null := (hof_1138 o (hTo.at 1 rfl).1 (hTo.at 1 rfl).2 (by simp) 6).trans htv_1049
        have htv_1155 : rd f_1058 o 7 = (rd f o 7) := (hof_1138 o (hTo.at 1 rfl).1 (hTo.at 1 rfl).2 (by simp) 7).trans htv_1050
        have htv_1156 : rd f_1058 o 5 = .null := (hof_1138 o (hTo.at 1 rfl).1 (hTo.at 1 rfl).2 (by simp) 5).trans htv_1051
        have hE9 := hE1
        obtain ⟨qn_1147, Tn_1148, an_1149, hev_1150, hrq_1151, hsg_1152, hpk_1153⟩ := hex_1139
        have hpk_1157 : qn_1147.2.2.1 = 0 → PB (Kp tt ln) (Vp tt ln) (nq tt ln) 2 d (gpa (Kp tt ln) (nq tt ln) 13 qn_839) qn_1147 (tset Tn_840 1 k (thd (k + 1) qn_839.2.1)) Tn_1148 an_841 an_1149 L_1025 L_1057 f_1058 (.ref b_1063) := fun h9 => by
          obtain ⟨v9, e9, g9⟩ := hpk_1153 h9
          cases e9
          exact g9
        have hEb1 : Ext L_1057 f_1058 L_1057 f_1058 := Ext.rf
        have hOb1 : OF 5 [o] L_1057 f_1058 f_1058 := OF.rf
        have hO9__1158 := hof_1138
        have hE9__1159 := hE9
        refine W.eq (g2 := F0 m 155 ls [.ref b_1063, .ref o]) rfl ?_
        have hTo := hT
        refine T_put (ci := 5) (v := .ref b_1063) (ty := .object "VatHouse$Step") (t := (2, 0, 5, 0)) (C := RX5) (T := TX5) (N := 8) hx hb hts inw_X2_readBuilt_5 tyX5 tyX5_ok nmX5 hown hK hP hD hS hT 2 rfl rfl 6 (by decide) (hts (.fieldLink RX2 91 "VatHouse$Step" "other" "LVatHouse$Step;") (List.mem_of_getElem? (i := 5) (by exact rfl))) (fun _ h9 => h9) rfl (tyX5_ok 6 (by decide)) rfl rfl rfl (Or.inr ⟨_, rfl, hT.at 0 rfl⟩) dX2_readBuilt_155 (fun f_1160 H locs hP hD hS hT hE1 hrd_1161 hup_1162 => ?_)
        have hO5 := hO5.put hrd_1161 (by simp)
        have hF := Fr.put (a := o) (ci := 5) hF hE ((hE1 o (hT.at 2 rfl).1).2.symm.trans (hT.at 2 rfl).2) (by decide) hrd_1161 hup_1162
        have hE := hE.tr hE1
        have hk_1163 : rd f_1160 h0 1 = .int ax_1122 := ((Fr.put (cs := [(5, 6)]) (a := o) (ci := 5) Fr.rf Ext.rf (hTo.at 2 rfl).2 (by decide) hrd_1161 hup_1162).1 h0 (hTo.at 1 rfl).1 2 (hTo.at 1 rfl).2 1 (by decide)).trans hk_1127
        have hk_1164 : rd f_1160 h0 2 = .int tn_1123 := ((Fr.put (cs := [(5, 6)]) (a := o) (ci := 5) Fr.rf Ext.rf (hTo.at 2 rfl).2 (by decide) hrd_1161 hup_1162).1 h0 (hTo.at 1 rfl).1 2 (hTo.at 1 rfl).2 2 (by decide)).trans hk_1128
        have hk_1165 : rd f_1160 h0 3 = .int fa_1124 := ((Fr.put (cs := [(5, 6)]) (a := o) (ci := 5) Fr.rf Ext.rf (hTo.at 2 rfl).2 (by decide) hrd_1161 hup_1162).1 h0 (hTo.at 1 rfl).1 2 (hTo.at 1 rfl).2 3 (by decide)).trans hk_1129
        have hk_1166 : rd f_1160 h0 4 = .int pw_1125 := ((Fr.put (cs := [(5, 6)]) (a := o) (ci := 5) Fr.rf Ext.rf (hTo.at 2 rfl).2 (by decide) hrd_1161 hup_1162).1 h0 (hTo.at 1 rfl).1 2 (hTo.at 1 rfl).2 4 (by decide)).trans hk_1130
        have hk_1167 : rd f_1160 h0 5 = .int sg_1126 := ((Fr.put (cs := [(5, 6)]) (a := o) (ci := 5) Fr.rf Ext.rf (hTo.at 2 rfl).2 (by decide) hrd_1161 hup_1162).1 h0 (hTo.at 1 rfl).1 2 (hTo.at 1 rfl).2 5 (by decide)).trans hk_1131
        have hk_1168 : rd f_1160 tok 3 = .int zz := ((Fr.put (cs := [(5, 6)]) (a := o) (ci := 5) Fr.rf Ext.rf (hTo.at 2 rfl).2 (by decide) hrd_1161 hup_1162).1 tok (hTo.at 3 rfl).1 6 (hTo.at 3 rfl).2 3 (by decide)).trans hk_1140
        have hk_1169 : rd f_1160 o 0 = .int wd := ((Fr.put (cs := [(5, 6)]) (a := o) (ci := 5) Fr.rf Ext.rf (hTo.at 2 rfl).2 (by decide) hrd_1161 hup_1162).1 o (hTo.at 2 rfl).1 5 (hTo.at 2 rfl).2 0 (by decide)).trans hk_1141
        have hk_1170 : rd f_1160 o 1 = .int vt := ((Fr.put (cs := [(5, 6)]) (a := o) (ci := 5) Fr.rf Ext.rf (hTo.at 2 rfl).2 (by decide) hrd_1161 hup_1162).1 o (hTo.at 2 rfl).1 5 (hTo.at 2 rfl).2 1 (by decide)).trans hk_1142
        have hk_1171 : rd f_1160 o 2 = .int nu := ((Fr.put (cs := [(5, 6)]) (a := o) (ci := 5) Fr.rf Ext.rf (hTo.at 2 rfl).2 (by decide) hrd_1161 hup_1162).1 o (hTo.at 2 rfl).1 5 (hTo.at 2 rfl).2 2 (by decide)).trans hk_1143
        have hk_1172 : rd f_1160 o 3 = .int lo := ((Fr.put (cs := [(5, 6)]) (a := o) (ci := 5) Fr.rf Ext.rf (hTo.at 2 rfl).2 (by decide) hrd_1161 hup_1162).1 o (hTo.at 2 rfl).1 5 (hTo.at 2 rfl).2 3 (by decide)).trans hk_1144
        have hk_1173 : rd f_1160 o 4 = .int be := ((Fr.put (cs := [(5, 6)]) (a := o) (ci := 5) Fr.rf Ext.rf (hTo.at 2 rfl).2 (by decide) hrd_1161 hup_1162).1 o (hTo.at 2 rfl).1 5 (hTo.at 2 rfl).2 4 (by decide)).trans hk_1145
        have hOb0 := hOb0.put hrd_1161 (by simp)
        have hEb0 := hEb0.tr hE1
        have hOb1 := hOb1.put hrd_1161 (by simp)
        have hEb1 := hEb1.tr hE1
        have htv_1175 : rd f_1160 o 7 = (rd f o 7) := ((hrd_1161 o 7).trans (if_neg (fun h9 => absurd h9.2 (by decide)))).trans htv_1155
        have htv_1176 : rd f_1160 o 5 = .null := ((hrd_1161 o 5).trans (if_neg (fun h9 => absurd h9.2 (by decide)))).trans htv_1156
        have htv_1177 : rd f_1160 o 6 = .ref b_1063 := (hrd_1161 o 6).trans (if_pos ⟨rfl, rfl⟩)
        exact K_vZ hx hb hr hlocks hP hD hK hS hT hE ⟨rfl, hF, _, _, _, _, _, _, _, _, _, hk_1163, hk_1164, hk_1165, hk_1166, hk_1167, hk_1170, hk_1171, hk_1172, hk_1173, trivial, trivial, trivial, trivial, hrel_1136, trivial, trivial, trivial, trivial, hO5, htv_1175, ⟨qn_1147, (tset Tn_1148 2 k (thd qn_839.2.1 qn_1147.2.1)), an_1149, Or.inr (Or.inr (Or.inr ⟨⟨c_4, c_169, c_334⟩, _, hev_842, by rw [if_pos c_871]; exact hev_1150⟩)), hrq_1151, (by first | exact hsg_1152 | (simp only [gpa_nd, gnu_nd, gpl_nd, gte_nd, gob_nd, grf_nd]; exact hsg_1152)), fun h9 => ⟨PUb.two hpk_848 (hpk_1157 h9) h9 (by first | exact hqk | (rw [gnu_nd]; exact hqk) | (rw [gte_nd]; exact hqk)) (fun b9 hb9 => (hEc_805 b9 hb9).1) (hEc_805 o (hT0.at 1 rfl).1).1 hEw_1054 hOw_1055 hE9__1159 hO9__1158 hEb1 hOb1 (fun b9 hb9 => (hE9__850 b9 hb9).1) htv_1176 htv_1177 hqk (fun g9 g8 => Or.inr (Or.inr (Or.inr ⟨⟨c_4, c_169, c_334⟩, _, g9, _, by rw [if_pos c_871]; exact g8, rfl⟩))), ⟨fun h8 => (h8.elim c_4 c_169).elim, fun h8 => absurd h8 c_334⟩⟩⟩⟩ (⟨_, _, hk_1165, hk_1167, by omega⟩) (by first | exact Nat.le_of_ble_eq_true rfl | (simp only [rm_X2_readBuiltT]; omega) | omega) (by first | exact Nat.le_of_ble_eq_true rfl | (simp only [rm_X2_readBuiltT]; omega) | omega) (by first | exact Nat.le_of_ble_eq_true rfl | (simp only [rm_X2_readBuiltT]; omega) | omega) dX2_readBuilt_158
  · have hT := hT.add hb9
    obtain ⟨hfr_1178, ax_1179, tn_1180, fa_1181, pw_1182, sg_1183, hk_1184, hk_1185, hk_1186, hk_1187, hk_1188, hrel_1189, hrel_1190, hrel_1191, hrel_1192, hrel_1193, hex_1194⟩ := hw_808
    obtain ⟨hof_1195, hex_1196⟩ := hex_1194
    have hO5 := hO5.call hEo hof_1195 (by simp)
    have hk_1197 : rd f_807 tok 3 = .int zz := (hfr_1178.1 tok (hTo.at 2 rfl).1 6 (hTo.at 2 rfl).2 3 (by decide)).trans hm_zz
    have hk_1198 : rd f_807 o 0 = .int wd := (hfr_1178.1 o (hTo.at 1 rfl).1 5 (hTo.at 1 rfl).2 0 (by decide)).trans hm_wd
    have hk_1199 : rd f_807 o 1 = .int vt := (hof_1195 o (hTo.at 1 rfl).1 (hTo.at 1 rfl).2 (by simp) 1).trans hm_vt
    have hk_1200 : rd f_807 o 2 = .int nu := (hof_1195 o (hTo.at 1 rfl).1 (hTo.at 1 rfl).2 (by simp) 2).trans hm_nu
    have hk_1201 : rd f_807 o 3 = .int lo := (hof_1195 o (hTo.at 1 rfl).1 (hTo.at 1 rfl).2 (by simp) 3).trans hm_lo
    have hk_1202 : rd f_807 o 4 = .int be := (hof_1195 o (hTo.at 1 rfl).1 (hTo.at 1 rfl).2 (by simp) 4).trans hm_be
    have hq_1203 : n_809 + pot fa_1181 sg_1183 ≤ pot fa sg := by
      obtain ⟨a9, b9, g1, g2, g3⟩ := hn_810
      cases g1.symm.trans hk_1186
      cases g2.symm.trans hk_1188
      exact g3
    have htv_1211 : rd f_807 o 6 = .null := (hof_1195 o (hTo.at 1 rfl).1 (hTo.at 1 rfl).2 (by simp) 6).trans hs6
    have htv_1212 : rd f_807 o 7 = (rd f o 7) := (hof_1195 o (hTo.at 1 rfl).1 (hTo.at 1 rfl).2 (by simp) 7).trans rfl
    have hE9 := hE1
    obtain ⟨qn_1204, Tn_1205, an_1206, hev_1207, hrq_1208, hsg_1209, hpk_1210⟩ := hex_1196
    have hpk_1213 : qn_1204.2.2.1 = 0 → PB (Kp tt ln) (Vp tt ln) (nq tt ln) 2 d q qn_1204 T Tn_1205 ad an_1206 L L_806 f_807 (.ref b_812) := fun h9 => by
      obtain ⟨v9, e9, g9⟩ := hpk_1210 h9
      cases e9
      exact g9
    have hEb0 : Ext L_806 f_807 L_806 f_807 := Ext.rf
    have hOb0 : OF 5 [o] L_806 f_807 f_807 := OF.rf
    have hO9__1214 := hof_1195
    have hE9__1215 := hE9
    refine W.eq (g2 := F0 m 126 ls [.ref b_812, .ref o]) rfl ?_
    have hTo := hT
    refine T_put (ci := 5) (v := .ref b_812) (ty := .object "VatHouse$Step") (t := (2, 0, 5, 0)) (C := RX5) (T := TX5) (N := 8) hx hb hts inw_X2_readBuilt_5 tyX5 tyX5_ok nmX5 hown hK hP hD hS hT 2 rfl rfl 5 (by decide) (hts (.fieldLink RX2 85 "VatHouse$Step" "block" "LVatHouse$Step;") (List.mem_of_getElem? (i := 3) (by exact rfl))) (fun _ h9 => h9) rfl (tyX5_ok 5 (by decide)) rfl rfl rfl (Or.inr ⟨_, rfl, hT.at 0 rfl⟩) dX2_readBuilt_126 (fun f_1216 H locs hP hD hS hT hE1 hrd_1217 hup_1218 => ?_)
    have hO5 := hO5.put hrd_1217 (by simp)
    have hF := Fr.put (a := o) (ci := 5) hF hE ((hE1 o (hT.at 2 rfl).1).2.symm.trans (hT.at 2 rfl).2) (by decide) hrd_1217 hup_1218
    have hE := hE.tr hE1
    have hk_1219 : rd f_1216 h0 1 = .int ax_1179 := ((Fr.put (cs := [(5, 5)]) (a := o) (ci := 5) Fr.rf Ext.rf (hTo.at 2 rfl).2 (by decide) hrd_1217 hup_1218).1 h0 (hTo.at 1 rfl).1 2 (hTo.at 1 rfl).2 1 (by decide)).trans hk_1184
    have hk_1220 : rd f_1216 h0 2 = .int tn_1180 := ((Fr.put (cs := [(5, 5)]) (a := o) (ci := 5) Fr.rf Ext.rf (hTo.at 2 rfl).2 (by decide) hrd_1217 hup_1218).1 h0 (hTo.at 1 rfl).1 2 (hTo.at 1 rfl).2 2 (by decide)).trans hk_1185
    have hk_1221 : rd f_1216 h0 3 = .int fa_1181 := ((Fr.put (cs := [(5, 5)]) (a := o) (ci := 5) Fr.rf Ext.rf (hTo.at 2 rfl).2 (by decide) hrd_1217 hup_1218).1 h0 (hTo.at 1 rfl).1 2 (hTo.at 1 rfl).2 3 (by decide)).trans hk_1186
    have hk_1222 : rd f_1216 h0 4 = .int pw_1182 := ((Fr.put (cs := [(5, 5)]) (a := o) (ci := 5) Fr.rf Ext.rf (hTo.at 2 rfl).2 (by decide) hrd_1217 hup_1218).1 h0 (hTo.at 1 rfl).1 2 (hTo.at 1 rfl).2 4 (by decide)).trans hk_1187
    have hk_1223 : rd f_1216 h0 5 = .int sg_1183 := ((Fr.put (cs := [(5, 5)]) (a := o) (ci := 5) Fr.rf Ext.rf (hTo.at 2 rfl).2 (by decide) hrd_1217 hup_1218).1 h0 (hTo.at 1 rfl).1 2 (hTo.at 1 rfl).2 5 (by decide)).trans hk_1188
    have hk_1224 : rd f_1216 tok 3 = .int zz := ((Fr.put (cs := [(5, 5)]) (a := o) (ci := 5) Fr.rf Ext.rf (hTo.at 2 rfl).2 (by decide) hrd_1217 hup_1218).1 tok (hTo.at 3 rfl).1 6 (hTo.at 3 rfl).2 3 (by decide)).trans hk_1197
    have hk_1225 : rd f_1216 o 0 = .int wd := ((Fr.put (cs := [(5, 5)]) (a := o) (ci := 5) Fr.rf Ext.rf (hTo.at 2 rfl).2 (by decide) hrd_1217 hup_1218).1 o (hTo.at 2 rfl).1 5 (hTo.at 2 rfl).2 0 (by decide)).trans hk_1198
    have hk_1226 : rd f_1216 o 1 = .int vt := ((Fr.put (cs := [(5, 5)]) (a := o) (ci := 5) Fr.rf Ext.rf (hTo.at 2 rfl).2 (by decide) hrd_1217 hup_1218).1 o (hTo.at 2 rfl).1 5 (hTo.at 2 rfl).2 1 (by decide)).trans hk_1199
    have hk_1227 : rd f_1216 o 2 = .int nu := ((Fr.put (cs := [(5, 5)]) (a := o) (ci := 5) Fr.rf Ext.rf (hTo.at 2 rfl).2 (by decide) hrd_1217 hup_1218).1 o (hTo.at 2 rfl).1 5 (hTo.at 2 rfl).2 2 (by decide)).trans hk_1200
    have hk_1228 : rd f_1216 o 3 = .int lo := ((Fr.put (cs := [(5, 5)]) (a := o) (ci := 5) Fr.rf Ext.rf (hTo.at 2 rfl).2 (by decide) hrd_1217 hup_1218).1 o (hTo.at 2 rfl).1 5 (hTo.at 2 rfl).2 3 (by decide)).trans hk_1201
    have hk_1229 : rd f_1216 o 4 = .int be := ((Fr.put (cs := [(5, 5)]) (a := o) (ci := 5) Fr.rf Ext.rf (hTo.at 2 rfl).2 (by decide) hrd_1217 hup_1218).1 o (hTo.at 2 rfl).1 5 (hTo.at 2 rfl).2 4 (by decide)).trans hk_1202
    have hOb0 := hOb0.put hrd_1217 (by simp)
    have hEb0 := hEb0.tr hE1
    have htv_1230 : rd f_1216 o 6 = .null := ((hrd_1217 o 6).trans (if_neg (fun h9 => absurd h9.2 (by decide)))).trans htv_1211
    have htv_1231 : rd f_1216 o 7 = (rd f o 7) := ((hrd_1217 o 7).trans (if_neg (fun h9 => absurd h9.2 (by decide)))).trans htv_1212
    have htv_1232 : rd f_1216 o 5 = .ref b_812 := (hrd_1217 o 5).trans (if_pos ⟨rfl, rfl⟩)
    refine lv_aload_n hx hb dX2_readBuilt_129 rfl (lv_at hl 0 rfl) ?_
    refine lv_aload_n hx hb dX2_readBuilt_130 rfl (lv_at hl 1 rfl) ?_
    refine T_get (ci := 5) (C := RX5) (T := TX5) (N := 8) (t := tI) hx hb hts inw_X2_readBuilt_5 hown hK hP hT 2 rfl rfl 0 (by decide) (hts (.fieldLink RX2 61 "VatHouse$Step" "word" "I") (List.mem_of_getElem? (i := 1) (by exact rfl))) (fun _ h9 => h9) rfl dX2_readBuilt_131 (fun v_1235 hv_1233 hr_1234 => ?_)
    obtain rfl : v_1235 = .int wd := hr_1234.symm.trans hk_1225
    refine lv_bipush (v := 11) hx hb dX2_readBuilt_134 (by decide) ?_
    refine lv_icmp_ne (tgt := 144) hx hb dX2_readBuilt_136 (by decide) (fun c_1236 => ?_) (fun c_1236 => ?_)
    · refine lv_bipush (v := 14) hx hb dX2_readBuilt_144 (by decide) ?_
      have hTo := hT
      refine K_V ⟨hx, hb, hml, hown, hts⟩ (t_X2_pass l dC dI sa hlt g _ _ tt ln M qn_1204 h0 14 tok ka sta vaa ax_1179 tn_1180 fa_1181 pw_1182 zz _ (hT.sub [1, 3, 4, 5, 6] rfl)  hk_1219 hk_1220 hk_1221 hk_1222 hk_1224 ((hF.1 h0 (hT0.at 0 rfl).1 2 (hT0.at 0 rfl).2 0 (by decide)).trans h_tok) ((hF.1 tok (hT0.at 2 rfl).1 6 (hT0.at 2 rfl).2 4 (by decide)).trans h_ka) ((hF.1 tok (hT0.at 2 rfl).1 6 (hT0.at 2 rfl).2 5 (by decide)).trans h_sta) ((hF.1 tok (hT0.at 2 rfl).1 6 (hT0.at 2 rfl).2 6 (by decide)).trans h_vaa) hzz (hTK.go (hF.2 ka (hT0.at 3 rfl).1 0 _ _ (hT0.at 3 rfl).2 (by decide)) (hF.2 sta (hT0.at 4 rfl).1 0 _ _ (hT0.at 4 rfl).2 (by decide)) (hF.2 vaa (hT0.at 5 rfl).1 0 _ _ (hT0.at 5 rfl).2 (by decide))) hrq_1208 (Or.inl (by decide))) (cwV 1 hts gX2_readBuilt_X2_pass rfl rfl rfl (by decide +kernel) ⟨(by first | exact Nat.le_of_ble_eq_true rfl | (simp only [rm_X2_pass, rm_X2_readBuiltT]; omega)), (by first | exact Nat.le_of_ble_eq_true rfl | (simp only [rm_X2_pass, rm_X2_readBuiltT]; omega))⟩) hP hD hK hS hA hev hT 1 2 rfl rfl rfl rfl hl.1 rfl (Nat.le_of_ble_eq_true rfl) dX2_readBuilt_146 ⟨(by first | exact Nat.le_of_ble_eq_true rfl | (simp only [rm_X2_readBuiltT]; omega) | omega), (by first | exact Nat.le_of_ble_eq_true rfl | (simp only [rm_X2_readBuiltT]; omega) | omega)⟩ (fun r L_1237 f_1238 H locs hw_1239 hP hD hS hT hE1 => ?_)
      have hEo := hE
      have hO5 := hO5.call hE (OF.fr hw_1239.2.1 (by decide)) (by simp)
      have hF := Fr.call hF hE hw_1239.2.1 (by decide)
      have hE := hE.tr hE1
      obtain ⟨rfl, hw_1239⟩ := hw_1239
      obtain ⟨hfr_1240, ax_1241, tn_1242, fa_1243, pw_1244, hk_1245, hk_1246, hk_1247, hk_1248, hrel_1249, hrel_1250, hrel_1251, hrel_1252, hex_1253⟩ := hw_1239
      have hk_1254 : rd f_1238 h0 5 = .int sg_1183 := (hfr_1240.1 h0 (hTo.at 1 rfl).1 2 (hTo.at 1 rfl).2 5 (by decide)).trans hk_1223
      have hk_1255 : rd f_1238 tok 3 = .int zz := (hfr_1240.1 tok (hTo.at 3 rfl).1 6 (hTo.at 3 rfl).2 3 (by decide)).trans hk_1224
      have hk_1256 : rd f_1238 o 0 = .int wd := (hfr_1240.1 o (hTo.at 2 rfl).1 5 (hTo.at 2 rfl).2 0 (by decide)).trans hk_1225
      have hk_1257 : rd f_1238 o 1 = .int vt := (hfr_1240.1 o (hTo.at 2 rfl).1 5 (hTo.at 2 rfl).2 1 (by decide)).trans hk_1226
      have hk_1258 : rd f_1238 o 2 = .int nu := (hfr_1240.1 o (hTo.at 2 rfl).1 5 (hTo.at 2 rfl).2 2 (by decide)).trans hk_1227
      have hk_1259 : rd f_1238 o 3 = .int lo := (hfr_1240.1 o (hTo.at 2 rfl).1 5 (hTo.at 2 rfl).2 3 (by decide)).trans hk_1228
      have hk_1260 : rd f_1238 o 4 = .int be := (hfr_1240.1 o (hTo.at 2 rfl).1 5 (hTo.at 2 rfl).2 4 (by decide)).trans hk_1229
      have hOb0 := hOb0.call hEb0 (OF.fr hfr_1240 (by decide)) (by simp)
      have hEb0 := hEb0.tr hE1
      have htv_1261 : rd f_1238 o 6 = .null := (hfr_1240.1 o (hTo.at 2 rfl).1 5 (hTo.at 2 rfl).2 6 (by decide)).trans htv_1230
      have htv_1262 : rd f_1238 o 7 = (rd f o 7) := (hfr_1240.1 o (hTo.at 2 rfl).1 5 (hTo.at 2 rfl).2 7 (by decide)).trans htv_1231
      have htv_1263 : rd f_1238 o 5 = .ref b_812 := (hfr_1240.1 o (hTo.at 2 rfl).1 5 (hTo.at 2 rfl).2 5 (by decide)).trans htv_1232
      have hq_1264 : pot fa_1243 sg_1183 ≤ pot fa_1181 sg_1183 := pot_le (fun h9 => (hrel_1251 h9).1)
      have hrq_1265 := hex_1253
      refine W.eq (g2 := F0 m 149 ls []) rfl ?_
      refine lv_aload_n hx hb dX2_readBuilt_149 rfl (lv_at hl 1 rfl) ?_
      refine lv_aload_n hx hb dX2_readBuilt_150 rfl (lv_at hl 0 rfl) ?_
      refine lv_iload_n hx hb dX2_readBuilt_151 rfl (lv_at hl 2 rfl) ?_
      have hEw_1266 := hEb0
      have hOw_1267 := hOb0
      have hEc_1268 := hE
      have hTo := hT
      refine K_VZ ⟨hx, hb, hml, hown, hts⟩ (t_X2_readBlockT l dC dI sa hlt g _ _ j d (pot fa_1243 sg_1183) tt ln M (gpa (Kp tt ln) (nq tt ln) 14 qn_1204) (tset Tn_1205 1 k (thd (k + 1) qn_1204.2.1)) an_1206 h0 dep tok ka sta vaa ax_1241 tn_1242 fa_1243 pw_1244 sg_1183 zz _ (hT.sub [1, 3, 4, 5, 6] rfl)  hk_1245 hk_1246 hk_1247 hk_1248 hk_1254 hk_1255 ((hF.1 h0 (hT0.at 0 rfl).1 2 (hT0.at 0 rfl).2 0 (by decide)).trans h_tok) ((hF.1 tok (hT0.at 2 rfl).1 6 (hT0.at 2 rfl).2 4 (by decide)).trans h_ka) ((hF.1 tok (hT0.at 2 rfl).1 6 (hT0.at 2 rfl).2 5 (by decide)).trans h_sta) ((hF.1 tok (hT0.at 2 rfl).1 6 (hT0.at 2 rfl).2 6 (by decide)).trans h_vaa) hd hdj rfl hrel_1193 hzz (hTK.go (hF.2 ka (hT0.at 3 rfl).1 0 _ _ (hT0.at 3 rfl).2 (by decide)) (hF.2 sta (hT0.at 4 rfl).1 0 _ _ (hT0.at 4 rfl).2 (by decide)) (hF.2 vaa (hT0.at 5 rfl).1 0 _ _ (hT0.at 5 rfl).2 (by decide))) hrq_1265 (by first | exact hsg_1209 | (simp only [gpa_nd, gnu_nd, gpl_nd, gte_nd, gob_nd, grf_nd]; exact hsg_1209)) IHR) (cwV 1 hts gX2_readBuilt_X2_readBlock rfl rfl rfl (by decide +kernel) ⟨(by first | exact Nat.le_of_ble_eq_true rfl | (simp only [rm_X2_readBlockT, rm_X2_readBuiltT]; omega)), (by first | exact Nat.le_of_ble_eq_true rfl | (simp only [rm_X2_readBlockT, rm_X2_readBuiltT]; omega))⟩) hP hD hK hS hA hev hT 1 2 rfl rfl rfl rfl hl.1 rfl (Nat.le_of_ble_eq_true rfl) dX2_readBuilt_152 ⟨(by first | exact Nat.le_of_ble_eq_true rfl | (simp only [rm_X2_readBuiltT]; omega) | omega), (by first | exact Nat.le_of_ble_eq_true rfl | (simp only [rm_X2_readBuiltT]; omega) | omega)⟩ (fun r L_1269 f_1270 n_1272 H locs hw_1271 hn_1273 hP hD hS hT hE1 => ?_)
      have hEo := hE
      have hF := Fr.call hF hE hw_1271.2.1 (by decide)
      have hE := hE.tr hE1
      obtain ⟨⟨v_1274, rfl, hv9⟩, hw_1271⟩ := hw_1271
      rcases hv9 with rfl | ⟨b_1275, rfl, hb9⟩
      · obtain ⟨hfr_1276, ax_1277, tn_1278, fa_1279, pw_1280, sg_1281, hk_1282, hk_1283, hk_1284, hk_1285, hk_1286, hrel_1287, hrel_1288, hrel_1289, hrel_1290, hrel_1291, hex_1292⟩ := hw_1271
        obtain ⟨hof_1293, hex_1294⟩ := hex_1292
        have hO5 := hO5.call hEo hof_1293 (by simp)
        have hk_1295 : rd f_1270 tok 3 = .int zz := (hfr_1276.1 tok (hTo.at 3 rfl).1 6 (hTo.at 3 rfl).2 3 (by decide)).trans hk_1255
        have hk_1296 : rd f_1270 o 0 = .int wd := (hfr_1276.1 o (hTo.at 2 rfl).1 5 (hTo.at 2 rfl).2 0 (by decide)).trans hk_1256
        have hk_1297 : rd f_1270 o 1 = .int vt := (hof_1293 o (hTo.at 2 rfl).1 (hTo.at 2 rfl).2 (by simp) 1).trans hk_1257
        have hk_1298 : rd f_1270 o 2 = .int nu := (hof_1293 o (hTo.at 2 rfl).1 (hTo.at 2 rfl).2 (by simp) 2).trans hk_1258
        have hk_1299 : rd f_1270 o 3 = .int lo := (hof_1293 o (hTo.at 2 rfl).1 (hTo.at 2 rfl).2 (by simp) 3).trans hk_1259
        have hk_1300 : rd f_1270 o 4 = .int be := (hof_1293 o (hTo.at 2 rfl).1 (hTo.at 2 rfl).2 (by simp) 4).trans hk_1260
        have hq_1301 : n_1272 + pot fa_1279 sg_1281 ≤ pot fa_1243 sg_1183 := by
          obtain ⟨a9, b9, g1, g2, g3⟩ := hn_1273
          cases g1.symm.trans hk_1284
          cases g2.symm.trans hk_1286
          exact g3
        have hOb0 := hOb0.call hEb0 hof_1293 (by simp)
        have hEb0 := hEb0.tr hE1
        have htv_1309 : rd f_1270 o 6 = .null := (hof_1293 o (hTo.at 2 rfl).1 (hTo.at 2 rfl).2 (by simp) 6).trans htv_1261
        have htv_1310 : rd f_1270 o 7 = (rd f o 7) := (hof_1293 o (hTo.at 2 rfl).1 (hTo.at 2 rfl).2 (by simp) 7).trans htv_1262
        have htv_1311 : rd f_1270 o 5 = .ref b_812 := (hof_1293 o (hTo.at 2 rfl).1 (hTo.at 2 rfl).2 (by simp) 5).trans htv_1263
        have hE9 := hE1
        obtain ⟨qn_1302, Tn_1303, an_1304, hev_1305, hrq_1306, hsg_1307, hpk_1308⟩ := hex_1294
        have hpk_1312 : qn_1302.2.2.1 = 0 → PB (Kp tt ln) (Vp tt ln) (nq tt ln) 2 d (gpa (Kp tt ln) (nq tt ln) 14 qn_1204) qn_1302 (tset Tn_1205 1 k (thd (k + 1) qn_1204.2.1)) Tn_1303 an_1206 an_1304 L_1237 L_1269 f_1270 (.null) := fun h9 => by
          obtain ⟨v9, e9, g9⟩ := hpk_1308 h9
          cases e9
          exact g9
        have hEb1 : Ext L_1269 f_1270 L_1269 f_1270 := Ext.rf
        have hOb1 : OF 5 [o] L_1269 f_1270 f_1270 := OF.rf
        have hO9__1313 := hof_1293
        have hE9__1314 := hE9
        refine W.eq (g2 := F0 m 155 ls [.null, .ref o]) rfl ?_
        have hTo := hT
        refine T_put (ci := 5) (v := .null) (ty := .object "VatHouse$Step") (t := (2, 0, 5, 0)) (C := RX5) (T := TX5) (N := 8) hx hb hts inw_X2_readBuilt_5 tyX5 tyX5_ok nmX5 hown hK hP hD hS hT 2 rfl rfl 6 (by decide) (hts (.fieldLink RX2 91 "VatHouse$Step" "other" "LVatHouse$Step;") (List.mem_of_getElem? (i := 5) (by exact rfl))) (fun _ h9 => h9) rfl (tyX5_ok 6 (by decide)) rfl rfl rfl (Or.inl rfl) dX2_readBuilt_155 (fun f_1315 H locs hP hD hS hT hE1 hrd_1316 hup_1317 => ?_)
        have hO5 := hO5.put hrd_1316 (by simp)
        have hF := Fr.put (a := o) (ci := 5) hF hE ((hE1 o (hT.at 2 rfl).1).2.symm.trans (hT.at 2 rfl).2) (by decide) hrd_1316 hup_1317
        have hE := hE.tr hE1
        have hk_1318 : rd f_1315 h0 1 = .int ax_1277 := ((Fr.put (cs := [(5, 6)]) (a := o) (ci := 5) Fr.rf Ext.rf (hTo.at 2 rfl).2 (by decide) hrd_1316 hup_1317).1 h0 (hTo.at 1 rfl).1 2 (hTo.at 1 rfl).2 1 (by decide)).trans hk_1282
        have hk_1319 : rd f_1315 h0 2 = .int tn_1278 := ((Fr.put (cs := [(5, 6)]) (a := o) (ci := 5) Fr.rf Ext.rf (hTo.at 2 rfl).2 (by decide) hrd_1316 hup_1317).1 h0 (hTo.at 1 rfl).1 2 (hTo.at 1 rfl).2 2 (by decide)).trans hk_1283
        have hk_1320 : rd f_1315 h0 3 = .int fa_1279 := ((Fr.put (cs := [(5, 6)]) (a := o) (ci := 5) Fr.rf Ext.rf (hTo.at 2 rfl).2 (by decide) hrd_1316 hup_1317).1 h0 (hTo.at 1 rfl).1 2 (hTo.at 1 rfl).2 3 (by decide)).trans hk_1284
        have hk_1321 : rd f_1315 h0 4 = .int pw_1280 := ((Fr.put (cs := [(5, 6)]) (a := o) (ci := 5) Fr.rf Ext.rf (hTo.at 2 rfl).2 (by decide) hrd_1316 hup_1317).1 h0 (hTo.at 1 rfl).1 2 (hTo.at 1 rfl).2 4 (by decide)).trans hk_1285
        have hk_1322 : rd f_1315 h0 5 = .int sg_1281 := ((Fr.put (cs := [(5, 6)]) (a := o) (ci := 5) Fr.rf Ext.rf (hTo.at 2 rfl).2 (by decide) hrd_1316 hup_1317).1 h0 (hTo.at 1 rfl).1 2 (hTo.at 1 rfl).2 5 (by decide)).trans hk_1286
        have hk_1323 : rd f_1315 tok 3 = .int zz := ((Fr.put (cs := [(5, 6)]) (a := o) (ci := 5) Fr.rf Ext.rf (hTo.at 2 rfl).2 (by decide) hrd_1316 hup_1317).1 tok (hTo.at 3 rfl).1 6 (hTo.at 3 rfl).2 3 (by decide)).trans hk_1295
        have hk_1324 : rd f_1315 o 0 = .int wd := ((Fr.put (cs := [(5, 6)]) (a := o) (ci := 5) Fr.rf Ext.rf (hTo.at 2 rfl).2 (by decide) hrd_1316 hup_1317).1 o (hTo.at 2 rfl).1 5 (hTo.at 2 rfl).2 0 (by decide)).trans hk_1296
        have hk_1325 : rd f_1315 o 1 = .int vt := ((Fr.put (cs := [(5, 6)]) (a := o) (ci := 5) Fr.rf Ext.rf (hTo.at 2 rfl).2 (by decide) hrd_1316 hup_1317).1 o (hTo.at 2 rfl).1 5 (hTo.at 2 rfl).2 1 (by decide)).trans hk_1297
        have hk_1326 : rd f_1315 o 2 = .int nu := ((Fr.put (cs := [(5, 6)]) (a := o) (ci := 5) Fr.rf Ext.rf (hTo.at 2 rfl).2 (by decide) hrd_1316 hup_1317).1 o (hTo.at 2 rfl).1 5 (hTo.at 2 rfl).2 2 (by decide)).trans hk_1298
        have hk_1327 : rd f_1315 o 3 = .int lo := ((Fr.put (cs := [(5, 6)]) (a := o) (ci := 5) Fr.rf Ext.rf (hTo.at 2 rfl).2 (by decide) hrd_1316 hup_1317).1 o (hTo.at 2 rfl).1 5 (hTo.at 2 rfl).2 3 (by decide)).trans hk_1299
        have hk_1328 : rd f_1315 o 4 = .int be := ((Fr.put (cs := [(5, 6)]) (a := o) (ci := 5) Fr.rf Ext.rf (hTo.at 2 rfl).2 (by decide) hrd_1316 hup_1317).1 o (hTo.at 2 rfl).1 5 (hTo.at 2 rfl).2 4 (by decide)).trans hk_1300
        have hOb0 := hOb0.put hrd_1316 (by simp)
        have hEb0 := hEb0.tr hE1
        have hOb1 := hOb1.put hrd_1316 (by simp)
        have hEb1 := hEb1.tr hE1
        have htv_1330 : rd f_1315 o 7 = (rd f o 7) := ((hrd_1316 o 7).trans (if_neg (fun h9 => absurd h9.2 (by decide)))).trans htv_1310
        have htv_1331 : rd f_1315 o 5 = .ref b_812 := ((hrd_1316 o 5).trans (if_neg (fun h9 => absurd h9.2 (by decide)))).trans htv_1311
        have htv_1332 : rd f_1315 o 6 = .null := (hrd_1316 o 6).trans (if_pos ⟨rfl, rfl⟩)
        exact K_vZ hx hb hr hlocks hP hD hK hS hT hE ⟨rfl, hF, _, _, _, _, _, _, _, _, _, hk_1318, hk_1319, hk_1320, hk_1321, hk_1322, hk_1325, hk_1326, hk_1327, hk_1328, trivial, trivial, trivial, trivial, hrel_1291, trivial, trivial, trivial, trivial, hO5, htv_1330, ⟨qn_1302, (tset Tn_1303 2 k (thd qn_1204.2.1 qn_1302.2.1)), an_1304, Or.inr (Or.inr (Or.inr ⟨⟨c_4, c_169, c_334⟩, _, hev_1207, by rw [if_neg c_1236]; exact hev_1305⟩)), hrq_1306, (by first | exact hsg_1307 | (simp only [gpa_nd, gnu_nd, gpl_nd, gte_nd, gob_nd, grf_nd]; exact hsg_1307)), fun h9 => ⟨PUb.two hpk_1213 (hpk_1312 h9) h9 (by first | exact hqk | (rw [gnu_nd]; exact hqk) | (rw [gte_nd]; exact hqk)) (fun b9 hb9 => (hEc_805 b9 hb9).1) (hEc_805 o (hT0.at 1 rfl).1).1 hEw_1266 hOw_1267 hE9__1314 hO9__1313 hEb1 hOb1 (fun b9 hb9 => (hE9__1215 b9 hb9).1) htv_1331 htv_1332 hqk (fun g9 g8 => Or.inr (Or.inr (Or.inr ⟨⟨c_4, c_169, c_334⟩, _, g9, _, by rw [if_neg c_1236]; exact g8, rfl⟩))), ⟨fun h8 => (h8.elim c_4 c_169).elim, fun h8 => absurd h8 c_334⟩⟩⟩⟩ (⟨_, _, hk_1320, hk_1322, by omega⟩) (by first | exact Nat.le_of_ble_eq_true rfl | (simp only [rm_X2_readBuiltT]; omega) | omega) (by first | exact Nat.le_of_ble_eq_true rfl | (simp only [rm_X2_readBuiltT]; omega) | omega) (by first | exact Nat.le_of_ble_eq_true rfl | (simp only [rm_X2_readBuiltT]; omega) | omega) dX2_readBuilt_158
      · have hT := hT.add hb9
        obtain ⟨hfr_1333, ax_1334, tn_1335, fa_1336, pw_1337, sg_1338, hk_1339, hk_1340, hk_1341, hk_1342, hk_1343, hrel_1344, hrel_1345, hrel_1346, hrel_1347, hrel_1348, hex_1349⟩ := hw_1271
        obtain ⟨hof_1350, hex_1351⟩ := hex_1349
        have hO5 := hO5.call hEo hof_1350 (by simp)
        have hk_1352 : rd f_1270 tok 3 = .int zz := (hfr_1333.1 tok (hTo.at 3 rfl).1 6 (hTo.at 3 rfl).2 3 (by decide)).trans hk_1255
        have hk_1353 : rd f_1270 o 0 = .int wd := (hfr_1333.1 o (hTo.at 2 rfl).1 5 (hTo.at 2 rfl).2 0 (by decide)).trans hk_1256
        have hk_1354 : rd f_1270 o 1 = .int vt := (hof_1350 o (hTo.at 2 rfl).1 (hTo.at 2 rfl).2 (by simp) 1).trans hk_1257
        have hk_1355 : rd f_1270 o 2 = .int nu := (hof_1350 o (hTo.at 2 rfl).1 (hTo.at 2 rfl).2 (by simp) 2).trans hk_1258
        have hk_1356 : rd f_1270 o 3 = .int lo := (hof_1350 o (hTo.at 2 rfl).1 (hTo.at 2 rfl).2 (by simp) 3).trans hk_1259
        have hk_1357 : rd f_1270 o 4 = .int be := (hof_1350 o (hTo.at 2 rfl).1 (hTo.at 2 rfl).2 (by simp) 4).trans hk_1260
        have hq_1358 : n_1272 + pot fa_1336 sg_1338 ≤ pot fa_1243 sg_1183 := by
          obtain ⟨a9, b9, g1, g2, g3⟩ := hn_1273
          cases g1.symm.trans hk_1341
          cases g2.symm.trans hk_1343
          exact g3
        have hOb0 := hOb0.call hEb0 hof_1350 (by simp)
        have hEb0 := hEb0.tr hE1
        have htv_1366 : rd f_1270 o 6 = .null := (hof_1350 o (hTo.at 2 rfl).1 (hTo.at 2 rfl).2 (by simp) 6).trans htv_1261
        have htv_1367 : rd f_1270 o 7 = (rd f o 7) := (hof_1350 o (hTo.at 2 rfl).1 (hTo.at 2 rfl).2 (by simp) 7).trans htv_1262
        have htv_1368 : rd f_1270 o 5 = .ref b_812 := (hof_1350 o (hTo.at 2 rfl).1 (hTo.at 2 rfl).2 (by simp) 5).trans htv_1263
        have hE9 := hE1
        obtain ⟨qn_1359, Tn_1360, an_1361, hev_1362, hrq_1363, hsg_1364, hpk_1365⟩ := hex_1351
        have hpk_1369 : qn_1359.2.2.1 = 0 → PB (Kp tt ln) (Vp tt ln) (nq tt ln) 2 d (gpa (Kp tt ln) (nq tt ln) 14 qn_1204) qn_1359 (tset Tn_1205 1 k (thd (k + 1) qn_1204.2.1)) Tn_1360 an_1206 an_1361 L_1237 L_1269 f_1270 (.ref b_1275) := fun h9 => by
          obtain ⟨v9, e9, g9⟩ := hpk_1365 h9
          cases e9
          exact g9
        have hEb1 : Ext L_1269 f_1270 L_1269 f_1270 := Ext.rf
        have hOb1 : OF 5 [o] L_1269 f_1270 f_1270 := OF.rf
        have hO9__1370 := hof_1350
        have hE9__1371 := hE9
        refine W.eq (g2 := F0 m 155 ls [.ref b_1275, .ref o]) rfl ?_
        have hTo := hT
        refine T_put (ci := 5) (v := .ref b_1275) (ty := .object "VatHouse$Step") (t := (2, 0, 5, 0)) (C := RX5) (T := TX5) (N := 8) hx hb hts inw_X2_readBuilt_5 tyX5 tyX5_ok nmX5 hown hK hP hD hS hT 3 rfl rfl 6 (by decide) (hts (.fieldLink RX2 91 "VatHouse$Step" "other" "LVatHouse$Step;") (List.mem_of_getElem? (i := 5) (by exact rfl))) (fun _ h9 => h9) rfl (tyX5_ok 6 (by decide)) rfl rfl rfl (Or.inr ⟨_, rfl, hT.at 0 rfl⟩) dX2_readBuilt_155 (fun f_1372 H locs hP hD hS hT hE1 hrd_1373 hup_1374 => ?_)
        have hO5 := hO5.put hrd_1373 (by simp)
        have hF := Fr.put (a := o) (ci := 5) hF hE ((hE1 o (hT.at 3 rfl).1).2.symm.trans (hT.at 3 rfl).2) (by decide) hrd_1373 hup_1374
        have hE := hE.tr hE1
        have hk_1375 : rd f_1372 h0 1 = .int ax_1334 := ((Fr.put (cs := [(5, 6)]) (a := o) (ci := 5) Fr.rf Ext.rf (hTo.at 3 rfl).2 (by decide) hrd_1373 hup_1374).1 h0 (hTo.at 2 rfl).1 2 (hTo.at 2 rfl).2 1 (by decide)).trans hk_1339
        have hk_1376 : rd f_1372 h0 2 = .int tn_1335 := ((Fr.put (cs := [(5, 6)]) (a := o) (ci := 5) Fr.rf Ext.rf (hTo.at 3 rfl).2 (by decide) hrd_1373 hup_1374).1 h0 (hTo.at 2 rfl).1 2 (hTo.at 2 rfl).2 2 (by decide)).trans hk_1340
        have hk_1377 : rd f_1372 h0 3 = .int fa_1336 := ((Fr.put (cs := [(5, 6)]) (a := o) (ci := 5) Fr.rf Ext.rf (hTo.at 3 rfl).2 (by decide) hrd_1373 hup_1374).1 h0 (hTo.at 2 rfl).1 2 (hTo.at 2 rfl).2 3 (by decide)).trans hk_1341
        have hk_1378 : rd f_1372 h0 4 = .int pw_1337 := ((Fr.put (cs := [(5, 6)]) (a := o) (ci := 5) Fr.rf Ext.rf (hTo.at 3 rfl).2 (by decide) hrd_1373 hup_1374).1 h0 (hTo.at 2 rfl).1 2 (hTo.at 2 rfl).2 4 (by decide)).trans hk_1342
        have hk_1379 : rd f_1372 h0 5 = .int sg_1338 := ((Fr.put (cs := [(5, 6)]) (a := o) (ci := 5) Fr.rf Ext.rf (hTo.at 3 rfl).2 (by decide) hrd_1373 hup_1374).1 h0 (hTo.at 2 rfl).1 2 (hTo.at 2 rfl).2 5 (by decide)).trans hk_1343
        have hk_1380 : rd f_1372 tok 3 = .int zz := ((Fr.put (cs := [(5, 6)]) (a := o) (ci := 5) Fr.rf Ext.rf (hTo.at 3 rfl).2 (by decide) hrd_1373 hup_1374).1 tok (hTo.at 4 rfl).1 6 (hTo.at 4 rfl).2 3 (by decide)).trans hk_1352
        have hk_1381 : rd f_1372 o 0 = .int wd := ((Fr.put (cs := [(5, 6)]) (a := o) (ci := 5) Fr.rf Ext.rf (hTo.at 3 rfl).2 (by decide) hrd_1373 hup_1374).1 o (hTo.at 3 rfl).1 5 (hTo.at 3 rfl).2 0 (by decide)).trans hk_1353
        have hk_1382 : rd f_1372 o 1 = .int vt := ((Fr.put (cs := [(5, 6)]) (a := o) (ci := 5) Fr.rf Ext.rf (hTo.at 3 rfl).2 (by decide) hrd_1373 hup_1374).1 o (hTo.at 3 rfl).1 5 (hTo.at 3 rfl).2 1 (by decide)).trans hk_1354
        have hk_1383 : rd f_1372 o 2 = .int nu := ((Fr.put (cs := [(5, 6)]) (a := o) (ci := 5) Fr.rf Ext.rf (hTo.at 3 rfl).2 (by decide) hrd_1373 hup_1374).1 o (hTo.at 3 rfl).1 5 (hTo.at 3 rfl).2 2 (by decide)).trans hk_1355
        have hk_1384 : rd f_1372 o 3 = .int lo := ((Fr.put (cs := [(5, 6)]) (a := o) (ci := 5) Fr.rf Ext.rf (hTo.at 3 rfl).2 (by decide) hrd_1373 hup_1374).1 o (hTo.at 3 rfl).1 5 (hTo.at 3 rfl).2 3 (by decide)).trans hk_1356
        have hk_1385 : rd f_1372 o 4 = .int be := ((Fr.put (cs := [(5, 6)]) (a := o) (ci := 5) Fr.rf Ext.rf (hTo.at 3 rfl).2 (by decide) hrd_1373 hup_1374).1 o (hTo.at 3 rfl).1 5 (hTo.at 3 rfl).2 4 (by decide)).trans hk_1357
        have hOb0 := hOb0.put hrd_1373 (by simp)
        have hEb0 := hEb0.tr hE1
        have hOb1 := hOb1.put hrd_1373 (by simp)
        have hEb1 := hEb1.tr hE1
        have htv_1387 : rd f_1372 o 7 = (rd f o 7) := ((hrd_1373 o 7).trans (if_neg (fun h9 => absurd h9.2 (by decide)))).trans htv_1367
        have htv_1388 : rd f_1372 o 5 = .ref b_812 := ((hrd_1373 o 5).trans (if_neg (fun h9 => absurd h9.2 (by decide)))).trans htv_1368
        have htv_1389 : rd f_1372 o 6 = .ref b_1275 := (hrd_1373 o 6).trans (if_pos ⟨rfl, rfl⟩)
        exact K_vZ hx hb hr hlocks hP hD hK hS hT hE ⟨rfl, hF, _, _, _, _, _, _, _, _, _, hk_1375, hk_1376, hk_1377, hk_1378, hk_1379, hk_1382, hk_1383, hk_1384, hk_1385, trivial, trivial, trivial, trivial, hrel_1348, trivial, trivial, trivial, trivial, hO5, htv_1387, ⟨qn_1359, (tset Tn_1360 2 k (thd qn_1204.2.1 qn_1359.2.1)), an_1361, Or.inr (Or.inr (Or.inr ⟨⟨c_4, c_169, c_334⟩, _, hev_1207, by rw [if_neg c_1236]; exact hev_1362⟩)), hrq_1363, (by first | exact hsg_1364 | (simp only [gpa_nd, gnu_nd, gpl_nd, gte_nd, gob_nd, grf_nd]; exact hsg_1364)), fun h9 => ⟨PUb.two hpk_1213 (hpk_1369 h9) h9 (by first | exact hqk | (rw [gnu_nd]; exact hqk) | (rw [gte_nd]; exact hqk)) (fun b9 hb9 => (hEc_805 b9 hb9).1) (hEc_805 o (hT0.at 1 rfl).1).1 hEw_1266 hOw_1267 hE9__1371 hO9__1370 hEb1 hOb1 (fun b9 hb9 => (hE9__1215 b9 hb9).1) htv_1388 htv_1389 hqk (fun g9 g8 => Or.inr (Or.inr (Or.inr ⟨⟨c_4, c_169, c_334⟩, _, g9, _, by rw [if_neg c_1236]; exact g8, rfl⟩))), ⟨fun h8 => (h8.elim c_4 c_169).elim, fun h8 => absurd h8 c_334⟩⟩⟩⟩ (⟨_, _, hk_1377, hk_1379, by omega⟩) (by first | exact Nat.le_of_ble_eq_true rfl | (simp only [rm_X2_readBuiltT]; omega) | omega) (by first | exact Nat.le_of_ble_eq_true rfl | (simp only [rm_X2_readBuiltT]; omega) | omega) (by first | exact Nat.le_of_ble_eq_true rfl | (simp only [rm_X2_readBuiltT]; omega) | omega) dX2_readBuilt_158
    · refine lv_bipush (v := 13) hx hb dX2_readBuilt_139 (by decide) ?_
      refine lv_goto (tgt := 146) hx hb dX2_readBuilt_141 (by decide) ?_
      have hTo := hT
      refine K_V ⟨hx, hb, hml, hown, hts⟩ (t_X2_pass l dC dI sa hlt g _ _ tt ln M qn_1204 h0 13 tok ka sta vaa ax_1179 tn_1180 fa_1181 pw_1182 zz _ (hT.sub [1, 3, 4, 5, 6] rfl)  hk_1219 hk_1220 hk_1221 hk_1222 hk_1224 ((hF.1 h0 (hT0.at 0 rfl).1 2 (hT0.at 0 rfl).2 0 (by decide)).trans h_tok) ((hF.1 tok (hT0.at 2 rfl).1 6 (hT0.at 2 rfl).2 4 (by decide)).trans h_ka) ((hF.1 tok (hT0.at 2 rfl).1 6 (hT0.at 2 rfl).2 5 (by decide)).trans h_sta) ((hF.1 tok (hT0.at 2 rfl).1 6 (hT0.at 2 rfl).2 6 (by decide)).trans h_vaa) hzz (hTK.go (hF.2 ka (hT0.at 3 rfl).1 0 _ _ (hT0.at 3 rfl).2 (by decide)) (hF.2 sta (hT0.at 4 rfl).1 0 _ _ (hT0.at 4 rfl).2 (by decide)) (hF.2 vaa (hT0.at 5 rfl).1 0 _ _ (hT0.at 5 rfl).2 (by decide))) hrq_1208 (Or.inl (by decide))) (cwV 1 hts gX2_readBuilt_X2_pass rfl rfl rfl (by decide +kernel) ⟨(by first | exact Nat.le_of_ble_eq_true rfl | (simp only [rm_X2_pass, rm_X2_readBuiltT]; omega)), (by first | exact Nat.le_of_ble_eq_true rfl | (simp only [rm_X2_pass, rm_X2_readBuiltT]; omega))⟩) hP hD hK hS hA hev hT 1 2 rfl rfl rfl rfl hl.1 rfl (Nat.le_of_ble_eq_true rfl) dX2_readBuilt_146 ⟨(by first | exact Nat.le_of_ble_eq_true rfl | (simp only [rm_X2_readBuiltT]; omega) | omega), (by first | exact Nat.le_of_ble_eq_true rfl | (simp only [rm_X2_readBuiltT]; omega) | omega)⟩ (fun r L_1390 f_1391 H locs hw_1392 hP hD hS hT hE1 => ?_)
      have hEo := hE
      have hO5 := hO5.call hE (OF.fr hw_1392.2.1 (by decide)) (by simp)
      have hF := Fr.call hF hE hw_1392.2.1 (by decide)
      have hE := hE.tr hE1
      obtain ⟨rfl, hw_1392⟩ := hw_1392
      obtain ⟨hfr_1393, ax_1394, tn_1395, fa_1396, pw_1397, hk_1398, hk_1399, hk_1400, hk_1401, hrel_1402, hrel_1403, hrel_1404, hrel_1405, hex_1406⟩ := hw_1392
      have hk_1407 : rd f_1391 h0 5 = .int sg_1183 := (hfr_1393.1 h0 (hTo.at 1 rfl).1 2 (hTo.at 1 rfl).2 5 (by decide)).trans hk_1223
      have hk_1408 : rd f_1391 tok 3 = .int zz := (hfr_1393.1 tok (hTo.at 3 rfl).1 6 (hTo.at 3 rfl).2 3 (by decide)).trans hk_1224
      have hk_1409 : rd f_1391 o 0 = .int wd := (hfr_1393.1 o (hTo.at 2 rfl).1 5 (hTo.at 2 rfl).2 0 (by decide)).trans hk_1225
      have hk_1410 : rd f_1391 o 1 = .int vt := (hfr_1393.1 o (hTo.at 2 rfl).1 5 (hTo.at 2 rfl).2 1 (by decide)).trans hk_1226
      have hk_1411 : rd f_1391 o 2 = .int nu := (hfr_1393.1 o (hTo.at 2 rfl).1 5 (hTo.at 2 rfl).2 2 (by decide)).trans hk_1227
      have hk_1412 : rd f_1391 o 3 = .int lo := (hfr_1393.1 o (hTo.at 2 rfl).1 5 (hTo.at 2 rfl).2 3 (by decide)).trans hk_1228
      have hk_1413 : rd f_1391 o 4 = .int be := (hfr_1393.1 o (hTo.at 2 rfl).1 5 (hTo.at 2 rfl).2 4 (by decide)).trans hk_1229
      have hOb0 := hOb0.call hEb0 (OF.fr hfr_1393 (by decide)) (by simp)
      have hEb0 := hEb0.tr hE1
      have htv_1414 : rd f_1391 o 6 = .null := (hfr_1393.1 o (hTo.at 2 rfl).1 5 (hTo.at 2 rfl).2 6 (by decide)).trans htv_1230
      have htv_1415 : rd f_1391 o 7 = (rd f o 7) := (hfr_1393.1 o (hTo.at 2 rfl).1 5 (hTo.at 2 rfl).2 7 (by decide)).trans htv_1231
      have htv_1416 : rd f_1391 o 5 = .ref b_812 := (hfr_1393.1 o (hTo.at 2 rfl).1 5 (hTo.at 2 rfl).2 5 (by decide)).trans htv_1232
      have hq_1417 : pot fa_1396 sg_1183 ≤ pot fa_1181 sg_1183 := pot_le (fun h9 => (hrel_1404 h9).1)
      have hrq_1418 := hex_1406
      refine W.eq (g2 := F0 m 149 ls []) rfl ?_
      refine lv_aload_n hx hb dX2_readBuilt_149 rfl (lv_at hl 1 rfl) ?_
      refine lv_aload_n hx hb dX2_readBuilt_150 rfl (lv_at hl 0 rfl) ?_
      refine lv_iload_n hx hb dX2_readBuilt_151 rfl (lv_at hl 2 rfl) ?_
      have hEw_1419 := hEb0
      have hOw_1420 := hOb0
      have hEc_1421 := hE
      have hTo := hT
      refine K_VZ ⟨hx, hb, hml, hown, hts⟩ (t_X2_readBlockT l dC dI sa hlt g _ _ j d (pot fa_1396 sg_1183) tt ln M (gpa (Kp tt ln) (nq tt ln) 13 qn_1204) (tset Tn_1205 1 k (thd (k + 1) qn_1204.2.1)) an_1206 h0 dep tok ka sta vaa ax_1394 tn_1395 fa_1396 pw_1397 sg_1183 zz _ (hT.sub [1, 3, 4, 5, 6] rfl)  hk_1398 hk_1399 hk_1400 hk_1401 hk_1407 hk_1408 ((hF.1 h0 (hT0.at 0 rfl).1 2 (hT0.at 0 rfl).2 0 (by decide)).trans h_tok) ((hF.1 tok (hT0.at 2 rfl).1 6 (hT0.at 2 rfl).2 4 (by decide)).trans h_ka) ((hF.1 tok (hT0.at 2 rfl).1 6 (hT0.at 2 rfl).2 5 (by decide)).trans h_sta) ((hF.1 tok (hT0.at 2 rfl).1 6 (hT0.at 2 rfl).2 6 (by decide)).trans h_vaa) hd hdj rfl hrel_1193 hzz (hTK.go (hF.2 ka (hT0.at 3 rfl).1 0 _ _ (hT0.at 3 rfl).2 (by decide)) (hF.2 sta (hT0.at 4 rfl).1 0 _ _ (hT0.at 4 rfl).2 (by decide)) (hF.2 vaa (hT0.at 5 rfl).1 0 _ _ (hT0.at 5 rfl).2 (by decide))) hrq_1418 (by first | exact hsg_1209 | (simp only [gpa_nd, gnu_nd, gpl_nd, gte_nd, gob_nd, grf_nd]; exact hsg_1209)) IHR) (cwV 1 hts gX2_readBuilt_X2_readBlock rfl rfl rfl (by decide +kernel) ⟨(by first | exact Nat.le_of_ble_eq_true rfl | (simp only [rm_X2_readBlockT, rm_X2_readBuiltT]; omega)), (by first | exact Nat.le_of_ble_eq_true rfl | (simp only [rm_X2_readBlockT, rm_X2_readBuiltT]; omega))⟩) hP hD hK hS hA hev hT 1 2 rfl rfl rfl rfl hl.1 rfl (Nat.le_of_ble_eq_true rfl) dX2_readBuilt_152 ⟨(by first | exact Nat.le_of_ble_eq_true rfl | (simp only [rm_X2_readBuiltT]; omega) | omega), (by first | exact Nat.le_of_ble_eq_true rfl | (simp only [rm_X2_readBuiltT]; omega) | omega)⟩ (fun r L_1422 f_1423 n_1425 H locs hw_1424 hn_1426 hP hD hS hT hE1 => ?_)
      have hEo := hE
      have hF := Fr.call hF hE hw_1424.2.1 (by decide)
      have hE := hE.tr hE1
      obtain ⟨⟨v_1427, rfl, hv9⟩, hw_1424⟩ := hw_1424
      rcases hv9 with rfl | ⟨b_1428, rfl, hb9⟩
      · obtain ⟨hfr_1429, ax_1430, tn_1431, fa_1432, pw_1433, sg_1434, hk_1435, hk_1436, hk_1437, hk_1438, hk_1439, hrel_1440, hrel_1441, hrel_1442, hrel_1443, hrel_1444, hex_1445⟩ := hw_1424
        obtain ⟨hof_1446, hex_1447⟩ := hex_1445
        have hO5 := hO5.call hEo hof_1446 (by simp)
        have hk_1448 : rd f_1423 tok 3 = .int zz := (hfr_1429.1 tok (hTo.at 3 rfl).1 6 (hTo.at 3 rfl).2 3 (by decide)).trans hk_1408
        have hk_1449 : rd f_1423 o 0 = .int wd := (hfr_1429.1 o (hTo.at 2 rfl).1 5 (hTo.at 2 rfl).2 0 (by decide)).trans hk_1409
        have hk_1450 : rd f_1423 o 1 = .int vt := (hof_1446 o (hTo.at 2 rfl).1 (hTo.at 2 rfl).2 (by simp) 1).trans hk_1410
        have hk_1451 : rd f_1423 o 2 = .int nu := (hof_1446 o (hTo.at 2 rfl).1 (hTo.at 2 rfl).2 (by simp) 2).trans hk_1411
        have hk_1452 : rd f_1423 o 3 = .int lo := (hof_1446 o (hTo.at 2 rfl).1 (hTo.at 2 rfl).2 (by simp) 3).trans hk_1412
        have hk_1453 : rd f_1423 o 4 = .int be := (hof_1446 o (hTo.at 2 rfl).1 (hTo.at 2 rfl).2 (by simp) 4).trans hk_1413
        have hq_1454 : n_1425 + pot fa_1432 sg_1434 ≤ pot fa_1396 sg_1183 := by
          obtain ⟨a9, b9, g1, g2, g3⟩ := hn_1426
          cases g1.symm.trans hk_1437
          cases g2.symm.trans hk_1439
          exact g3
        have hOb0 := hOb0.call hEb0 hof_1446 (by simp)
        have hEb0 := hEb0.tr hE1
        have htv_1462 : rd f_1423 o 6 = .null := (hof_1446 o (hTo.at 2 rfl).1 (hTo.at 2 rfl).2 (by simp) 6).trans htv_1414
        have htv_1463 : rd f_1423 o 7 = (rd f o 7) := (hof_1446 o (hTo.at 2 rfl).1 (hTo.at 2 rfl).2 (by simp) 7).trans htv_1415
        have htv_1464 : rd f_1423 o 5 = .ref b_812 := (hof_1446 o (hTo.at 2 rfl).1 (hTo.at 2 rfl).2 (by simp) 5).trans htv_1416
        have hE9 := hE1
        obtain ⟨qn_1455, Tn_1456, an_1457, hev_1458, hrq_1459, hsg_1460, hpk_1461⟩ := hex_1447
        have hpk_1465 : qn_1455.2.2.1 = 0 → PB (Kp tt ln) (Vp tt ln) (nq tt ln) 2 d (gpa (Kp tt ln) (nq tt ln) 13 qn_1204) qn_1455 (tset Tn_1205 1 k (thd (k + 1) qn_1204.2.1)) Tn_1456 an_1206 an_1457 L_1390 L_1422 f_1423 (.null) := fun h9 => by
          obtain ⟨v9, e9, g9⟩ := hpk_1461 h9
          cases e9
          exact g9
        have hEb1 : Ext L_1422 f_1423 L_1422 f_1423 := Ext.rf
        have hOb1 : OF 5 [o] L_1422 f_1423 f_1423 := OF.rf
        have hO9__1466 := hof_1446
        have hE9__1467 := hE9
        refine W.eq (g2 := F0 m 155 ls [.null, .ref o]) rfl ?_
        have hTo := hT
        refine T_put (ci := 5) (v := .null) (ty := .object "VatHouse$Step") (t := (2, 0, 5, 0)) (C := RX5) (T := TX5) (N := 8) hx hb hts inw_X2_readBuilt_5 tyX5 tyX5_ok nmX5 hown hK hP hD hS hT 2 rfl rfl 6 (by decide) (hts (.fieldLink RX2 91 "VatHouse$Step" "other" "LVatHouse$Step;") (List.mem_of_getElem? (i := 5) (by exact rfl))) (fun _ h9 => h9) rfl (tyX5_ok 6 (by decide)) rfl rfl rfl (Or.inl rfl) dX2_readBuilt_155 (fun f_1468 H locs hP hD hS hT hE1 hrd_1469 hup_1470 => ?_)
        have hO5 := hO5.put hrd_1469 (by simp)
        have hF := Fr.put (a := o) (ci := 5) hF hE ((hE1 o (hT.at 2 rfl).1).2.symm.trans (hT.at 2 rfl).2) (by decide) hrd_1469 hup_1470
        have hE := hE.tr hE1
        have hk_1471 : rd f_1468 h0 1 = .int ax_1430 := ((Fr.put (cs := [(5, 6)]) (a := o) (ci := 5) Fr.rf Ext.rf (hTo.at 2 rfl).2 (by decide) hrd_1469 hup_1470).1 h0 (hTo.at 1 rfl).1 2 (hTo.at 1 rfl).2 1 (by decide)).trans hk_1435
        have hk_1472 : rd f_1468 h0 2 = .int tn_1431 := ((Fr.put (cs := [(5, 6)]) (a := o) (ci := 5) Fr.rf Ext.rf (hTo.at 2 rfl).2 (by decide) hrd_1469 hup_1470).1 h0 (hTo.at 1 rfl).1 2 (hTo.at 1 rfl).2 2 (by decide)).trans hk_1436
        have hk_1473 : rd f_1468 h0 3 = .int fa_1432 := ((Fr.put (cs := [(5, 6)]) (a := o) (ci := 5) Fr.rf Ext.rf (hTo.at 2 rfl).2 (by decide) hrd_1469 hup_1470).1 h0 (hTo.at 1 rfl).1 2 (hTo.at 1 rfl).2 3 (by decide)).trans hk_1437
        have hk_1474 : rd f_1468 h0 4 = .int pw_1433 := ((Fr.put (cs := [(5, 6)]) (a := o) (ci := 5) Fr.rf Ext.rf (hTo.at 2 rfl).2 (by decide) hrd_1469 hup_1470).1 h0 (hTo.at 1 rfl).1 2 (hTo.at 1 rfl).2 4 (by decide)).trans hk_1438
        have hk_1475 : rd f_1468 h0 5 = .int sg_1434 := ((Fr.put (cs := [(5, 6)]) (a := o) (ci := 5) Fr.rf Ext.rf (hTo.at 2 rfl).2 (by decide) hrd_1469 hup_1470).1 h0 (hTo.at 1 rfl).1 2 (hTo.at 1 rfl).2 5 (by decide)).trans hk_1439
        have hk_1476 : rd f_1468 tok 3 = .int zz := ((Fr.put (cs := [(5, 6)]) (a := o) (ci := 5) Fr.rf Ext.rf (hTo.at 2 rfl).2 (by decide) hrd_1469 hup_1470).1 tok (hTo.at 3 rfl).1 6 (hTo.at 3 rfl).2 3 (by decide)).trans hk_1448
        have hk_1477 : rd f_1468 o 0 = .int wd := ((Fr.put (cs := [(5, 6)]) (a := o) (ci := 5) Fr.rf Ext.rf (hTo.at 2 rfl).2 (by decide) hrd_1469 hup_1470).1 o (hTo.at 2 rfl).1 5 (hTo.at 2 rfl).2 0 (by decide)).trans hk_1449
        have hk_1478 : rd f_1468 o 1 = .int vt := ((Fr.put (cs := [(5, 6)]) (a := o) (ci := 5) Fr.rf Ext.rf (hTo.at 2 rfl).2 (by decide) hrd_1469 hup_1470).1 o (hTo.at 2 rfl).1 5 (hTo.at 2 rfl).2 1 (by decide)).trans hk_1450
        have hk_1479 : rd f_1468 o 2 = .int nu := ((Fr.put (cs := [(5, 6)]) (a := o) (ci := 5) Fr.rf Ext.rf (hTo.at 2 rfl).2 (by decide) hrd_1469 hup_1470).1 o (hTo.at 2 rfl).1 5 (hTo.at 2 rfl).2 2 (by decide)).trans hk_1451
        have hk_1480 : rd f_1468 o 3 = .int lo := ((Fr.put (cs := [(5, 6)]) (a := o) (ci := 5) Fr.rf Ext.rf (hTo.at 2 rfl).2 (by decide) hrd_1469 hup_1470).1 o (hTo.at 2 rfl).1 5 (hTo.at 2 rfl).2 3 (by decide)).trans hk_1452
        have hk_1481 : rd f_1468 o 4 = .int be := ((Fr.put (cs := [(5, 6)]) (a := o) (ci := 5) Fr.rf Ext.rf (hTo.at 2 rfl).2 (by decide) hrd_1469 hup_1470).1 o (hTo.at 2 rfl).1 5 (hTo.at 2 rfl).2 4 (by decide)).trans hk_1453
        have hOb0 := hOb0.put hrd_1469 (by simp)
        have hEb0 := hEb0.tr hE1
        have hOb1 := hOb1.put hrd_1469 (by simp)
        have hEb1 := hEb1.tr hE1
        have htv_1483 : rd f_1468 o 7 = (rd f o 7) := ((hrd_1469 o 7).trans (if_neg (fun h9 => absurd h9.2 (by decide)))).trans htv_1463
        have htv_1484 : rd f_1468 o 5 = .ref b_812 := ((hrd_1469 o 5).trans (if_neg (fun h9 => absurd h9.2 (by decide)))).trans htv_1464
        have htv_1485 : rd f_1468 o 6 = .null := (hrd_1469 o 6).trans (if_pos ⟨rfl, rfl⟩)
        exact K_vZ hx hb hr hlocks hP hD hK hS hT hE ⟨rfl, hF, _, _, _, _, _, _, _, _, _, hk_1471, hk_1472, hk_1473, hk_1474, hk_1475, hk_1478, hk_1479, hk_1480, hk_1481, trivial, trivial, trivial, trivial, hrel_1444, trivial, trivial, trivial, trivial, hO5, htv_1483, ⟨qn_1455, (tset Tn_1456 2 k (thd qn_1204.2.1 qn_1455.2.1)), an_1457, Or.inr (Or.inr (Or.inr ⟨⟨c_4, c_169, c_334⟩, _, hev_1207, by rw [if_pos c_1236]; exact hev_1458⟩)), hrq_1459, (by first | exact hsg_1460 | (simp only [gpa_nd, gnu_nd, gpl_nd, gte_nd, gob_nd, grf_nd]; exact hsg_1460)), fun h9 => ⟨PUb.two hpk_1213 (hpk_1465 h9) h9 (by first | exact hqk | (rw [gnu_nd]; exact hqk) | (rw [gte_nd]; exact hqk)) (fun b9 hb9 => (hEc_805 b9 hb9).1) (hEc_805 o (hT0.at 1 rfl).1).1 hEw_1419 hOw_1420 hE9__1467 hO9__1466 hEb1 hOb1 (fun b9 hb9 => (hE9__1215 b9 hb9).1) htv_1484 htv_1485 hqk (fun g9 g8 => Or.inr (Or.inr (Or.inr ⟨⟨c_4, c_169, c_334⟩, _, g9, _, by rw [if_pos c_1236]; exact g8, rfl⟩))), ⟨fun h8 => (h8.elim c_4 c_169).elim, fun h8 => absurd h8 c_334⟩⟩⟩⟩ (⟨_, _, hk_1473, hk_1475, by omega⟩) (by first | exact Nat.le_of_ble_eq_true rfl | (simp only [rm_X2_readBuiltT]; omega) | omega) (by first | exact Nat.le_of_ble_eq_true rfl | (simp only [rm_X2_readBuiltT]; omega) | omega) (by first | exact Nat.le_of_ble_eq_true rfl | (simp only [rm_X2_readBuiltT]; omega) | omega) dX2_readBuilt_158
      · have hT := hT.add hb9
        obtain ⟨hfr_1486, ax_1487, tn_1488, fa_1489, pw_1490, sg_1491, hk_1492, hk_1493, hk_1494, hk_1495, hk_1496, hrel_1497, hrel_1498, hrel_1499, hrel_1500, hrel_1501, hex_1502⟩ := hw_1424
        obtain ⟨hof_1503, hex_1504⟩ := hex_1502
        have hO5 := hO5.call hEo hof_1503 (by simp)
        have hk_1505 : rd f_1423 tok 3 = .int zz := (hfr_1486.1 tok (hTo.at 3 rfl).1 6 (hTo.at 3 rfl).2 3 (by decide)).trans hk_1408
        have hk_1506 : rd f_1423 o 0 = .int wd := (hfr_1486.1 o (hTo.at 2 rfl).1 5 (hTo.at 2 rfl).2 0 (by decide)).trans hk_1409
        have hk_1507 : rd f_1423 o 1 = .int vt := (hof_1503 o (hTo.at 2 rfl).1 (hTo.at 2 rfl).2 (by simp) 1).trans hk_1410
        have hk_1508 : rd f_1423 o 2 = .int nu := (hof_1503 o (hTo.at 2 rfl).1 (hTo.at 2 rfl).2 (by simp) 2).trans hk_1411
        have hk_1509 : rd f_1423 o 3 = .int lo := (hof_1503 o (hTo.at 2 rfl).1 (hTo.at 2 rfl).2 (by simp) 3).trans hk_1412
        have hk_1510 : rd f_1423 o 4 = .int be := (hof_1503 o (hTo.at 2 rfl).1 (hTo.at 2 rfl).2 (by simp) 4).trans hk_1413
        have hq_1511 : n_1425 + pot fa_1489 sg_1491 ≤ pot fa_1396 sg_1183 := by
          obtain ⟨a9, b9, g1, g2, g3⟩ := hn_1426
          cases g1.symm.trans hk_1494
          cases g2.symm.trans hk_1496
          exact g3
        have hOb0 := hOb0.call hEb0 hof_1503 (by simp)
        have hEb0 := hEb0.tr hE1
        have htv_1519 : rd f_1423 o 6 = .null := (hof_1503 o (hTo.at 2 rfl).1 (hTo.at 2 rfl).2 (by simp) 6).trans htv_1414
        have htv_1520 : rd f_1423 o 7 = (rd f o 7) := (hof_1503 o (hTo.at 2 rfl).1 (hTo.at 2 rfl).2 (by simp) 7).trans htv_1415
        have htv_1521 : rd f_1423 o 5 = .ref b_812 := (hof_1503 o (hTo.at 2 rfl).1 (hTo.at 2 rfl).2 (by simp) 5).trans htv_1416
        have hE9 := hE1
        obtain ⟨qn_1512, Tn_1513, an_1514, hev_1515, hrq_1516, hsg_1517, hpk_1518⟩ := hex_1504
        have hpk_1522 : qn_1512.2.2.1 = 0 → PB (Kp tt ln) (Vp tt ln) (nq tt ln) 2 d (gpa (Kp tt ln) (nq tt ln) 13 qn_1204) qn_1512 (tset Tn_1205 1 k (thd (k + 1) qn_1204.2.1)) Tn_1513 an_1206 an_1514 L_1390 L_1422 f_1423 (.ref b_1428) := fun h9 => by
          obtain ⟨v9, e9, g9⟩ := hpk_1518 h9
          cases e9
          exact g9
        have hEb1 : Ext L_1422 f_1423 L_1422 f_1423 := Ext.rf
        have hOb1 : OF 5 [o] L_1422 f_1423 f_1423 := OF.rf
        have hO9__1523 := hof_1503
        have hE9__1524 := hE9
        refine W.eq (g2 := F0 m 155 ls [.ref b_1428, .ref o]) rfl ?_
        have hTo := hT
        refine T_put (ci := 5) (v := .ref b_1428) (ty := .object "VatHouse$Step") (t := (2, 0, 5, 0)) (C := RX5) (T := TX5) (N := 8) hx hb hts inw_X2_readBuilt_5 tyX5 tyX5_ok nmX5 hown hK hP hD hS hT 3 rfl rfl 6 (by decide) (hts (.fieldLink RX2 91 "VatHouse$Step" "other" "LVatHouse$Step;") (List.mem_of_getElem? (i := 5) (by exact rfl))) (fun _ h9 => h9) rfl (tyX5_ok 6 (by decide)) rfl rfl rfl (Or.inr ⟨_, rfl, hT.at 0 rfl⟩) dX2_readBuilt_155 (fun f_1525 H locs hP hD hS hT hE1 hrd_1526 hup_1527 => ?_)
        have hO5 := hO5.put hrd_1526 (by simp)
        have hF := Fr.put (a := o) (ci := 5) hF hE ((hE1 o (hT.at 3 rfl).1).2.symm.trans (hT.at 3 rfl).2) (by decide) hrd_1526 hup_1527
        have hE := hE.tr hE1
        have hk_1528 : rd f_1525 h0 1 = .int ax_1487 := ((Fr.put (cs := [(5, 6)]) (a := o) (ci := 5) Fr.rf Ext.rf (hTo.at 3 rfl).2 (by decide) hrd_1526 hup_1527).1 h0 (hTo.at 2 rfl).1 2 (hTo.at 2 rfl).2 1 (by decide)).trans hk_1492
        have hk_1529 : rd f_1525 h0 2 = .int tn_1488 := ((Fr.put (cs := [(5, 6)]) (a := o) (ci := 5) Fr.rf Ext.rf (hTo.at 3 rfl).2 (by decide) hrd_1526 hup_1527).1 h0 (hTo.at 2 rfl).1 2 (hTo.at 2 rfl).2 2 (by decide)).trans hk_1493
        have hk_1530 : rd f_1525 h0 3 = .int fa_1489 := ((Fr.put (cs := [(5, 6)]) (a := o) (ci := 5) Fr.rf Ext.rf (hTo.at 3 rfl).2 (by decide) hrd_1526 hup_1527).1 h0 (hTo.at 2 rfl).1 2 (hTo.at 2 rfl).2 3 (by decide)).trans hk_1494
        have hk_1531 : rd f_1525 h0 4 = .int pw_1490 := ((Fr.put (cs := [(5, 6)]) (a := o) (ci := 5) Fr.rf Ext.rf (hTo.at 3 rfl).2 (by decide) hrd_1526 hup_1527).1 h0 (hTo.at 2 rfl).1 2 (hTo.at 2 rfl).2 4 (by decide)).trans hk_1495
        have hk_1532 : rd f_1525 h0 5 = .int sg_1491 := ((Fr.put (cs := [(5, 6)]) (a := o) (ci := 5) Fr.rf Ext.rf (hTo.at 3 rfl).2 (by decide) hrd_1526 hup_1527).1 h0 (hTo.at 2 rfl).1 2 (hTo.at 2 rfl).2 5 (by decide)).trans hk_1496
        have hk_1533 : rd f_1525 tok 3 = .int zz := ((Fr.put (cs := [(5, 6)]) (a := o) (ci := 5) Fr.rf Ext.rf (hTo.at 3 rfl).2 (by decide) hrd_1526 hup_1527).1 tok (hTo.at 4 rfl).1 6 (hTo.at 4 rfl).2 3 (by decide)).trans hk_1505
        have hk_1534 : rd f_1525 o 0 = .int wd := ((Fr.put (cs := [(5, 6)]) (a := o) (ci := 5) Fr.rf Ext.rf (hTo.at 3 rfl).2 (by decide) hrd_1526 hup_1527).1 o (hTo.at 3 rfl).1 5 (hTo.at 3 rfl).2 0 (by decide)).trans hk_1506
        have hk_1535 : rd f_1525 o 1 = .int vt := ((Fr.put (cs := [(5, 6)]) (a := o) (ci := 5) Fr.rf Ext.rf (hTo.at 3 rfl).2 (by decide) hrd_1526 hup_1527).1 o (hTo.at 3 rfl).1 5 (hTo.at 3 rfl).2 1 (by decide)).trans hk_1507
        have hk_1536 : rd f_1525 o 2 = .int nu := ((Fr.put (cs := [(5, 6)]) (a := o) (ci := 5) Fr.rf Ext.rf (hTo.at 3 rfl).2 (by decide) hrd_1526 hup_1527).1 o (hTo.at 3 rfl).1 5 (hTo.at 3 rfl).2 2 (by decide)).trans hk_1508
        have hk_1537 : rd f_1525 o 3 = .int lo := ((Fr.put (cs := [(5, 6)]) (a := o) (ci := 5) Fr.rf Ext.rf (hTo.at 3 rfl).2 (by decide) hrd_1526 hup_1527).1 o (hTo.at 3 rfl).1 5 (hTo.at 3 rfl).2 3 (by decide)).trans hk_1509
        have hk_1538 : rd f_1525 o 4 = .int be := ((Fr.put (cs := [(5, 6)]) (a := o) (ci := 5) Fr.rf Ext.rf (hTo.at 3 rfl).2 (by decide) hrd_1526 hup_1527).1 o (hTo.at 3 rfl).1 5 (hTo.at 3 rfl).2 4 (by decide)).trans hk_1510
        have hOb0 := hOb0.put hrd_1526 (by simp)
        have hEb0 := hEb0.tr hE1
        have hOb1 := hOb1.put hrd_1526 (by simp)
        have hEb1 := hEb1.tr hE1
        have htv_1540 : rd f_1525 o 7 = (rd f o 7) := ((hrd_1526 o 7).trans (if_neg (fun h9 => absurd h9.2 (by decide)))).trans htv_1520
        have htv_1541 : rd f_1525 o 5 = .ref b_812 := ((hrd_1526 o 5).trans (if_neg (fun h9 => absurd h9.2 (by decide)))).trans htv_1521
        have htv_1542 : rd f_1525 o 6 = .ref b_1428 := (hrd_1526 o 6).trans (if_pos ⟨rfl, rfl⟩)
        exact K_vZ hx hb hr hlocks hP hD hK hS hT hE ⟨rfl, hF, _, _, _, _, _, _, _, _, _, hk_1528, hk_1529, hk_1530, hk_1531, hk_1532, hk_1535, hk_1536, hk_1537, hk_1538, trivial, trivial, trivial, trivial, hrel_1501, trivial, trivial, trivial, trivial, hO5, htv_1540, ⟨qn_1512, (tset Tn_1513 2 k (thd qn_1204.2.1 qn_1512.2.1)), an_1514, Or.inr (Or.inr (Or.inr ⟨⟨c_4, c_169, c_334⟩, _, hev_1207, by rw [if_pos c_1236]; exact hev_1515⟩)), hrq_1516, (by first | exact hsg_1517 | (simp only [gpa_nd, gnu_nd, gpl_nd, gte_nd, gob_nd, grf_nd]; exact hsg_1517)), fun h9 => ⟨PUb.two hpk_1213 (hpk_1522 h9) h9 (by first | exact hqk | (rw [gnu_nd]; exact hqk) | (rw [gte_nd]; exact hqk)) (fun b9 hb9 => (hEc_805 b9 hb9).1) (hEc_805 o (hT0.at 1 rfl).1).1 hEw_1419 hOw_1420 hE9__1524 hO9__1523 hEb1 hOb1 (fun b9 hb9 => (hE9__1215 b9 hb9).1) htv_1541 htv_1542 hqk (fun g9 g8 => Or.inr (Or.inr (Or.inr ⟨⟨c_4, c_169, c_334⟩, _, g9, _, by rw [if_pos c_1236]; exact g8, rfl⟩))), ⟨fun h8 => (h8.elim c_4 c_169).elim, fun h8 => absurd h8 c_334⟩⟩⟩⟩ (⟨_, _, hk_1530, hk_1532, by omega⟩) (by first | exact Nat.le_of_ble_eq_true rfl | (simp only [rm_X2_readBuiltT]; omega) | omega) (by first | exact Nat.le_of_ble_eq_true rfl | (simp only [rm_X2_readBuiltT]; omega) | omega) (by first | exact Nat.le_of_ble_eq_true rfl | (simp only [rm_X2_readBuiltT]; omega) | omega) dX2_readBuilt_158
