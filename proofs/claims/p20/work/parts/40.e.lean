noncomputable abbrev rm_X3_initT : Room := { frames := 1, cells := 0, slots := 0, locals := 12 }
set_option maxHeartbeats 800000 in
set_option maxRecDepth 100000 in
theorem t_X3_initT (l : Launch) (dC : Nat → ClassId) (dI : Nat → Nat → Nat) (sa : Nat → Nat) (hlt : l.stackTraces = false) (g : Nat → Nat) (L : List Nat) (f : Nat → va_E) (h0 : Nat) (st : Value) (sz : Nat) (hT : TP g L f [(h0, (0, 3, 0))]) (hn_st : okv L f (2, 0, 5, 0) st) : KC l dC dI sa g yX3_init wsX3_init rm_X3_initT [.ref h0, st] L f sz (fun r L' f' => (r = none) ∧ Fr [(3, 0)] L f f' ∧ (OF 3 [h0] L f f' ∧ (rd f' h0 0 = st ∧ ∀ b ∈ L, b ≠ h0 → f' b = f b))) 0 0 := by
  rcases hn_st with rfl | ⟨b_1, rfl, hb9⟩
  · refine CT.start (cc := cX3_init) (maxL := 2) (ret := none) (by decide) rfl (Nat.le_of_ble_eq_true rfl) ?_
    intro p e s m below meth c ls hst hP hK hD hev hS hl
    obtain ⟨hx, hb, hr, hml, hts, hown, hlocks, hin⟩ := hst
    have hown : s.vm.findClass RX3 = some m.cls := hown
    have hin : meth.name = yX3_init.name := hin
    have hA : ∀ q : Nat, s.heap.size ≤ q → va_A (va_pl L f) s.heap.size q := fun _ h => Or.inr h
    have hE : Ext L f L f := Ext.rf
    have hF : Fr [(3, 0)] L f f := Fr.rf
    have hO3 : OF 3 [h0] L f f := OF.rf
    have hl : lv_has ls 2 [(0, .ref h0), (1, .null)] := hl
    refine lv_aload_n hx hb dX3_init_0 rfl (lv_at hl 0 rfl) ?_
    refine W.objInit hx hb hown (hts (.methodLink RX3 1 objectInit) (List.mem_of_getElem? (i := 1) (by exact rfl))) (hts (.instanceMethod objectInit) (List.mem_of_getElem? (i := 2) (by exact rfl))) (hts (.code objectInit ⟨#[0xb1]⟩ 1 none) (List.mem_of_getElem? (i := 3) (by exact rfl))) rfl (by rw [hml]; exact hl.1) rfl dX3_init_1 (Nat.le_of_ble_eq_true rfl) (Nat.le_of_ble_eq_true rfl) ?_
    refine W.eq (g2 := F0 m 4 ls []) rfl ?_
    refine lv_aload_n hx hb dX3_init_4 rfl (lv_at hl 0 rfl) ?_
    refine lv_aload_nN hx hb dX3_init_5 rfl (lv_at hl 1 rfl) ?_
    refine T_putF (ci := 3) (v := .null) (ty := .object "VatHouse$Step") (t := (2, 0, 5, 0)) (C := RX3) (T := TX3) (N := 1) hx hb hts inw_X3_init_3 tyX3 tyX3_ok nmX3 hown hK hP hD hS hT 0 rfl rfl 0 (by decide) (hts (.fieldLink RX3 7 "VatHouse$Recipe" "first" "LVatHouse$Step;") (List.mem_of_getElem? (i := 4) (by exact rfl))) (fun _ h9 => h9) rfl hin rfl (tyX3_ok 0 (by decide)) rfl rfl rfl (Or.inl rfl) dX3_init_6 (fun f_2 H locs hP hD hS hT hE1 hrd_3 hup_4 => ?_)
    have hO3 := hO3.put hrd_3 (by simp)
    have hF := Fr.put (a := h0) (ci := 3) hF hE ((hE1 h0 (hT.at 0 rfl).1).2.symm.trans (hT.at 0 rfl).2) (by decide) hrd_3 hup_4
    have hE := hE.tr hE1
    exact K_v hx hb hr hlocks hP hD hK hS hT hE ⟨rfl, hF, hO3, (hrd_3 h0 0).trans (if_pos ⟨rfl, rfl⟩), fun b _ hb => hup_4 b hb⟩ (Nat.le_of_ble_eq_true rfl) (Nat.le_of_ble_eq_true rfl) dX3_init_9
  · have hT := hT.add hb9
    refine CT.start (cc := cX3_init) (maxL := 2) (ret := none) (by decide) rfl (Nat.le_of_ble_eq_true rfl) ?_
    intro p e s m below meth c ls hst hP hK hD hev hS hl
    obtain ⟨hx, hb, hr, hml, hts, hown, hlocks, hin⟩ := hst
    have hown : s.vm.findClass RX3 = some m.cls := hown
    have hin : meth.name = yX3_init.name := hin
    have hA : ∀ q : Nat, s.heap.size ≤ q → va_A (va_pl L f) s.heap.size q := fun _ h => Or.inr h
    have hE : Ext L f L f := Ext.rf
    have hF : Fr [(3, 0)] L f f := Fr.rf
    have hO3 : OF 3 [h0] L f f := OF.rf
    have hl : lv_has ls 2 [(0, .ref h0), (1, .ref b_1)] := hl
    refine lv_aload_n hx hb dX3_init_0 rfl (lv_at hl 0 rfl) ?_
    refine W.objInit hx hb hown (hts (.methodLink RX3 1 objectInit) (List.mem_of_getElem? (i := 1) (by exact rfl))) (hts (.instanceMethod objectInit) (List.mem_of_getElem? (i := 2) (by exact rfl))) (hts (.code objectInit ⟨#[0xb1]⟩ 1 none) (List.mem_of_getElem? (i := 3) (by exact rfl))) rfl (by rw [hml]; exact hl.1) rfl dX3_init_1 (Nat.le_of_ble_eq_true rfl) (Nat.le_of_ble_eq_true rfl) ?_
    refine W.eq (g2 := F0 m 4 ls []) rfl ?_
    refine lv_aload_n hx hb dX3_init_4 rfl (lv_at hl 0 rfl) ?_
    refine lv_aload_n hx hb dX3_init_5 rfl (lv_at hl 1 rfl) ?_
    refine T_putF (ci := 3) (v := .ref b_1) (ty := .object "VatHouse$Step") (t := (2, 0, 5, 0)) (C := RX3) (T := TX3) (N := 1) hx hb hts inw_X3_init_3 tyX3 tyX3_ok nmX3 hown hK hP hD hS hT 1 rfl rfl 0 (by decide) (hts (.fieldLink RX3 7 "VatHouse$Recipe" "first" "LVatHouse$Step;") (List.mem_of_getElem? (i := 4) (by exact rfl))) (fun _ h9 => h9) rfl hin rfl (tyX3_ok 0 (by decide)) rfl rfl rfl (Or.inr ⟨_, rfl, hT.at 0 rfl⟩) dX3_init_6 (fun f_5 H locs hP hD hS hT hE1 hrd_6 hup_7 => ?_)
    have hO3 := hO3.put hrd_6 (by simp)
    have hF := Fr.put (a := h0) (ci := 3) hF hE ((hE1 h0 (hT.at 1 rfl).1).2.symm.trans (hT.at 1 rfl).2) (by decide) hrd_6 hup_7
    have hE := hE.tr hE1
    exact K_v hx hb hr hlocks hP hD hK hS hT hE ⟨rfl, hF, hO3, (hrd_6 h0 0).trans (if_pos ⟨rfl, rfl⟩), fun b _ hb => hup_7 b hb⟩ (Nat.le_of_ble_eq_true rfl) (Nat.le_of_ble_eq_true rfl) dX3_init_9

noncomputable abbrev rm_X9_recipeT : Room := { frames := 81, cells := 303, slots := 2415, locals := 2422 }
set_option maxHeartbeats 800000 in
set_option maxRecDepth 100000 in
theorem t_X9_recipeT (l : Launch) (dC : Nat → ClassId) (dI : Nat → Nat → Nat) (sa : Nat → Nat) (hlt : l.stackTraces = false) (g : Nat → Nat) (L : List Nat) (f : Nat → va_E) (tt : Nat → Int32) (h0 : Nat) (a : Int32) (b : Int32) (tp : Nat) (rdr : Nat) (tok : Nat) (ka : Nat) (sta : Nat) (vaa : Nat) (rc : Nat) (tl : Int32) (sr : Int32) (sz : Nat) (hT : TP g L f [(h0, (0, 9, 0)), (tp, (1, g 1, 1500)), (rdr, (0, 2, 0)), (tok, (0, 6, 0)), (ka, (1, g 0, 1501)), (sta, (1, g 5, 1501)), (vaa, (1, g 6, 1501)), (rc, (2, g 4, 8))]) (hm_tl : rd f h0 5 = .int tl) (hm_sr : rd f h0 8 = .int sr) (h_tp : rd f h0 4 = .ref tp) (h_rdr : rd f h0 6 = .ref rdr) (h_tok : rd f rdr 0 = .ref tok) (h_tp_tok_0 : rd f tok 0 = .ref tp) (h_ka : rd f tok 4 = .ref ka) (h_sta : rd f tok 5 = .ref sta) (h_vaa : rd f tok 6 = .ref vaa) (h_rc : rd f h0 7 = .ref rc) (hta : ia f tp = tt) (htl15 : tl.toInt ≤ 1500) (hds : ka ≠ sta ∧ ka ≠ vaa ∧ sta ≠ vaa) : KX l dC dI sa g yX9_recipe wsX9_recipe rm_X9_recipeT [.ref h0, .int a, .int b] L f sz (fun r L' f' => (∃ z : Int32, r = some (.int z)) ∧ Fr [(2, 1), (2, 2), (2, 3), (2, 4), (2, 5), (5, 1), (5, 2), (5, 3), (5, 4), (5, 5), (5, 6), (5, 7), (6, 1), (6, 2), (6, 3), (3, 0), (9, 5), (9, 8), (100, 1501), (200, 8)] L f f' ∧ (∃ tl' : Int32, ∃ fa' : Int32, ∃ pw' : Int32, ∃ sr' : Int32, rd f' h0 5 = .int tl' ∧ rd f' rdr 3 = .int fa' ∧ rd f' rdr 4 = .int pw' ∧ rd f' h0 8 = .int sr' ∧ (Cq a b tl ∧ tl' = 0) ∧ (True) ∧ (True) ∧ (True) ∧ (OF 3 [] L f f' ∧ OF 5 [] L f f' ∧ (∃ (ln : Nat) (qn : SG) (TN : TT) (aN : Nat → Nat), b = nI ln ∧ ln ≤ 1500 ∧ Ev (Kp tt ln) (Vp tt ln) (nq tt ln) 0 0 (Sj tt ln 0, 0, 0, -1) qn ∧ fa' = (gpa (Kp tt ln) (nq tt ln) 0 qn).2.2.1 ∧ pw' = (gpa (Kp tt ln) (nq tt ln) 0 qn).2.2.2 ∧ r = some (.int fa') ∧ ((¬ fa' = 0 ∧ f' rc = f rc ∧ sr' = sr) ∨ (fa' = 0 ∧ sr' = nI qn.2.1 ∧ qn.2.1 ≤ 300 ∧ ∃ rb : Nat, (rb ∈ L' ∧ sh (f' rb) = (0, 3, 0)) ∧ ra f' rc = va_up (ra f rc) a.toNatClampNeg (some rb) ∧ rd f' rb 0 = lkv aN (thd 0 qn.2.1) ∧ EvT (Kp tt ln) (Vp tt ln) (nq tt ln) 0 0 0 ((Sj tt ln 0, 0, 0, -1), fun _ _ => 0) (qn, TN) ∧ TRc (Kp tt ln) (Vp tt ln) (nq tt ln) L' f' aN TN qn.2.1)))))) (fun E L' f' => ((E = IAE) ∧ (¬ Cq a b tl)) ∧ Fr [] L f f') 303 2415 := by
  refine KX.start (cc := cX9_recipe) (maxL := 4) (ret := (some .int)) (by decide) rfl (Nat.le_of_ble_eq_true rfl) ?_
  intro p e s m below meth c ls hst hno hP hK hD hev hS hl
  obtain ⟨hx, hb, hr, hml, hts, hown, hlocks, hin⟩ := hst
  have hown : s.vm.findClass RX9 = some m.cls := hown
  have hin : meth.name = yX9_recipe.name := hin
  have hA : ∀ q : Nat, s.heap.size ≤ q → va_A (va_pl L f) s.heap.size q := fun _ h => Or.inr h
  have hE : Ext L f L f := Ext.rf
  have hF : Fr [(2, 1), (2, 2), (2, 3), (2, 4), (2, 5), (5, 1), (5, 2), (5, 3), (5, 4), (5, 5), (5, 6), (5, 7), (6, 1), (6, 2), (6, 3), (3, 0), (9, 5), (9, 8), (100, 1501), (200, 8)] L f f := Fr.rf
  have hO3 : OF 3 [] L f f := OF.rf
  have hO5 : OF 5 [] L f f := OF.rf
  have hl : lv_has ls 4 [(0, .ref h0), (1, .int a), (2, .int b)] := hl
  have hT0 := hT
  refine lv_iload_n hx hb dX9_recipe_0 rfl (lv_at hl 1 rfl) ?_
  refine lv_if_lt (tgt := 29) hx hb dX9_recipe_1 (by decide) (fun c_1 => ?_) (fun c_1 => ?_)
  · refine lv_iconst (v := 0) hx hb dX9_recipe_29 (by decide) ?_
    have hTo := hT
    refine K_SX ⟨hx, hb, hml, hown, hts⟩ (t_X9_demandC l dC dI sa hlt g _ _ 0 _ (hT.sub [] rfl)  ) (va_cwS 1 hts gX9_recipe_X9_demand rfl rfl rfl (by decide +kernel) ⟨Nat.le_of_ble_eq_true rfl, Nat.le_of_ble_eq_true rfl⟩) hP hD hK hS hA hev hT rfl hl.1 rfl (Nat.le_of_ble_eq_true rfl) dX9_recipe_30 ⟨Nat.le_of_ble_eq_true rfl, Nat.le_of_ble_eq_true rfl⟩ (fun E ce q9 L9 f9 H locs hpx hP hD hS hT hE1 hce hcv hcl => ?_) (fun r L_2 f_3 H locs hw_4 hP hD hS hT hE1 => ?_)
    · have hF := Fr.call hF hE hpx.2 (by decide)
      have hE := hE.tr hE1
      exact K_out hno hlocks ⟨⟨hpx.1.1, fun h9 => h9.1 c_1⟩, hpx.2⟩ hP hD hK hS hT hE hce hcv hcl (Nat.le_of_ble_eq_true rfl) (Nat.le_of_ble_eq_true rfl)
    have hEo := hE
    have hO3 := hO3.call hE (OF.fr hw_4.2.1 (by decide)) (by simp)
    have hO5 := hO5.call hE (OF.fr hw_4.2.1 (by decide)) (by simp)
    have hF := Fr.call hF hE hw_4.2.1 (by decide)
    have hE := hE.tr hE1
    obtain ⟨rfl, hw_4⟩ := hw_4
    obtain ⟨hfr_5, hex_6⟩ := hw_4
    have hk_7 : rd f_3 h0 5 = .int tl := (hfr_5.1 h0 (hTo.at 0 rfl).1 9 (hTo.at 0 rfl).2 5 (by decide)).trans hm_tl
    have hk_8 : rd f_3 h0 8 = .int sr := (hfr_5.1 h0 (hTo.at 0 rfl).1 9 (hTo.at 0 rfl).2 8 (by decide)).trans hm_sr
    have hak_9 : f_3 rc = f rc := (hfr_5.2 rc (hTo.at 7 rfl).1 _ _ _ (hTo.at 7 rfl).2 (by decide)).trans rfl
    refine W.eq (g2 := F0 m 33 ls []) rfl ?_
    exact absurd rfl hex_6
  · refine lv_iload_n hx hb dX9_recipe_4 rfl (lv_at hl 1 rfl) ?_
    refine lv_aload_n hx hb dX9_recipe_5 rfl (lv_at hl 0 rfl) ?_
    refine T_get (ci := 9) (C := RX9) (T := TX9) (N := 11) (t := (1, 2, g 4, 8)) hx hb hts inw_X9_recipe_9 hown hK hP hT 0 rfl rfl 7 (by decide) (hts (.fieldLink RX9 37 "VatHouse" "recipes" "[LVatHouse$Recipe;") (List.mem_of_getElem? (i := 1) (by exact rfl))) (fun _ h9 => h9) rfl dX9_recipe_6 (fun v_12 hv_10 hr_11 => ?_)
    obtain rfl : v_12 = .ref rc := hr_11.symm.trans ((hF.1 h0 (hT0.at 0 rfl).1 9 (hT0.at 0 rfl).2 7 (by decide)).trans h_rc)
    refine T_alen hx hb hK hP hT 7 4 rfl rfl (v := 8) rfl dX9_recipe_9 ?_
    refine lv_icmp_ge (tgt := 29) hx hb dX9_recipe_10 (by decide) (fun c_13 => ?_) (fun c_13 => ?_)
    · refine lv_iconst (v := 0) hx hb dX9_recipe_29 (by decide) ?_
      have hTo := hT
      refine K_SX ⟨hx, hb, hml, hown, hts⟩ (t_X9_demandC l dC dI sa hlt g _ _ 0 _ (hT.sub [] rfl)  ) (va_cwS 1 hts gX9_recipe_X9_demand rfl rfl rfl (by decide +kernel) ⟨Nat.le_of_ble_eq_true rfl, Nat.le_of_ble_eq_true rfl⟩) hP hD hK hS hA hev hT rfl hl.1 rfl (Nat.le_of_ble_eq_true rfl) dX9_recipe_30 ⟨Nat.le_of_ble_eq_true rfl, Nat.le_of_ble_eq_true rfl⟩ (fun E ce q9 L9 f9 H locs hpx hP hD hS hT hE1 hce hcv hcl => ?_) (fun r L_14 f_15 H locs hw_16 hP hD hS hT hE1 => ?_)
      · have hF := Fr.call hF hE hpx.2 (by decide)
        have hE := hE.tr hE1
        exact K_out hno hlocks ⟨⟨hpx.1.1, fun h9 => h9.2.1 c_13⟩, hpx.2⟩ hP hD hK hS hT hE hce hcv hcl (Nat.le_of_ble_eq_true rfl) (Nat.le_of_ble_eq_true rfl)
      have hEo := hE
      have hO3 := hO3.call hE (OF.fr hw_16.2.1 (by decide)) (by simp)
      have hO5 := hO5.call hE (OF.fr hw_16.2.1 (by decide)) (by simp)
      have hF := Fr.call hF hE hw_16.2.1 (by decide)
      have hE := hE.tr hE1
      obtain ⟨rfl, hw_16⟩ := hw_16
      obtain ⟨hfr_17, hex_18⟩ := hw_16
      have hk_19 : rd f_15 h0 5 = .int tl := (hfr_17.1 h0 (hTo.at 0 rfl).1 9 (hTo.at 0 rfl).2 5 (by decide)).trans hm_tl
      have hk_20 : rd f_15 h0 8 = .int sr := (hfr_17.1 h0 (hTo.at 0 rfl).1 9 (hTo.at 0 rfl).2 8 (by decide)).trans hm_sr
      have hak_21 : f_15 rc = f rc := (hfr_17.2 rc (hTo.at 7 rfl).1 _ _ _ (hTo.at 7 rfl).2 (by decide)).trans rfl
      refine W.eq (g2 := F0 m 33 ls []) rfl ?_
      exact absurd rfl hex_18
    · refine lv_iload_n hx hb dX9_recipe_13 rfl (lv_at hl 2 rfl) ?_
      refine lv_if_lt (tgt := 29) hx hb dX9_recipe_14 (by decide) (fun c_22 => ?_) (fun c_22 => ?_)
      · refine lv_iconst (v := 0) hx hb dX9_recipe_29 (by decide) ?_
        have hTo := hT
        refine K_SX ⟨hx, hb, hml, hown, hts⟩ (t_X9_demandC l dC dI sa hlt g _ _ 0 _ (hT.sub [] rfl)  ) (va_cwS 1 hts gX9_recipe_X9_demand rfl rfl rfl (by decide +kernel) ⟨Nat.le_of_ble_eq_true rfl, Nat.le_of_ble_eq_true rfl⟩) hP hD hK hS hA hev hT rfl hl.1 rfl (Nat.le_of_ble_eq_true rfl) dX9_recipe_30 ⟨Nat.le_of_ble_eq_true rfl, Nat.le_of_ble_eq_true rfl⟩ (fun E ce q9 L9 f9 H locs hpx hP hD hS hT hE1 hce hcv hcl => ?_) (fun r L_23 f_24 H locs hw_25 hP hD hS hT hE1 => ?_)
        · have hF := Fr.call hF hE hpx.2 (by decide)
          have hE := hE.tr hE1
          exact K_out hno hlocks ⟨⟨hpx.1.1, fun h9 => h9.2.2.1 c_22⟩, hpx.2⟩ hP hD hK hS hT hE hce hcv hcl (Nat.le_of_ble_eq_true rfl) (Nat.le_of_ble_eq_true rfl)
        have hEo := hE
        have hO3 := hO3.call hE (OF.fr hw_25.2.1 (by decide)) (by simp)
        have hO5 := hO5.call hE (OF.fr hw_25.2.1 (by decide)) (by simp)
        have hF := Fr.call hF hE hw_25.2.1 (by decide)
        have hE := hE.tr hE1
        obtain ⟨rfl, hw_25⟩ := hw_25
        obtain ⟨hfr_26, hex_27⟩ := hw_25
        have hk_28 : rd f_24 h0 5 = .int tl := (hfr_26.1 h0 (hTo.at 0 rfl).1 9 (hTo.at 0 rfl).2 5 (by decide)).trans hm_tl
        have hk_29 : rd f_24 h0 8 = .int sr := (hfr_26.1 h0 (hTo.at 0 rfl).1 9 (hTo.at 0 rfl).2 8 (by decide)).trans hm_sr
        have hak_30 : f_24 rc = f rc := (hfr_26.2 rc (hTo.at 7 rfl).1 _ _ _ (hTo.at 7 rfl).2 (by decide)).trans rfl
        refine W.eq (g2 := F0 m 33 ls []) rfl ?_
        exact absurd rfl hex_27
      · refine lv_iload_n hx hb dX9_recipe_17 rfl (lv_at hl 2 rfl) ?_
        refine lv_aload_n hx hb dX9_recipe_18 rfl (lv_at hl 0 rfl) ?_
        refine T_get (ci := 9) (C := RX9) (T := TX9) (N := 11) (t := tI) hx hb hts inw_X9_recipe_9 hown hK hP hT 0 rfl rfl 5 (by decide) (hts (.fieldLink RX9 124 "VatHouse" "tapeLength" "I") (List.mem_of_getElem? (i := 2) (by exact rfl))) (fun _ h9 => h9) rfl dX9_recipe_19 (fun v_33 hv_31 hr_32 => ?_)
        obtain rfl : v_33 = .int tl := hr_32.symm.trans hm_tl
        refine lv_icmp_gt (tgt := 29) hx hb dX9_recipe_22 (by decide) (fun c_34 => ?_) (fun c_34 => ?_)
        · refine lv_iconst (v := 0) hx hb dX9_recipe_29 (by decide) ?_
          have hTo := hT
          refine K_SX ⟨hx, hb, hml, hown, hts⟩ (t_X9_demandC l dC dI sa hlt g _ _ 0 _ (hT.sub [] rfl)  ) (va_cwS 1 hts gX9_recipe_X9_demand rfl rfl rfl (by decide +kernel) ⟨Nat.le_of_ble_eq_true rfl, Nat.le_of_ble_eq_true rfl⟩) hP hD hK hS hA hev hT rfl hl.1 rfl (Nat.le_of_ble_eq_true rfl) dX9_recipe_30 ⟨Nat.le_of_ble_eq_true rfl, Nat.le_of_ble_eq_true rfl⟩ (fun E ce q9 L9 f9 H locs hpx hP hD hS hT hE1 hce hcv hcl => ?_) (fun r L_35 f_36 H locs hw_37 hP hD hS hT hE1 => ?_)
          · have hF := Fr.call hF hE hpx.2 (by decide)
            have hE := hE.tr hE1
            exact K_out hno hlocks ⟨⟨hpx.1.1, fun h9 => h9.2.2.2 c_34⟩, hpx.2⟩ hP hD hK hS hT hE hce hcv hcl (Nat.le_of_ble_eq_true rfl) (Nat.le_of_ble_eq_true rfl)
          have hEo := hE
          have hO3 := hO3.call hE (OF.fr hw_37.2.1 (by decide)) (by simp)
          have hO5 := hO5.call hE (OF.fr hw_37.2.1 (by decide)) (by simp)
          have hF := Fr.call hF hE hw_37.2.1 (by decide)
          have hE := hE.tr hE1
          obtain ⟨rfl, hw_37⟩ := hw_37
          obtain ⟨hfr_38, hex_39⟩ := hw_37
          have hk_40 : rd f_36 h0 5 = .int tl := (hfr_38.1 h0 (hTo.at 0 rfl).1 9 (hTo.at 0 rfl).2 5 (by decide)).trans hm_tl
          have hk_41 : rd f_36 h0 8 = .int sr := (hfr_38.1 h0 (hTo.at 0 rfl).1 9 (hTo.at 0 rfl).2 8 (by decide)).trans hm_sr
          have hak_42 : f_36 rc = f rc := (hfr_38.2 rc (hTo.at 7 rfl).1 _ _ _ (hTo.at 7 rfl).2 (by decide)).trans rfl
          refine W.eq (g2 := F0 m 33 ls []) rfl ?_
          exact absurd rfl hex_39
        · refine lv_iconst (v := 1) hx hb dX9_recipe_25 (by decide) ?_
          refine lv_goto (tgt := 30) hx hb dX9_recipe_26 (by decide) ?_
          have hTo := hT
          refine K_SX ⟨hx, hb, hml, hown, hts⟩ (t_X9_demandC l dC dI sa hlt g _ _ 1 _ (hT.sub [] rfl)  ) (va_cwS 1 hts gX9_recipe_X9_demand rfl rfl rfl (by decide +kernel) ⟨Nat.le_of_ble_eq_true rfl, Nat.le_of_ble_eq_true rfl⟩) hP hD hK hS hA hev hT rfl hl.1 rfl (Nat.le_of_ble_eq_true rfl) dX9_recipe_30 ⟨Nat.le_of_ble_eq_true rfl, Nat.le_of_ble_eq_true rfl⟩ (fun E ce q9 L9 f9 H locs hpx hP hD hS hT hE1 hce hcv hcl => ?_) (fun r L_43 f_44 H locs hw_45 hP hD hS hT hE1 => ?_)
          · have hF := Fr.call hF hE hpx.2 (by decide)
            have hE := hE.tr hE1
            exact K_out hno hlocks ⟨⟨hpx.1.1, absurd hpx.1.2 (by decide)⟩, hpx.2⟩ hP hD hK hS hT hE hce hcv hcl (Nat.le_of_ble_eq_true rfl) (Nat.le_of_ble_eq_true rfl)
          have hEo := hE
          have hO3 := hO3.call hE (OF.fr hw_45.2.1 (by decide)) (by simp)
          have hO5 := hO5.call hE (OF.fr hw_45.2.1 (by decide)) (by simp)
          have hF := Fr.call hF hE hw_45.2.1 (by decide)
          have hE := hE.tr hE1
          obtain ⟨rfl, hw_45⟩ := hw_45
          obtain ⟨hfr_46, hex_47⟩ := hw_45
          have hk_48 : rd f_44 h0 5 = .int tl := (hfr_46.1 h0 (hTo.at 0 rfl).1 9 (hTo.at 0 rfl).2 5 (by decide)).trans hm_tl
          have hk_49 : rd f_44 h0 8 = .int sr := (hfr_46.1 h0 (hTo.at 0 rfl).1 9 (hTo.at 0 rfl).2 8 (by decide)).trans hm_sr
          have hak_50 : f_44 rc = f rc := (hfr_46.2 rc (hTo.at 7 rfl).1 _ _ _ (hTo.at 7 rfl).2 (by decide)).trans rfl
          refine W.eq (g2 := F0 m 33 ls []) rfl ?_
          refine lv_aload_n hx hb dX9_recipe_33 rfl (lv_at hl 0 rfl) ?_
          refine T_get (ci := 9) (C := RX9) (T := TX9) (N := 11) (t := (1, 0, 2, 0)) hx hb hts inw_X9_recipe_9 hown hK hP hT 0 rfl rfl 6 (by decide) (hts (.fieldLink RX9 31 "VatHouse" "reader" "LVatHouse$Reader;") (List.mem_of_getElem? (i := 3) (by exact rfl))) (fun _ h9 => h9) rfl dX9_recipe_34 (fun v_53 hv_51 hr_52 => ?_)
          obtain rfl : v_53 = .ref rdr := hr_52.symm.trans ((hF.1 h0 (hT0.at 0 rfl).1 9 (hT0.at 0 rfl).2 6 (by decide)).trans h_rdr)
          refine lv_iload_n hx hb dX9_recipe_37 rfl (lv_at hl 2 rfl) ?_
          obtain ⟨ln, hbn, hln⟩ := rc_ln c_22 c_34 htl15
          have hTo := hT
          refine K_V ⟨hx, hb, hml, hown, hts⟩ (t_X2_readRecipeT l dC dI sa hlt g _ _ tt ln (fun _ _ => 0) (fun j => j) rdr b tok tp ka sta vaa _ (hT.sub [2, 3, 1, 4, 5, 6] rfl)  ((hF.1 rdr (hT0.at 2 rfl).1 2 (hT0.at 2 rfl).2 0 (by decide)).trans h_tok) ((hF.1 tok (hT0.at 3 rfl).1 6 (hT0.at 3 rfl).2 0 (by decide)).trans h_tp_tok_0) ((hF.1 tok (hT0.at 3 rfl).1 6 (hT0.at 3 rfl).2 4 (by decide)).trans h_ka) ((hF.1 tok (hT0.at 3 rfl).1 6 (hT0.at 3 rfl).2 5 (by decide)).trans h_sta) ((hF.1 tok (hT0.at 3 rfl).1 6 (hT0.at 3 rfl).2 6 (by decide)).trans h_vaa) ((ia_eq (hF.2 tp (hT0.at 1 rfl).1 0 _ _ (hT0.at 1 rfl).2 (by decide))).trans hta) ⟨hbn, hln⟩ hds) (cwV 1 hts gX9_recipe_X2_readRecipe rfl rfl rfl (by decide +kernel) ⟨Nat.le_of_ble_eq_true rfl, Nat.le_of_ble_eq_true rfl⟩) hP hD hK hS hA hev hT 2 2 rfl rfl rfl rfl hl.1 rfl (Nat.le_of_ble_eq_true rfl) dX9_recipe_38 ⟨Nat.le_of_ble_eq_true rfl, Nat.le_of_ble_eq_true rfl⟩ (fun r L_54 f_55 H locs hw_56 hP hD hS hT hE1 => ?_)
          have hEo := hE
          have hO3 := hO3.call hE (OF.fr hw_56.2.1 (by decide)) (by simp)
          have hF := Fr.call hF hE hw_56.2.1 (by decide)
          have hE := hE.tr hE1
          obtain ⟨⟨v_57, rfl, hv9⟩, hw_56⟩ := hw_56
          rcases hv9 with rfl | ⟨b_58, rfl, hb9⟩
          · obtain ⟨hfr_59, fa_60, pw_61, sg_62, hk_63, hk_64, hk_65, hrel_66, hrel_67, hrel_68, hex_69⟩ := hw_56
            obtain ⟨hof_70, hex_71⟩ := hex_69
            have hO5 := hO5.call hEo hof_70 (by simp)
            have hk_72 : rd f_55 h0 5 = .int tl := (hfr_59.1 h0 (hTo.at 0 rfl).1 9 (hTo.at 0 rfl).2 5 (by decide)).trans hk_48
            have hk_73 : rd f_55 h0 8 = .int sr := (hfr_59.1 h0 (hTo.at 0 rfl).1 9 (hTo.at 0 rfl).2 8 (by decide)).trans hk_49
            have hak_74 : f_55 rc = f rc := (hfr_59.2 rc (hTo.at 7 rfl).1 _ _ _ (hTo.at 7 rfl).2 (by decide)).trans hak_50
            obtain ⟨qn, TN, aN, hev9, hfa9, hpw9, htr9⟩ := hex_71
            have hEb0 : Ext L_54 f_55 L_54 f_55 := Ext.rf
            have hOb0 : OF 5 [] L_54 f_55 f_55 := OF.rf
            have htr9 : fa_60 = 0 → sg_62 = nI qn.2.1 ∧ qn.2.1 ≤ 300 ∧ PB (Kp tt ln) (Vp tt ln) (nq tt ln) 0 0 (Sj tt ln 0, 0, 0, -1) qn (fun _ _ => 0) TN (fun j => j) aN L_43 L_54 f_55 (.null) := fun h9 => by
              obtain ⟨g1, g2, v9, e9, g9⟩ := htr9 h9
              cases e9
              exact ⟨g1, g2, g9⟩
            refine W.eq (g2 := F0 m 41 ls [.null]) rfl ?_
            refine lv_astore_nN (lv' := [(3, .null), (0, .ref h0), (1, .int a), (2, .int b)]) hx hb dX9_recipe_41 rfl hl (by decide) rfl (fun ls hl => ?_)
            refine lv_aload_n hx hb dX9_recipe_42 rfl (lv_at hl 1 rfl) ?_
            refine lv_iconst (v := 0) hx hb dX9_recipe_43 (by decide) ?_
            have hTo := hT
            refine T_put (ci := 9) (v := .int 0) (ty := .int) (t := tI) (C := RX9) (T := TX9) (N := 11) hx hb hts inw_X9_recipe_9 tyX9 tyX9_ok nmX9 hown hK hP hD hS hT 0 rfl rfl 5 (by decide) (hts (.fieldLink RX9 124 "VatHouse" "tapeLength" "I") (List.mem_of_getElem? (i := 2) (by exact rfl))) (fun _ h9 => h9) rfl (tyX9_ok 5 (by decide)) rfl rfl rfl ⟨_, rfl⟩ dX9_recipe_44 (fun f_75 H locs hP hD hS hT hE1 hrd_76 hup_77 => ?_)
            have hO3 := OF.putN (a := h0) (cj := 9) hO3 hE ((hE1 h0 (hT.at 0 rfl).1).2.symm.trans (hT.at 0 rfl).2) (by decide) hrd_76
            have hO5 := OF.putN (a := h0) (cj := 9) hO5 hE ((hE1 h0 (hT.at 0 rfl).1).2.symm.trans (hT.at 0 rfl).2) (by decide) hrd_76
            have hF := Fr.put (a := h0) (ci := 9) hF hE ((hE1 h0 (hT.at 0 rfl).1).2.symm.trans (hT.at 0 rfl).2) (by decide) hrd_76 hup_77
            have hE := hE.tr hE1
            have hk_78 : rd f_75 h0 5 = .int 0 := (hrd_76 h0 5).trans (if_pos ⟨rfl, rfl⟩)
            have hk_79 : rd f_75 h0 8 = .int sr := ((Fr.put (cs := [(9, 5)]) (a := h0) (ci := 9) Fr.rf Ext.rf (hTo.at 0 rfl).2 (by decide) hrd_76 hup_77).1 h0 (hTo.at 0 rfl).1 9 (hTo.at 0 rfl).2 8 (by decide)).trans hk_73
            have hk_80 : rd f_75 rdr 3 = .int fa_60 := ((Fr.put (cs := [(9, 5)]) (a := h0) (ci := 9) Fr.rf Ext.rf (hTo.at 0 rfl).2 (by decide) hrd_76 hup_77).1 rdr (hTo.at 2 rfl).1 2 (hTo.at 2 rfl).2 3 (by decide)).trans hk_63
            have hk_81 : rd f_75 rdr 4 = .int pw_61 := ((Fr.put (cs := [(9, 5)]) (a := h0) (ci := 9) Fr.rf Ext.rf (hTo.at 0 rfl).2 (by decide) hrd_76 hup_77).1 rdr (hTo.at 2 rfl).1 2 (hTo.at 2 rfl).2 4 (by decide)).trans hk_64
            have hk_82 : rd f_75 rdr 5 = .int sg_62 := ((Fr.put (cs := [(9, 5)]) (a := h0) (ci := 9) Fr.rf Ext.rf (hTo.at 0 rfl).2 (by decide) hrd_76 hup_77).1 rdr (hTo.at 2 rfl).1 2 (hTo.at 2 rfl).2 5 (by decide)).trans hk_65
            have hak_83 : f_75 rc = f rc := (hup_77 rc (ne_sh (hT0.at 7 rfl).2 (hT0.at 0 rfl).2 (by intro h9; cases h9))).trans hak_74
            have hOb0 := OF.putN (a := h0) (cj := 9) hOb0 hEb0 ((hE1 h0 (hT.at 0 rfl).1).2.symm.trans (hT.at 0 rfl).2) (by decide) hrd_76
            have hEb0 := hEb0.tr hE1
            refine lv_aload_n hx hb dX9_recipe_47 rfl (lv_at hl 1 rfl) ?_
            refine T_get (ci := 9) (C := RX9) (T := TX9) (N := 11) (t := (1, 0, 2, 0)) hx hb hts inw_X9_recipe_9 hown hK hP hT 0 rfl rfl 6 (by decide) (hts (.fieldLink RX9 31 "VatHouse" "reader" "LVatHouse$Reader;") (List.mem_of_getElem? (i := 3) (by exact rfl))) (fun _ h9 => h9) rfl dX9_recipe_48 (fun v_86 hv_84 hr_85 => ?_)
            obtain rfl : v_86 = .ref rdr := hr_85.symm.trans ((hF.1 h0 (hT0.at 0 rfl).1 9 (hT0.at 0 rfl).2 6 (by decide)).trans h_rdr)
            refine T_get (ci := 2) (C := RX2) (T := TX2) (N := 6) (t := tI) hx hb hts inw_X9_recipe_2 hown hK hP hT 2 rfl rfl 3 (by decide) (hts (.fieldLink RX9 134 "VatHouse$Reader" "fault" "I") (List.mem_of_getElem? (i := 4) (by exact rfl))) (fun _ h9 => h9) rfl dX9_recipe_51 (fun v_89 hv_87 hr_88 => ?_)
            obtain rfl : v_89 = .int fa_60 := hr_88.symm.trans hk_80
            refine lv_if_ne (tgt := 82) hx hb dX9_recipe_54 (by decide) (fun c_90 => ?_) (fun c_90 => ?_)
            · refine lv_aload_n hx hb dX9_recipe_82 rfl (lv_at hl 1 rfl) ?_
              refine T_get (ci := 9) (C := RX9) (T := TX9) (N := 11) (t := (1, 0, 2, 0)) hx hb hts inw_X9_recipe_9 hown hK hP hT 0 rfl rfl 6 (by decide) (hts (.fieldLink RX9 31 "VatHouse" "reader" "LVatHouse$Reader;") (List.mem_of_getElem? (i := 3) (by exact rfl))) (fun _ h9 => h9) rfl dX9_recipe_83 (fun v_93 hv_91 hr_92 => ?_)
              obtain rfl : v_93 = .ref rdr := hr_92.symm.trans ((hF.1 h0 (hT0.at 0 rfl).1 9 (hT0.at 0 rfl).2 6 (by decide)).trans h_rdr)
              refine T_get (ci := 2) (C := RX2) (T := TX2) (N := 6) (t := tI) hx hb hts inw_X9_recipe_2 hown hK hP hT 2 rfl rfl 3 (by decide) (hts (.fieldLink RX9 134 "VatHouse$Reader" "fault" "I") (List.mem_of_getElem? (i := 4) (by exact rfl))) (fun _ h9 => h9) rfl dX9_recipe_86 (fun v_96 hv_94 hr_95 => ?_)
              obtain rfl : v_96 = .int fa_60 := hr_95.symm.trans hk_80
              refine vx_ret ?_
              exact K_i hx hb hr hlocks hP hD hK hS hT hE ⟨⟨_, rfl⟩, hF, _, _, _, _, hk_78, hk_80, hk_81, hk_79, ⟨⟨c_1, c_13, c_22, c_34⟩, rfl⟩, trivial, trivial, trivial, hO3, hO5, ⟨ln, qn, TN, aN, hbn, hln, hev9, hfa9, hpw9, rfl, Or.inl ⟨c_90, hak_83, rfl⟩⟩⟩ (Nat.le_of_ble_eq_true rfl) (Nat.le_of_ble_eq_true rfl) dX9_recipe_89
            · refine lv_aload_n hx hb dX9_recipe_57 rfl (lv_at hl 1 rfl) ?_
              refine T_get (ci := 9) (C := RX9) (T := TX9) (N := 11) (t := (1, 2, g 4, 8)) hx hb hts inw_X9_recipe_9 hown hK hP hT 0 rfl rfl 7 (by decide) (hts (.fieldLink RX9 37 "VatHouse" "recipes" "[LVatHouse$Recipe;") (List.mem_of_getElem? (i := 1) (by exact rfl))) (fun _ h9 => h9) rfl dX9_recipe_58 (fun v_99 hv_97 hr_98 => ?_)
              obtain rfl : v_99 = .ref rc := hr_98.symm.trans ((hF.1 h0 (hT0.at 0 rfl).1 9 (hT0.at 0 rfl).2 7 (by decide)).trans h_rc)
              refine lv_iload_n hx hb dX9_recipe_61 rfl (lv_at hl 2 rfl) ?_
              have hE0n := hE
              have hTo := hT
              refine T_new (ci := 3) (fs := [.null]) (C := RX3) (T := TX3) (N := 1) hx hb hts inw_X9_recipe_3 tyX3 tyX3_ok hown (hts (.classLink RX9 35 RX3) (List.mem_of_getElem? (i := 5) (by exact rfl))) (hts (.instantiable RX3 1) (List.mem_of_getElem? (i := 6) (by exact rfl))) (hts (.initialized RX3) (List.mem_of_getElem? (i := 7) (by exact rfl))) hK hP hD hS hA hT rfl nfX3 (okn_3 g) (Nat.le_of_ble_eq_true rfl) (Nat.le_of_ble_eq_true rfl) dX9_recipe_62 (fun q_100 L_101 f_102 H hq_103 hL_104 hP hD hS hT hE1 hrd_105 hrq_106 hup => ?_)
              have hO3 := hO3.new hE hq_103 hrd_105
              have hO5 := hO5.new hE hq_103 hrd_105
              have hF := Fr.new hF hE hq_103 hrd_105 hup
              have hE := hE.tr hE1
              have hk_107 := (hrd_105 h0 5 (fun h9 => hq_103 (h9 ▸ (hTo.at 0 rfl).1))).trans hk_78
              have hk_108 := (hrd_105 h0 8 (fun h9 => hq_103 (h9 ▸ (hTo.at 0 rfl).1))).trans hk_79
              have hk_109 := (hrd_105 rdr 3 (fun h9 => hq_103 (h9 ▸ (hTo.at 2 rfl).1))).trans hk_80
              have hk_110 := (hrd_105 rdr 4 (fun h9 => hq_103 (h9 ▸ (hTo.at 2 rfl).1))).trans hk_81
              have hk_111 := (hrd_105 rdr 5 (fun h9 => hq_103 (h9 ▸ (hTo.at 2 rfl).1))).trans hk_82
              have hnq_112 : q_100 ∉ L := fun h9 => hq_103 (hE0n q_100 h9).1
              have hOb0 := hOb0.new hEb0 hq_103 hrd_105
              have hEb0 := hEb0.tr hE1
              have hak_113 : f_102 rc = f rc := (hup rc (fun h9 => hq_103 (h9 ▸ (hTo.at 7 rfl).1))).trans hak_83
              refine lv_dup hx hb dX9_recipe_65 rfl ?_
              refine lv_aload_nN hx hb dX9_recipe_66 rfl (lv_at hl 0 rfl) ?_
              have hTo := hT
              refine K_I ⟨hx, hb, hml, hown, hts⟩ (t_X3_initT l dC dI sa hlt g _ _ q_100 .null _ (hT.sub [0] rfl) (Or.inl rfl) ) (cwI 1 hts gX9_recipe_X3_init rfl rfl rfl (hts (.initialized RX3) (List.mem_of_getElem? (i := 7) (by exact rfl))) (hts (.methodLink RX9 137 yX3_init) (List.mem_of_getElem? (i := 197) (by exact rfl))) (hts (.instanceMethod yX3_init) (List.mem_of_getElem? (i := 198) (by exact rfl))) rfl (by decide +kernel) ⟨Nat.le_of_ble_eq_true rfl, Nat.le_of_ble_eq_true rfl⟩) hP hD hK hS hA hev hT rfl hl.1 rfl (Nat.le_of_ble_eq_true rfl) dX9_recipe_67 ⟨Nat.le_of_ble_eq_true rfl, Nat.le_of_ble_eq_true rfl⟩ (fun r L_114 f_115 H locs hw_116 hP hD hS hT hE1 => ?_)
              have hEo := hE
              have hO5 := hO5.call hE (OF.fr hw_116.2.1 (by decide)) (by simp)
              have hF := Fr.fresh hF hE hnq_112 (by obtain ⟨_, _, h9⟩ := hw_116.2.2; exact h9)
              have hE := hE.tr hE1
              obtain ⟨rfl, hw_116⟩ := hw_116
              obtain ⟨hfr_117, hex_118⟩ := hw_116
              obtain ⟨hof_119, hex_120⟩ := hex_118
              have hO3 := hO3.callF hEo hof_119 (fun a9 h9 => Or.inr (by rw [List.mem_singleton.mp h9]; exact hnq_112))
              have hk_121 : rd f_115 h0 5 = .int 0 := (hfr_117.1 h0 (hTo.at 1 rfl).1 9 (hTo.at 1 rfl).2 5 (by decide)).trans hk_107
              have hk_122 : rd f_115 h0 8 = .int sr := (hfr_117.1 h0 (hTo.at 1 rfl).1 9 (hTo.at 1 rfl).2 8 (by decide)).trans hk_108
              have hk_123 : rd f_115 rdr 3 = .int fa_60 := (hfr_117.1 rdr (hTo.at 3 rfl).1 2 (hTo.at 3 rfl).2 3 (by decide)).trans hk_109
              have hk_124 : rd f_115 rdr 4 = .int pw_61 := (hfr_117.1 rdr (hTo.at 3 rfl).1 2 (hTo.at 3 rfl).2 4 (by decide)).trans hk_110
              have hk_125 : rd f_115 rdr 5 = .int sg_62 := (hfr_117.1 rdr (hTo.at 3 rfl).1 2 (hTo.at 3 rfl).2 5 (by decide)).trans hk_111
              have hak_126 : f_115 rc = f rc := (hfr_117.2 rc (hTo.at 8 rfl).1 _ _ _ (hTo.at 8 rfl).2 (by decide)).trans hak_113
              have hOb0 := hOb0.call hEb0 (OF.fr hfr_117 (by decide)) (by simp)
              have hEb0 := hEb0.tr hE1
              refine W.eq (g2 := F0 m 70 ls [.ref q_100, .int a, .ref rc]) rfl ?_
              have hakR := hak_126
              have hTo := hT
              refine T_rast hx hb hK hP hD hS hT 8 4 0 rfl rfl rfl rfl (vin 8 (by decide) rfl (by assumption) (by assumption)) dX9_recipe_70 (fun f_127 H locs hP hD hS hT hE1 hrd_128 hup_129 hia_130 => ?_)
              have hO3 := hO3.arr hrd_128
              have hO5 := hO5.arr hrd_128
              have hF := Fr.arr (a := rc) hF hE ((hE1 rc (hT.at 8 rfl).1).2.symm.trans (hT.at 8 rfl).2) (by decide) hrd_128 hup_129
              have hE := hE.tr hE1
              have hk_131 : rd f_127 h0 5 = .int 0 := (hrd_128 h0 5).trans hk_121
              have hk_132 : rd f_127 h0 8 = .int sr := (hrd_128 h0 8).trans hk_122
              have hk_133 : rd f_127 rdr 3 = .int fa_60 := (hrd_128 rdr 3).trans hk_123
              have hk_134 : rd f_127 rdr 4 = .int pw_61 := (hrd_128 rdr 4).trans hk_124
              have hk_135 : rd f_127 rdr 5 = .int sg_62 := (hrd_128 rdr 5).trans hk_125
              have hOb0 := hOb0.arr hrd_128
              have hEb0 := hEb0.tr hE1
              have htv_136 : rd f_127 q_100 0 = .null := (hrd_128 q_100 0).trans hex_120.1
              have hra_137 : ra f_127 rc = va_up (ra f rc) a.toNatClampNeg (some q_100) := by rw [hia_130, ra_eq hakR]
              refine lv_aload_n hx hb dX9_recipe_71 rfl (lv_at hl 1 rfl) ?_
              refine lv_aload_n hx hb dX9_recipe_72 rfl (lv_at hl 1 rfl) ?_
              refine T_get (ci := 9) (C := RX9) (T := TX9) (N := 11) (t := (1, 0, 2, 0)) hx hb hts inw_X9_recipe_9 hown hK hP hT 1 rfl rfl 6 (by decide) (hts (.fieldLink RX9 31 "VatHouse" "reader" "LVatHouse$Reader;") (List.mem_of_getElem? (i := 3) (by exact rfl))) (fun _ h9 => h9) rfl dX9_recipe_73 (fun v_140 hv_138 hr_139 => ?_)
              obtain rfl : v_140 = .ref rdr := hr_139.symm.trans ((hF.1 h0 (hT0.at 0 rfl).1 9 (hT0.at 0 rfl).2 6 (by decide)).trans h_rdr)
              refine T_get (ci := 2) (C := RX2) (T := TX2) (N := 6) (t := tI) hx hb hts inw_X9_recipe_2 hown hK hP hT 3 rfl rfl 5 (by decide) (hts (.fieldLink RX9 140 "VatHouse$Reader" "steps" "I") (List.mem_of_getElem? (i := 8) (by exact rfl))) (fun _ h9 => h9) rfl dX9_recipe_76 (fun v_143 hv_141 hr_142 => ?_)
              obtain rfl : v_143 = .int sg_62 := hr_142.symm.trans hk_135
              have hTo := hT
              refine T_put (ci := 9) (v := .int sg_62) (ty := .int) (t := tI) (C := RX9) (T := TX9) (N := 11) hx hb hts inw_X9_recipe_9 tyX9 tyX9_ok nmX9 hown hK hP hD hS hT 1 rfl rfl 8 (by decide) (hts (.fieldLink RX9 143 "VatHouse" "stepsRead" "I") (List.mem_of_getElem? (i := 9) (by exact rfl))) (fun _ h9 => h9) rfl (tyX9_ok 8 (by decide)) rfl rfl rfl ⟨_, rfl⟩ dX9_recipe_79 (fun f_144 H locs hP hD hS hT hE1 hrd_145 hup_146 => ?_)
              have hO3 := OF.putN (a := h0) (cj := 9) hO3 hE ((hE1 h0 (hT.at 1 rfl).1).2.symm.trans (hT.at 1 rfl).2) (by decide) hrd_145
              have hO5 := OF.putN (a := h0) (cj := 9) hO5 hE ((hE1 h0 (hT.at 1 rfl).1).2.symm.trans (hT.at 1 rfl).2) (by decide) hrd_145
              have hF := Fr.put (a := h0) (ci := 9) hF hE ((hE1 h0 (hT.at 1 rfl).1).2.symm.trans (hT.at 1 rfl).2) (by decide) hrd_145 hup_146
              have hE := hE.tr hE1
              have hk_147 : rd f_144 h0 5 = .int 0 := ((Fr.put (cs := [(9, 8)]) (a := h0) (ci := 9) Fr.rf Ext.rf (hTo.at 1 rfl).2 (by decide) hrd_145 hup_146).1 h0 (hTo.at 1 rfl).1 9 (hTo.at 1 rfl).2 5 (by decide)).trans hk_131
              have hk_148 : rd f_144 h0 8 = .int sg_62 := (hrd_145 h0 8).trans (if_pos ⟨rfl, rfl⟩)
              have hk_149 : rd f_144 rdr 3 = .int fa_60 := ((Fr.put (cs := [(9, 8)]) (a := h0) (ci := 9) Fr.rf Ext.rf (hTo.at 1 rfl).2 (by decide) hrd_145 hup_146).1 rdr (hTo.at 3 rfl).1 2 (hTo.at 3 rfl).2 3 (by decide)).trans hk_133
              have hk_150 : rd f_144 rdr 4 = .int pw_61 := ((Fr.put (cs := [(9, 8)]) (a := h0) (ci := 9) Fr.rf Ext.rf (hTo.at 1 rfl).2 (by decide) hrd_145 hup_146).1 rdr (hTo.at 3 rfl).1 2 (hTo.at 3 rfl).2 4 (by decide)).trans hk_134
              have hk_151 : rd f_144 rdr 5 = .int sg_62 := ((Fr.put (cs := [(9, 8)]) (a := h0) (ci := 9) Fr.rf Ext.rf (hTo.at 1 rfl).2 (by decide) hrd_145 hup_146).1 rdr (hTo.at 3 rfl).1 2 (hTo.at 3 rfl).2 5 (by decide)).trans hk_135
              have hOb0 := OF.putN (a := h0) (cj := 9) hOb0 hEb0 ((hE1 h0 (hT.at 1 rfl).1).2.symm.trans (hT.at 1 rfl).2) (by decide) hrd_145
              have hEb0 := hEb0.tr hE1
              have htv_152 : rd f_144 q_100 0 = .null := ((hrd_145 q_100 0).trans (if_neg (fun h9 => absurd h9.2 (by decide)))).trans htv_136
              have hra_153 := (ra_eq (hup_146 rc (ne_sh (hT0.at 7 rfl).2 (hT0.at 0 rfl).2 (by intro h9; cases h9)))).trans hra_137
              refine lv_aload_n hx hb dX9_recipe_82 rfl (lv_at hl 1 rfl) ?_
              refine T_get (ci := 9) (C := RX9) (T := TX9) (N := 11) (t := (1, 0, 2, 0)) hx hb hts inw_X9_recipe_9 hown hK hP hT 1 rfl rfl 6 (by decide) (hts (.fieldLink RX9 31 "VatHouse" "reader" "LVatHouse$Reader;") (List.mem_of_getElem? (i := 3) (by exact rfl))) (fun _ h9 => h9) rfl dX9_recipe_83 (fun v_156 hv_154 hr_155 => ?_)
              obtain rfl : v_156 = .ref rdr := hr_155.symm.trans ((hF.1 h0 (hT0.at 0 rfl).1 9 (hT0.at 0 rfl).2 6 (by decide)).trans h_rdr)
              refine T_get (ci := 2) (C := RX2) (T := TX2) (N := 6) (t := tI) hx hb hts inw_X9_recipe_2 hown hK hP hT 3 rfl rfl 3 (by decide) (hts (.fieldLink RX9 134 "VatHouse$Reader" "fault" "I") (List.mem_of_getElem? (i := 4) (by exact rfl))) (fun _ h9 => h9) rfl dX9_recipe_86 (fun v_159 hv_157 hr_158 => ?_)
              obtain rfl : v_159 = .int fa_60 := hr_158.symm.trans hk_149
              refine vx_ret ?_
              exact K_i hx hb hr hlocks hP hD hK hS hT hE ⟨⟨_, rfl⟩, hF, _, _, _, _, hk_147, hk_149, hk_150, hk_148, ⟨⟨c_1, c_13, c_22, c_34⟩, rfl⟩, trivial, trivial, trivial, hO3, hO5, ⟨ln, qn, TN, aN, hbn, hln, hev9, hfa9, hpw9, rfl, Or.inr ⟨c_90, (htr9 c_90).1, (htr9 c_90).2.1, q_100, hT.at 0 rfl, hra_153, htv_152.trans (htr9 c_90).2.2.2.2.2, (htr9 c_90).2.2.1, (((htr9 c_90).2.2.2.2.1).mo (fun b9 hb9 => hb9) hEb0 hOb0 (by simp)).tr⟩⟩⟩ (Nat.le_of_ble_eq_true rfl) (Nat.le_of_ble_eq_true rfl) dX9_recipe_89
          · have hT := hT.add hb9
            obtain ⟨hfr_160, fa_161, pw_162, sg_163, hk_164, hk_165, hk_166, hrel_167, hrel_168, hrel_169, hex_170⟩ := hw_56
            obtain ⟨hof_171, hex_172⟩ := hex_170
            have hO5 := hO5.call hEo hof_171 (by simp)
            have hk_173 : rd f_55 h0 5 = .int tl := (hfr_160.1 h0 (hTo.at 0 rfl).1 9 (hTo.at 0 rfl).2 5 (by decide)).trans hk_48
            have hk_174 : rd f_55 h0 8 = .int sr := (hfr_160.1 h0 (hTo.at 0 rfl).1 9 (hTo.at 0 rfl).2 8 (by decide)).trans hk_49
            have hak_175 : f_55 rc = f rc := (hfr_160.2 rc (hTo.at 7 rfl).1 _ _ _ (hTo.at 7 rfl).2 (by decide)).trans hak_50
            obtain ⟨qn, TN, aN, hev9, hfa9, hpw9, htr9⟩ := hex_172
            have hEb0 : Ext L_54 f_55 L_54 f_55 := Ext.rf
            have hOb0 : OF 5 [] L_54 f_55 f_55 := OF.rf
            have htr9 : fa_161 = 0 → sg_163 = nI qn.2.1 ∧ qn.2.1 ≤ 300 ∧ PB (Kp tt ln) (Vp tt ln) (nq tt ln) 0 0 (Sj tt ln 0, 0, 0, -1) qn (fun _ _ => 0) TN (fun j => j) aN L_43 L_54 f_55 (.ref b_58) := fun h9 => by
              obtain ⟨g1, g2, v9, e9, g9⟩ := htr9 h9
              cases e9
              exact ⟨g1, g2, g9⟩
            refine W.eq (g2 := F0 m 41 ls [.ref b_58]) rfl ?_
            refine lv_astore_n (lv' := [(3, .ref b_58), (0, .ref h0), (1, .int a), (2, .int b)]) hx hb dX9_recipe_41 rfl hl (by decide) rfl (fun ls hl => ?_)
            refine lv_aload_n hx hb dX9_recipe_42 rfl (lv_at hl 1 rfl) ?_
            refine lv_iconst (v := 0) hx hb dX9_recipe_43 (by decide) ?_
            have hTo := hT
            refine T_put (ci := 9) (v := .int 0) (ty := .int) (t := tI) (C := RX9) (T := TX9) (N := 11) hx hb hts inw_X9_recipe_9 tyX9 tyX9_ok nmX9 hown hK hP hD hS hT 1 rfl rfl 5 (by decide) (hts (.fieldLink RX9 124 "VatHouse" "tapeLength" "I") (List.mem_of_getElem? (i := 2) (by exact rfl))) (fun _ h9 => h9) rfl (tyX9_ok 5 (by decide)) rfl rfl rfl ⟨_, rfl⟩ dX9_recipe_44 (fun f_176 H locs hP hD hS hT hE1 hrd_177 hup_178 => ?_)
            have hO3 := OF.putN (a := h0) (cj := 9) hO3 hE ((hE1 h0 (hT.at 1 rfl).1).2.symm.trans (hT.at 1 rfl).2) (by decide) hrd_177
            have hO5 := OF.putN (a := h0) (cj := 9) hO5 hE ((hE1 h0 (hT.at 1 rfl).1).2.symm.trans (hT.at 1 rfl).2) (by decide) hrd_177
            have hF := Fr.put (a := h0) (ci := 9) hF hE ((hE1 h0 (hT.at 1 rfl).1).2.symm.trans (hT.at 1 rfl).2) (by decide) hrd_177 hup_178
            have hE := hE.tr hE1
            have hk_179 : rd f_176 h0 5 = .int 0 := (hrd_177 h0 5).trans (if_pos ⟨rfl, rfl⟩)
            have hk_180 : rd f_176 h0 8 = .int sr := ((Fr.put (cs := [(9, 5)]) (a := h0) (ci := 9) Fr.rf Ext.rf (hTo.at 1 rfl).2 (by decide) hrd_177 hup_178).1 h0 (hTo.at 1 rfl).1 9 (hTo.at 1 rfl).2 8 (by decide)).trans hk_174
            have hk_181 : rd f_176 rdr 3 = .int fa_161 := ((Fr.put (cs := [(9, 5)]) (a := h0) (ci := 9) Fr.rf Ext.rf (hTo.at 1 rfl).2 (by decide) hrd_177 hup_178).1 rdr (hTo.at 3 rfl).1 2 (hTo.at 3 rfl).2 3 (by decide)).trans hk_164
            have hk_182 : rd f_176 rdr 4 = .int pw_162 := ((Fr.put (cs := [(9, 5)]) (a := h0) (ci := 9) Fr.rf Ext.rf (hTo.at 1 rfl).2 (by decide) hrd_177 hup_178).1 rdr (hTo.at 3 rfl).1 2 (hTo.at 3 rfl).2 4 (by decide)).trans hk_165
            have hk_183 : rd f_176 rdr 5 = .int sg_163 := ((Fr.put (cs := [(9, 5)]) (a := h0) (ci := 9) Fr.rf Ext.rf (hTo.at 1 rfl).2 (by decide) hrd_177 hup_178).1 rdr (hTo.at 3 rfl).1 2 (hTo.at 3 rfl).2 5 (by decide)).trans hk_166
            have hak_184 : f_176 rc = f rc := (hup_178 rc (ne_sh (hT0.at 7 rfl).2 (hT0.at 0 rfl).2 (by intro h9; cases h9))).trans hak_175
            have hOb0 := OF.putN (a := h0) (cj := 9) hOb0 hEb0 ((hE1 h0 (hT.at 1 rfl).1).2.symm.trans (hT.at 1 rfl).2) (by decide) hrd_177
            have hEb0 := hEb0.tr hE1
            refine lv_aload_n hx hb dX9_recipe_47 rfl (lv_at hl 1 rfl) ?_
            refine T_get (ci := 9) (C := RX9) (T := TX9) (N := 11) (t := (1, 0, 2, 0)) hx hb hts inw_X9_recipe_9 hown hK hP hT 1 rfl rfl 6 (by decide) (hts (.fieldLink RX9 31 "VatHouse" "reader" "LVatHouse$Reader;") (List.mem_of_getElem? (i := 3) (by exact rfl))) (fun _ h9 => h9) rfl dX9_recipe_48 (fun v_187 hv_185 hr_186 => ?_)
            obtain rfl : v_187 = .ref rdr := hr_186.symm.trans ((hF.1 h0 (hT0.at 0 rfl).1 9 (hT0.at 0 rfl).2 6 (by decide)).trans h_rdr)
            refine T_get (ci := 2) (C := RX2) (T := TX2) (N := 6) (t := tI) hx hb hts inw_X9_recipe_2 hown hK hP hT 3 rfl rfl 3 (by decide) (hts (.fieldLink RX9 134 "VatHouse$Reader" "fault" "I") (List.mem_of_getElem? (i := 4) (by exact rfl))) (fun _ h9 => h9) rfl dX9_recipe_51 (fun v_190 hv_188 hr_189 => ?_)
            obtain rfl : v_190 = .int fa_161 := hr_189.symm.trans hk_181
            refine lv_if_ne (tgt := 82) hx hb dX9_recipe_54 (by decide) (fun c_191 => ?_) (fun c_191 => ?_)
            · refine lv_aload_n hx hb dX9_recipe_82 rfl (lv_at hl 1 rfl) ?_
              refine T_get (ci := 9) (C := RX9) (T := TX9) (N := 11) (t := (1, 0, 2, 0)) hx hb hts inw_X9_recipe_9 hown hK hP hT 1 rfl rfl 6 (by decide) (hts (.fieldLink RX9 31 "VatHouse" "reader" "LVatHouse$Reader;") (List.mem_of_getElem? (i := 3) (by exact rfl))) (fun _ h9 => h9) rfl dX9_recipe_83 (fun v_194 hv_192 hr_193 => ?_)
              obtain rfl : v_194 = .ref rdr := hr_193.symm.trans ((hF.1 h0 (hT0.at 0 rfl).1 9 (hT0.at 0 rfl).2 6 (by decide)).trans h_rdr)
              refine T_get (ci := 2) (C := RX2) (T := TX2) (N := 6) (t := tI) hx hb hts inw_X9_recipe_2 hown hK hP hT 3 rfl rfl 3 (by decide) (hts (.fieldLink RX9 134 "VatHouse$Reader" "fault" "I") (List.mem_of_getElem? (i := 4) (by exact rfl))) (fun _ h9 => h9) rfl dX9_recipe_86 (fun v_197 hv_195 hr_196 => ?_)
              obtain rfl : v_197 = .int fa_161 := hr_196.symm.trans hk_181
              refine vx_ret ?_
              exact K_i hx hb hr hlocks hP hD hK hS hT hE ⟨⟨_, rfl⟩, hF, _, _, _, _, hk_179, hk_181, hk_182, hk_180, ⟨⟨c_1, c_13, c_22, c_34⟩, rfl⟩, trivial, trivial, trivial, hO3, hO5, ⟨ln, qn, TN, aN, hbn, hln, hev9, hfa9, hpw9, rfl, Or.inl ⟨c_191, hak_184, rfl⟩⟩⟩ (Nat.le_of_ble_eq_true rfl) (Nat.le_of_ble_eq_true rfl) dX9_recipe_89
            · refine lv_aload_n hx hb dX9_recipe_57 rfl (lv_at hl 1 rfl) ?_
              refine T_get (ci := 9) (C := RX9) (T := TX9) (N := 11) (t := (1, 2, g 4, 8)) hx hb hts inw_X9_recipe_9 hown hK hP hT 1 rfl rfl 7 (by decide) (hts (.fieldLink RX9 37 "VatHouse" "recipes" "[LVatHouse$Recipe;") (List.mem_of_getElem? (i := 1) (by exact rfl))) (fun _ h9 => h9) rfl dX9_recipe_58 (fun v_200 hv_198 hr_199 => ?_)
              obtain rfl : v_200 = .ref rc := hr_199.symm.trans ((hF.1 h0 (hT0.at 0 rfl).1 9 (hT0.at 0 rfl).2 7 (by decide)).trans h_rc)
              refine lv_iload_n hx hb dX9_recipe_61 rfl (lv_at hl 2 rfl) ?_
              have hE0n := hE
              have hTo := hT
              refine T_new (ci := 3) (fs := [.null]) (C := RX3) (T := TX3) (N := 1) hx hb hts inw_X9_recipe_3 tyX3 tyX3_ok hown (hts (.classLink RX9 35 RX3) (List.mem_of_getElem? (i := 5) (by exact rfl))) (hts (.instantiable RX3 1) (List.mem_of_getElem? (i := 6) (by exact rfl))) (hts (.initialized RX3) (List.mem_of_getElem? (i := 7) (by exact rfl))) hK hP hD hS hA hT rfl nfX3 (okn_3 g) (Nat.le_of_ble_eq_true rfl) (Nat.le_of_ble_eq_true rfl) dX9_recipe_62 (fun q_201 L_202 f_203 H hq_204 hL_205 hP hD hS hT hE1 hrd_206 hrq_207 hup => ?_)
              have hO3 := hO3.new hE hq_204 hrd_206
              have hO5 := hO5.new hE hq_204 hrd_206
              have hF := Fr.new hF hE hq_204 hrd_206 hup
              have hE := hE.tr hE1
              have hk_208 := (hrd_206 h0 5 (fun h9 => hq_204 (h9 ▸ (hTo.at 1 rfl).1))).trans hk_179
              have hk_209 := (hrd_206 h0 8 (fun h9 => hq_204 (h9 ▸ (hTo.at 1 rfl).1))).trans hk_180
              have hk_210 := (hrd_206 rdr 3 (fun h9 => hq_204 (h9 ▸ (hTo.at 3 rfl).1))).trans hk_181
              have hk_211 := (hrd_206 rdr 4 (fun h9 => hq_204 (h9 ▸ (hTo.at 3 rfl).1))).trans hk_182
              have hk_212 := (hrd_206 rdr 5 (fun h9 => hq_204 (h9 ▸ (hTo.at 3 rfl).1))).trans hk_183
              have hnq_213 : q_201 ∉ L := fun h9 => hq_204 (hE0n q_201 h9).1
              have hOb0 := hOb0.new hEb0 hq_204 hrd_206
              have hEb0 := hEb0.tr hE1
              have hak_214 : f_203 rc = f rc := (hup rc (fun h9 => hq_204 (h9 ▸ (hTo.at 8 rfl).1))).trans hak_184
              refine lv_dup hx hb dX9_recipe_65 rfl ?_
              refine lv_aload_n hx hb dX9_recipe_66 rfl (lv_at hl 0 rfl) ?_
              have hTo := hT
              refine K_I ⟨hx, hb, hml, hown, hts⟩ (t_X3_initT l dC dI sa hlt g _ _ q_201 (.ref b_58) _ (hT.sub [0] rfl) (Or.inr ⟨_, rfl, hT.at 1 rfl⟩) ) (cwI 1 hts gX9_recipe_X3_init rfl rfl rfl (hts (.initialized RX3) (List.mem_of_getElem? (i := 7) (by exact rfl))) (hts (.methodLink RX9 137 yX3_init) (List.mem_of_getElem? (i := 197) (by exact rfl))) (hts (.instanceMethod yX3_init) (List.mem_of_getElem? (i := 198) (by exact rfl))) rfl (by decide +kernel) ⟨Nat.le_of_ble_eq_true rfl, Nat.le_of_ble_eq_true rfl⟩) hP hD hK hS hA hev hT rfl hl.1 rfl (Nat.le_of_ble_eq_true rfl) dX9_recipe_67 ⟨Nat.le_of_ble_eq_true rfl, Nat.le_of_ble_eq_true rfl⟩ (fun r L_215 f_216 H locs hw_217 hP hD hS hT hE1 => ?_)
              have hEo := hE
              have hO5 := hO5.call hE (OF.fr hw_217.2.1 (by decide)) (by simp)
              have hF := Fr.fresh hF hE hnq_213 (by obtain ⟨_, _, h9⟩ := hw_217.2.2; exact h9)
              have hE := hE.tr hE1
              obtain ⟨rfl, hw_217⟩ := hw_217
              obtain ⟨hfr_218, hex_219⟩ := hw_217
              obtain ⟨hof_220, hex_221⟩ := hex_219
              have hO3 := hO3.callF hEo hof_220 (fun a9 h9 => Or.inr (by rw [List.mem_singleton.mp h9]; exact hnq_213))
              have hk_222 : rd f_216 h0 5 = .int 0 := (hfr_218.1 h0 (hTo.at 2 rfl).1 9 (hTo.at 2 rfl).2 5 (by decide)).trans hk_208
              have hk_223 : rd f_216 h0 8 = .int sr := (hfr_218.1 h0 (hTo.at 2 rfl).1 9 (hTo.at 2 rfl).2 8 (by decide)).trans hk_209
              have hk_224 : rd f_216 rdr 3 = .int fa_161 := (hfr_218.1 rdr (hTo.at 4 rfl).1 2 (hTo.at 4 rfl).2 3 (by decide)).trans hk_210
              have hk_225 : rd f_216 rdr 4 = .int pw_162 := (hfr_218.1 rdr (hTo.at 4 rfl).1 2 (hTo.at 4 rfl).2 4 (by decide)).trans hk_211
              have hk_226 : rd f_216 rdr 5 = .int sg_163 := (hfr_218.1 rdr (hTo.at 4 rfl).1 2 (hTo.at 4 rfl).2 5 (by decide)).trans hk_212
              have hak_227 : f_216 rc = f rc := (hfr_218.2 rc (hTo.at 9 rfl).1 _ _ _ (hTo.at 9 rfl).2 (by decide)).trans hak_214
              have hOb0 := hOb0.call hEb0 (OF.fr hfr_218 (by decide)) (by simp)
              have hEb0 := hEb0.tr hE1
              refine W.eq (g2 := F0 m 70 ls [.ref q_201, .int a, .ref rc]) rfl ?_
              have hakR := hak_227
              have hTo := hT
              refine T_rast hx hb hK hP hD hS hT 9 4 0 rfl rfl rfl rfl (vin 8 (by decide) rfl (by assumption) (by assumption)) dX9_recipe_70 (fun f_228 H locs hP hD hS hT hE1 hrd_229 hup_230 hia_231 => ?_)
              have hO3 := hO3.arr hrd_229
              have hO5 := hO5.arr hrd_229
              have hF := Fr.arr (a := rc) hF hE ((hE1 rc (hT.at 9 rfl).1).2.symm.trans (hT.at 9 rfl).2) (by decide) hrd_229 hup_230
              have hE := hE.tr hE1
              have hk_232 : rd f_228 h0 5 = .int 0 := (hrd_229 h0 5).trans hk_222
              have hk_233 : rd f_228 h0 8 = .int sr := (hrd_229 h0 8).trans hk_223
              have hk_234 : rd f_228 rdr 3 = .int fa_161 := (hrd_229 rdr 3).trans hk_224
              have hk_235 : rd f_228 rdr 4 = .int pw_162 := (hrd_229 rdr 4).trans hk_225
              have hk_236 : rd f_228 rdr 5 = .int sg_163 := (hrd_229 rdr 5).trans hk_226
              have hOb0 := hOb0.arr hrd_229
              have hEb0 := hEb0.tr hE1
              have htv_237 : rd f_228 q_201 0 = .ref b_58 := (hrd_229 q_201 0).trans hex_221.1
              have hra_238 : ra f_228 rc = va_up (ra f rc) a.toNatClampNeg (some q_201) := by rw [hia_231, ra_eq hakR]
              refine lv_aload_n hx hb dX9_recipe_71 rfl (lv_at hl 1 rfl) ?_
              refine lv_aload_n hx hb dX9_recipe_72 rfl (lv_at hl 1 rfl) ?_
              refine T_get (ci := 9) (C := RX9) (T := TX9) (N := 11) (t := (1, 0, 2, 0)) hx hb hts inw_X9_recipe_9 hown hK hP hT 2 rfl rfl 6 (by decide) (hts (.fieldLink RX9 31 "VatHouse" "reader" "LVatHouse$Reader;") (List.mem_of_getElem? (i := 3) (by exact rfl))) (fun _ h9 => h9) rfl dX9_recipe_73 (fun v_241 hv_239 hr_240 => ?_)
              obtain rfl : v_241 = .ref rdr := hr_240.symm.trans ((hF.1 h0 (hT0.at 0 rfl).1 9 (hT0.at 0 rfl).2 6 (by decide)).trans h_rdr)
              refine T_get (ci := 2) (C := RX2) (T := TX2) (N := 6) (t := tI) hx hb hts inw_X9_recipe_2 hown hK hP hT 4 rfl rfl 5 (by decide) (hts (.fieldLink RX9 140 "VatHouse$Reader" "steps" "I") (List.mem_of_getElem? (i := 8) (by exact rfl))) (fun _ h9 => h9) rfl dX9_recipe_76 (fun v_244 hv_242 hr_243 => ?_)
              obtain rfl : v_244 = .int sg_163 := hr_243.symm.trans hk_236
              have hTo := hT
              refine T_put (ci := 9) (v := .int sg_163) (ty := .int) (t := tI) (C := RX9) (T := TX9) (N := 11) hx hb hts inw_X9_recipe_9 tyX9 tyX9_ok nmX9 hown hK hP hD hS hT 2 rfl rfl 8 (by decide) (hts (.fieldLink RX9 143 "VatHouse" "stepsRead" "I") (List.mem_of_getElem? (i := 9) (by exact rfl))) (fun _ h9 => h9) rfl (tyX9_ok 8 (by decide)) rfl rfl rfl ⟨_, rfl⟩ dX9_recipe_79 (fun f_245 H locs hP hD hS hT hE1 hrd_246 hup_247 => ?_)
              have hO3 := OF.putN (a := h0) (cj := 9) hO3 hE ((hE1 h0 (hT.at 2 rfl).1).2.symm.trans (hT.at 2 rfl).2) (by decide) hrd_246
              have hO5 := OF.putN (a := h0) (cj := 9) hO5 hE ((hE1 h0 (hT.at 2 rfl).1).2.symm.trans (hT.at 2 rfl).2) (by decide) hrd_246
              have hF := Fr.put (a := h0) (ci := 9) hF hE ((hE1 h0 (hT.at 2 rfl).1).2.symm.trans (hT.at 2 rfl).2) (by decide) hrd_246 hup_247
              have hE := hE.tr hE1
              have hk_248 : rd f_245 h0 5 = .int 0 := ((Fr.put (cs := [(9, 8)]) (a := h0) (ci := 9) Fr.rf Ext.rf (hTo.at 2 rfl).2 (by decide) hrd_246 hup_247).1 h0 (hTo.at 2 rfl).1 9 (hTo.at 2 rfl).2 5 (by decide)).trans hk_232
              have hk_249 : rd f_245 h0 8 = .int sg_163 := (hrd_246 h0 8).trans (if_pos ⟨rfl, rfl⟩)
              have hk_250 : rd f_245 rdr 3 = .int fa_161 := ((Fr.put (cs := [(9, 8)]) (a := h0) (ci := 9) Fr.rf Ext.rf (hTo.at 2 rfl).2 (by decide) hrd_246 hup_247).1 rdr (hTo.at 4 rfl).1 2 (hTo.at 4 rfl).2 3 (by decide)).trans hk_234
              have hk_251 : rd f_245 rdr 4 = .int pw_162 := ((Fr.put (cs := [(9, 8)]) (a := h0) (ci := 9) Fr.rf Ext.rf (hTo.at 2 rfl).2 (by decide) hrd_246 hup_247).1 rdr (hTo.at 4 rfl).1 2 (hTo.at 4 rfl).2 4 (by decide)).trans hk_235
              have hk_252 : rd f_245 rdr 5 = .int sg_163 := ((Fr.put (cs := [(9, 8)]) (a := h0) (ci := 9) Fr.rf Ext.rf (hTo.at 2 rfl).2 (by decide) hrd_246 hup_247).1 rdr (hTo.at 4 rfl).1 2 (hTo.at 4 rfl).2 5 (by decide)).trans hk_236
              have hOb0 := OF.putN (a := h0) (cj := 9) hOb0 hEb0 ((hE1 h0 (hT.at 2 rfl).1).2.symm.trans (hT.at 2 rfl).2) (by decide) hrd_246
              have hEb0 := hEb0.tr hE1
              have htv_253 : rd f_245 q_201 0 = .ref b_58 := ((hrd_246 q_201 0).trans (if_neg (fun h9 => absurd h9.2 (by decide)))).trans htv_237
              have hra_254 := (ra_eq (hup_247 rc (ne_sh (hT0.at 7 rfl).2 (hT0.at 0 rfl).2 (by intro h9; cases h9)))).trans hra_238
              refine lv_aload_n hx hb dX9_recipe_82 rfl (lv_at hl 1 rfl) ?_
              refine T_get (ci := 9) (C := RX9) (T := TX9) (N := 11) (t := (1, 0, 2, 0)) hx hb hts inw_X9_recipe_9 hown hK hP hT 2 rfl rfl 6 (by decide) (hts (.fieldLink RX9 31 "VatHouse" "reader" "LVatHouse$Reader;") (List.mem_of_getElem? (i := 3) (by exact rfl))) (fun _ h9 => h9) rfl dX9_recipe_83 (fun v_257 hv_255 hr_256 => ?_)
              obtain rfl : v_257 = .ref rdr := hr_256.symm.trans ((hF.1 h0 (hT0.at 0 rfl).1 9 (hT0.at 0 rfl).2 6 (by decide)).trans h_rdr)
              refine T_get (ci := 2) (C := RX2) (T := TX2) (N := 6) (t := tI) hx hb hts inw_X9_recipe_2 hown hK hP hT 4 rfl rfl 3 (by decide) (hts (.fieldLink RX9 134 "VatHouse$Reader" "fault" "I") (List.mem_of_getElem? (i := 4) (by exact rfl))) (fun _ h9 => h9) rfl dX9_recipe_86 (fun v_260 hv_258 hr_259 => ?_)
              obtain rfl : v_260 = .int fa_161 := hr_259.symm.trans hk_250
              refine vx_ret ?_
              exact K_i hx hb hr hlocks hP hD hK hS hT hE ⟨⟨_, rfl⟩, hF, _, _, _, _, hk_248, hk_250, hk_251, hk_249, ⟨⟨c_1, c_13, c_22, c_34⟩, rfl⟩, trivial, trivial, trivial, hO3, hO5, ⟨ln, qn, TN, aN, hbn, hln, hev9, hfa9, hpw9, rfl, Or.inr ⟨c_191, (htr9 c_191).1, (htr9 c_191).2.1, q_201, hT.at 0 rfl, hra_254, htv_253.trans (htr9 c_191).2.2.2.2.2, (htr9 c_191).2.2.1, (((htr9 c_191).2.2.2.2.1).mo (fun b9 hb9 => hb9) hEb0 hOb0 (by simp)).tr⟩⟩⟩ (Nat.le_of_ble_eq_true rfl) (Nat.le_of_ble_eq_true rfl) dX9_recipe_89
