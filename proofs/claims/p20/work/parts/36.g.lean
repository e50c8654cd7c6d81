theorem mn_200 {nn z : Int32} {n M : Nat} (h : nn = nI n) (hn : n ≤ 10000) (hz : z = if 200 < nn then 200 else nn) (hM : M = if 200 < n then 200 else n) : z = nI M := by
  have e : (200 < nn) ↔ 200 < n := by
    rw [h]
    have : (200 : Int32) = nI 200 := rfl
    rw [this, nI_ltI (by omega) (by omega)]
  rw [hz, hM]
  by_cases c : 200 < n
  · rw [if_pos (e.mpr c), if_pos c]; rfl
  · rw [if_neg (fun g => c (e.mp g)), if_neg c, h]

noncomputable abbrev rm_X8_passHoursS : Room := { frames := 3, cells := 0, slots := 0, locals := 56 }
set_option maxHeartbeats 800000 in
set_option maxRecDepth 100000 in
theorem t_X8_passHoursS (l : Launch) (dC : Nat → ClassId) (dI : Nat → Nat → Nat) (sa : Nat → Nat) (hlt : l.stackTraces = false) (g : Nat → Nat) (L : List Nat) (f : Nat → va_E) (x0 : Nat) (cl : Nat) (ru : Nat) (va : Nat → Nat) (sA : AS) (nN : Nat) (h0 : Nat) (nn : Int32) (vs : Nat) (sz : Nat) (hT : TP g L f [(h0, (0, 8, 0)), (vs, (2, g 2, 6))]) (h_vs : rd f h0 0 = .ref vs) (hSR : SR g L f (x0, h0, vs, cl, ru, va) sA) (hRV : RV sA) (hh : 0 ≤ (sA.1 1).toInt ∧ (sA.1 1).toInt ≤ 9000000) (hnn : nn = nI nN ∧ nN ≤ 10000) : KC l dC dI sa g yX8_passHours wsX8_passHours rm_X8_passHoursS [.ref h0, .int nn] L f sz (fun r L' f' => (r = none) ∧ Fr [(7, 2), (7, 3), (7, 4), (8, 1)] L f f' ∧ (SR g L' f' (x0, h0, vs, cl, ru, va) (hN nN sA))) 0 0 := by
  refine CT.start (cc := cX8_passHours) (maxL := 4) (ret := none) (by decide) rfl (Nat.le_of_ble_eq_true rfl) ?_
  intro p e s m below meth c ls hst hP hK hD hev hS hl
  obtain ⟨hx, hb, hr, hml, hts, hown, hlocks, hin⟩ := hst
  have hown : s.vm.findClass RX8 = some m.cls := hown
  have hin : meth.name = yX8_passHours.name := hin
  have hA : ∀ q : Nat, s.heap.size ≤ q → va_A (va_pl L f) s.heap.size q := fun _ h => Or.inr h
  have hE : Ext L f L f := Ext.rf
  have hF : Fr [(7, 2), (7, 3), (7, 4), (8, 1)] L f f := Fr.rf
  have hl : lv_has ls 4 [(0, .ref h0), (1, .int nn)] := hl
  have hT0 := hT
  refine lv_iload_n hx hb dX8_passHours_0 rfl (lv_at hl 1 rfl) ?_
  refine lv_sipush (v := 200) hx hb dX8_passHours_1 (by decide) ?_
  refine va_mmin hx hb (hml.trans hl.1.symm) hown (hts (.methodLink RX8 78 Lib.Math.min.name) (List.mem_of_getElem? (i := 1) (by exact rfl))) (hts (.static Lib.Math.min.name) (List.mem_of_getElem? (i := 2) (by exact rfl))) (hts (.initialized "java/lang/Math") (List.mem_of_getElem? (i := 3) (by exact rfl))) (hts (.code Lib.Math.min.name Lib.Math.min.code 2 (some .int)) (List.mem_of_getElem? (i := 4) (by exact rfl))) (Nat.le_of_ble_eq_true rfl) (Nat.le_of_ble_eq_true rfl) (Nat.le_of_ble_eq_true rfl) (Nat.le_of_ble_eq_true rfl) dX8_passHours_4 ?_
  refine lv_topi (fun z_1 ez_1 => ?_)
  refine lv_istore_n (lv' := [(2, .int z_1), (0, .ref h0), (1, .int nn)]) hx hb dX8_passHours_7 rfl hl (by decide) rfl (fun ls hl => ?_)
  obtain ⟨M, hM⟩ : ∃ M : Nat, M = if 200 < nN then 200 else nN := ⟨_, rfl⟩
  have hM2 : M ≤ 200 := by rw [hM]; split <;> omega
  have hz2 : z_1 = nI M := mn_200 hnn.1 hnn.2 ez_1 hM
  refine lv_iconst (v := 0) hx hb dX8_passHours_8 (by decide) ?_
  refine lv_istore_n (lv' := [(3, .int 0), (2, .int z_1), (0, .ref h0), (1, .int nn)]) hx hb dX8_passHours_9 rfl hl (by decide) rfl (fun ls hl => ?_)
  have lp : ∀ (n : Nat) (ii : Int32) (L1 : List Nat) (f1 : Nat → va_E) (H : Heap) (locs : List Loc) (ls : Array Slot), (∃ a : Nat, ii = nI a ∧ a ≤ M ∧ M < a + n) → (∃ a : Nat, ii = nI a ∧ a ≤ M ∧ SR g L1 f1 (x0, h0, vs, cl, ru, va) (hN a sA)) → va_P (dC, dI) vwCl (va_pl L1 f1) H → va_D (va_A (va_pl L f) s.heap.size) (va_pl L1 f1) → va_S (va_A (va_pl L f) s.heap.size) s.heap H locs → TP g L1 f1 [(h0, (0, 8, 0)), (vs, (2, g 2, 6))] → Ext L f L1 f1 → Fr [(7, 2), (7, 3), (7, 4), (8, 1)] L f f1 → lv_has ls 4 [(3, .int ii), (2, .int z_1), (0, .ref h0), (1, .int nn)] → W p l e rm_X8_passHoursS s m [.ref h0, .int nn].toArray below meth c H locs 0 0 (MQ below (Qg (kpost g L f (fun r L' f' => (r = none) ∧ Fr [(7, 2), (7, 3), (7, 4), (8, 1)] L f f' ∧ (SR g L' f' (x0, h0, vs, cl, ru, va) (hN nN sA)))) (fun (u : PL) t => QW dC dI (va_A (va_pl L f) s.heap.size) (va_pl u.1 u.2) [] t) (va_A (va_pl L f) s.heap.size)) [.ref h0, .int nn].toArray s (0) (0) (va_A (va_pl L f) s.heap.size)) (F0 m 10 ls []) := by
    intro n
    induction n with
    | zero => intro ii L1 f1 H locs ls hm hR hP hD hS hT hE hF hl; exact absurd hm (by rintro ⟨a, -, h1, h2⟩; omega)
    | succ n ih =>
      intro ii L1 f1 H locs ls hm hR hP hD hS hT hE hF hl
      refine lv_iload_n hx hb dX8_passHours_10 rfl (lv_at hl 0 rfl) ?_
      obtain ⟨q9, hq9, hqM, hs1⟩ := hR
      refine lv_iload_n hx hb dX8_passHours_11 rfl (lv_at hl 1 rfl) ?_
      refine lv_icmp_ge (tgt := 25) hx hb dX8_passHours_12 (by decide) (fun c_2 => ?_) (fun c_2 => ?_)
      · obtain rfl : q9 = M := (nI_up hz2 (by omega) hq9 hqM).2 c_2
        refine lv_aload_n hx hb dX8_passHours_25 rfl (lv_at hl 2 rfl) ?_
        refine lv_dup hx hb dX8_passHours_26 rfl ?_
        refine T_get (ci := 8) (C := RX8) (T := TX8) (N := 3) (t := tI) hx hb hts inw_X8_passHours_8 hown hK hP hT 0 rfl rfl 1 (by decide) (hts (.fieldLink RX8 31 "VatHouse$Works" "hours" "I") (List.mem_of_getElem? (i := 5) (by exact rfl))) (fun _ h9 => h9) rfl dX8_passHours_27 (fun v_5 hv_3 hr_4 => ?_)
        obtain rfl : v_5 = .int ((hN q9 sA).1 1) := hr_4.symm.trans hs1.2.2.2.1.1
        refine lv_iload_n hx hb dX8_passHours_30 rfl (lv_at hl 3 rfl) ?_
        refine lv_iload_n hx hb dX8_passHours_31 rfl (lv_at hl 1 rfl) ?_
        refine lv_isub hx hb dX8_passHours_32 ?_
        refine lv_topi (fun z_6 ez_6 => ?_)
        refine lv_iadd hx hb dX8_passHours_33 ?_
        refine lv_topi (fun z_7 ez_7 => ?_)
        refine T_put (ci := 8) (v := .int z_7) (ty := .int) (t := tI) (C := RX8) (T := TX8) (N := 3) hx hb hts inw_X8_passHours_8 tyX8 tyX8_ok nmX8 hown hK hP hD hS hT 0 rfl rfl 1 (by decide) (hts (.fieldLink RX8 31 "VatHouse$Works" "hours" "I") (List.mem_of_getElem? (i := 5) (by exact rfl))) (fun _ h9 => h9) rfl (tyX8_ok 1 (by decide)) rfl rfl rfl ⟨_, rfl⟩ dX8_passHours_34 (fun f_8 H locs hP hD hS hT hE1 hrd_9 hup_10 => ?_)
        have hF := Fr.put (a := h0) (ci := 8) hF hE ((hE1 h0 (hT.at 0 rfl).1).2.symm.trans (hT.at 0 rfl).2) (by decide) hrd_9 hup_10
        have hE := hE.tr hE1
        have hEp := hE1
        exact K_v hx hb hr hlocks hP hD hK hS hT hE ⟨rfl, hF, SR.hrs hs1 hRV hh hnn.2 hM (by rw [ez_7, ez_6, hnn.1, hz2]) hEp hrd_9 hup_10⟩ (Nat.le_of_ble_eq_true rfl) (Nat.le_of_ble_eq_true rfl) dX8_passHours_37
      · refine lv_aload_n hx hb dX8_passHours_15 rfl (lv_at hl 2 rfl) ?_
        have halt : q9 < M := (nI_up hz2 (by omega) hq9 hqM).1 c_2
        have hh9 := (hN_1 q9 sA).2.2 hh.1 (by omega)
        refine K_V ⟨hx, hb, hml, hown, hts⟩ (t_X8_passHourS l dC dI sa hlt g _ _ x0 cl ru va (hN q9 sA) h0 vs _ (hT.sub [0, 1] rfl)  ((hF.1 h0 (hT0.at 0 rfl).1 8 (hT0.at 0 rfl).2 0 (by decide)).trans h_vs) hs1 (RV.hN hRV q9) ⟨by omega, by omega⟩) (cwV 0 hts gX8_passHours_X8_passHour rfl rfl rfl (by decide +kernel) ⟨Nat.le_of_ble_eq_true rfl, Nat.le_of_ble_eq_true rfl⟩) hP hD hK hS hA hev hT 0 8 rfl rfl rfl rfl hl.1 rfl (Nat.le_of_ble_eq_true rfl) dX8_passHours_16 ⟨Nat.le_of_ble_eq_true rfl, Nat.le_of_ble_eq_true rfl⟩ (fun r L_11 f_12 H locs hw_13 hP hD hS hT hE1 => ?_)
        have hF := Fr.call hF hE hw_13.2.1 (by decide)
        have hE := hE.tr hE1
        obtain ⟨rfl, hw_13⟩ := hw_13
        obtain ⟨hfr_14, hex_15⟩ := hw_13
        have hs_16 := hex_15
        refine W.eq (g2 := F0 m 19 ls []) rfl ?_
        refine lv_iinc (v := (ii + 1)) (lv' := [(3, .int (ii + 1)), (2, .int z_1), (0, .ref h0), (1, .int nn)]) hx hb dX8_passHours_19 hl (k := 0) rfl rfl (by decide) rfl (fun ls hl => ?_)
        refine lv_goto (tgt := 10) hx hb dX8_passHours_22 (by decide) ?_
        exact ih (ii + 1) _ _ _ _ _ (up_nx (by omega) hm (by rw [hz2]; exact Int32.le_iff_toInt_le.mpr (Int.le_refl _)) c_2) (⟨q9 + 1, by rw [hq9]; exact nI_1 q9, by omega, by rw [hN_s]; exact hs_16⟩) hP hD hS (hT.sub [0, 1] rfl) hE hF (lv_sub hl [0, 1, 2, 3] rfl)
  exact lp (M + 1) 0 _ _ _ _ _ (⟨0, nI_0.symm, by omega, by omega⟩) (⟨0, nI_0.symm, by omega, hSR⟩) hP hD hS (hT.sub [0, 1] rfl) hE hF (lv_sub hl [0, 1, 2, 3] rfl)

theorem n10k {a : Int32} (h0 : ¬ a < 0) (h : ¬ 10000 < a) : a = nI a.toNatClampNeg ∧ a.toNatClampNeg ≤ 10000 := by
  rw [Int32.lt_iff_toInt_lt] at h0 h
  have c0 : (0 : Int32).toInt = 0 := by decide
  have c1 : (10000 : Int32).toInt = 10000 := by decide
  have := clamp_i (x := a) (by omega)
  exact ⟨nI_cl (by omega), by omega⟩

noncomputable abbrev rm_X9_hoursS : Room := { frames := 7, cells := 1, slots := 6, locals := 102 }
set_option maxHeartbeats 800000 in
set_option maxRecDepth 100000 in
theorem t_X9_hoursS (l : Launch) (dC : Nat → ClassId) (dI : Nat → Nat → Nat) (sa : Nat → Nat) (hlt : l.stackTraces = false) (g : Nat → Nat) (L : List Nat) (f : Nat → va_E) (va : Nat → Nat) (sA : AS) (h0 : Nat) (a : Int32) (wk : Nat) (vs : Nat) (cl : Nat) (ru : Nat) (sz : Nat) (hT : TP g L f [(h0, (0, 9, 0)), (wk, (0, 8, 0)), (vs, (2, g 2, 6)), (cl, (2, g 3, 30)), (ru, (0, 4, 0))]) (h_wk : rd f h0 0 = .ref wk) (h_vs : rd f wk 0 = .ref vs) (h_cl : rd f h0 1 = .ref cl) (h_ru : rd f h0 9 = .ref ru) (hSR : SR g L f (h0, wk, vs, cl, ru, va) sA) (hRG : RV sA ∧ RC sA ∧ 0 ≤ (sA.1 1).toInt ∧ (sA.1 1).toInt ≤ 9000000) : KX l dC dI sa g yX9_hours wsX9_hours rm_X9_hoursS [.ref h0, .int a] L f sz (fun r L' f' => (∃ z : Int32, r = some (.int z)) ∧ Fr [(7, 2), (7, 3), (7, 4), (8, 1)] L f f' ∧ (∃ (v : Int32) (s2 : AS), hrS a sA = (0, v, s2) ∧ r = some (.int v) ∧ SR g L' f' (h0, wk, vs, cl, ru, va) s2)) (fun E L' f' => (E = IAE ∧ hrS a sA = (1, 0, sA)) ∧ Fr [] L f f') 1 6 := by
  refine KX.start (cc := cX9_hours) (maxL := 2) (ret := (some .int)) (by decide) rfl (Nat.le_of_ble_eq_true rfl) ?_
  intro p e s m below meth c ls hst hno hP hK hD hev hS hl
  obtain ⟨hx, hb, hr, hml, hts, hown, hlocks, hin⟩ := hst
  have hown : s.vm.findClass RX9 = some m.cls := hown
  have hin : meth.name = yX9_hours.name := hin
  have hA : ∀ q : Nat, s.heap.size ≤ q → va_A (va_pl L f) s.heap.size q := fun _ h => Or.inr h
  have hE : Ext L f L f := Ext.rf
  have hF : Fr [(7, 2), (7, 3), (7, 4), (8, 1)] L f f := Fr.rf
  have hF0 : Fr [] L f f := Fr.rf
  have hl : lv_has ls 2 [(0, .ref h0), (1, .int a)] := hl
  have hT0 := hT
  refine lv_iload_n hx hb dX9_hours_0 rfl (lv_at hl 1 rfl) ?_
  refine lv_if_lt (tgt := 15) hx hb dX9_hours_1 (by decide) (fun c_1 => ?_) (fun c_1 => ?_)
  · refine lv_iconst (v := 0) hx hb dX9_hours_15 (by decide) ?_
    refine K_SX ⟨hx, hb, hml, hown, hts⟩ (t_X9_demandX l dC dI sa hlt g _ _ 0 _ (hT.sub [] rfl)  ) (va_cwS 1 hts gX9_hours_X9_demand rfl rfl rfl (by decide +kernel) ⟨Nat.le_of_ble_eq_true rfl, Nat.le_of_ble_eq_true rfl⟩) hP hD hK hS hA hev hT rfl hl.1 rfl (Nat.le_of_ble_eq_true rfl) dX9_hours_16 ⟨Nat.le_of_ble_eq_true rfl, Nat.le_of_ble_eq_true rfl⟩ (fun E ce q9 L9 f9 H locs hpx hP hD hS hT hE1 hce hcv hcl => ?_) (fun r L_2 f_3 H locs hw_4 hP hD hS hT hE1 => ?_)
    · have hF := Fr.call hF0 hE hpx.2 (by decide)
      have hE := hE.tr hE1
      exact K_out hno hlocks ⟨⟨hpx.1.1, if_neg (fun h9 => le_nlt h9.1 c_1)⟩, hF⟩ hP hD hK hS hT hE hce hcv hcl (Nat.le_of_ble_eq_true rfl) (Nat.le_of_ble_eq_true rfl)
    have hF0 := Fr.call hF0 hE hw_4.2.1 (by decide)
    have hF := Fr.call hF hE hw_4.2.1 (by decide)
    have hE := hE.tr hE1
    obtain ⟨rfl, hw_4⟩ := hw_4
    obtain ⟨hfr_5, hex_6⟩ := hw_4
    have hs_7 := SR.still hSR hE1 hfr_5 (by decide)
    refine W.eq (g2 := F0 m 19 ls []) rfl ?_
    exact absurd rfl hex_6
  · refine lv_iload_n hx hb dX9_hours_4 rfl (lv_at hl 1 rfl) ?_
    refine lv_sipush (v := 10000) hx hb dX9_hours_5 (by decide) ?_
    refine lv_icmp_gt (tgt := 15) hx hb dX9_hours_8 (by decide) (fun c_8 => ?_) (fun c_8 => ?_)
    · refine lv_iconst (v := 0) hx hb dX9_hours_15 (by decide) ?_
      refine K_SX ⟨hx, hb, hml, hown, hts⟩ (t_X9_demandX l dC dI sa hlt g _ _ 0 _ (hT.sub [] rfl)  ) (va_cwS 1 hts gX9_hours_X9_demand rfl rfl rfl (by decide +kernel) ⟨Nat.le_of_ble_eq_true rfl, Nat.le_of_ble_eq_true rfl⟩) hP hD hK hS hA hev hT rfl hl.1 rfl (Nat.le_of_ble_eq_true rfl) dX9_hours_16 ⟨Nat.le_of_ble_eq_true rfl, Nat.le_of_ble_eq_true rfl⟩ (fun E ce q9 L9 f9 H locs hpx hP hD hS hT hE1 hce hcv hcl => ?_) (fun r L_9 f_10 H locs hw_11 hP hD hS hT hE1 => ?_)
      · have hF := Fr.call hF0 hE hpx.2 (by decide)
        have hE := hE.tr hE1
        exact K_out hno hlocks ⟨⟨hpx.1.1, if_neg (fun h9 => le_nlt h9.2 c_8)⟩, hF⟩ hP hD hK hS hT hE hce hcv hcl (Nat.le_of_ble_eq_true rfl) (Nat.le_of_ble_eq_true rfl)
      have hF0 := Fr.call hF0 hE hw_11.2.1 (by decide)
      have hF := Fr.call hF hE hw_11.2.1 (by decide)
      have hE := hE.tr hE1
      obtain ⟨rfl, hw_11⟩ := hw_11
      obtain ⟨hfr_12, hex_13⟩ := hw_11
      have hs_14 := SR.still hSR hE1 hfr_12 (by decide)
      refine W.eq (g2 := F0 m 19 ls []) rfl ?_
      exact absurd rfl hex_13
    · refine lv_iconst (v := 1) hx hb dX9_hours_11 (by decide) ?_
      refine lv_goto (tgt := 16) hx hb dX9_hours_12 (by decide) ?_
      refine K_SX ⟨hx, hb, hml, hown, hts⟩ (t_X9_demandX l dC dI sa hlt g _ _ 1 _ (hT.sub [] rfl)  ) (va_cwS 1 hts gX9_hours_X9_demand rfl rfl rfl (by decide +kernel) ⟨Nat.le_of_ble_eq_true rfl, Nat.le_of_ble_eq_true rfl⟩) hP hD hK hS hA hev hT rfl hl.1 rfl (Nat.le_of_ble_eq_true rfl) dX9_hours_16 ⟨Nat.le_of_ble_eq_true rfl, Nat.le_of_ble_eq_true rfl⟩ (fun E ce q9 L9 f9 H locs hpx hP hD hS hT hE1 hce hcv hcl => ?_) (fun r L_15 f_16 H locs hw_17 hP hD hS hT hE1 => ?_)
      · have hF := Fr.call hF0 hE hpx.2 (by decide)
        have hE := hE.tr hE1
        exact absurd hpx.1.2 (by decide)
      have hF0 := Fr.call hF0 hE hw_17.2.1 (by decide)
      have hF := Fr.call hF hE hw_17.2.1 (by decide)
      have hE := hE.tr hE1
      obtain ⟨rfl, hw_17⟩ := hw_17
      obtain ⟨hfr_18, hex_19⟩ := hw_17
      have hs_20 := SR.still hSR hE1 hfr_18 (by decide)
      refine W.eq (g2 := F0 m 19 ls []) rfl ?_
      refine lv_aload_n hx hb dX9_hours_19 rfl (lv_at hl 0 rfl) ?_
      refine T_get (ci := 9) (C := RX9) (T := TX9) (N := 11) (t := (1, 0, 8, 0)) hx hb hts inw_X9_hours_9 hown hK hP hT 0 rfl rfl 0 (by decide) (hts (.fieldLink RX9 10 "VatHouse" "works" "LVatHouse$Works;") (List.mem_of_getElem? (i := 1) (by exact rfl))) (fun _ h9 => h9) rfl dX9_hours_20 (fun v_23 hv_21 hr_22 => ?_)
      obtain rfl : v_23 = .ref wk := hr_22.symm.trans ((hF.1 h0 (hT0.at 0 rfl).1 9 (hT0.at 0 rfl).2 0 (by decide)).trans h_wk)
      refine lv_iload_n hx hb dX9_hours_23 rfl (lv_at hl 1 rfl) ?_
      have hn0 := n10k c_1 c_8
      refine K_V ⟨hx, hb, hml, hown, hts⟩ (t_X8_passHoursS l dC dI sa hlt g _ _ h0 cl ru va sA a.toNatClampNeg wk a vs _ (hT.sub [1, 2] rfl)  ((hF.1 wk (hT0.at 1 rfl).1 8 (hT0.at 1 rfl).2 0 (by decide)).trans h_vs) hs_20 hRG.1 hRG.2.2 hn0) (cwV 1 hts gX9_hours_X8_passHours rfl rfl rfl (by decide +kernel) ⟨Nat.le_of_ble_eq_true rfl, Nat.le_of_ble_eq_true rfl⟩) hP hD hK hS hA hev hT 1 8 rfl rfl rfl rfl hl.1 rfl (Nat.le_of_ble_eq_true rfl) dX9_hours_24 ⟨Nat.le_of_ble_eq_true rfl, Nat.le_of_ble_eq_true rfl⟩ (fun r L_24 f_25 H locs hw_26 hP hD hS hT hE1 => ?_)
      have hF := Fr.call hF hE hw_26.2.1 (by decide)
      have hE := hE.tr hE1
      obtain ⟨rfl, hw_26⟩ := hw_26
      obtain ⟨hfr_27, hex_28⟩ := hw_26
      have hs_29 := hex_28
      refine W.eq (g2 := F0 m 27 ls []) rfl ?_
      refine lv_aload_n hx hb dX9_hours_27 rfl (lv_at hl 0 rfl) ?_
      refine T_get (ci := 9) (C := RX9) (T := TX9) (N := 11) (t := (1, 0, 8, 0)) hx hb hts inw_X9_hours_9 hown hK hP hT 0 rfl rfl 0 (by decide) (hts (.fieldLink RX9 10 "VatHouse" "works" "LVatHouse$Works;") (List.mem_of_getElem? (i := 1) (by exact rfl))) (fun _ h9 => h9) rfl dX9_hours_28 (fun v_32 hv_30 hr_31 => ?_)
      obtain rfl : v_32 = .ref wk := hr_31.symm.trans ((hF.1 h0 (hT0.at 0 rfl).1 9 (hT0.at 0 rfl).2 0 (by decide)).trans h_wk)
      refine T_get (ci := 8) (C := RX8) (T := TX8) (N := 3) (t := tI) hx hb hts inw_X9_hours_8 hown hK hP hT 1 rfl rfl 1 (by decide) (hts (.fieldLink RX9 89 "VatHouse$Works" "hours" "I") (List.mem_of_getElem? (i := 2) (by exact rfl))) (fun _ h9 => h9) rfl dX9_hours_31 (fun v_35 hv_33 hr_34 => ?_)
      obtain rfl : v_35 = .int ((hN a.toNatClampNeg sA).1 1) := hr_34.symm.trans hs_29.2.2.2.1.1
      refine vx_ret ?_
      exact K_i hx hb hr hlocks hP hD hK hS hT hE ⟨⟨_, rfl⟩, hF, ⟨_, _, if_pos ⟨nlt_le c_1, nlt_le c_8⟩, rfl, hs_29⟩⟩ (Nat.le_of_ble_eq_true rfl) (Nat.le_of_ble_eq_true rfl) dX9_hours_34
