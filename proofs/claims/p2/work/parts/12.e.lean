abbrev rm_X8_passHours : Room := { frames := 3, cells := 0, slots := 0, locals := 56 }
theorem inw_X8_passHours_8 : ∀ w ∈ wsX80, w ∈ wsX8_passHours := by decide +kernel
set_option maxHeartbeats 800000 in
set_option maxRecDepth 100000 in
theorem t_X8_passHours (l : Launch) (dC : Nat → ClassId) (dI : Nat → Nat → Nat) (sa : Nat → Nat) (hlt : l.stackTraces = false) (g : Nat → Nat) (L : List Nat) (f : Nat → va_E) (h0 : Nat) (nn : Int32) (sz : Nat) (hT : TP g L f [(h0, (0, 8, 0))]) : KC l dC dI sa g yX8_passHours wsX8_passHours rm_X8_passHours [.ref h0, .int nn] L f sz (fun r L' f' => (r = none) ∧ Fr [(7, 0), (7, 1), (7, 2), (7, 3), (7, 4), (7, 5), (7, 6), (7, 7), (8, 0), (8, 1), (8, 2)] L f f') 0 0 := by
  refine CT.start (cc := cX8_passHours) (maxL := 4) (ret := none) (by decide) rfl (Nat.le_of_ble_eq_true rfl) ?_
  intro p e s m below meth c ls hst hP hK hD hev hS hl
  obtain ⟨hx, hb, hr, hml, hts, hown, hlocks, hin⟩ := hst
  have hown : s.vm.findClass RX8 = some m.cls := hown
  have hin : meth.name = yX8_passHours.name := hin
  have hA : ∀ q : Nat, s.heap.size ≤ q → va_A (va_pl L f) s.heap.size q := fun _ h => Or.inr h
  have hE : Ext L f L f := Ext.rf
  have hF : Fr [(7, 0), (7, 1), (7, 2), (7, 3), (7, 4), (7, 5), (7, 6), (7, 7), (8, 0), (8, 1), (8, 2)] L f f := Fr.rf
  have hl : lv_has ls 4 [(0, .ref h0), (1, .int nn)] := hl
  refine lv_iload_n hx hb dX8_passHours_0 rfl (lv_at hl 1 rfl) ?_
  refine lv_sipush (v := 200) hx hb dX8_passHours_1 (by decide) ?_
  refine va_mmin hx hb (hml.trans hl.1.symm) hown (hts (.methodLink RX8 78 Lib.Math.min.name) (by decide +kernel)) (hts (.static Lib.Math.min.name) (by decide +kernel)) (hts (.initialized "java/lang/Math") (by decide +kernel)) (hts (.code Lib.Math.min.name Lib.Math.min.code 2 (some .int)) (by decide +kernel)) (Nat.le_of_ble_eq_true rfl) (Nat.le_of_ble_eq_true rfl) (Nat.le_of_ble_eq_true rfl) (Nat.le_of_ble_eq_true rfl) dX8_passHours_4 ?_
  refine lv_topi (fun z_1 ez_1 => ?_)
  refine lv_istore_n (lv' := [(2, .int z_1), (0, .ref h0), (1, .int nn)]) hx hb dX8_passHours_7 rfl hl (by decide) rfl (fun ls hl => ?_)
  refine lv_iconst (v := 0) hx hb dX8_passHours_8 (by decide) ?_
  refine lv_istore_n (lv' := [(3, .int 0), (2, .int z_1), (0, .ref h0), (1, .int nn)]) hx hb dX8_passHours_9 rfl hl (by decide) rfl (fun ls hl => ?_)
  have lp : ∀ (n : Nat) (ii : Int32) (L1 : List Nat) (f1 : Nat → va_E) (H : Heap) (locs : List Loc) (ls : Array Slot), (∃ a : Nat, ii = nI a ∧ a ≤ 200 ∧ 200 < a + n) → va_P (dC, dI) vwCl (va_pl L1 f1) H → va_D (va_A (va_pl L f) s.heap.size) (va_pl L1 f1) → va_S (va_A (va_pl L f) s.heap.size) s.heap H locs → TP g L1 f1 [(h0, (0, 8, 0))] → Ext L f L1 f1 → Fr [(7, 0), (7, 1), (7, 2), (7, 3), (7, 4), (7, 5), (7, 6), (7, 7), (8, 0), (8, 1), (8, 2)] L f f1 → lv_has ls 4 [(3, .int ii), (2, .int z_1), (0, .ref h0), (1, .int nn)] → W p l e rm_X8_passHours s m [.ref h0, .int nn].toArray below meth c H locs 0 0 (MQ below (Qg (kpost g L f (fun r L' f' => (r = none) ∧ Fr [(7, 0), (7, 1), (7, 2), (7, 3), (7, 4), (7, 5), (7, 6), (7, 7), (8, 0), (8, 1), (8, 2)] L f f')) (fun (u : PL) t => QW dC dI (va_A (va_pl L f) s.heap.size) (va_pl u.1 u.2) [] t) (va_A (va_pl L f) s.heap.size)) [.ref h0, .int nn].toArray s (0) (0) (va_A (va_pl L f) s.heap.size)) (F0 m 10 ls []) := by
    intro n
    induction n with
    | zero => intro ii L1 f1 H locs ls hm  hP hD hS hT hE hF hl; exact absurd hm (by rintro ⟨a, -, h1, h2⟩; omega)
    | succ n ih =>
      intro ii L1 f1 H locs ls hm  hP hD hS hT hE hF hl
      refine lv_iload_n hx hb dX8_passHours_10 rfl (lv_at hl 0 rfl) ?_
      refine lv_iload_n hx hb dX8_passHours_11 rfl (lv_at hl 1 rfl) ?_
      refine lv_icmp_ge (tgt := 25) hx hb dX8_passHours_12 (by decide) (fun c_2 => ?_) (fun c_2 => ?_)
      · refine lv_aload_n hx hb dX8_passHours_25 rfl (lv_at hl 2 rfl) ?_
        refine lv_dup hx hb dX8_passHours_26 rfl ?_
        refine T_get (ci := 8) (C := RX8) (T := TX8) (N := 3) (t := tI) hx hb hts inw_X8_passHours_8 hown hK hP hT 0 rfl rfl 1 (by decide) (hts (.fieldLink RX8 31 "VatHouse$Works" "hours" "I") (by decide +kernel)) (fun _ h9 => h9) rfl dX8_passHours_27 (fun v_5 hv_3 hr_4 => ?_)
        obtain ⟨z_6, rfl⟩ := hv_3
        refine lv_iload_n hx hb dX8_passHours_30 rfl (lv_at hl 3 rfl) ?_
        refine lv_iload_n hx hb dX8_passHours_31 rfl (lv_at hl 1 rfl) ?_
        refine lv_isub hx hb dX8_passHours_32 ?_
        refine lv_topi (fun z_7 ez_7 => ?_)
        refine lv_iadd hx hb dX8_passHours_33 ?_
        refine lv_topi (fun z_8 ez_8 => ?_)
        refine T_put (ci := 8) (v := .int z_8) (ty := .int) (t := tI) (C := RX8) (T := TX8) (N := 3) hx hb hts inw_X8_passHours_8 tyX8 tyX8_ok nmX8 hown hK hP hD hS hT 0 rfl rfl 1 (by decide) (hts (.fieldLink RX8 31 "VatHouse$Works" "hours" "I") (by decide +kernel)) (fun _ h9 => h9) rfl (by decide +kernel) rfl rfl rfl ⟨_, rfl⟩ dX8_passHours_34 (fun f_9 H locs hP hD hS hT hE1 hrd_10 hup_11 => ?_)
        have hF := Fr.put (a := h0) (ci := 8) hF hE ((hE1 h0 (hT.at 0 rfl).1).2.symm.trans (hT.at 0 rfl).2) (by decide) hrd_10 hup_11
        have hE := hE.tr hE1
        exact K_v hx hb hr hlocks hP hD hK hS hT hE ⟨rfl, hF⟩ (Nat.le_of_ble_eq_true rfl) (Nat.le_of_ble_eq_true rfl) dX8_passHours_37
      · refine lv_aload_n hx hb dX8_passHours_15 rfl (lv_at hl 2 rfl) ?_
        refine K_V ⟨hx, hb, hml, hown, hts⟩ (t_X8_passHour l dC dI sa hlt g _ _ h0 _ (hT.sub [0] rfl)  ) (cwV 0 hts gX8_passHours_X8_passHour rfl rfl rfl (by decide +kernel) ⟨Nat.le_of_ble_eq_true rfl, Nat.le_of_ble_eq_true rfl⟩) hP hD hK hS hA hev hT 0 8 rfl rfl rfl rfl hl.1 rfl (Nat.le_of_ble_eq_true rfl) dX8_passHours_16 ⟨Nat.le_of_ble_eq_true rfl, Nat.le_of_ble_eq_true rfl⟩ (fun r L_12 f_13 H locs hw_14 hP hD hS hT hE1 => ?_)
        have hF := Fr.call hF hE hw_14.2 (by decide)
        have hE := hE.tr hE1
        obtain ⟨rfl, hw_14⟩ := hw_14
        refine W.eq (g2 := F0 m 19 ls []) rfl ?_
        refine lv_iinc (v := (ii + 1)) (lv' := [(3, .int (ii + 1)), (2, .int z_1), (0, .ref h0), (1, .int nn)]) hx hb dX8_passHours_19 hl (k := 0) rfl rfl (by decide) rfl (fun ls hl => ?_)
        refine lv_goto (tgt := 10) hx hb dX8_passHours_22 (by decide) ?_
        exact ih (ii + 1) _ _ _ _ _ (up_nx (by decide) hm (by rw [ez_1]; split; exact (by decide); exact nlt_le (by assumption)) c_2)  hP hD hS (hT.sub [0] rfl) hE hF (lv_sub hl [0, 1, 2, 3] rfl)
  exact lp 201 0 _ _ _ _ _ (⟨0, nI_0.symm, by omega, by omega⟩)  hP hD hS (hT.sub [0] rfl) hE hF (lv_sub hl [0, 1, 2, 3] rfl)

abbrev rm_X9_hours : Room := { frames := 7, cells := 1, slots := 6, locals := 102 }
theorem inw_X9_hours_8 : ∀ w ∈ wsX80, w ∈ wsX9_hours := by decide +kernel
theorem inw_X9_hours_9 : ∀ w ∈ wsX90, w ∈ wsX9_hours := by decide +kernel
set_option maxHeartbeats 800000 in
set_option maxRecDepth 100000 in
theorem t_X9_hours (l : Launch) (dC : Nat → ClassId) (dI : Nat → Nat → Nat) (sa : Nat → Nat) (hlt : l.stackTraces = false) (g : Nat → Nat) (L : List Nat) (f : Nat → va_E) (h0 : Nat) (a : Int32) (sz : Nat) (hT : TP g L f [(h0, (0, 9, 0))]) : KX l dC dI sa g yX9_hours wsX9_hours rm_X9_hours [.ref h0, .int a] L f sz (fun r L' f' => (∃ z : Int32, r = some (.int z)) ∧ Fr [(7, 0), (7, 1), (7, 2), (7, 3), (7, 4), (7, 5), (7, 6), (7, 7), (8, 0), (8, 1), (8, 2)] L f f') (fun E L' f' => (E = IAE) ∧ Fr [(7, 0), (7, 1), (7, 2), (7, 3), (7, 4), (7, 5), (7, 6), (7, 7), (8, 0), (8, 1), (8, 2)] L f f') 1 6 := by
  refine KX.start (cc := cX9_hours) (maxL := 2) (ret := (some .int)) (by decide) rfl (Nat.le_of_ble_eq_true rfl) ?_
  intro p e s m below meth c ls hst hno hP hK hD hev hS hl
  obtain ⟨hx, hb, hr, hml, hts, hown, hlocks, hin⟩ := hst
  have hown : s.vm.findClass RX9 = some m.cls := hown
  have hin : meth.name = yX9_hours.name := hin
  have hA : ∀ q : Nat, s.heap.size ≤ q → va_A (va_pl L f) s.heap.size q := fun _ h => Or.inr h
  have hE : Ext L f L f := Ext.rf
  have hF : Fr [(7, 0), (7, 1), (7, 2), (7, 3), (7, 4), (7, 5), (7, 6), (7, 7), (8, 0), (8, 1), (8, 2)] L f f := Fr.rf
  have hl : lv_has ls 2 [(0, .ref h0), (1, .int a)] := hl
  refine lv_iload_n hx hb dX9_hours_0 rfl (lv_at hl 1 rfl) ?_
  refine lv_if_lt (tgt := 15) hx hb dX9_hours_1 (by decide) (fun c_1 => ?_) (fun c_1 => ?_)
  · refine lv_iconst (v := 0) hx hb dX9_hours_15 (by decide) ?_
    refine K_SX ⟨hx, hb, hml, hown, hts⟩ (t_X9_demand l dC dI sa hlt g _ _ 0 _ (hT.sub [] rfl)  ) (va_cwS 1 hts gX9_hours_X9_demand rfl rfl rfl (by decide +kernel) ⟨Nat.le_of_ble_eq_true rfl, Nat.le_of_ble_eq_true rfl⟩) hP hD hK hS hA hev hT rfl hl.1 rfl (Nat.le_of_ble_eq_true rfl) dX9_hours_16 ⟨Nat.le_of_ble_eq_true rfl, Nat.le_of_ble_eq_true rfl⟩ (fun E ce q9 L9 f9 H locs hpx hP hD hS hT hE1 hce hcv hcl => ?_) (fun r L_2 f_3 H locs hw_4 hP hD hS hT hE1 => ?_)
    · have hF := Fr.call hF hE hpx.2 (by decide)
      have hE := hE.tr hE1
      exact K_out hno hlocks ⟨hpx.1, hF⟩ hP hD hK hS hT hE hce hcv hcl (Nat.le_of_ble_eq_true rfl) (Nat.le_of_ble_eq_true rfl)
    have hF := Fr.call hF hE hw_4.2 (by decide)
    have hE := hE.tr hE1
    obtain ⟨rfl, hw_4⟩ := hw_4
    refine W.eq (g2 := F0 m 19 ls []) rfl ?_
    refine lv_aload_n hx hb dX9_hours_19 rfl (lv_at hl 0 rfl) ?_
    refine T_get (ci := 9) (C := RX9) (T := TX9) (N := 11) (t := (1, 0, 8, 0)) hx hb hts inw_X9_hours_9 hown hK hP hT 0 rfl rfl 0 (by decide) (hts (.fieldLink RX9 10 "VatHouse" "works" "LVatHouse$Works;") (by decide +kernel)) (fun _ h9 => h9) rfl dX9_hours_20 (fun v_7 hv_5 hr_6 => ?_)
    obtain ⟨b_8, rfl, hb9⟩ := hv_5
    have hT := hT.add hb9
    refine lv_iload_n hx hb dX9_hours_23 rfl (lv_at hl 1 rfl) ?_
    refine K_V ⟨hx, hb, hml, hown, hts⟩ (t_X8_passHours l dC dI sa hlt g _ _ b_8 a _ (hT.sub [0] rfl)  ) (cwV 1 hts gX9_hours_X8_passHours rfl rfl rfl (by decide +kernel) ⟨Nat.le_of_ble_eq_true rfl, Nat.le_of_ble_eq_true rfl⟩) hP hD hK hS hA hev hT 0 8 rfl rfl rfl rfl hl.1 rfl (Nat.le_of_ble_eq_true rfl) dX9_hours_24 ⟨Nat.le_of_ble_eq_true rfl, Nat.le_of_ble_eq_true rfl⟩ (fun r L_9 f_10 H locs hw_11 hP hD hS hT hE1 => ?_)
    have hF := Fr.call hF hE hw_11.2 (by decide)
    have hE := hE.tr hE1
    obtain ⟨rfl, hw_11⟩ := hw_11
    refine W.eq (g2 := F0 m 27 ls []) rfl ?_
    refine lv_aload_n hx hb dX9_hours_27 rfl (lv_at hl 0 rfl) ?_
    refine T_get (ci := 9) (C := RX9) (T := TX9) (N := 11) (t := (1, 0, 8, 0)) hx hb hts inw_X9_hours_9 hown hK hP hT 1 rfl rfl 0 (by decide) (hts (.fieldLink RX9 10 "VatHouse" "works" "LVatHouse$Works;") (by decide +kernel)) (fun _ h9 => h9) rfl dX9_hours_28 (fun v_14 hv_12 hr_13 => ?_)
    obtain ⟨b_15, rfl, hb9⟩ := hv_12
    have hT := hT.add hb9
    refine T_get (ci := 8) (C := RX8) (T := TX8) (N := 3) (t := tI) hx hb hts inw_X9_hours_8 hown hK hP hT 0 rfl rfl 1 (by decide) (hts (.fieldLink RX9 89 "VatHouse$Works" "hours" "I") (by decide +kernel)) (fun _ h9 => h9) rfl dX9_hours_31 (fun v_18 hv_16 hr_17 => ?_)
    obtain ⟨z_19, rfl⟩ := hv_16
    refine vx_ret ?_
    exact K_i hx hb hr hlocks hP hD hK hS hT hE ⟨⟨_, rfl⟩, hF⟩ (Nat.le_of_ble_eq_true rfl) (Nat.le_of_ble_eq_true rfl) dX9_hours_34
  · refine lv_iload_n hx hb dX9_hours_4 rfl (lv_at hl 1 rfl) ?_
    refine lv_sipush (v := 10000) hx hb dX9_hours_5 (by decide) ?_
    refine lv_icmp_gt (tgt := 15) hx hb dX9_hours_8 (by decide) (fun c_20 => ?_) (fun c_20 => ?_)
    · refine lv_iconst (v := 0) hx hb dX9_hours_15 (by decide) ?_
      refine K_SX ⟨hx, hb, hml, hown, hts⟩ (t_X9_demand l dC dI sa hlt g _ _ 0 _ (hT.sub [] rfl)  ) (va_cwS 1 hts gX9_hours_X9_demand rfl rfl rfl (by decide +kernel) ⟨Nat.le_of_ble_eq_true rfl, Nat.le_of_ble_eq_true rfl⟩) hP hD hK hS hA hev hT rfl hl.1 rfl (Nat.le_of_ble_eq_true rfl) dX9_hours_16 ⟨Nat.le_of_ble_eq_true rfl, Nat.le_of_ble_eq_true rfl⟩ (fun E ce q9 L9 f9 H locs hpx hP hD hS hT hE1 hce hcv hcl => ?_) (fun r L_21 f_22 H locs hw_23 hP hD hS hT hE1 => ?_)
      · have hF := Fr.call hF hE hpx.2 (by decide)
        have hE := hE.tr hE1
        exact K_out hno hlocks ⟨hpx.1, hF⟩ hP hD hK hS hT hE hce hcv hcl (Nat.le_of_ble_eq_true rfl) (Nat.le_of_ble_eq_true rfl)
      have hF := Fr.call hF hE hw_23.2 (by decide)
      have hE := hE.tr hE1
      obtain ⟨rfl, hw_23⟩ := hw_23
      refine W.eq (g2 := F0 m 19 ls []) rfl ?_
      refine lv_aload_n hx hb dX9_hours_19 rfl (lv_at hl 0 rfl) ?_
      refine T_get (ci := 9) (C := RX9) (T := TX9) (N := 11) (t := (1, 0, 8, 0)) hx hb hts inw_X9_hours_9 hown hK hP hT 0 rfl rfl 0 (by decide) (hts (.fieldLink RX9 10 "VatHouse" "works" "LVatHouse$Works;") (by decide +kernel)) (fun _ h9 => h9) rfl dX9_hours_20 (fun v_26 hv_24 hr_25 => ?_)
      obtain ⟨b_27, rfl, hb9⟩ := hv_24
      have hT := hT.add hb9
      refine lv_iload_n hx hb dX9_hours_23 rfl (lv_at hl 1 rfl) ?_
      refine K_V ⟨hx, hb, hml, hown, hts⟩ (t_X8_passHours l dC dI sa hlt g _ _ b_27 a _ (hT.sub [0] rfl)  ) (cwV 1 hts gX9_hours_X8_passHours rfl rfl rfl (by decide +kernel) ⟨Nat.le_of_ble_eq_true rfl, Nat.le_of_ble_eq_true rfl⟩) hP hD hK hS hA hev hT 0 8 rfl rfl rfl rfl hl.1 rfl (Nat.le_of_ble_eq_true rfl) dX9_hours_24 ⟨Nat.le_of_ble_eq_true rfl, Nat.le_of_ble_eq_true rfl⟩ (fun r L_28 f_29 H locs hw_30 hP hD hS hT hE1 => ?_)
      have hF := Fr.call hF hE hw_30.2 (by decide)
      have hE := hE.tr hE1
      obtain ⟨rfl, hw_30⟩ := hw_30
      refine W.eq (g2 := F0 m 27 ls []) rfl ?_
      refine lv_aload_n hx hb dX9_hours_27 rfl (lv_at hl 0 rfl) ?_
      refine T_get (ci := 9) (C := RX9) (T := TX9) (N := 11) (t := (1, 0, 8, 0)) hx hb hts inw_X9_hours_9 hown hK hP hT 1 rfl rfl 0 (by decide) (hts (.fieldLink RX9 10 "VatHouse" "works" "LVatHouse$Works;") (by decide +kernel)) (fun _ h9 => h9) rfl dX9_hours_28 (fun v_33 hv_31 hr_32 => ?_)
      obtain ⟨b_34, rfl, hb9⟩ := hv_31
      have hT := hT.add hb9
      refine T_get (ci := 8) (C := RX8) (T := TX8) (N := 3) (t := tI) hx hb hts inw_X9_hours_8 hown hK hP hT 0 rfl rfl 1 (by decide) (hts (.fieldLink RX9 89 "VatHouse$Works" "hours" "I") (by decide +kernel)) (fun _ h9 => h9) rfl dX9_hours_31 (fun v_37 hv_35 hr_36 => ?_)
      obtain ⟨z_38, rfl⟩ := hv_35
      refine vx_ret ?_
      exact K_i hx hb hr hlocks hP hD hK hS hT hE ⟨⟨_, rfl⟩, hF⟩ (Nat.le_of_ble_eq_true rfl) (Nat.le_of_ble_eq_true rfl) dX9_hours_34
    · refine lv_iconst (v := 1) hx hb dX9_hours_11 (by decide) ?_
      refine lv_goto (tgt := 16) hx hb dX9_hours_12 (by decide) ?_
      refine K_SX ⟨hx, hb, hml, hown, hts⟩ (t_X9_demand l dC dI sa hlt g _ _ 1 _ (hT.sub [] rfl)  ) (va_cwS 1 hts gX9_hours_X9_demand rfl rfl rfl (by decide +kernel) ⟨Nat.le_of_ble_eq_true rfl, Nat.le_of_ble_eq_true rfl⟩) hP hD hK hS hA hev hT rfl hl.1 rfl (Nat.le_of_ble_eq_true rfl) dX9_hours_16 ⟨Nat.le_of_ble_eq_true rfl, Nat.le_of_ble_eq_true rfl⟩ (fun E ce q9 L9 f9 H locs hpx hP hD hS hT hE1 hce hcv hcl => ?_) (fun r L_39 f_40 H locs hw_41 hP hD hS hT hE1 => ?_)
      · have hF := Fr.call hF hE hpx.2 (by decide)
        have hE := hE.tr hE1
        exact K_out hno hlocks ⟨hpx.1, hF⟩ hP hD hK hS hT hE hce hcv hcl (Nat.le_of_ble_eq_true rfl) (Nat.le_of_ble_eq_true rfl)
      have hF := Fr.call hF hE hw_41.2 (by decide)
      have hE := hE.tr hE1
      obtain ⟨rfl, hw_41⟩ := hw_41
      refine W.eq (g2 := F0 m 19 ls []) rfl ?_
      refine lv_aload_n hx hb dX9_hours_19 rfl (lv_at hl 0 rfl) ?_
      refine T_get (ci := 9) (C := RX9) (T := TX9) (N := 11) (t := (1, 0, 8, 0)) hx hb hts inw_X9_hours_9 hown hK hP hT 0 rfl rfl 0 (by decide) (hts (.fieldLink RX9 10 "VatHouse" "works" "LVatHouse$Works;") (by decide +kernel)) (fun _ h9 => h9) rfl dX9_hours_20 (fun v_44 hv_42 hr_43 => ?_)
      obtain ⟨b_45, rfl, hb9⟩ := hv_42
      have hT := hT.add hb9
      refine lv_iload_n hx hb dX9_hours_23 rfl (lv_at hl 1 rfl) ?_
      refine K_V ⟨hx, hb, hml, hown, hts⟩ (t_X8_passHours l dC dI sa hlt g _ _ b_45 a _ (hT.sub [0] rfl)  ) (cwV 1 hts gX9_hours_X8_passHours rfl rfl rfl (by decide +kernel) ⟨Nat.le_of_ble_eq_true rfl, Nat.le_of_ble_eq_true rfl⟩) hP hD hK hS hA hev hT 0 8 rfl rfl rfl rfl hl.1 rfl (Nat.le_of_ble_eq_true rfl) dX9_hours_24 ⟨Nat.le_of_ble_eq_true rfl, Nat.le_of_ble_eq_true rfl⟩ (fun r L_46 f_47 H locs hw_48 hP hD hS hT hE1 => ?_)
      have hF := Fr.call hF hE hw_48.2 (by decide)
      have hE := hE.tr hE1
      obtain ⟨rfl, hw_48⟩ := hw_48
      refine W.eq (g2 := F0 m 27 ls []) rfl ?_
      refine lv_aload_n hx hb dX9_hours_27 rfl (lv_at hl 0 rfl) ?_
      refine T_get (ci := 9) (C := RX9) (T := TX9) (N := 11) (t := (1, 0, 8, 0)) hx hb hts inw_X9_hours_9 hown hK hP hT 1 rfl rfl 0 (by decide) (hts (.fieldLink RX9 10 "VatHouse" "works" "LVatHouse$Works;") (by decide +kernel)) (fun _ h9 => h9) rfl dX9_hours_28 (fun v_51 hv_49 hr_50 => ?_)
      obtain ⟨b_52, rfl, hb9⟩ := hv_49
      have hT := hT.add hb9
      refine T_get (ci := 8) (C := RX8) (T := TX8) (N := 3) (t := tI) hx hb hts inw_X9_hours_8 hown hK hP hT 0 rfl rfl 1 (by decide) (hts (.fieldLink RX9 89 "VatHouse$Works" "hours" "I") (by decide +kernel)) (fun _ h9 => h9) rfl dX9_hours_31 (fun v_55 hv_53 hr_54 => ?_)
      obtain ⟨z_56, rfl⟩ := hv_53
      refine vx_ret ?_
      exact K_i hx hb hr hlocks hP hD hK hS hT hE ⟨⟨_, rfl⟩, hF⟩ (Nat.le_of_ble_eq_true rfl) (Nat.le_of_ble_eq_true rfl) dX9_hours_34

abbrev rm_X9_planned : Room := { frames := 6, cells := 1, slots := 6, locals := 82 }
theorem inw_X9_planned_1 : ∀ w ∈ wsX10, w ∈ wsX9_planned := by decide +kernel
theorem inw_X9_planned_9 : ∀ w ∈ wsX90, w ∈ wsX9_planned := by decide +kernel
theorem inx_X9_planned_9 : ∀ w ∈ (xN RX9 153).filter goodWord, w ∈ wsX9_planned := fun _ h => List.mem_cons_of_mem _ (List.mem_append_right _ h)
set_option maxHeartbeats 800000 in
set_option maxRecDepth 100000 in
theorem t_X9_planned (l : Launch) (dC : Nat → ClassId) (dI : Nat → Nat → Nat) (sa : Nat → Nat) (hlt : l.stackTraces = false) (g : Nat → Nat) (L : List Nat) (f : Nat → va_E) (h0 : Nat) (a : Int32) (b : Int32) (sz : Nat) (hT : TP g L f [(h0, (0, 9, 0))]) : KX l dC dI sa g yX9_planned wsX9_planned rm_X9_planned [.ref h0, .int a, .int b] L f sz (fun r L' f' => (∃ z : Int32, r = some (.int z)) ∧ Fr [] L f f') (fun E L' f' => (E = NSE) ∧ Fr [] L f f') 1 6 := by
  refine KX.start (cc := cX9_planned) (maxL := 3) (ret := (some .int)) (by decide) rfl (Nat.le_of_ble_eq_true rfl) ?_
  intro p e s m below meth c ls hst hno hP hK hD hev hS hl
  obtain ⟨hx, hb, hr, hml, hts, hown, hlocks, hin⟩ := hst
  have hown : s.vm.findClass RX9 = some m.cls := hown
  have hin : meth.name = yX9_planned.name := hin
  have hA : ∀ q : Nat, s.heap.size ≤ q → va_A (va_pl L f) s.heap.size q := fun _ h => Or.inr h
  have hE : Ext L f L f := Ext.rf
  have hF : Fr [] L f f := Fr.rf
  have hl : lv_has ls 3 [(0, .ref h0), (1, .int a), (2, .int b)] := hl
  refine lv_iload_n hx hb dX9_planned_0 rfl (lv_at hl 1 rfl) ?_
  refine lv_if_lt (tgt := 20) hx hb dX9_planned_1 (by decide) (fun c_1 => ?_) (fun c_1 => ?_)
  · exact K_x (cls := NSE) hno hx hb hlt hlocks hown hts xg_0 xg_1 xg_2 xg_5 (by decide +kernel) (hts (.classLink RX9 149 NSE) (by decide +kernel)) (hts (.initialized NSE) (by decide +kernel)) hev.2.1.2.2.2.2 (inx_X9_planned_9) xb_9 hev.2.2.1.1 xo_9 hev (hl.1.trans hml.symm) dX9_planned_20 dX9_planned_23 dX9_planned_24 dX9_planned_26 dX9_planned_29 (Nat.le_of_ble_eq_true rfl) (Nat.le_of_ble_eq_true rfl) (Nat.le_of_ble_eq_true rfl) (Nat.le_of_ble_eq_true rfl) ⟨rfl, hF⟩ hP hD hK hS hT hE (Nat.le_of_ble_eq_true rfl) (Nat.le_of_ble_eq_true rfl)
  · refine lv_iload_n hx hb dX9_planned_4 rfl (lv_at hl 1 rfl) ?_
    refine lv_aload_n hx hb dX9_planned_5 rfl (lv_at hl 0 rfl) ?_
    refine T_get (ci := 9) (C := RX9) (T := TX9) (N := 11) (t := (1, 0, 1, 0)) hx hb hts inw_X9_planned_9 hown hK hP hT 0 rfl rfl 10 (by decide) (hts (.fieldLink RX9 53 "VatHouse" "planner" "LVatHouse$Planner;") (by decide +kernel)) (fun _ h9 => h9) rfl dX9_planned_6 (fun v_4 hv_2 hr_3 => ?_)
    obtain ⟨b_5, rfl, hb9⟩ := hv_2
    have hT := hT.add hb9
    refine T_get (ci := 1) (C := RX1) (T := TX1) (N := 9) (t := tI) hx hb hts inw_X9_planned_1 hown hK hP hT 0 rfl rfl 5 (by decide) (hts (.fieldLink RX9 186 "VatHouse$Planner" "kept" "I") (by decide +kernel)) (fun _ h9 => h9) rfl dX9_planned_9 (fun v_8 hv_6 hr_7 => ?_)
    obtain ⟨z_9, rfl⟩ := hv_6
    refine lv_icmp_ge (tgt := 20) hx hb dX9_planned_12 (by decide) (fun c_10 => ?_) (fun c_10 => ?_)
    · exact K_x (cls := NSE) hno hx hb hlt hlocks hown hts xg_0 xg_1 xg_2 xg_5 (by decide +kernel) (hts (.classLink RX9 149 NSE) (by decide +kernel)) (hts (.initialized NSE) (by decide +kernel)) hev.2.1.2.2.2.2 (inx_X9_planned_9) xb_9 hev.2.2.1.1 xo_9 hev (hl.1.trans hml.symm) dX9_planned_20 dX9_planned_23 dX9_planned_24 dX9_planned_26 dX9_planned_29 (Nat.le_of_ble_eq_true rfl) (Nat.le_of_ble_eq_true rfl) (Nat.le_of_ble_eq_true rfl) (Nat.le_of_ble_eq_true rfl) ⟨rfl, hF⟩ hP hD hK hS hT hE (Nat.le_of_ble_eq_true rfl) (Nat.le_of_ble_eq_true rfl)
    · refine lv_iload_n hx hb dX9_planned_15 rfl (lv_at hl 1 rfl) ?_
      refine lv_iconst (v := 3) hx hb dX9_planned_16 (by decide) ?_
      refine lv_icmp_lt (tgt := 30) hx hb dX9_planned_17 (by decide) (fun c_11 => ?_) (fun c_11 => ?_)
      · refine lv_iload_n hx hb dX9_planned_30 rfl (lv_at hl 2 rfl) ?_
        by_cases c_12 : b = 0
        · refine lv_tableIn (tgt := 56) hx hb dX9_planned_31 (by rw [c_12]; decide) (by rw [c_12]; decide) (by rw [c_12]; rfl) (by decide) ?_
          refine lv_aload_n hx hb dX9_planned_56 rfl (lv_at hl 0 rfl) ?_
          refine T_get (ci := 9) (C := RX9) (T := TX9) (N := 11) (t := (1, 0, 1, 0)) hx hb hts inw_X9_planned_9 hown hK hP hT 1 rfl rfl 10 (by decide) (hts (.fieldLink RX9 53 "VatHouse" "planner" "LVatHouse$Planner;") (by decide +kernel)) (fun _ h9 => h9) rfl dX9_planned_57 (fun v_15 hv_13 hr_14 => ?_)
          obtain rfl : v_15 = .ref b_5 := hr_14.symm.trans hr_3
          refine T_get (ci := 1) (C := RX1) (T := TX1) (N := 9) (t := (1, 1, g 7, 3)) hx hb hts inw_X9_planned_1 hown hK hP hT 0 rfl rfl 6 (by decide) (hts (.fieldLink RX9 191 "VatHouse$Planner" "keptVats" "[I") (by decide +kernel)) (fun _ h9 => h9) rfl dX9_planned_60 (fun v_18 hv_16 hr_17 => ?_)
          obtain ⟨b_19, rfl, hb9⟩ := hv_16
          have hT := hT.add hb9
          refine lv_iload_n hx hb dX9_planned_63 rfl (lv_at hl 1 rfl) ?_
          refine T_iald hx hb hK hP hT 0 7 rfl rfl (vin 3 (by decide) rfl (by assumption) (lt_nle (by assumption))) dX9_planned_64 (fun z_20 ez_20 => ?_)
          refine vx_ret ?_
          exact K_i hx hb hr hlocks hP hD hK hS hT hE ⟨⟨_, rfl⟩, hF⟩ (Nat.le_of_ble_eq_true rfl) (Nat.le_of_ble_eq_true rfl) dX9_planned_65
        by_cases c_21 : b = 1
        · refine lv_tableIn (tgt := 66) hx hb dX9_planned_31 (by rw [c_21]; decide) (by rw [c_21]; decide) (by rw [c_21]; rfl) (by decide) ?_
          refine lv_aload_n hx hb dX9_planned_66 rfl (lv_at hl 0 rfl) ?_
          refine T_get (ci := 9) (C := RX9) (T := TX9) (N := 11) (t := (1, 0, 1, 0)) hx hb hts inw_X9_planned_9 hown hK hP hT 1 rfl rfl 10 (by decide) (hts (.fieldLink RX9 53 "VatHouse" "planner" "LVatHouse$Planner;") (by decide +kernel)) (fun _ h9 => h9) rfl dX9_planned_67 (fun v_24 hv_22 hr_23 => ?_)
          obtain rfl : v_24 = .ref b_5 := hr_23.symm.trans hr_3
          refine T_get (ci := 1) (C := RX1) (T := TX1) (N := 9) (t := (1, 1, g 8, 3)) hx hb hts inw_X9_planned_1 hown hK hP hT 0 rfl rfl 7 (by decide) (hts (.fieldLink RX9 195 "VatHouse$Planner" "keptMinutes" "[I") (by decide +kernel)) (fun _ h9 => h9) rfl dX9_planned_70 (fun v_27 hv_25 hr_26 => ?_)
          obtain ⟨b_28, rfl, hb9⟩ := hv_25
          have hT := hT.add hb9
          refine lv_iload_n hx hb dX9_planned_73 rfl (lv_at hl 1 rfl) ?_
          refine T_iald hx hb hK hP hT 0 8 rfl rfl (vin 3 (by decide) rfl (by assumption) (lt_nle (by assumption))) dX9_planned_74 (fun z_29 ez_29 => ?_)
          refine vx_ret ?_
          exact K_i hx hb hr hlocks hP hD hK hS hT hE ⟨⟨_, rfl⟩, hF⟩ (Nat.le_of_ble_eq_true rfl) (Nat.le_of_ble_eq_true rfl) dX9_planned_75
        by_cases c_30 : b = 2
        · refine lv_tableIn (tgt := 76) hx hb dX9_planned_31 (by rw [c_30]; decide) (by rw [c_30]; decide) (by rw [c_30]; rfl) (by decide) ?_
          refine lv_aload_n hx hb dX9_planned_76 rfl (lv_at hl 0 rfl) ?_
          refine T_get (ci := 9) (C := RX9) (T := TX9) (N := 11) (t := (1, 0, 1, 0)) hx hb hts inw_X9_planned_9 hown hK hP hT 1 rfl rfl 10 (by decide) (hts (.fieldLink RX9 53 "VatHouse" "planner" "LVatHouse$Planner;") (by decide +kernel)) (fun _ h9 => h9) rfl dX9_planned_77 (fun v_33 hv_31 hr_32 => ?_)
          obtain rfl : v_33 = .ref b_5 := hr_32.symm.trans hr_3
          refine T_get (ci := 1) (C := RX1) (T := TX1) (N := 9) (t := (1, 1, g 9, 3)) hx hb hts inw_X9_planned_1 hown hK hP hT 0 rfl rfl 8 (by decide) (hts (.fieldLink RX9 198 "VatHouse$Planner" "keptShades" "[I") (by decide +kernel)) (fun _ h9 => h9) rfl dX9_planned_80 (fun v_36 hv_34 hr_35 => ?_)
          obtain ⟨b_37, rfl, hb9⟩ := hv_34
          have hT := hT.add hb9
          refine lv_iload_n hx hb dX9_planned_83 rfl (lv_at hl 1 rfl) ?_
          refine T_iald hx hb hK hP hT 0 9 rfl rfl (vin 3 (by decide) rfl (by assumption) (lt_nle (by assumption))) dX9_planned_84 (fun z_38 ez_38 => ?_)
          refine vx_ret ?_
          exact K_i hx hb hr hlocks hP hD hK hS hT hE ⟨⟨_, rfl⟩, hF⟩ (Nat.le_of_ble_eq_true rfl) (Nat.le_of_ble_eq_true rfl) dX9_planned_85
        refine lv_tableOut (tgt := 86) hx hb dX9_planned_31 (tab_out3 c_12 c_21 c_30) (by decide) ?_
        exact K_x (cls := NSE) hno hx hb hlt hlocks hown hts xg_0 xg_1 xg_2 xg_5 (by decide +kernel) (hts (.classLink RX9 149 NSE) (by decide +kernel)) (hts (.initialized NSE) (by decide +kernel)) hev.2.1.2.2.2.1 (inx_X9_planned_9) xb_9 hev.2.2.1.1 xo_9 hev (hl.1.trans hml.symm) dX9_planned_86 dX9_planned_89 dX9_planned_90 dX9_planned_92 dX9_planned_95 (Nat.le_of_ble_eq_true rfl) (Nat.le_of_ble_eq_true rfl) (Nat.le_of_ble_eq_true rfl) (Nat.le_of_ble_eq_true rfl) ⟨rfl, hF⟩ hP hD hK hS hT hE (Nat.le_of_ble_eq_true rfl) (Nat.le_of_ble_eq_true rfl)
      · exact K_x (cls := NSE) hno hx hb hlt hlocks hown hts xg_0 xg_1 xg_2 xg_5 (by decide +kernel) (hts (.classLink RX9 149 NSE) (by decide +kernel)) (hts (.initialized NSE) (by decide +kernel)) hev.2.1.2.2.2.2 (inx_X9_planned_9) xb_9 hev.2.2.1.1 xo_9 hev (hl.1.trans hml.symm) dX9_planned_20 dX9_planned_23 dX9_planned_24 dX9_planned_26 dX9_planned_29 (Nat.le_of_ble_eq_true rfl) (Nat.le_of_ble_eq_true rfl) (Nat.le_of_ble_eq_true rfl) (Nat.le_of_ble_eq_true rfl) ⟨rfl, hF⟩ hP hD hK hS hT hE (Nat.le_of_ble_eq_true rfl) (Nat.le_of_ble_eq_true rfl)
