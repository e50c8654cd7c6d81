theorem tab_out_1_7 {x : Int32} (h1 : ¬ x = 1) (h2 : ¬ x = 2) (h3 : ¬ x = 3) (h4 : ¬ x = 4) (h5 : ¬ x = 5) (h6 : ¬ x = 6) (h7 : ¬ x = 7) : x.toInt < 1 ∨ 7 < x.toInt := by
  have e1 : x.toInt ≠ 1 := fun h => h1 (Int32.toInt_inj.mp h)
  have e2 : x.toInt ≠ 2 := fun h => h2 (Int32.toInt_inj.mp h)
  have e3 : x.toInt ≠ 3 := fun h => h3 (Int32.toInt_inj.mp h)
  have e4 : x.toInt ≠ 4 := fun h => h4 (Int32.toInt_inj.mp h)
  have e5 : x.toInt ≠ 5 := fun h => h5 (Int32.toInt_inj.mp h)
  have e6 : x.toInt ≠ 6 := fun h => h6 (Int32.toInt_inj.mp h)
  have e7 : x.toInt ≠ 7 := fun h => h7 (Int32.toInt_inj.mp h)
  omega

/-- how many steps may still come -/
def pot (fa sg : Int32) : Nat := if fa = 0 then (301 - sg.toInt).toNat else 0
theorem pot_le {fa fb sg : Int32} (h : fb = 0 → fa = 0) : pot fb sg ≤ pot fa sg := by
  unfold pot
  by_cases hb : fb = 0
  · rw [if_pos hb, if_pos (h hb)]; exact Nat.le_refl _
  · rw [if_neg hb]; exact Nat.zero_le _
theorem pot_ne {fa : Int32} (sg : Int32) (h : ¬ fa = 0) : pot fa sg = 0 := if_neg h
theorem pot_pos {fa sg : Int32} (h : fa = 0) (h3 : sg.toInt ≤ 300) : 1 ≤ pot fa sg := by
  rw [pot, if_pos h]; omega
theorem pot_inc {fa sg z : Int32} (hf : fa = 0) (h : sg < 300) (hz : z = sg + 1) : pot fa z + 1 = pot fa sg ∧ z.toInt ≤ 300 := by
  subst hz
  have h1 := inc_toInt h
  rw [Int32.lt_iff_toInt_lt] at h
  have e : (300 : Int32).toInt = 300 := by decide
  constructor
  · rw [pot, pot, if_pos hf, if_pos hf, h1]; omega
  · rw [h1]; omega
theorem lv7 {x : Int32} {d : Nat} (hd : x = nI d) (h : x < 8) (hb : d ≤ 8) : d < 8 := by
  subst hd
  rcases Nat.lt_or_ge d 8 with h1 | h1
  · exact h1
  · have : d = 8 := by omega
    subst this
    exact absurd h (by decide)

abbrev rm_X2_moveTo : Room := { frames := 0, cells := 0, slots := 0, locals := 0 }
theorem inw_X2_moveTo_2 : ∀ w ∈ wsX20, w ∈ wsX2_moveTo := by decide +kernel
theorem inw_X2_moveTo_6 : ∀ w ∈ wsX60, w ∈ wsX2_moveTo := by decide +kernel
set_option maxHeartbeats 800000 in
set_option maxRecDepth 100000 in
theorem t_X2_moveTo (l : Launch) (dC : Nat → ClassId) (dI : Nat → Nat → Nat) (sa : Nat → Nat) (hlt : l.stackTraces = false) (g : Nat → Nat) (L : List Nat) (f : Nat → va_E) (h0 : Nat) (ix : Int32) (sz : Nat) (hT : TP g L f [(h0, (0, 2, 0))]) : KC l dC dI sa g yX2_moveTo wsX2_moveTo rm_X2_moveTo [.ref h0, .int ix] L f sz (fun r L' f' => (r = none) ∧ Fr [(2, 1), (2, 2)] L f f' ∧ (∃ tn' : Int32, rd f' h0 2 = .int tn' ∧ (True))) 0 0 := by
  refine CT.start (cc := cX2_moveTo) (maxL := 2) (ret := none) (by decide) rfl (Nat.le_of_ble_eq_true rfl) ?_
  intro p e s m below meth c ls hst hP hK hD hev hS hl
  obtain ⟨hx, hb, hr, hml, hts, hown, hlocks, hin⟩ := hst
  have hown : s.vm.findClass RX2 = some m.cls := hown
  have hin : meth.name = yX2_moveTo.name := hin
  have hA : ∀ q : Nat, s.heap.size ≤ q → va_A (va_pl L f) s.heap.size q := fun _ h => Or.inr h
  have hE : Ext L f L f := Ext.rf
  have hF : Fr [(2, 1), (2, 2)] L f f := Fr.rf
  have hl : lv_has ls 2 [(0, .ref h0), (1, .int ix)] := hl
  refine lv_aload_n hx hb dX2_moveTo_0 rfl (lv_at hl 0 rfl) ?_
  refine lv_iload_n hx hb dX2_moveTo_1 rfl (lv_at hl 1 rfl) ?_
  refine T_put (ci := 2) (v := .int ix) (ty := .int) (t := tI) (C := RX2) (T := TX2) (N := 6) hx hb hts inw_X2_moveTo_2 tyX2 tyX2_ok nmX2 hown hK hP hD hS hT 0 rfl rfl 1 (by decide) (hts (.fieldLink RX2 101 "VatHouse$Reader" "at" "I") (by decide +kernel)) (fun _ h9 => h9) rfl (by decide +kernel) rfl rfl rfl ⟨_, rfl⟩ dX2_moveTo_2 (fun f_1 H locs hP hD hS hT hE1 hrd_2 => ?_)
  have hF := Fr.put (a := h0) (ci := 2) hF hE ((hE1 h0 (hT.at 0 rfl).1).2.symm.trans (hT.at 0 rfl).2) (by decide) hrd_2
  have hE := hE.tr hE1
  refine lv_aload_n hx hb dX2_moveTo_5 rfl (lv_at hl 0 rfl) ?_
  refine lv_iload_n hx hb dX2_moveTo_6 rfl (lv_at hl 1 rfl) ?_
  refine lv_if_lt (tgt := 45) hx hb dX2_moveTo_7 (by decide) (fun c_3 => ?_) (fun c_3 => ?_)
  · refine lv_iconst (v := 0) hx hb dX2_moveTo_45 (by decide) ?_
    refine T_put (ci := 2) (v := .int 0) (ty := .int) (t := tI) (C := RX2) (T := TX2) (N := 6) hx hb hts inw_X2_moveTo_2 tyX2 tyX2_ok nmX2 hown hK hP hD hS hT 0 rfl rfl 2 (by decide) (hts (.fieldLink RX2 44 "VatHouse$Reader" "token" "I") (by decide +kernel)) (fun _ h9 => h9) rfl (by decide +kernel) rfl rfl rfl ⟨_, rfl⟩ dX2_moveTo_46 (fun f_4 H locs hP hD hS hT hE1 hrd_5 => ?_)
    have hF := Fr.put (a := h0) (ci := 2) hF hE ((hE1 h0 (hT.at 0 rfl).1).2.symm.trans (hT.at 0 rfl).2) (by decide) hrd_5
    have hE := hE.tr hE1
    have hk_6 : rd f_4 h0 2 = .int 0 := (hrd_5 h0 2).trans (if_pos ⟨rfl, rfl⟩)
    exact K_v hx hb hr hlocks hP hD hK hS hT hE ⟨rfl, hF, _, hk_6, trivial⟩ (Nat.le_of_ble_eq_true rfl) (Nat.le_of_ble_eq_true rfl) dX2_moveTo_49
  · refine lv_iload_n hx hb dX2_moveTo_10 rfl (lv_at hl 1 rfl) ?_
    refine lv_aload_n hx hb dX2_moveTo_11 rfl (lv_at hl 0 rfl) ?_
    refine T_get (ci := 2) (C := RX2) (T := TX2) (N := 6) (t := (1, 0, 6, 0)) hx hb hts inw_X2_moveTo_2 hown hK hP hT 0 rfl rfl 0 (by decide) (hts (.fieldLink RX2 20 "VatHouse$Reader" "tokens" "LVatHouse$Tokens;") (by decide +kernel)) (fun _ h9 => h9) rfl dX2_moveTo_12 (fun v_9 hv_7 hr_8 => ?_)
    obtain ⟨b_10, rfl, hb9⟩ := hv_7
    have hT := hT.add hb9
    refine T_get (ci := 6) (C := RX6) (T := TX6) (N := 7) (t := tI) hx hb hts inw_X2_moveTo_6 hown hK hP hT 0 rfl rfl 3 (by decide) (hts (.fieldLink RX2 108 "VatHouse$Tokens" "size" "I") (by decide +kernel)) (fun _ h9 => h9) rfl dX2_moveTo_15 (fun v_13 hv_11 hr_12 => ?_)
    obtain ⟨z_14, rfl⟩ := hv_11
    refine lv_icmp_ge (tgt := 45) hx hb dX2_moveTo_18 (by decide) (fun c_15 => ?_) (fun c_15 => ?_)
    · refine lv_iconst (v := 0) hx hb dX2_moveTo_45 (by decide) ?_
      refine T_put (ci := 2) (v := .int 0) (ty := .int) (t := tI) (C := RX2) (T := TX2) (N := 6) hx hb hts inw_X2_moveTo_2 tyX2 tyX2_ok nmX2 hown hK hP hD hS hT 1 rfl rfl 2 (by decide) (hts (.fieldLink RX2 44 "VatHouse$Reader" "token" "I") (by decide +kernel)) (fun _ h9 => h9) rfl (by decide +kernel) rfl rfl rfl ⟨_, rfl⟩ dX2_moveTo_46 (fun f_16 H locs hP hD hS hT hE1 hrd_17 => ?_)
      have hF := Fr.put (a := h0) (ci := 2) hF hE ((hE1 h0 (hT.at 1 rfl).1).2.symm.trans (hT.at 1 rfl).2) (by decide) hrd_17
      have hE := hE.tr hE1
      have hk_18 : rd f_16 h0 2 = .int 0 := (hrd_17 h0 2).trans (if_pos ⟨rfl, rfl⟩)
      exact K_v hx hb hr hlocks hP hD hK hS hT hE ⟨rfl, hF, _, hk_18, trivial⟩ (Nat.le_of_ble_eq_true rfl) (Nat.le_of_ble_eq_true rfl) dX2_moveTo_49
    · refine lv_iload_n hx hb dX2_moveTo_21 rfl (lv_at hl 1 rfl) ?_
      refine lv_aload_n hx hb dX2_moveTo_22 rfl (lv_at hl 0 rfl) ?_
      refine T_get (ci := 2) (C := RX2) (T := TX2) (N := 6) (t := (1, 0, 6, 0)) hx hb hts inw_X2_moveTo_2 hown hK hP hT 1 rfl rfl 0 (by decide) (hts (.fieldLink RX2 20 "VatHouse$Reader" "tokens" "LVatHouse$Tokens;") (by decide +kernel)) (fun _ h9 => h9) rfl dX2_moveTo_23 (fun v_21 hv_19 hr_20 => ?_)
      obtain rfl : v_21 = .ref b_10 := hr_20.symm.trans hr_8
      refine T_get (ci := 6) (C := RX6) (T := TX6) (N := 7) (t := (1, 1, g 0, 1501)) hx hb hts inw_X2_moveTo_6 hown hK hP hT 0 rfl rfl 4 (by decide) (hts (.fieldLink RX2 111 "VatHouse$Tokens" "kinds" "[I") (by decide +kernel)) (fun _ h9 => h9) rfl dX2_moveTo_26 (fun v_24 hv_22 hr_23 => ?_)
      obtain ⟨b_25, rfl, hb9⟩ := hv_22
      have hT := hT.add hb9
      refine T_alen hx hb hK hP hT 0 0 rfl rfl (v := 1501) rfl dX2_moveTo_29 ?_
      refine lv_icmp_ge (tgt := 45) hx hb dX2_moveTo_30 (by decide) (fun c_26 => ?_) (fun c_26 => ?_)
      · refine lv_iconst (v := 0) hx hb dX2_moveTo_45 (by decide) ?_
        refine T_put (ci := 2) (v := .int 0) (ty := .int) (t := tI) (C := RX2) (T := TX2) (N := 6) hx hb hts inw_X2_moveTo_2 tyX2 tyX2_ok nmX2 hown hK hP hD hS hT 2 rfl rfl 2 (by decide) (hts (.fieldLink RX2 44 "VatHouse$Reader" "token" "I") (by decide +kernel)) (fun _ h9 => h9) rfl (by decide +kernel) rfl rfl rfl ⟨_, rfl⟩ dX2_moveTo_46 (fun f_27 H locs hP hD hS hT hE1 hrd_28 => ?_)
        have hF := Fr.put (a := h0) (ci := 2) hF hE ((hE1 h0 (hT.at 2 rfl).1).2.symm.trans (hT.at 2 rfl).2) (by decide) hrd_28
        have hE := hE.tr hE1
        have hk_29 : rd f_27 h0 2 = .int 0 := (hrd_28 h0 2).trans (if_pos ⟨rfl, rfl⟩)
        exact K_v hx hb hr hlocks hP hD hK hS hT hE ⟨rfl, hF, _, hk_29, trivial⟩ (Nat.le_of_ble_eq_true rfl) (Nat.le_of_ble_eq_true rfl) dX2_moveTo_49
      · refine lv_aload_n hx hb dX2_moveTo_33 rfl (lv_at hl 0 rfl) ?_
        refine T_get (ci := 2) (C := RX2) (T := TX2) (N := 6) (t := (1, 0, 6, 0)) hx hb hts inw_X2_moveTo_2 hown hK hP hT 2 rfl rfl 0 (by decide) (hts (.fieldLink RX2 20 "VatHouse$Reader" "tokens" "LVatHouse$Tokens;") (by decide +kernel)) (fun _ h9 => h9) rfl dX2_moveTo_34 (fun v_32 hv_30 hr_31 => ?_)
        obtain rfl : v_32 = .ref b_10 := hr_31.symm.trans hr_8
        refine T_get (ci := 6) (C := RX6) (T := TX6) (N := 7) (t := (1, 1, g 0, 1501)) hx hb hts inw_X2_moveTo_6 hown hK hP hT 1 rfl rfl 4 (by decide) (hts (.fieldLink RX2 111 "VatHouse$Tokens" "kinds" "[I") (by decide +kernel)) (fun _ h9 => h9) rfl dX2_moveTo_37 (fun v_35 hv_33 hr_34 => ?_)
        obtain rfl : v_35 = .ref b_25 := hr_34.symm.trans hr_23
        refine lv_iload_n hx hb dX2_moveTo_40 rfl (lv_at hl 1 rfl) ?_
        refine T_iald hx hb hK hP hT 0 0 rfl rfl (vin 1501 (by decide) rfl (by assumption) (by assumption)) dX2_moveTo_41 (fun z_36 => ?_)
        refine lv_goto (tgt := 46) hx hb dX2_moveTo_42 (by decide) ?_
        refine T_put (ci := 2) (v := .int z_36) (ty := .int) (t := tI) (C := RX2) (T := TX2) (N := 6) hx hb hts inw_X2_moveTo_2 tyX2 tyX2_ok nmX2 hown hK hP hD hS hT 2 rfl rfl 2 (by decide) (hts (.fieldLink RX2 44 "VatHouse$Reader" "token" "I") (by decide +kernel)) (fun _ h9 => h9) rfl (by decide +kernel) rfl rfl rfl ⟨_, rfl⟩ dX2_moveTo_46 (fun f_37 H locs hP hD hS hT hE1 hrd_38 => ?_)
        have hF := Fr.put (a := h0) (ci := 2) hF hE ((hE1 h0 (hT.at 2 rfl).1).2.symm.trans (hT.at 2 rfl).2) (by decide) hrd_38
        have hE := hE.tr hE1
        have hk_39 : rd f_37 h0 2 = .int z_36 := (hrd_38 h0 2).trans (if_pos ⟨rfl, rfl⟩)
        exact K_v hx hb hr hlocks hP hD hK hS hT hE ⟨rfl, hF, _, hk_39, trivial⟩ (Nat.le_of_ble_eq_true rfl) (Nat.le_of_ble_eq_true rfl) dX2_moveTo_49

abbrev rm_X2_refuse : Room := { frames := 0, cells := 0, slots := 0, locals := 0 }
theorem inw_X2_refuse_2 : ∀ w ∈ wsX20, w ∈ wsX2_refuse := by decide +kernel
theorem inw_X2_refuse_6 : ∀ w ∈ wsX60, w ∈ wsX2_refuse := by decide +kernel
set_option maxHeartbeats 800000 in
set_option maxRecDepth 100000 in
theorem t_X2_refuse (l : Launch) (dC : Nat → ClassId) (dI : Nat → Nat → Nat) (sa : Nat → Nat) (hlt : l.stackTraces = false) (g : Nat → Nat) (L : List Nat) (f : Nat → va_E) (h0 : Nat) (wy : Int32) (fa : Int32) (sz : Nat) (hT : TP g L f [(h0, (0, 2, 0))]) (hm_fa : rd f h0 3 = .int fa) (hwy : ¬ wy = 0) : KC l dC dI sa g yX2_refuse wsX2_refuse rm_X2_refuse [.ref h0, .int wy] L f sz (fun r L' f' => (r = none) ∧ Fr [(2, 3), (2, 4)] L f f' ∧ (∃ fa' : Int32, rd f' h0 3 = .int fa' ∧ (¬ fa' = 0))) 0 0 := by
  refine CT.start (cc := cX2_refuse) (maxL := 2) (ret := none) (by decide) rfl (Nat.le_of_ble_eq_true rfl) ?_
  intro p e s m below meth c ls hst hP hK hD hev hS hl
  obtain ⟨hx, hb, hr, hml, hts, hown, hlocks, hin⟩ := hst
  have hown : s.vm.findClass RX2 = some m.cls := hown
  have hin : meth.name = yX2_refuse.name := hin
  have hA : ∀ q : Nat, s.heap.size ≤ q → va_A (va_pl L f) s.heap.size q := fun _ h => Or.inr h
  have hE : Ext L f L f := Ext.rf
  have hF : Fr [(2, 3), (2, 4)] L f f := Fr.rf
  have hl : lv_has ls 2 [(0, .ref h0), (1, .int wy)] := hl
  refine lv_aload_n hx hb dX2_refuse_0 rfl (lv_at hl 0 rfl) ?_
  refine T_get (ci := 2) (C := RX2) (T := TX2) (N := 6) (t := tI) hx hb hts inw_X2_refuse_2 hown hK hP hT 0 rfl rfl 3 (by decide) (hts (.fieldLink RX2 28 "VatHouse$Reader" "fault" "I") (by decide +kernel)) (fun _ h9 => h9) rfl dX2_refuse_1 (fun v_3 hv_1 hr_2 => ?_)
  obtain rfl : v_3 = .int fa := hr_2.symm.trans hm_fa
  refine lv_if_ne (tgt := 54) hx hb dX2_refuse_4 (by decide) (fun c_4 => ?_) (fun c_4 => ?_)
  · exact K_v hx hb hr hlocks hP hD hK hS hT hE ⟨rfl, hF, _, hm_fa, c_4⟩ (Nat.le_of_ble_eq_true rfl) (Nat.le_of_ble_eq_true rfl) dX2_refuse_54
  · refine lv_aload_n hx hb dX2_refuse_7 rfl (lv_at hl 0 rfl) ?_
    refine lv_iload_n hx hb dX2_refuse_8 rfl (lv_at hl 1 rfl) ?_
    have hTo := hT
    refine T_put (ci := 2) (v := .int wy) (ty := .int) (t := tI) (C := RX2) (T := TX2) (N := 6) hx hb hts inw_X2_refuse_2 tyX2 tyX2_ok nmX2 hown hK hP hD hS hT 0 rfl rfl 3 (by decide) (hts (.fieldLink RX2 28 "VatHouse$Reader" "fault" "I") (by decide +kernel)) (fun _ h9 => h9) rfl (by decide +kernel) rfl rfl rfl ⟨_, rfl⟩ dX2_refuse_9 (fun f_5 H locs hP hD hS hT hE1 hrd_6 => ?_)
    have hF := Fr.put (a := h0) (ci := 2) hF hE ((hE1 h0 (hT.at 0 rfl).1).2.symm.trans (hT.at 0 rfl).2) (by decide) hrd_6
    have hE := hE.tr hE1
    have hk_7 : rd f_5 h0 3 = .int wy := (hrd_6 h0 3).trans (if_pos ⟨rfl, rfl⟩)
    refine lv_aload_n hx hb dX2_refuse_12 rfl (lv_at hl 0 rfl) ?_
    refine lv_aload_n hx hb dX2_refuse_13 rfl (lv_at hl 0 rfl) ?_
    refine T_get (ci := 2) (C := RX2) (T := TX2) (N := 6) (t := tI) hx hb hts inw_X2_refuse_2 hown hK hP hT 0 rfl rfl 1 (by decide) (hts (.fieldLink RX2 101 "VatHouse$Reader" "at" "I") (by decide +kernel)) (fun _ h9 => h9) rfl dX2_refuse_14 (fun v_10 hv_8 hr_9 => ?_)
    obtain ⟨z_11, rfl⟩ := hv_8
    refine lv_if_lt (tgt := 50) hx hb dX2_refuse_17 (by decide) (fun c_12 => ?_) (fun c_12 => ?_)
    · refine lv_iconst (v := (-1)) hx hb dX2_refuse_50 (by decide) ?_
      have hTo := hT
      refine T_put (ci := 2) (v := .int (-1)) (ty := .int) (t := tI) (C := RX2) (T := TX2) (N := 6) hx hb hts inw_X2_refuse_2 tyX2 tyX2_ok nmX2 hown hK hP hD hS hT 0 rfl rfl 4 (by decide) (hts (.fieldLink RX2 9 "VatHouse$Reader" "place" "I") (by decide +kernel)) (fun _ h9 => h9) rfl (by decide +kernel) rfl rfl rfl ⟨_, rfl⟩ dX2_refuse_51 (fun f_13 H locs hP hD hS hT hE1 hrd_14 => ?_)
      have hF := Fr.put (a := h0) (ci := 2) hF hE ((hE1 h0 (hT.at 0 rfl).1).2.symm.trans (hT.at 0 rfl).2) (by decide) hrd_14
      have hE := hE.tr hE1
      have hk_15 : rd f_13 h0 3 = .int wy := ((Fr.put (cs := [(2, 4)]) (a := h0) (ci := 2) Fr.rf Ext.rf (hTo.at 0 rfl).2 (by decide) hrd_14) h0 (hTo.at 0 rfl).1 2 (hTo.at 0 rfl).2 3 (by decide)).trans hk_7
      exact K_v hx hb hr hlocks hP hD hK hS hT hE ⟨rfl, hF, _, hk_15, hwy⟩ (Nat.le_of_ble_eq_true rfl) (Nat.le_of_ble_eq_true rfl) dX2_refuse_54
    · refine lv_aload_n hx hb dX2_refuse_20 rfl (lv_at hl 0 rfl) ?_
      refine T_get (ci := 2) (C := RX2) (T := TX2) (N := 6) (t := tI) hx hb hts inw_X2_refuse_2 hown hK hP hT 0 rfl rfl 1 (by decide) (hts (.fieldLink RX2 101 "VatHouse$Reader" "at" "I") (by decide +kernel)) (fun _ h9 => h9) rfl dX2_refuse_21 (fun v_18 hv_16 hr_17 => ?_)
      obtain rfl : v_18 = .int z_11 := hr_17.symm.trans hr_9
      refine lv_aload_n hx hb dX2_refuse_24 rfl (lv_at hl 0 rfl) ?_
      refine T_get (ci := 2) (C := RX2) (T := TX2) (N := 6) (t := (1, 0, 6, 0)) hx hb hts inw_X2_refuse_2 hown hK hP hT 0 rfl rfl 0 (by decide) (hts (.fieldLink RX2 20 "VatHouse$Reader" "tokens" "LVatHouse$Tokens;") (by decide +kernel)) (fun _ h9 => h9) rfl dX2_refuse_25 (fun v_21 hv_19 hr_20 => ?_)
      obtain ⟨b_22, rfl, hb9⟩ := hv_19
      have hT := hT.add hb9
      refine T_get (ci := 6) (C := RX6) (T := TX6) (N := 7) (t := (1, 1, g 5, 1501)) hx hb hts inw_X2_refuse_6 hown hK hP hT 0 rfl rfl 5 (by decide) (hts (.fieldLink RX2 114 "VatHouse$Tokens" "starts" "[I") (by decide +kernel)) (fun _ h9 => h9) rfl dX2_refuse_28 (fun v_25 hv_23 hr_24 => ?_)
      obtain ⟨b_26, rfl, hb9⟩ := hv_23
      have hT := hT.add hb9
      refine T_alen hx hb hK hP hT 0 5 rfl rfl (v := 1501) rfl dX2_refuse_31 ?_
      refine lv_icmp_ge (tgt := 50) hx hb dX2_refuse_32 (by decide) (fun c_27 => ?_) (fun c_27 => ?_)
      · refine lv_iconst (v := (-1)) hx hb dX2_refuse_50 (by decide) ?_
        have hTo := hT
        refine T_put (ci := 2) (v := .int (-1)) (ty := .int) (t := tI) (C := RX2) (T := TX2) (N := 6) hx hb hts inw_X2_refuse_2 tyX2 tyX2_ok nmX2 hown hK hP hD hS hT 2 rfl rfl 4 (by decide) (hts (.fieldLink RX2 9 "VatHouse$Reader" "place" "I") (by decide +kernel)) (fun _ h9 => h9) rfl (by decide +kernel) rfl rfl rfl ⟨_, rfl⟩ dX2_refuse_51 (fun f_28 H locs hP hD hS hT hE1 hrd_29 => ?_)
        have hF := Fr.put (a := h0) (ci := 2) hF hE ((hE1 h0 (hT.at 2 rfl).1).2.symm.trans (hT.at 2 rfl).2) (by decide) hrd_29
        have hE := hE.tr hE1
        have hk_30 : rd f_28 h0 3 = .int wy := ((Fr.put (cs := [(2, 4)]) (a := h0) (ci := 2) Fr.rf Ext.rf (hTo.at 2 rfl).2 (by decide) hrd_29) h0 (hTo.at 2 rfl).1 2 (hTo.at 2 rfl).2 3 (by decide)).trans hk_7
        exact K_v hx hb hr hlocks hP hD hK hS hT hE ⟨rfl, hF, _, hk_30, hwy⟩ (Nat.le_of_ble_eq_true rfl) (Nat.le_of_ble_eq_true rfl) dX2_refuse_54
      · refine lv_aload_n hx hb dX2_refuse_35 rfl (lv_at hl 0 rfl) ?_
        refine T_get (ci := 2) (C := RX2) (T := TX2) (N := 6) (t := (1, 0, 6, 0)) hx hb hts inw_X2_refuse_2 hown hK hP hT 2 rfl rfl 0 (by decide) (hts (.fieldLink RX2 20 "VatHouse$Reader" "tokens" "LVatHouse$Tokens;") (by decide +kernel)) (fun _ h9 => h9) rfl dX2_refuse_36 (fun v_33 hv_31 hr_32 => ?_)
        obtain rfl : v_33 = .ref b_22 := hr_32.symm.trans hr_20
        refine T_get (ci := 6) (C := RX6) (T := TX6) (N := 7) (t := (1, 1, g 5, 1501)) hx hb hts inw_X2_refuse_6 hown hK hP hT 1 rfl rfl 5 (by decide) (hts (.fieldLink RX2 114 "VatHouse$Tokens" "starts" "[I") (by decide +kernel)) (fun _ h9 => h9) rfl dX2_refuse_39 (fun v_36 hv_34 hr_35 => ?_)
        obtain rfl : v_36 = .ref b_26 := hr_35.symm.trans hr_24
        refine lv_aload_n hx hb dX2_refuse_42 rfl (lv_at hl 0 rfl) ?_
        refine T_get (ci := 2) (C := RX2) (T := TX2) (N := 6) (t := tI) hx hb hts inw_X2_refuse_2 hown hK hP hT 2 rfl rfl 1 (by decide) (hts (.fieldLink RX2 101 "VatHouse$Reader" "at" "I") (by decide +kernel)) (fun _ h9 => h9) rfl dX2_refuse_43 (fun v_39 hv_37 hr_38 => ?_)
        obtain rfl : v_39 = .int z_11 := hr_38.symm.trans hr_9
        refine T_iald hx hb hK hP hT 0 5 rfl rfl (vin 1501 (by decide) rfl (by assumption) (by assumption)) dX2_refuse_46 (fun z_40 => ?_)
        refine lv_goto (tgt := 51) hx hb dX2_refuse_47 (by decide) ?_
        have hTo := hT
        refine T_put (ci := 2) (v := .int z_40) (ty := .int) (t := tI) (C := RX2) (T := TX2) (N := 6) hx hb hts inw_X2_refuse_2 tyX2 tyX2_ok nmX2 hown hK hP hD hS hT 2 rfl rfl 4 (by decide) (hts (.fieldLink RX2 9 "VatHouse$Reader" "place" "I") (by decide +kernel)) (fun _ h9 => h9) rfl (by decide +kernel) rfl rfl rfl ⟨_, rfl⟩ dX2_refuse_51 (fun f_41 H locs hP hD hS hT hE1 hrd_42 => ?_)
        have hF := Fr.put (a := h0) (ci := 2) hF hE ((hE1 h0 (hT.at 2 rfl).1).2.symm.trans (hT.at 2 rfl).2) (by decide) hrd_42
        have hE := hE.tr hE1
        have hk_43 : rd f_41 h0 3 = .int wy := ((Fr.put (cs := [(2, 4)]) (a := h0) (ci := 2) Fr.rf Ext.rf (hTo.at 2 rfl).2 (by decide) hrd_42) h0 (hTo.at 2 rfl).1 2 (hTo.at 2 rfl).2 3 (by decide)).trans hk_7
        exact K_v hx hb hr hlocks hP hD hK hS hT hE ⟨rfl, hF, _, hk_43, hwy⟩ (Nat.le_of_ble_eq_true rfl) (Nat.le_of_ble_eq_true rfl) dX2_refuse_54

abbrev rm_X2_pass : Room := { frames := 1, cells := 0, slots := 0, locals := 21 }
theorem inw_X2_pass_2 : ∀ w ∈ wsX20, w ∈ wsX2_pass := by decide +kernel
set_option maxHeartbeats 800000 in
set_option maxRecDepth 100000 in
theorem t_X2_pass (l : Launch) (dC : Nat → ClassId) (dI : Nat → Nat → Nat) (sa : Nat → Nat) (hlt : l.stackTraces = false) (g : Nat → Nat) (L : List Nat) (f : Nat → va_E) (h0 : Nat) (wa : Int32) (tn : Int32) (fa : Int32) (sz : Nat) (hT : TP g L f [(h0, (0, 2, 0))]) (hm_tn : rd f h0 2 = .int tn) (hm_fa : rd f h0 3 = .int fa) : KC l dC dI sa g yX2_pass wsX2_pass rm_X2_pass [.ref h0, .int wa] L f sz (fun r L' f' => (r = none) ∧ Fr [(2, 1), (2, 2), (2, 3), (2, 4)] L f f' ∧ (∃ tn' : Int32, ∃ fa' : Int32, rd f' h0 2 = .int tn' ∧ rd f' h0 3 = .int fa' ∧ (True) ∧ (fa' = 0 → fa = 0 ∧ tn = wa))) 0 0 := by
  refine CT.start (cc := cX2_pass) (maxL := 2) (ret := none) (by decide) rfl (Nat.le_of_ble_eq_true rfl) ?_
  intro p e s m below meth c ls hst hP hK hD hev hS hl
  obtain ⟨hx, hb, hr, hml, hts, hown, hlocks, hin⟩ := hst
  have hown : s.vm.findClass RX2 = some m.cls := hown
  have hin : meth.name = yX2_pass.name := hin
  have hA : ∀ q : Nat, s.heap.size ≤ q → va_A (va_pl L f) s.heap.size q := fun _ h => Or.inr h
  have hE : Ext L f L f := Ext.rf
  have hF : Fr [(2, 1), (2, 2), (2, 3), (2, 4)] L f f := Fr.rf
  have hl : lv_has ls 2 [(0, .ref h0), (1, .int wa)] := hl
  refine lv_aload_n hx hb dX2_pass_0 rfl (lv_at hl 0 rfl) ?_
  refine T_get (ci := 2) (C := RX2) (T := TX2) (N := 6) (t := tI) hx hb hts inw_X2_pass_2 hown hK hP hT 0 rfl rfl 2 (by decide) (hts (.fieldLink RX2 44 "VatHouse$Reader" "token" "I") (by decide +kernel)) (fun _ h9 => h9) rfl dX2_pass_1 (fun v_3 hv_1 hr_2 => ?_)
  obtain rfl : v_3 = .int tn := hr_2.symm.trans hm_tn
  refine lv_iload_n hx hb dX2_pass_4 rfl (lv_at hl 1 rfl) ?_
  refine lv_icmp_eq (tgt := 13) hx hb dX2_pass_5 (by decide) (fun c_4 => ?_) (fun c_4 => ?_)
  · refine lv_aload_n hx hb dX2_pass_13 rfl (lv_at hl 0 rfl) ?_
    refine T_get (ci := 2) (C := RX2) (T := TX2) (N := 6) (t := tI) hx hb hts inw_X2_pass_2 hown hK hP hT 0 rfl rfl 3 (by decide) (hts (.fieldLink RX2 28 "VatHouse$Reader" "fault" "I") (by decide +kernel)) (fun _ h9 => h9) rfl dX2_pass_14 (fun v_7 hv_5 hr_6 => ?_)
    obtain rfl : v_7 = .int fa := hr_6.symm.trans hm_fa
    refine lv_if_ne (tgt := 30) hx hb dX2_pass_17 (by decide) (fun c_8 => ?_) (fun c_8 => ?_)
    · exact K_v hx hb hr hlocks hP hD hK hS hT hE ⟨rfl, hF, _, _, hm_tn, hm_fa, trivial, fun h9 => ⟨h9, c_4⟩⟩ (Nat.le_of_ble_eq_true rfl) (Nat.le_of_ble_eq_true rfl) dX2_pass_30
    · refine lv_aload_n hx hb dX2_pass_20 rfl (lv_at hl 0 rfl) ?_
      refine lv_aload_n hx hb dX2_pass_21 rfl (lv_at hl 0 rfl) ?_
      refine T_get (ci := 2) (C := RX2) (T := TX2) (N := 6) (t := tI) hx hb hts inw_X2_pass_2 hown hK hP hT 0 rfl rfl 1 (by decide) (hts (.fieldLink RX2 101 "VatHouse$Reader" "at" "I") (by decide +kernel)) (fun _ h9 => h9) rfl dX2_pass_22 (fun v_11 hv_9 hr_10 => ?_)
      obtain ⟨z_12, rfl⟩ := hv_9
      refine lv_iconst (v := 1) hx hb dX2_pass_25 (by decide) ?_
      refine lv_iadd hx hb dX2_pass_26 ?_
      refine lv_topi (fun z_13 ez_13 => ?_)
      have hTo := hT
      refine K_V ⟨hx, hb, hml, hown, hts⟩ (t_X2_moveTo l dC dI sa hlt g _ _ h0 z_13 _ (hT.sub [0] rfl)  ) (cwV 1 hts gX2_pass_X2_moveTo rfl rfl rfl (by decide +kernel) ⟨Nat.le_of_ble_eq_true rfl, Nat.le_of_ble_eq_true rfl⟩) hP hD hK hS hA hev hT 0 2 rfl rfl rfl rfl hl.1 rfl (Nat.le_of_ble_eq_true rfl) dX2_pass_27 ⟨Nat.le_of_ble_eq_true rfl, Nat.le_of_ble_eq_true rfl⟩ (fun r L_14 f_15 H locs hw_16 hP hD hS hT hE1 => ?_)
      have hF := Fr.call hF hE hw_16.2.1 (by decide)
      have hE := hE.tr hE1
      obtain ⟨rfl, hw_16⟩ := hw_16
      obtain ⟨hfr_17, tn_18, hk_19, hrel_20⟩ := hw_16
      have hk_22 : rd f_15 h0 3 = .int fa := (hfr_17 h0 (hTo.at 0 rfl).1 2 (hTo.at 0 rfl).2 3 (by decide)).trans hm_fa
      refine W.eq (g2 := F0 m 30 ls []) rfl ?_
      exact K_v hx hb hr hlocks hP hD hK hS hT hE ⟨rfl, hF, _, _, hk_19, hk_22, trivial, fun h9 => ⟨h9, c_4⟩⟩ (Nat.le_of_ble_eq_true rfl) (Nat.le_of_ble_eq_true rfl) dX2_pass_30
  · refine lv_aload_n hx hb dX2_pass_8 rfl (lv_at hl 0 rfl) ?_
    refine lv_iconst (v := 1) hx hb dX2_pass_9 (by decide) ?_
    have hTo := hT
    refine K_V ⟨hx, hb, hml, hown, hts⟩ (t_X2_refuse l dC dI sa hlt g _ _ h0 1 fa _ (hT.sub [0] rfl)  hm_fa (by decide)) (cwV 1 hts gX2_pass_X2_refuse rfl rfl rfl (by decide +kernel) ⟨Nat.le_of_ble_eq_true rfl, Nat.le_of_ble_eq_true rfl⟩) hP hD hK hS hA hev hT 0 2 rfl rfl rfl rfl hl.1 rfl (Nat.le_of_ble_eq_true rfl) dX2_pass_10 ⟨Nat.le_of_ble_eq_true rfl, Nat.le_of_ble_eq_true rfl⟩ (fun r L_23 f_24 H locs hw_25 hP hD hS hT hE1 => ?_)
    have hF := Fr.call hF hE hw_25.2.1 (by decide)
    have hE := hE.tr hE1
    obtain ⟨rfl, hw_25⟩ := hw_25
    obtain ⟨hfr_26, fa_27, hk_28, hrel_29⟩ := hw_25
    have hk_31 : rd f_24 h0 2 = .int tn := (hfr_26 h0 (hTo.at 0 rfl).1 2 (hTo.at 0 rfl).2 2 (by decide)).trans hm_tn
    refine W.eq (g2 := F0 m 13 ls []) rfl ?_
    refine lv_aload_n hx hb dX2_pass_13 rfl (lv_at hl 0 rfl) ?_
    refine T_get (ci := 2) (C := RX2) (T := TX2) (N := 6) (t := tI) hx hb hts inw_X2_pass_2 hown hK hP hT 0 rfl rfl 3 (by decide) (hts (.fieldLink RX2 28 "VatHouse$Reader" "fault" "I") (by decide +kernel)) (fun _ h9 => h9) rfl dX2_pass_14 (fun v_34 hv_32 hr_33 => ?_)
    obtain rfl : v_34 = .int fa_27 := hr_33.symm.trans hk_28
    refine lv_if_ne (tgt := 30) hx hb dX2_pass_17 (by decide) (fun c_35 => ?_) (fun c_35 => ?_)
    · exact K_v hx hb hr hlocks hP hD hK hS hT hE ⟨rfl, hF, _, _, hk_31, hk_28, trivial, fun h9 => absurd h9 hrel_29⟩ (Nat.le_of_ble_eq_true rfl) (Nat.le_of_ble_eq_true rfl) dX2_pass_30
    · refine lv_aload_n hx hb dX2_pass_20 rfl (lv_at hl 0 rfl) ?_
      refine lv_aload_n hx hb dX2_pass_21 rfl (lv_at hl 0 rfl) ?_
      refine T_get (ci := 2) (C := RX2) (T := TX2) (N := 6) (t := tI) hx hb hts inw_X2_pass_2 hown hK hP hT 0 rfl rfl 1 (by decide) (hts (.fieldLink RX2 101 "VatHouse$Reader" "at" "I") (by decide +kernel)) (fun _ h9 => h9) rfl dX2_pass_22 (fun v_38 hv_36 hr_37 => ?_)
      obtain ⟨z_39, rfl⟩ := hv_36
      refine lv_iconst (v := 1) hx hb dX2_pass_25 (by decide) ?_
      refine lv_iadd hx hb dX2_pass_26 ?_
      refine lv_topi (fun z_40 ez_40 => ?_)
      have hTo := hT
      refine K_V ⟨hx, hb, hml, hown, hts⟩ (t_X2_moveTo l dC dI sa hlt g _ _ h0 z_40 _ (hT.sub [0] rfl)  ) (cwV 1 hts gX2_pass_X2_moveTo rfl rfl rfl (by decide +kernel) ⟨Nat.le_of_ble_eq_true rfl, Nat.le_of_ble_eq_true rfl⟩) hP hD hK hS hA hev hT 0 2 rfl rfl rfl rfl hl.1 rfl (Nat.le_of_ble_eq_true rfl) dX2_pass_27 ⟨Nat.le_of_ble_eq_true rfl, Nat.le_of_ble_eq_true rfl⟩ (fun r L_41 f_42 H locs hw_43 hP hD hS hT hE1 => ?_)
      have hF := Fr.call hF hE hw_43.2.1 (by decide)
      have hE := hE.tr hE1
      obtain ⟨rfl, hw_43⟩ := hw_43
      obtain ⟨hfr_44, tn_45, hk_46, hrel_47⟩ := hw_43
      have hk_49 : rd f_42 h0 3 = .int fa_27 := (hfr_44 h0 (hTo.at 0 rfl).1 2 (hTo.at 0 rfl).2 3 (by decide)).trans hk_28
      refine W.eq (g2 := F0 m 30 ls []) rfl ?_
      exact K_v hx hb hr hlocks hP hD hK hS hT hE ⟨rfl, hF, _, _, hk_46, hk_49, trivial, fun h9 => absurd h9 hrel_29⟩ (Nat.le_of_ble_eq_true rfl) (Nat.le_of_ble_eq_true rfl) dX2_pass_30

abbrev rm_X2_readNumber : Room := { frames := 2, cells := 0, slots := 0, locals := 42 }
theorem inw_X2_readNumber_2 : ∀ w ∈ wsX20, w ∈ wsX2_readNumber := by decide +kernel
theorem inw_X2_readNumber_6 : ∀ w ∈ wsX60, w ∈ wsX2_readNumber := by decide +kernel
set_option maxHeartbeats 800000 in
set_option maxRecDepth 100000 in
theorem t_X2_readNumber (l : Launch) (dC : Nat → ClassId) (dI : Nat → Nat → Nat) (sa : Nat → Nat) (hlt : l.stackTraces = false) (g : Nat → Nat) (L : List Nat) (f : Nat → va_E) (h0 : Nat) (lo : Int32) (hi : Int32) (tn : Int32) (fa : Int32) (sz : Nat) (hT : TP g L f [(h0, (0, 2, 0))]) (hm_tn : rd f h0 2 = .int tn) (hm_fa : rd f h0 3 = .int fa) : KC l dC dI sa g yX2_readNumber wsX2_readNumber rm_X2_readNumber [.ref h0, .int lo, .int hi] L f sz (fun r L' f' => (∃ z : Int32, r = some (.int z)) ∧ Fr [(2, 1), (2, 2), (2, 3), (2, 4)] L f f' ∧ (∃ tn' : Int32, ∃ fa' : Int32, rd f' h0 2 = .int tn' ∧ rd f' h0 3 = .int fa' ∧ (True) ∧ (fa' = 0 → fa = 0))) 0 0 := by
  refine CT.start (cc := cX2_readNumber) (maxL := 4) (ret := (some .int)) (by decide) rfl (Nat.le_of_ble_eq_true rfl) ?_
  intro p e s m below meth c ls hst hP hK hD hev hS hl
  obtain ⟨hx, hb, hr, hml, hts, hown, hlocks, hin⟩ := hst
  have hown : s.vm.findClass RX2 = some m.cls := hown
  have hin : meth.name = yX2_readNumber.name := hin
  have hA : ∀ q : Nat, s.heap.size ≤ q → va_A (va_pl L f) s.heap.size q := fun _ h => Or.inr h
  have hE : Ext L f L f := Ext.rf
  have hF : Fr [(2, 1), (2, 2), (2, 3), (2, 4)] L f f := Fr.rf
  have hl : lv_has ls 4 [(0, .ref h0), (1, .int lo), (2, .int hi)] := hl
  refine lv_aload_n hx hb dX2_readNumber_0 rfl (lv_at hl 0 rfl) ?_
  refine T_get (ci := 2) (C := RX2) (T := TX2) (N := 6) (t := tI) hx hb hts inw_X2_readNumber_2 hown hK hP hT 0 rfl rfl 1 (by decide) (hts (.fieldLink RX2 101 "VatHouse$Reader" "at" "I") (by decide +kernel)) (fun _ h9 => h9) rfl dX2_readNumber_1 (fun v_3 hv_1 hr_2 => ?_)
  obtain ⟨z_4, rfl⟩ := hv_1
  refine lv_if_lt (tgt := 37) hx hb dX2_readNumber_4 (by decide) (fun c_5 => ?_) (fun c_5 => ?_)
  · refine lv_iconst (v := 0) hx hb dX2_readNumber_37 (by decide) ?_
    refine lv_istore_n (lv' := [(3, .int 0), (0, .ref h0), (1, .int lo), (2, .int hi)]) hx hb dX2_readNumber_38 rfl hl (by decide) rfl (fun ls hl => ?_)
    refine lv_aload_n hx hb dX2_readNumber_39 rfl (lv_at hl 1 rfl) ?_
    refine T_get (ci := 2) (C := RX2) (T := TX2) (N := 6) (t := tI) hx hb hts inw_X2_readNumber_2 hown hK hP hT 0 rfl rfl 2 (by decide) (hts (.fieldLink RX2 44 "VatHouse$Reader" "token" "I") (by decide +kernel)) (fun _ h9 => h9) rfl dX2_readNumber_40 (fun v_8 hv_6 hr_7 => ?_)
    obtain rfl : v_8 = .int tn := hr_7.symm.trans hm_tn
    refine lv_bipush (v := (-2)) hx hb dX2_readNumber_43 (by decide) ?_
    refine lv_icmp_ne (tgt := 56) hx hb dX2_readNumber_45 (by decide) (fun c_9 => ?_) (fun c_9 => ?_)
    · refine lv_aload_n hx hb dX2_readNumber_56 rfl (lv_at hl 1 rfl) ?_
      refine T_get (ci := 2) (C := RX2) (T := TX2) (N := 6) (t := tI) hx hb hts inw_X2_readNumber_2 hown hK hP hT 0 rfl rfl 2 (by decide) (hts (.fieldLink RX2 44 "VatHouse$Reader" "token" "I") (by decide +kernel)) (fun _ h9 => h9) rfl dX2_readNumber_57 (fun v_12 hv_10 hr_11 => ?_)
      obtain rfl : v_12 = .int tn := hr_11.symm.trans hm_tn
      refine lv_iconst (v := (-1)) hx hb dX2_readNumber_60 (by decide) ?_
      refine lv_icmp_ne (tgt := 79) hx hb dX2_readNumber_61 (by decide) (fun c_13 => ?_) (fun c_13 => ?_)
      · refine lv_aload_n hx hb dX2_readNumber_79 rfl (lv_at hl 1 rfl) ?_
        refine lv_iconst (v := (-1)) hx hb dX2_readNumber_80 (by decide) ?_
        have hTo := hT
        refine K_V ⟨hx, hb, hml, hown, hts⟩ (t_X2_pass l dC dI sa hlt g _ _ h0 (-1) tn fa _ (hT.sub [0] rfl)  hm_tn hm_fa ) (cwV 1 hts gX2_readNumber_X2_pass rfl rfl rfl (by decide +kernel) ⟨Nat.le_of_ble_eq_true rfl, Nat.le_of_ble_eq_true rfl⟩) hP hD hK hS hA hev hT 0 2 rfl rfl rfl rfl hl.1 rfl (Nat.le_of_ble_eq_true rfl) dX2_readNumber_81 ⟨Nat.le_of_ble_eq_true rfl, Nat.le_of_ble_eq_true rfl⟩ (fun r L_14 f_15 H locs hw_16 hP hD hS hT hE1 => ?_)
        have hF := Fr.call hF hE hw_16.2.1 (by decide)
        have hE := hE.tr hE1
        obtain ⟨rfl, hw_16⟩ := hw_16
        obtain ⟨hfr_17, tn_18, fa_19, hk_20, hk_21, hrel_22, hrel_23⟩ := hw_16
        refine W.eq (g2 := F0 m 84 ls []) rfl ?_
        refine lv_iload_n hx hb dX2_readNumber_84 rfl (lv_at hl 0 rfl) ?_
        exact K_i hx hb hr hlocks hP hD hK hS hT hE ⟨⟨_, rfl⟩, hF, _, _, hk_20, hk_21, trivial, fun h9 => ((hrel_23 h9).1)⟩ (Nat.le_of_ble_eq_true rfl) (Nat.le_of_ble_eq_true rfl) dX2_readNumber_85
      · refine lv_iload_n hx hb dX2_readNumber_64 rfl (lv_at hl 0 rfl) ?_
        refine lv_iload_n hx hb dX2_readNumber_65 rfl (lv_at hl 2 rfl) ?_
        refine lv_icmp_lt (tgt := 74) hx hb dX2_readNumber_66 (by decide) (fun c_25 => ?_) (fun c_25 => ?_)
        · refine lv_aload_n hx hb dX2_readNumber_74 rfl (lv_at hl 1 rfl) ?_
          refine lv_iconst (v := 2) hx hb dX2_readNumber_75 (by decide) ?_
          have hTo := hT
          refine K_V ⟨hx, hb, hml, hown, hts⟩ (t_X2_refuse l dC dI sa hlt g _ _ h0 2 fa _ (hT.sub [0] rfl)  hm_fa (by decide)) (cwV 1 hts gX2_readNumber_X2_refuse rfl rfl rfl (by decide +kernel) ⟨Nat.le_of_ble_eq_true rfl, Nat.le_of_ble_eq_true rfl⟩) hP hD hK hS hA hev hT 0 2 rfl rfl rfl rfl hl.1 rfl (Nat.le_of_ble_eq_true rfl) dX2_readNumber_76 ⟨Nat.le_of_ble_eq_true rfl, Nat.le_of_ble_eq_true rfl⟩ (fun r L_26 f_27 H locs hw_28 hP hD hS hT hE1 => ?_)
          have hF := Fr.call hF hE hw_28.2.1 (by decide)
          have hE := hE.tr hE1
          obtain ⟨rfl, hw_28⟩ := hw_28
          obtain ⟨hfr_29, fa_30, hk_31, hrel_32⟩ := hw_28
          have hk_34 : rd f_27 h0 2 = .int tn := (hfr_29 h0 (hTo.at 0 rfl).1 2 (hTo.at 0 rfl).2 2 (by decide)).trans hm_tn
          refine W.eq (g2 := F0 m 79 ls []) rfl ?_
          refine lv_aload_n hx hb dX2_readNumber_79 rfl (lv_at hl 1 rfl) ?_
          refine lv_iconst (v := (-1)) hx hb dX2_readNumber_80 (by decide) ?_
          have hTo := hT
          refine K_V ⟨hx, hb, hml, hown, hts⟩ (t_X2_pass l dC dI sa hlt g _ _ h0 (-1) tn fa_30 _ (hT.sub [0] rfl)  hk_34 hk_31 ) (cwV 1 hts gX2_readNumber_X2_pass rfl rfl rfl (by decide +kernel) ⟨Nat.le_of_ble_eq_true rfl, Nat.le_of_ble_eq_true rfl⟩) hP hD hK hS hA hev hT 0 2 rfl rfl rfl rfl hl.1 rfl (Nat.le_of_ble_eq_true rfl) dX2_readNumber_81 ⟨Nat.le_of_ble_eq_true rfl, Nat.le_of_ble_eq_true rfl⟩ (fun r L_35 f_36 H locs hw_37 hP hD hS hT hE1 => ?_)
          have hF := Fr.call hF hE hw_37.2.1 (by decide)
          have hE := hE.tr hE1
          obtain ⟨rfl, hw_37⟩ := hw_37
          obtain ⟨hfr_38, tn_39, fa_40, hk_41, hk_42, hrel_43, hrel_44⟩ := hw_37
          refine W.eq (g2 := F0 m 84 ls []) rfl ?_
          refine lv_iload_n hx hb dX2_readNumber_84 rfl (lv_at hl 0 rfl) ?_
          exact K_i hx hb hr hlocks hP hD hK hS hT hE ⟨⟨_, rfl⟩, hF, _, _, hk_41, hk_42, trivial, fun h9 => (absurd ((hrel_44 h9).1) hrel_32)⟩ (Nat.le_of_ble_eq_true rfl) (Nat.le_of_ble_eq_true rfl) dX2_readNumber_85
        · refine lv_iload_n hx hb dX2_readNumber_69 rfl (lv_at hl 0 rfl) ?_
          refine lv_iload_n hx hb dX2_readNumber_70 rfl (lv_at hl 3 rfl) ?_
          refine lv_icmp_le (tgt := 79) hx hb dX2_readNumber_71 (by decide) (fun c_46 => ?_) (fun c_46 => ?_)
          · refine lv_aload_n hx hb dX2_readNumber_79 rfl (lv_at hl 1 rfl) ?_
            refine lv_iconst (v := (-1)) hx hb dX2_readNumber_80 (by decide) ?_
            have hTo := hT
            refine K_V ⟨hx, hb, hml, hown, hts⟩ (t_X2_pass l dC dI sa hlt g _ _ h0 (-1) tn fa _ (hT.sub [0] rfl)  hm_tn hm_fa ) (cwV 1 hts gX2_readNumber_X2_pass rfl rfl rfl (by decide +kernel) ⟨Nat.le_of_ble_eq_true rfl, Nat.le_of_ble_eq_true rfl⟩) hP hD hK hS hA hev hT 0 2 rfl rfl rfl rfl hl.1 rfl (Nat.le_of_ble_eq_true rfl) dX2_readNumber_81 ⟨Nat.le_of_ble_eq_true rfl, Nat.le_of_ble_eq_true rfl⟩ (fun r L_47 f_48 H locs hw_49 hP hD hS hT hE1 => ?_)
            have hF := Fr.call hF hE hw_49.2.1 (by decide)
            have hE := hE.tr hE1
            obtain ⟨rfl, hw_49⟩ := hw_49
            obtain ⟨hfr_50, tn_51, fa_52, hk_53, hk_54, hrel_55, hrel_56⟩ := hw_49
            refine W.eq (g2 := F0 m 84 ls []) rfl ?_
            refine lv_iload_n hx hb dX2_readNumber_84 rfl (lv_at hl 0 rfl) ?_
            exact K_i hx hb hr hlocks hP hD hK hS hT hE ⟨⟨_, rfl⟩, hF, _, _, hk_53, hk_54, trivial, fun h9 => ((hrel_56 h9).1)⟩ (Nat.le_of_ble_eq_true rfl) (Nat.le_of_ble_eq_true rfl) dX2_readNumber_85
          · refine lv_aload_n hx hb dX2_readNumber_74 rfl (lv_at hl 1 rfl) ?_
            refine lv_iconst (v := 2) hx hb dX2_readNumber_75 (by decide) ?_
            have hTo := hT
            refine K_V ⟨hx, hb, hml, hown, hts⟩ (t_X2_refuse l dC dI sa hlt g _ _ h0 2 fa _ (hT.sub [0] rfl)  hm_fa (by decide)) (cwV 1 hts gX2_readNumber_X2_refuse rfl rfl rfl (by decide +kernel) ⟨Nat.le_of_ble_eq_true rfl, Nat.le_of_ble_eq_true rfl⟩) hP hD hK hS hA hev hT 0 2 rfl rfl rfl rfl hl.1 rfl (Nat.le_of_ble_eq_true rfl) dX2_readNumber_76 ⟨Nat.le_of_ble_eq_true rfl, Nat.le_of_ble_eq_true rfl⟩ (fun r L_58 f_59 H locs hw_60 hP hD hS hT hE1 => ?_)
            have hF := Fr.call hF hE hw_60.2.1 (by decide)
            have hE := hE.tr hE1
            obtain ⟨rfl, hw_60⟩ := hw_60
            obtain ⟨hfr_61, fa_62, hk_63, hrel_64⟩ := hw_60
            have hk_66 : rd f_59 h0 2 = .int tn := (hfr_61 h0 (hTo.at 0 rfl).1 2 (hTo.at 0 rfl).2 2 (by decide)).trans hm_tn
            refine W.eq (g2 := F0 m 79 ls []) rfl ?_
            refine lv_aload_n hx hb dX2_readNumber_79 rfl (lv_at hl 1 rfl) ?_
            refine lv_iconst (v := (-1)) hx hb dX2_readNumber_80 (by decide) ?_
            have hTo := hT
            refine K_V ⟨hx, hb, hml, hown, hts⟩ (t_X2_pass l dC dI sa hlt g _ _ h0 (-1) tn fa_62 _ (hT.sub [0] rfl)  hk_66 hk_63 ) (cwV 1 hts gX2_readNumber_X2_pass rfl rfl rfl (by decide +kernel) ⟨Nat.le_of_ble_eq_true rfl, Nat.le_of_ble_eq_true rfl⟩) hP hD hK hS hA hev hT 0 2 rfl rfl rfl rfl hl.1 rfl (Nat.le_of_ble_eq_true rfl) dX2_readNumber_81 ⟨Nat.le_of_ble_eq_true rfl, Nat.le_of_ble_eq_true rfl⟩ (fun r L_67 f_68 H locs hw_69 hP hD hS hT hE1 => ?_)
            have hF := Fr.call hF hE hw_69.2.1 (by decide)
            have hE := hE.tr hE1
            obtain ⟨rfl, hw_69⟩ := hw_69
            obtain ⟨hfr_70, tn_71, fa_72, hk_73, hk_74, hrel_75, hrel_76⟩ := hw_69
            refine W.eq (g2 := F0 m 84 ls []) rfl ?_
            refine lv_iload_n hx hb dX2_readNumber_84 rfl (lv_at hl 0 rfl) ?_
            exact K_i hx hb hr hlocks hP hD hK hS hT hE ⟨⟨_, rfl⟩, hF, _, _, hk_73, hk_74, trivial, fun h9 => (absurd ((hrel_76 h9).1) hrel_64)⟩ (Nat.le_of_ble_eq_true rfl) (Nat.le_of_ble_eq_true rfl) dX2_readNumber_85
    · refine lv_aload_n hx hb dX2_readNumber_48 rfl (lv_at hl 1 rfl) ?_
      refine lv_iconst (v := 2) hx hb dX2_readNumber_49 (by decide) ?_
      have hTo := hT
      refine K_V ⟨hx, hb, hml, hown, hts⟩ (t_X2_refuse l dC dI sa hlt g _ _ h0 2 fa _ (hT.sub [0] rfl)  hm_fa (by decide)) (cwV 1 hts gX2_readNumber_X2_refuse rfl rfl rfl (by decide +kernel) ⟨Nat.le_of_ble_eq_true rfl, Nat.le_of_ble_eq_true rfl⟩) hP hD hK hS hA hev hT 0 2 rfl rfl rfl rfl hl.1 rfl (Nat.le_of_ble_eq_true rfl) dX2_readNumber_50 ⟨Nat.le_of_ble_eq_true rfl, Nat.le_of_ble_eq_true rfl⟩ (fun r L_78 f_79 H locs hw_80 hP hD hS hT hE1 => ?_)
      have hF := Fr.call hF hE hw_80.2.1 (by decide)
      have hE := hE.tr hE1
      obtain ⟨rfl, hw_80⟩ := hw_80
      obtain ⟨hfr_81, fa_82, hk_83, hrel_84⟩ := hw_80
      have hk_86 : rd f_79 h0 2 = .int tn := (hfr_81 h0 (hTo.at 0 rfl).1 2 (hTo.at 0 rfl).2 2 (by decide)).trans hm_tn
      refine W.eq (g2 := F0 m 53 ls []) rfl ?_
      refine lv_goto (tgt := 79) hx hb dX2_readNumber_53 (by decide) ?_
      refine lv_aload_n hx hb dX2_readNumber_79 rfl (lv_at hl 1 rfl) ?_
      refine lv_iconst (v := (-1)) hx hb dX2_readNumber_80 (by decide) ?_
      have hTo := hT
      refine K_V ⟨hx, hb, hml, hown, hts⟩ (t_X2_pass l dC dI sa hlt g _ _ h0 (-1) tn fa_82 _ (hT.sub [0] rfl)  hk_86 hk_83 ) (cwV 1 hts gX2_readNumber_X2_pass rfl rfl rfl (by decide +kernel) ⟨Nat.le_of_ble_eq_true rfl, Nat.le_of_ble_eq_true rfl⟩) hP hD hK hS hA hev hT 0 2 rfl rfl rfl rfl hl.1 rfl (Nat.le_of_ble_eq_true rfl) dX2_readNumber_81 ⟨Nat.le_of_ble_eq_true rfl, Nat.le_of_ble_eq_true rfl⟩ (fun r L_87 f_88 H locs hw_89 hP hD hS hT hE1 => ?_)
      have hF := Fr.call hF hE hw_89.2.1 (by decide)
      have hE := hE.tr hE1
      obtain ⟨rfl, hw_89⟩ := hw_89
      obtain ⟨hfr_90, tn_91, fa_92, hk_93, hk_94, hrel_95, hrel_96⟩ := hw_89
      refine W.eq (g2 := F0 m 84 ls []) rfl ?_
      refine lv_iload_n hx hb dX2_readNumber_84 rfl (lv_at hl 0 rfl) ?_
      exact K_i hx hb hr hlocks hP hD hK hS hT hE ⟨⟨_, rfl⟩, hF, _, _, hk_93, hk_94, trivial, fun h9 => (absurd ((hrel_96 h9).1) hrel_84)⟩ (Nat.le_of_ble_eq_true rfl) (Nat.le_of_ble_eq_true rfl) dX2_readNumber_85
  · refine lv_aload_n hx hb dX2_readNumber_7 rfl (lv_at hl 0 rfl) ?_
    refine T_get (ci := 2) (C := RX2) (T := TX2) (N := 6) (t := tI) hx hb hts inw_X2_readNumber_2 hown hK hP hT 0 rfl rfl 1 (by decide) (hts (.fieldLink RX2 101 "VatHouse$Reader" "at" "I") (by decide +kernel)) (fun _ h9 => h9) rfl dX2_readNumber_8 (fun v_100 hv_98 hr_99 => ?_)
    obtain rfl : v_100 = .int z_4 := hr_99.symm.trans hr_2
    refine lv_aload_n hx hb dX2_readNumber_11 rfl (lv_at hl 0 rfl) ?_
    refine T_get (ci := 2) (C := RX2) (T := TX2) (N := 6) (t := (1, 0, 6, 0)) hx hb hts inw_X2_readNumber_2 hown hK hP hT 0 rfl rfl 0 (by decide) (hts (.fieldLink RX2 20 "VatHouse$Reader" "tokens" "LVatHouse$Tokens;") (by decide +kernel)) (fun _ h9 => h9) rfl dX2_readNumber_12 (fun v_103 hv_101 hr_102 => ?_)
    obtain ⟨b_104, rfl, hb9⟩ := hv_101
    have hT := hT.add hb9
    refine T_get (ci := 6) (C := RX6) (T := TX6) (N := 7) (t := (1, 1, g 6, 1501)) hx hb hts inw_X2_readNumber_6 hown hK hP hT 0 rfl rfl 6 (by decide) (hts (.fieldLink RX2 104 "VatHouse$Tokens" "values" "[I") (by decide +kernel)) (fun _ h9 => h9) rfl dX2_readNumber_15 (fun v_107 hv_105 hr_106 => ?_)
    obtain ⟨b_108, rfl, hb9⟩ := hv_105
    have hT := hT.add hb9
    refine T_alen hx hb hK hP hT 0 6 rfl rfl (v := 1501) rfl dX2_readNumber_18 ?_
    refine lv_icmp_ge (tgt := 37) hx hb dX2_readNumber_19 (by decide) (fun c_109 => ?_) (fun c_109 => ?_)
    · refine lv_iconst (v := 0) hx hb dX2_readNumber_37 (by decide) ?_
      refine lv_istore_n (lv' := [(3, .int 0), (0, .ref h0), (1, .int lo), (2, .int hi)]) hx hb dX2_readNumber_38 rfl hl (by decide) rfl (fun ls hl => ?_)
      refine lv_aload_n hx hb dX2_readNumber_39 rfl (lv_at hl 1 rfl) ?_
      refine T_get (ci := 2) (C := RX2) (T := TX2) (N := 6) (t := tI) hx hb hts inw_X2_readNumber_2 hown hK hP hT 2 rfl rfl 2 (by decide) (hts (.fieldLink RX2 44 "VatHouse$Reader" "token" "I") (by decide +kernel)) (fun _ h9 => h9) rfl dX2_readNumber_40 (fun v_112 hv_110 hr_111 => ?_)
      obtain rfl : v_112 = .int tn := hr_111.symm.trans hm_tn
      refine lv_bipush (v := (-2)) hx hb dX2_readNumber_43 (by decide) ?_
      refine lv_icmp_ne (tgt := 56) hx hb dX2_readNumber_45 (by decide) (fun c_113 => ?_) (fun c_113 => ?_)
      · refine lv_aload_n hx hb dX2_readNumber_56 rfl (lv_at hl 1 rfl) ?_
        refine T_get (ci := 2) (C := RX2) (T := TX2) (N := 6) (t := tI) hx hb hts inw_X2_readNumber_2 hown hK hP hT 2 rfl rfl 2 (by decide) (hts (.fieldLink RX2 44 "VatHouse$Reader" "token" "I") (by decide +kernel)) (fun _ h9 => h9) rfl dX2_readNumber_57 (fun v_116 hv_114 hr_115 => ?_)
        obtain rfl : v_116 = .int tn := hr_115.symm.trans hm_tn
        refine lv_iconst (v := (-1)) hx hb dX2_readNumber_60 (by decide) ?_
        refine lv_icmp_ne (tgt := 79) hx hb dX2_readNumber_61 (by decide) (fun c_117 => ?_) (fun c_117 => ?_)
        · refine lv_aload_n hx hb dX2_readNumber_79 rfl (lv_at hl 1 rfl) ?_
          refine lv_iconst (v := (-1)) hx hb dX2_readNumber_80 (by decide) ?_
          have hTo := hT
          refine K_V ⟨hx, hb, hml, hown, hts⟩ (t_X2_pass l dC dI sa hlt g _ _ h0 (-1) tn fa _ (hT.sub [2] rfl)  hm_tn hm_fa ) (cwV 1 hts gX2_readNumber_X2_pass rfl rfl rfl (by decide +kernel) ⟨Nat.le_of_ble_eq_true rfl, Nat.le_of_ble_eq_true rfl⟩) hP hD hK hS hA hev hT 2 2 rfl rfl rfl rfl hl.1 rfl (Nat.le_of_ble_eq_true rfl) dX2_readNumber_81 ⟨Nat.le_of_ble_eq_true rfl, Nat.le_of_ble_eq_true rfl⟩ (fun r L_118 f_119 H locs hw_120 hP hD hS hT hE1 => ?_)
          have hF := Fr.call hF hE hw_120.2.1 (by decide)
          have hE := hE.tr hE1
          obtain ⟨rfl, hw_120⟩ := hw_120
          obtain ⟨hfr_121, tn_122, fa_123, hk_124, hk_125, hrel_126, hrel_127⟩ := hw_120
          refine W.eq (g2 := F0 m 84 ls []) rfl ?_
          refine lv_iload_n hx hb dX2_readNumber_84 rfl (lv_at hl 0 rfl) ?_
          exact K_i hx hb hr hlocks hP hD hK hS hT hE ⟨⟨_, rfl⟩, hF, _, _, hk_124, hk_125, trivial, fun h9 => ((hrel_127 h9).1)⟩ (Nat.le_of_ble_eq_true rfl) (Nat.le_of_ble_eq_true rfl) dX2_readNumber_85
        · refine lv_iload_n hx hb dX2_readNumber_64 rfl (lv_at hl 0 rfl) ?_
          refine lv_iload_n hx hb dX2_readNumber_65 rfl (lv_at hl 2 rfl) ?_
          refine lv_icmp_lt (tgt := 74) hx hb dX2_readNumber_66 (by decide) (fun c_129 => ?_) (fun c_129 => ?_)
          · refine lv_aload_n hx hb dX2_readNumber_74 rfl (lv_at hl 1 rfl) ?_
            refine lv_iconst (v := 2) hx hb dX2_readNumber_75 (by decide) ?_
            have hTo := hT
            refine K_V ⟨hx, hb, hml, hown, hts⟩ (t_X2_refuse l dC dI sa hlt g _ _ h0 2 fa _ (hT.sub [2] rfl)  hm_fa (by decide)) (cwV 1 hts gX2_readNumber_X2_refuse rfl rfl rfl (by decide +kernel) ⟨Nat.le_of_ble_eq_true rfl, Nat.le_of_ble_eq_true rfl⟩) hP hD hK hS hA hev hT 2 2 rfl rfl rfl rfl hl.1 rfl (Nat.le_of_ble_eq_true rfl) dX2_readNumber_76 ⟨Nat.le_of_ble_eq_true rfl, Nat.le_of_ble_eq_true rfl⟩ (fun r L_130 f_131 H locs hw_132 hP hD hS hT hE1 => ?_)
            have hF := Fr.call hF hE hw_132.2.1 (by decide)
            have hE := hE.tr hE1
            obtain ⟨rfl, hw_132⟩ := hw_132
            obtain ⟨hfr_133, fa_134, hk_135, hrel_136⟩ := hw_132
            have hk_138 : rd f_131 h0 2 = .int tn := (hfr_133 h0 (hTo.at 2 rfl).1 2 (hTo.at 2 rfl).2 2 (by decide)).trans hm_tn
            refine W.eq (g2 := F0 m 79 ls []) rfl ?_
            refine lv_aload_n hx hb dX2_readNumber_79 rfl (lv_at hl 1 rfl) ?_
            refine lv_iconst (v := (-1)) hx hb dX2_readNumber_80 (by decide) ?_
            have hTo := hT
            refine K_V ⟨hx, hb, hml, hown, hts⟩ (t_X2_pass l dC dI sa hlt g _ _ h0 (-1) tn fa_134 _ (hT.sub [2] rfl)  hk_138 hk_135 ) (cwV 1 hts gX2_readNumber_X2_pass rfl rfl rfl (by decide +kernel) ⟨Nat.le_of_ble_eq_true rfl, Nat.le_of_ble_eq_true rfl⟩) hP hD hK hS hA hev hT 2 2 rfl rfl rfl rfl hl.1 rfl (Nat.le_of_ble_eq_true rfl) dX2_readNumber_81 ⟨Nat.le_of_ble_eq_true rfl, Nat.le_of_ble_eq_true rfl⟩ (fun r L_139 f_140 H locs hw_141 hP hD hS hT hE1 => ?_)
            have hF := Fr.call hF hE hw_141.2.1 (by decide)
            have hE := hE.tr hE1
            obtain ⟨rfl, hw_141⟩ := hw_141
            obtain ⟨hfr_142, tn_143, fa_144, hk_145, hk_146, hrel_147, hrel_148⟩ := hw_141
            refine W.eq (g2 := F0 m 84 ls []) rfl ?_
            refine lv_iload_n hx hb dX2_readNumber_84 rfl (lv_at hl 0 rfl) ?_
            exact K_i hx hb hr hlocks hP hD hK hS hT hE ⟨⟨_, rfl⟩, hF, _, _, hk_145, hk_146, trivial, fun h9 => (absurd ((hrel_148 h9).1) hrel_136)⟩ (Nat.le_of_ble_eq_true rfl) (Nat.le_of_ble_eq_true rfl) dX2_readNumber_85
          · refine lv_iload_n hx hb dX2_readNumber_69 rfl (lv_at hl 0 rfl) ?_
            refine lv_iload_n hx hb dX2_readNumber_70 rfl (lv_at hl 3 rfl) ?_
            refine lv_icmp_le (tgt := 79) hx hb dX2_readNumber_71 (by decide) (fun c_150 => ?_) (fun c_150 => ?_)
            · refine lv_aload_n hx hb dX2_readNumber_79 rfl (lv_at hl 1 rfl) ?_
              refine lv_iconst (v := (-1)) hx hb dX2_readNumber_80 (by decide) ?_
              have hTo := hT
              refine K_V ⟨hx, hb, hml, hown, hts⟩ (t_X2_pass l dC dI sa hlt g _ _ h0 (-1) tn fa _ (hT.sub [2] rfl)  hm_tn hm_fa ) (cwV 1 hts gX2_readNumber_X2_pass rfl rfl rfl (by decide +kernel) ⟨Nat.le_of_ble_eq_true rfl, Nat.le_of_ble_eq_true rfl⟩) hP hD hK hS hA hev hT 2 2 rfl rfl rfl rfl hl.1 rfl (Nat.le_of_ble_eq_true rfl) dX2_readNumber_81 ⟨Nat.le_of_ble_eq_true rfl, Nat.le_of_ble_eq_true rfl⟩ (fun r L_151 f_152 H locs hw_153 hP hD hS hT hE1 => ?_)
              have hF := Fr.call hF hE hw_153.2.1 (by decide)
              have hE := hE.tr hE1
              obtain ⟨rfl, hw_153⟩ := hw_153
              obtain ⟨hfr_154, tn_155, fa_156, hk_157, hk_158, hrel_159, hrel_160⟩ := hw_153
              refine W.eq (g2 := F0 m 84 ls []) rfl ?_
              refine lv_iload_n hx hb dX2_readNumber_84 rfl (lv_at hl 0 rfl) ?_
              exact K_i hx hb hr hlocks hP hD hK hS hT hE ⟨⟨_, rfl⟩, hF, _, _, hk_157, hk_158, trivial, fun h9 => ((hrel_160 h9).1)⟩ (Nat.le_of_ble_eq_true rfl) (Nat.le_of_ble_eq_true rfl) dX2_readNumber_85
            · refine lv_aload_n hx hb dX2_readNumber_74 rfl (lv_at hl 1 rfl) ?_
              refine lv_iconst (v := 2) hx hb dX2_readNumber_75 (by decide) ?_
              have hTo := hT
              refine K_V ⟨hx, hb, hml, hown, hts⟩ (t_X2_refuse l dC dI sa hlt g _ _ h0 2 fa _ (hT.sub [2] rfl)  hm_fa (by decide)) (cwV 1 hts gX2_readNumber_X2_refuse rfl rfl rfl (by decide +kernel) ⟨Nat.le_of_ble_eq_true rfl, Nat.le_of_ble_eq_true rfl⟩) hP hD hK hS hA hev hT 2 2 rfl rfl rfl rfl hl.1 rfl (Nat.le_of_ble_eq_true rfl) dX2_readNumber_76 ⟨Nat.le_of_ble_eq_true rfl, Nat.le_of_ble_eq_true rfl⟩ (fun r L_162 f_163 H locs hw_164 hP hD hS hT hE1 => ?_)
              have hF := Fr.call hF hE hw_164.2.1 (by decide)
              have hE := hE.tr hE1
              obtain ⟨rfl, hw_164⟩ := hw_164
              obtain ⟨hfr_165, fa_166, hk_167, hrel_168⟩ := hw_164
              have hk_170 : rd f_163 h0 2 = .int tn := (hfr_165 h0 (hTo.at 2 rfl).1 2 (hTo.at 2 rfl).2 2 (by decide)).trans hm_tn
              refine W.eq (g2 := F0 m 79 ls []) rfl ?_
              refine lv_aload_n hx hb dX2_readNumber_79 rfl (lv_at hl 1 rfl) ?_
              refine lv_iconst (v := (-1)) hx hb dX2_readNumber_80 (by decide) ?_
              have hTo := hT
              refine K_V ⟨hx, hb, hml, hown, hts⟩ (t_X2_pass l dC dI sa hlt g _ _ h0 (-1) tn fa_166 _ (hT.sub [2] rfl)  hk_170 hk_167 ) (cwV 1 hts gX2_readNumber_X2_pass rfl rfl rfl (by decide +kernel) ⟨Nat.le_of_ble_eq_true rfl, Nat.le_of_ble_eq_true rfl⟩) hP hD hK hS hA hev hT 2 2 rfl rfl rfl rfl hl.1 rfl (Nat.le_of_ble_eq_true rfl) dX2_readNumber_81 ⟨Nat.le_of_ble_eq_true rfl, Nat.le_of_ble_eq_true rfl⟩ (fun r L_171 f_172 H locs hw_173 hP hD hS hT hE1 => ?_)
              have hF := Fr.call hF hE hw_173.2.1 (by decide)
              have hE := hE.tr hE1
              obtain ⟨rfl, hw_173⟩ := hw_173
              obtain ⟨hfr_174, tn_175, fa_176, hk_177, hk_178, hrel_179, hrel_180⟩ := hw_173
              refine W.eq (g2 := F0 m 84 ls []) rfl ?_
              refine lv_iload_n hx hb dX2_readNumber_84 rfl (lv_at hl 0 rfl) ?_
              exact K_i hx hb hr hlocks hP hD hK hS hT hE ⟨⟨_, rfl⟩, hF, _, _, hk_177, hk_178, trivial, fun h9 => (absurd ((hrel_180 h9).1) hrel_168)⟩ (Nat.le_of_ble_eq_true rfl) (Nat.le_of_ble_eq_true rfl) dX2_readNumber_85
      · refine lv_aload_n hx hb dX2_readNumber_48 rfl (lv_at hl 1 rfl) ?_
        refine lv_iconst (v := 2) hx hb dX2_readNumber_49 (by decide) ?_
        have hTo := hT
        refine K_V ⟨hx, hb, hml, hown, hts⟩ (t_X2_refuse l dC dI sa hlt g _ _ h0 2 fa _ (hT.sub [2] rfl)  hm_fa (by decide)) (cwV 1 hts gX2_readNumber_X2_refuse rfl rfl rfl (by decide +kernel) ⟨Nat.le_of_ble_eq_true rfl, Nat.le_of_ble_eq_true rfl⟩) hP hD hK hS hA hev hT 2 2 rfl rfl rfl rfl hl.1 rfl (Nat.le_of_ble_eq_true rfl) dX2_readNumber_50 ⟨Nat.le_of_ble_eq_true rfl, Nat.le_of_ble_eq_true rfl⟩ (fun r L_182 f_183 H locs hw_184 hP hD hS hT hE1 => ?_)
        have hF := Fr.call hF hE hw_184.2.1 (by decide)
        have hE := hE.tr hE1
        obtain ⟨rfl, hw_184⟩ := hw_184
        obtain ⟨hfr_185, fa_186, hk_187, hrel_188⟩ := hw_184
        have hk_190 : rd f_183 h0 2 = .int tn := (hfr_185 h0 (hTo.at 2 rfl).1 2 (hTo.at 2 rfl).2 2 (by decide)).trans hm_tn
        refine W.eq (g2 := F0 m 53 ls []) rfl ?_
        refine lv_goto (tgt := 79) hx hb dX2_readNumber_53 (by decide) ?_
        refine lv_aload_n hx hb dX2_readNumber_79 rfl (lv_at hl 1 rfl) ?_
        refine lv_iconst (v := (-1)) hx hb dX2_readNumber_80 (by decide) ?_
        have hTo := hT
        refine K_V ⟨hx, hb, hml, hown, hts⟩ (t_X2_pass l dC dI sa hlt g _ _ h0 (-1) tn fa_186 _ (hT.sub [2] rfl)  hk_190 hk_187 ) (cwV 1 hts gX2_readNumber_X2_pass rfl rfl rfl (by decide +kernel) ⟨Nat.le_of_ble_eq_true rfl, Nat.le_of_ble_eq_true rfl⟩) hP hD hK hS hA hev hT 2 2 rfl rfl rfl rfl hl.1 rfl (Nat.le_of_ble_eq_true rfl) dX2_readNumber_81 ⟨Nat.le_of_ble_eq_true rfl, Nat.le_of_ble_eq_true rfl⟩ (fun r L_191 f_192 H locs hw_193 hP hD hS hT hE1 => ?_)
        have hF := Fr.call hF hE hw_193.2.1 (by decide)
        have hE := hE.tr hE1
        obtain ⟨rfl, hw_193⟩ := hw_193
        obtain ⟨hfr_194, tn_195, fa_196, hk_197, hk_198, hrel_199, hrel_200⟩ := hw_193
        refine W.eq (g2 := F0 m 84 ls []) rfl ?_
        refine lv_iload_n hx hb dX2_readNumber_84 rfl (lv_at hl 0 rfl) ?_
        exact K_i hx hb hr hlocks hP hD hK hS hT hE ⟨⟨_, rfl⟩, hF, _, _, hk_197, hk_198, trivial, fun h9 => (absurd ((hrel_200 h9).1) hrel_188)⟩ (Nat.le_of_ble_eq_true rfl) (Nat.le_of_ble_eq_true rfl) dX2_readNumber_85
    · refine lv_aload_n hx hb dX2_readNumber_22 rfl (lv_at hl 0 rfl) ?_
      refine T_get (ci := 2) (C := RX2) (T := TX2) (N := 6) (t := (1, 0, 6, 0)) hx hb hts inw_X2_readNumber_2 hown hK hP hT 2 rfl rfl 0 (by decide) (hts (.fieldLink RX2 20 "VatHouse$Reader" "tokens" "LVatHouse$Tokens;") (by decide +kernel)) (fun _ h9 => h9) rfl dX2_readNumber_23 (fun v_204 hv_202 hr_203 => ?_)
      obtain rfl : v_204 = .ref b_104 := hr_203.symm.trans hr_102
      refine T_get (ci := 6) (C := RX6) (T := TX6) (N := 7) (t := (1, 1, g 6, 1501)) hx hb hts inw_X2_readNumber_6 hown hK hP hT 1 rfl rfl 6 (by decide) (hts (.fieldLink RX2 104 "VatHouse$Tokens" "values" "[I") (by decide +kernel)) (fun _ h9 => h9) rfl dX2_readNumber_26 (fun v_207 hv_205 hr_206 => ?_)
      obtain rfl : v_207 = .ref b_108 := hr_206.symm.trans hr_106
      refine lv_aload_n hx hb dX2_readNumber_29 rfl (lv_at hl 0 rfl) ?_
      refine T_get (ci := 2) (C := RX2) (T := TX2) (N := 6) (t := tI) hx hb hts inw_X2_readNumber_2 hown hK hP hT 2 rfl rfl 1 (by decide) (hts (.fieldLink RX2 101 "VatHouse$Reader" "at" "I") (by decide +kernel)) (fun _ h9 => h9) rfl dX2_readNumber_30 (fun v_210 hv_208 hr_209 => ?_)
      obtain rfl : v_210 = .int z_4 := hr_209.symm.trans hr_2
      refine T_iald hx hb hK hP hT 0 6 rfl rfl (vin 1501 (by decide) rfl (by assumption) (by assumption)) dX2_readNumber_33 (fun z_211 => ?_)
      refine lv_goto (tgt := 38) hx hb dX2_readNumber_34 (by decide) ?_
      refine lv_istore_n (lv' := [(3, .int z_211), (0, .ref h0), (1, .int lo), (2, .int hi)]) hx hb dX2_readNumber_38 rfl hl (by decide) rfl (fun ls hl => ?_)
      refine lv_aload_n hx hb dX2_readNumber_39 rfl (lv_at hl 1 rfl) ?_
      refine T_get (ci := 2) (C := RX2) (T := TX2) (N := 6) (t := tI) hx hb hts inw_X2_readNumber_2 hown hK hP hT 2 rfl rfl 2 (by decide) (hts (.fieldLink RX2 44 "VatHouse$Reader" "token" "I") (by decide +kernel)) (fun _ h9 => h9) rfl dX2_readNumber_40 (fun v_214 hv_212 hr_213 => ?_)
      obtain rfl : v_214 = .int tn := hr_213.symm.trans hm_tn
      refine lv_bipush (v := (-2)) hx hb dX2_readNumber_43 (by decide) ?_
      refine lv_icmp_ne (tgt := 56) hx hb dX2_readNumber_45 (by decide) (fun c_215 => ?_) (fun c_215 => ?_)
      · refine lv_aload_n hx hb dX2_readNumber_56 rfl (lv_at hl 1 rfl) ?_
        refine T_get (ci := 2) (C := RX2) (T := TX2) (N := 6) (t := tI) hx hb hts inw_X2_readNumber_2 hown hK hP hT 2 rfl rfl 2 (by decide) (hts (.fieldLink RX2 44 "VatHouse$Reader" "token" "I") (by decide +kernel)) (fun _ h9 => h9) rfl dX2_readNumber_57 (fun v_218 hv_216 hr_217 => ?_)
        obtain rfl : v_218 = .int tn := hr_217.symm.trans hm_tn
        refine lv_iconst (v := (-1)) hx hb dX2_readNumber_60 (by decide) ?_
        refine lv_icmp_ne (tgt := 79) hx hb dX2_readNumber_61 (by decide) (fun c_219 => ?_) (fun c_219 => ?_)
        · refine lv_aload_n hx hb dX2_readNumber_79 rfl (lv_at hl 1 rfl) ?_
          refine lv_iconst (v := (-1)) hx hb dX2_readNumber_80 (by decide) ?_
          have hTo := hT
          refine K_V ⟨hx, hb, hml, hown, hts⟩ (t_X2_pass l dC dI sa hlt g _ _ h0 (-1) tn fa _ (hT.sub [2] rfl)  hm_tn hm_fa ) (cwV 1 hts gX2_readNumber_X2_pass rfl rfl rfl (by decide +kernel) ⟨Nat.le_of_ble_eq_true rfl, Nat.le_of_ble_eq_true rfl⟩) hP hD hK hS hA hev hT 2 2 rfl rfl rfl rfl hl.1 rfl (Nat.le_of_ble_eq_true rfl) dX2_readNumber_81 ⟨Nat.le_of_ble_eq_true rfl, Nat.le_of_ble_eq_true rfl⟩ (fun r L_220 f_221 H locs hw_222 hP hD hS hT hE1 => ?_)
          have hF := Fr.call hF hE hw_222.2.1 (by decide)
          have hE := hE.tr hE1
          obtain ⟨rfl, hw_222⟩ := hw_222
          obtain ⟨hfr_223, tn_224, fa_225, hk_226, hk_227, hrel_228, hrel_229⟩ := hw_222
          refine W.eq (g2 := F0 m 84 ls []) rfl ?_
          refine lv_iload_n hx hb dX2_readNumber_84 rfl (lv_at hl 0 rfl) ?_
          exact K_i hx hb hr hlocks hP hD hK hS hT hE ⟨⟨_, rfl⟩, hF, _, _, hk_226, hk_227, trivial, fun h9 => ((hrel_229 h9).1)⟩ (Nat.le_of_ble_eq_true rfl) (Nat.le_of_ble_eq_true rfl) dX2_readNumber_85
        · refine lv_iload_n hx hb dX2_readNumber_64 rfl (lv_at hl 0 rfl) ?_
          refine lv_iload_n hx hb dX2_readNumber_65 rfl (lv_at hl 2 rfl) ?_
          refine lv_icmp_lt (tgt := 74) hx hb dX2_readNumber_66 (by decide) (fun c_231 => ?_) (fun c_231 => ?_)
          · refine lv_aload_n hx hb dX2_readNumber_74 rfl (lv_at hl 1 rfl) ?_
            refine lv_iconst (v := 2) hx hb dX2_readNumber_75 (by decide) ?_
            have hTo := hT
            refine K_V ⟨hx, hb, hml, hown, hts⟩ (t_X2_refuse l dC dI sa hlt g _ _ h0 2 fa _ (hT.sub [2] rfl)  hm_fa (by decide)) (cwV 1 hts gX2_readNumber_X2_refuse rfl rfl rfl (by decide +kernel) ⟨Nat.le_of_ble_eq_true rfl, Nat.le_of_ble_eq_true rfl⟩) hP hD hK hS hA hev hT 2 2 rfl rfl rfl rfl hl.1 rfl (Nat.le_of_ble_eq_true rfl) dX2_readNumber_76 ⟨Nat.le_of_ble_eq_true rfl, Nat.le_of_ble_eq_true rfl⟩ (fun r L_232 f_233 H locs hw_234 hP hD hS hT hE1 => ?_)
            have hF := Fr.call hF hE hw_234.2.1 (by decide)
            have hE := hE.tr hE1
            obtain ⟨rfl, hw_234⟩ := hw_234
            obtain ⟨hfr_235, fa_236, hk_237, hrel_238⟩ := hw_234
            have hk_240 : rd f_233 h0 2 = .int tn := (hfr_235 h0 (hTo.at 2 rfl).1 2 (hTo.at 2 rfl).2 2 (by decide)).trans hm_tn
            refine W.eq (g2 := F0 m 79 ls []) rfl ?_
            refine lv_aload_n hx hb dX2_readNumber_79 rfl (lv_at hl 1 rfl) ?_
            refine lv_iconst (v := (-1)) hx hb dX2_readNumber_80 (by decide) ?_
            have hTo := hT
            refine K_V ⟨hx, hb, hml, hown, hts⟩ (t_X2_pass l dC dI sa hlt g _ _ h0 (-1) tn fa_236 _ (hT.sub [2] rfl)  hk_240 hk_237 ) (cwV 1 hts gX2_readNumber_X2_pass rfl rfl rfl (by decide +kernel) ⟨Nat.le_of_ble_eq_true rfl, Nat.le_of_ble_eq_true rfl⟩) hP hD hK hS hA hev hT 2 2 rfl rfl rfl rfl hl.1 rfl (Nat.le_of_ble_eq_true rfl) dX2_readNumber_81 ⟨Nat.le_of_ble_eq_true rfl, Nat.le_of_ble_eq_true rfl⟩ (fun r L_241 f_242 H locs hw_243 hP hD hS hT hE1 => ?_)
            have hF := Fr.call hF hE hw_243.2.1 (by decide)
            have hE := hE.tr hE1
            obtain ⟨rfl, hw_243⟩ := hw_243
            obtain ⟨hfr_244, tn_245, fa_246, hk_247, hk_248, hrel_249, hrel_250⟩ := hw_243
            refine W.eq (g2 := F0 m 84 ls []) rfl ?_
            refine lv_iload_n hx hb dX2_readNumber_84 rfl (lv_at hl 0 rfl) ?_
            exact K_i hx hb hr hlocks hP hD hK hS hT hE ⟨⟨_, rfl⟩, hF, _, _, hk_247, hk_248, trivial, fun h9 => (absurd ((hrel_250 h9).1) hrel_238)⟩ (Nat.le_of_ble_eq_true rfl) (Nat.le_of_ble_eq_true rfl) dX2_readNumber_85
          · refine lv_iload_n hx hb dX2_readNumber_69 rfl (lv_at hl 0 rfl) ?_
            refine lv_iload_n hx hb dX2_readNumber_70 rfl (lv_at hl 3 rfl) ?_
            refine lv_icmp_le (tgt := 79) hx hb dX2_readNumber_71 (by decide) (fun c_252 => ?_) (fun c_252 => ?_)
            · refine lv_aload_n hx hb dX2_readNumber_79 rfl (lv_at hl 1 rfl) ?_
              refine lv_iconst (v := (-1)) hx hb dX2_readNumber_80 (by decide) ?_
              have hTo := hT
              refine K_V ⟨hx, hb, hml, hown, hts⟩ (t_X2_pass l dC dI sa hlt g _ _ h0 (-1) tn fa _ (hT.sub [2] rfl)  hm_tn hm_fa ) (cwV 1 hts gX2_readNumber_X2_pass rfl rfl rfl (by decide +kernel) ⟨Nat.le_of_ble_eq_true rfl, Nat.le_of_ble_eq_true rfl⟩) hP hD hK hS hA hev hT 2 2 rfl rfl rfl rfl hl.1 rfl (Nat.le_of_ble_eq_true rfl) dX2_readNumber_81 ⟨Nat.le_of_ble_eq_true rfl, Nat.le_of_ble_eq_true rfl⟩ (fun r L_253 f_254 H locs hw_255 hP hD hS hT hE1 => ?_)
              have hF := Fr.call hF hE hw_255.2.1 (by decide)
              have hE := hE.tr hE1
              obtain ⟨rfl, hw_255⟩ := hw_255
              obtain ⟨hfr_256, tn_257, fa_258, hk_259, hk_260, hrel_261, hrel_262⟩ := hw_255
              refine W.eq (g2 := F0 m 84 ls []) rfl ?_
              refine lv_iload_n hx hb dX2_readNumber_84 rfl (lv_at hl 0 rfl) ?_
              exact K_i hx hb hr hlocks hP hD hK hS hT hE ⟨⟨_, rfl⟩, hF, _, _, hk_259, hk_260, trivial, fun h9 => ((hrel_262 h9).1)⟩ (Nat.le_of_ble_eq_true rfl) (Nat.le_of_ble_eq_true rfl) dX2_readNumber_85
            · refine lv_aload_n hx hb dX2_readNumber_74 rfl (lv_at hl 1 rfl) ?_
              refine lv_iconst (v := 2) hx hb dX2_readNumber_75 (by decide) ?_
              have hTo := hT
              refine K_V ⟨hx, hb, hml, hown, hts⟩ (t_X2_refuse l dC dI sa hlt g _ _ h0 2 fa _ (hT.sub [2] rfl)  hm_fa (by decide)) (cwV 1 hts gX2_readNumber_X2_refuse rfl rfl rfl (by decide +kernel) ⟨Nat.le_of_ble_eq_true rfl, Nat.le_of_ble_eq_true rfl⟩) hP hD hK hS hA hev hT 2 2 rfl rfl rfl rfl hl.1 rfl (Nat.le_of_ble_eq_true rfl) dX2_readNumber_76 ⟨Nat.le_of_ble_eq_true rfl, Nat.le_of_ble_eq_true rfl⟩ (fun r L_264 f_265 H locs hw_266 hP hD hS hT hE1 => ?_)
              have hF := Fr.call hF hE hw_266.2.1 (by decide)
              have hE := hE.tr hE1
              obtain ⟨rfl, hw_266⟩ := hw_266
              obtain ⟨hfr_267, fa_268, hk_269, hrel_270⟩ := hw_266
              have hk_272 : rd f_265 h0 2 = .int tn := (hfr_267 h0 (hTo.at 2 rfl).1 2 (hTo.at 2 rfl).2 2 (by decide)).trans hm_tn
              refine W.eq (g2 := F0 m 79 ls []) rfl ?_
              refine lv_aload_n hx hb dX2_readNumber_79 rfl (lv_at hl 1 rfl) ?_
              refine lv_iconst (v := (-1)) hx hb dX2_readNumber_80 (by decide) ?_
              have hTo := hT
              refine K_V ⟨hx, hb, hml, hown, hts⟩ (t_X2_pass l dC dI sa hlt g _ _ h0 (-1) tn fa_268 _ (hT.sub [2] rfl)  hk_272 hk_269 ) (cwV 1 hts gX2_readNumber_X2_pass rfl rfl rfl (by decide +kernel) ⟨Nat.le_of_ble_eq_true rfl, Nat.le_of_ble_eq_true rfl⟩) hP hD hK hS hA hev hT 2 2 rfl rfl rfl rfl hl.1 rfl (Nat.le_of_ble_eq_true rfl) dX2_readNumber_81 ⟨Nat.le_of_ble_eq_true rfl, Nat.le_of_ble_eq_true rfl⟩ (fun r L_273 f_274 H locs hw_275 hP hD hS hT hE1 => ?_)
              have hF := Fr.call hF hE hw_275.2.1 (by decide)
              have hE := hE.tr hE1
              obtain ⟨rfl, hw_275⟩ := hw_275
              obtain ⟨hfr_276, tn_277, fa_278, hk_279, hk_280, hrel_281, hrel_282⟩ := hw_275
              refine W.eq (g2 := F0 m 84 ls []) rfl ?_
              refine lv_iload_n hx hb dX2_readNumber_84 rfl (lv_at hl 0 rfl) ?_
              exact K_i hx hb hr hlocks hP hD hK hS hT hE ⟨⟨_, rfl⟩, hF, _, _, hk_279, hk_280, trivial, fun h9 => (absurd ((hrel_282 h9).1) hrel_270)⟩ (Nat.le_of_ble_eq_true rfl) (Nat.le_of_ble_eq_true rfl) dX2_readNumber_85
      · refine lv_aload_n hx hb dX2_readNumber_48 rfl (lv_at hl 1 rfl) ?_
        refine lv_iconst (v := 2) hx hb dX2_readNumber_49 (by decide) ?_
        have hTo := hT
        refine K_V ⟨hx, hb, hml, hown, hts⟩ (t_X2_refuse l dC dI sa hlt g _ _ h0 2 fa _ (hT.sub [2] rfl)  hm_fa (by decide)) (cwV 1 hts gX2_readNumber_X2_refuse rfl rfl rfl (by decide +kernel) ⟨Nat.le_of_ble_eq_true rfl, Nat.le_of_ble_eq_true rfl⟩) hP hD hK hS hA hev hT 2 2 rfl rfl rfl rfl hl.1 rfl (Nat.le_of_ble_eq_true rfl) dX2_readNumber_50 ⟨Nat.le_of_ble_eq_true rfl, Nat.le_of_ble_eq_true rfl⟩ (fun r L_284 f_285 H locs hw_286 hP hD hS hT hE1 => ?_)
        have hF := Fr.call hF hE hw_286.2.1 (by decide)
        have hE := hE.tr hE1
        obtain ⟨rfl, hw_286⟩ := hw_286
        obtain ⟨hfr_287, fa_288, hk_289, hrel_290⟩ := hw_286
        have hk_292 : rd f_285 h0 2 = .int tn := (hfr_287 h0 (hTo.at 2 rfl).1 2 (hTo.at 2 rfl).2 2 (by decide)).trans hm_tn
        refine W.eq (g2 := F0 m 53 ls []) rfl ?_
        refine lv_goto (tgt := 79) hx hb dX2_readNumber_53 (by decide) ?_
        refine lv_aload_n hx hb dX2_readNumber_79 rfl (lv_at hl 1 rfl) ?_
        refine lv_iconst (v := (-1)) hx hb dX2_readNumber_80 (by decide) ?_
        have hTo := hT
        refine K_V ⟨hx, hb, hml, hown, hts⟩ (t_X2_pass l dC dI sa hlt g _ _ h0 (-1) tn fa_288 _ (hT.sub [2] rfl)  hk_292 hk_289 ) (cwV 1 hts gX2_readNumber_X2_pass rfl rfl rfl (by decide +kernel) ⟨Nat.le_of_ble_eq_true rfl, Nat.le_of_ble_eq_true rfl⟩) hP hD hK hS hA hev hT 2 2 rfl rfl rfl rfl hl.1 rfl (Nat.le_of_ble_eq_true rfl) dX2_readNumber_81 ⟨Nat.le_of_ble_eq_true rfl, Nat.le_of_ble_eq_true rfl⟩ (fun r L_293 f_294 H locs hw_295 hP hD hS hT hE1 => ?_)
        have hF := Fr.call hF hE hw_295.2.1 (by decide)
        have hE := hE.tr hE1
        obtain ⟨rfl, hw_295⟩ := hw_295
        obtain ⟨hfr_296, tn_297, fa_298, hk_299, hk_300, hrel_301, hrel_302⟩ := hw_295
        refine W.eq (g2 := F0 m 84 ls []) rfl ?_
        refine lv_iload_n hx hb dX2_readNumber_84 rfl (lv_at hl 0 rfl) ?_
        exact K_i hx hb hr hlocks hP hD hK hS hT hE ⟨⟨_, rfl⟩, hF, _, _, hk_299, hk_300, trivial, fun h9 => (absurd ((hrel_302 h9).1) hrel_290)⟩ (Nat.le_of_ble_eq_true rfl) (Nat.le_of_ble_eq_true rfl) dX2_readNumber_85

abbrev rm_X2_readPlain : Room := { frames := 3, cells := 0, slots := 0, locals := 65 }
theorem inw_X2_readPlain_5 : ∀ w ∈ wsX50, w ∈ wsX2_readPlain := by decide +kernel
set_option maxHeartbeats 800000 in
set_option maxRecDepth 100000 in
theorem t_X2_readPlain (l : Launch) (dC : Nat → ClassId) (dI : Nat → Nat → Nat) (sa : Nat → Nat) (hlt : l.stackTraces = false) (g : Nat → Nat) (L : List Nat) (f : Nat → va_E) (h0 : Nat) (o : Nat) (tn : Int32) (fa : Int32) (sz : Nat) (hT : TP g L f [(h0, (0, 2, 0)), (o, (0, 5, 0))]) (hm_tn : rd f h0 2 = .int tn) (hm_fa : rd f h0 3 = .int fa) : KC l dC dI sa g yX2_readPlain wsX2_readPlain rm_X2_readPlain [.ref h0, .ref o] L f sz (fun r L' f' => (r = none) ∧ Fr [(2, 1), (2, 2), (2, 3), (2, 4), (5, 0), (5, 1), (5, 2), (5, 3), (5, 4), (5, 5), (5, 6), (5, 7)] L f f' ∧ (∃ tn' : Int32, ∃ fa' : Int32, rd f' h0 2 = .int tn' ∧ rd f' h0 3 = .int fa' ∧ (True) ∧ (fa' = 0 → fa = 0))) 0 0 := by
  refine CT.start (cc := cX2_readPlain) (maxL := 2) (ret := none) (by decide) rfl (Nat.le_of_ble_eq_true rfl) ?_
  intro p e s m below meth c ls hst hP hK hD hev hS hl
  obtain ⟨hx, hb, hr, hml, hts, hown, hlocks, hin⟩ := hst
  have hown : s.vm.findClass RX2 = some m.cls := hown
  have hin : meth.name = yX2_readPlain.name := hin
  have hA : ∀ q : Nat, s.heap.size ≤ q → va_A (va_pl L f) s.heap.size q := fun _ h => Or.inr h
  have hE : Ext L f L f := Ext.rf
  have hF : Fr [(2, 1), (2, 2), (2, 3), (2, 4), (5, 0), (5, 1), (5, 2), (5, 3), (5, 4), (5, 5), (5, 6), (5, 7)] L f f := Fr.rf
  have hl : lv_has ls 2 [(0, .ref h0), (1, .ref o)] := hl
  refine lv_aload_n hx hb dX2_readPlain_0 rfl (lv_at hl 1 rfl) ?_
  refine T_get (ci := 5) (C := RX5) (T := TX5) (N := 8) (t := tI) hx hb hts inw_X2_readPlain_5 hown hK hP hT 1 rfl rfl 0 (by decide) (hts (.fieldLink RX2 61 "VatHouse$Step" "word" "I") (by decide +kernel)) (fun _ h9 => h9) rfl dX2_readPlain_1 (fun v_3 hv_1 hr_2 => ?_)
  obtain ⟨z_4, rfl⟩ := hv_1
  by_cases c_5 : z_4 = 1
  · refine lv_tableIn (tgt := 48) hx hb dX2_readPlain_4 (by rw [c_5]; decide) (by rw [c_5]; decide) (by rw [c_5]; rfl) (by decide) ?_
    refine lv_aload_n hx hb dX2_readPlain_48 rfl (lv_at hl 1 rfl) ?_
    refine lv_aload_n hx hb dX2_readPlain_49 rfl (lv_at hl 0 rfl) ?_
    refine lv_iconst (v := 0) hx hb dX2_readPlain_50 (by decide) ?_
    refine lv_iconst (v := 5) hx hb dX2_readPlain_51 (by decide) ?_
    have hTo := hT
    refine K_V ⟨hx, hb, hml, hown, hts⟩ (t_X2_readNumber l dC dI sa hlt g _ _ h0 0 5 tn fa _ (hT.sub [0] rfl)  hm_tn hm_fa ) (cwV 2 hts gX2_readPlain_X2_readNumber rfl rfl rfl (by decide +kernel) ⟨Nat.le_of_ble_eq_true rfl, Nat.le_of_ble_eq_true rfl⟩) hP hD hK hS hA hev hT 0 2 rfl rfl rfl rfl hl.1 rfl (Nat.le_of_ble_eq_true rfl) dX2_readPlain_52 ⟨Nat.le_of_ble_eq_true rfl, Nat.le_of_ble_eq_true rfl⟩ (fun r L_6 f_7 H locs hw_8 hP hD hS hT hE1 => ?_)
    have hF := Fr.call hF hE hw_8.2.1 (by decide)
    have hE := hE.tr hE1
    obtain ⟨⟨z_9, rfl⟩, hw_8⟩ := hw_8
    obtain ⟨hfr_10, tn_11, fa_12, hk_13, hk_14, hrel_15, hrel_16⟩ := hw_8
    refine W.eq (g2 := F0 m 55 ls [.int z_9, .ref o]) rfl ?_
    have hTo := hT
    refine T_put (ci := 5) (v := .int z_9) (ty := .int) (t := tI) (C := RX5) (T := TX5) (N := 8) hx hb hts inw_X2_readPlain_5 tyX5 tyX5_ok nmX5 hown hK hP hD hS hT 1 rfl rfl 1 (by decide) (hts (.fieldLink RX2 76 "VatHouse$Step" "vat" "I") (by decide +kernel)) (fun _ h9 => h9) rfl (by decide +kernel) rfl rfl rfl ⟨_, rfl⟩ dX2_readPlain_55 (fun f_18 H locs hP hD hS hT hE1 hrd_19 => ?_)
    have hF := Fr.put (a := o) (ci := 5) hF hE ((hE1 o (hT.at 1 rfl).1).2.symm.trans (hT.at 1 rfl).2) (by decide) hrd_19
    have hE := hE.tr hE1
    have hk_20 : rd f_18 h0 2 = .int tn_11 := ((Fr.put (cs := [(5, 1)]) (a := o) (ci := 5) Fr.rf Ext.rf (hTo.at 1 rfl).2 (by decide) hrd_19) h0 (hTo.at 0 rfl).1 2 (hTo.at 0 rfl).2 2 (by decide)).trans hk_13
    have hk_21 : rd f_18 h0 3 = .int fa_12 := ((Fr.put (cs := [(5, 1)]) (a := o) (ci := 5) Fr.rf Ext.rf (hTo.at 1 rfl).2 (by decide) hrd_19) h0 (hTo.at 0 rfl).1 2 (hTo.at 0 rfl).2 3 (by decide)).trans hk_14
    refine lv_aload_n hx hb dX2_readPlain_58 rfl (lv_at hl 1 rfl) ?_
    refine lv_aload_n hx hb dX2_readPlain_59 rfl (lv_at hl 0 rfl) ?_
    refine lv_iconst (v := 1) hx hb dX2_readPlain_60 (by decide) ?_
    refine lv_bipush (v := 20) hx hb dX2_readPlain_61 (by decide) ?_
    have hTo := hT
    refine K_V ⟨hx, hb, hml, hown, hts⟩ (t_X2_readNumber l dC dI sa hlt g _ _ h0 1 20 tn_11 fa_12 _ (hT.sub [0] rfl)  hk_20 hk_21 ) (cwV 2 hts gX2_readPlain_X2_readNumber rfl rfl rfl (by decide +kernel) ⟨Nat.le_of_ble_eq_true rfl, Nat.le_of_ble_eq_true rfl⟩) hP hD hK hS hA hev hT 0 2 rfl rfl rfl rfl hl.1 rfl (Nat.le_of_ble_eq_true rfl) dX2_readPlain_63 ⟨Nat.le_of_ble_eq_true rfl, Nat.le_of_ble_eq_true rfl⟩ (fun r L_22 f_23 H locs hw_24 hP hD hS hT hE1 => ?_)
    have hF := Fr.call hF hE hw_24.2.1 (by decide)
    have hE := hE.tr hE1
    obtain ⟨⟨z_25, rfl⟩, hw_24⟩ := hw_24
    obtain ⟨hfr_26, tn_27, fa_28, hk_29, hk_30, hrel_31, hrel_32⟩ := hw_24
    refine W.eq (g2 := F0 m 66 ls [.int z_25, .ref o]) rfl ?_
    have hTo := hT
    refine T_put (ci := 5) (v := .int z_25) (ty := .int) (t := tI) (C := RX5) (T := TX5) (N := 8) hx hb hts inw_X2_readPlain_5 tyX5 tyX5_ok nmX5 hown hK hP hD hS hT 1 rfl rfl 2 (by decide) (hts (.fieldLink RX2 79 "VatHouse$Step" "number" "I") (by decide +kernel)) (fun _ h9 => h9) rfl (by decide +kernel) rfl rfl rfl ⟨_, rfl⟩ dX2_readPlain_66 (fun f_34 H locs hP hD hS hT hE1 hrd_35 => ?_)
    have hF := Fr.put (a := o) (ci := 5) hF hE ((hE1 o (hT.at 1 rfl).1).2.symm.trans (hT.at 1 rfl).2) (by decide) hrd_35
    have hE := hE.tr hE1
    have hk_36 : rd f_34 h0 2 = .int tn_27 := ((Fr.put (cs := [(5, 2)]) (a := o) (ci := 5) Fr.rf Ext.rf (hTo.at 1 rfl).2 (by decide) hrd_35) h0 (hTo.at 0 rfl).1 2 (hTo.at 0 rfl).2 2 (by decide)).trans hk_29
    have hk_37 : rd f_34 h0 3 = .int fa_28 := ((Fr.put (cs := [(5, 2)]) (a := o) (ci := 5) Fr.rf Ext.rf (hTo.at 1 rfl).2 (by decide) hrd_35) h0 (hTo.at 0 rfl).1 2 (hTo.at 0 rfl).2 3 (by decide)).trans hk_30
    refine lv_goto (tgt := 139) hx hb dX2_readPlain_69 (by decide) ?_
    exact K_v hx hb hr hlocks hP hD hK hS hT hE ⟨rfl, hF, _, _, hk_36, hk_37, trivial, fun h9 => (hrel_16 (hrel_32 h9))⟩ (Nat.le_of_ble_eq_true rfl) (Nat.le_of_ble_eq_true rfl) dX2_readPlain_139
  by_cases c_38 : z_4 = 2
  · refine lv_tableIn (tgt := 139) hx hb dX2_readPlain_4 (by rw [c_38]; decide) (by rw [c_38]; decide) (by rw [c_38]; rfl) (by decide) ?_
    exact K_v hx hb hr hlocks hP hD hK hS hT hE ⟨rfl, hF, _, _, hm_tn, hm_fa, trivial, fun h9 => h9⟩ (Nat.le_of_ble_eq_true rfl) (Nat.le_of_ble_eq_true rfl) dX2_readPlain_139
  by_cases c_39 : z_4 = 3
  · refine lv_tableIn (tgt := 139) hx hb dX2_readPlain_4 (by rw [c_39]; decide) (by rw [c_39]; decide) (by rw [c_39]; rfl) (by decide) ?_
    exact K_v hx hb hr hlocks hP hD hK hS hT hE ⟨rfl, hF, _, _, hm_tn, hm_fa, trivial, fun h9 => h9⟩ (Nat.le_of_ble_eq_true rfl) (Nat.le_of_ble_eq_true rfl) dX2_readPlain_139
  by_cases c_40 : z_4 = 4
  · refine lv_tableIn (tgt := 72) hx hb dX2_readPlain_4 (by rw [c_40]; decide) (by rw [c_40]; decide) (by rw [c_40]; rfl) (by decide) ?_
    refine lv_aload_n hx hb dX2_readPlain_72 rfl (lv_at hl 1 rfl) ?_
    refine lv_aload_n hx hb dX2_readPlain_73 rfl (lv_at hl 0 rfl) ?_
    refine lv_iconst (v := 1) hx hb dX2_readPlain_74 (by decide) ?_
    refine lv_sipush (v := 200) hx hb dX2_readPlain_75 (by decide) ?_
    have hTo := hT
    refine K_V ⟨hx, hb, hml, hown, hts⟩ (t_X2_readNumber l dC dI sa hlt g _ _ h0 1 200 tn fa _ (hT.sub [0] rfl)  hm_tn hm_fa ) (cwV 2 hts gX2_readPlain_X2_readNumber rfl rfl rfl (by decide +kernel) ⟨Nat.le_of_ble_eq_true rfl, Nat.le_of_ble_eq_true rfl⟩) hP hD hK hS hA hev hT 0 2 rfl rfl rfl rfl hl.1 rfl (Nat.le_of_ble_eq_true rfl) dX2_readPlain_78 ⟨Nat.le_of_ble_eq_true rfl, Nat.le_of_ble_eq_true rfl⟩ (fun r L_41 f_42 H locs hw_43 hP hD hS hT hE1 => ?_)
    have hF := Fr.call hF hE hw_43.2.1 (by decide)
    have hE := hE.tr hE1
    obtain ⟨⟨z_44, rfl⟩, hw_43⟩ := hw_43
    obtain ⟨hfr_45, tn_46, fa_47, hk_48, hk_49, hrel_50, hrel_51⟩ := hw_43
    refine W.eq (g2 := F0 m 81 ls [.int z_44, .ref o]) rfl ?_
    have hTo := hT
    refine T_put (ci := 5) (v := .int z_44) (ty := .int) (t := tI) (C := RX5) (T := TX5) (N := 8) hx hb hts inw_X2_readPlain_5 tyX5 tyX5_ok nmX5 hown hK hP hD hS hT 1 rfl rfl 2 (by decide) (hts (.fieldLink RX2 79 "VatHouse$Step" "number" "I") (by decide +kernel)) (fun _ h9 => h9) rfl (by decide +kernel) rfl rfl rfl ⟨_, rfl⟩ dX2_readPlain_81 (fun f_53 H locs hP hD hS hT hE1 hrd_54 => ?_)
    have hF := Fr.put (a := o) (ci := 5) hF hE ((hE1 o (hT.at 1 rfl).1).2.symm.trans (hT.at 1 rfl).2) (by decide) hrd_54
    have hE := hE.tr hE1
    have hk_55 : rd f_53 h0 2 = .int tn_46 := ((Fr.put (cs := [(5, 2)]) (a := o) (ci := 5) Fr.rf Ext.rf (hTo.at 1 rfl).2 (by decide) hrd_54) h0 (hTo.at 0 rfl).1 2 (hTo.at 0 rfl).2 2 (by decide)).trans hk_48
    have hk_56 : rd f_53 h0 3 = .int fa_47 := ((Fr.put (cs := [(5, 2)]) (a := o) (ci := 5) Fr.rf Ext.rf (hTo.at 1 rfl).2 (by decide) hrd_54) h0 (hTo.at 0 rfl).1 2 (hTo.at 0 rfl).2 3 (by decide)).trans hk_49
    refine lv_goto (tgt := 139) hx hb dX2_readPlain_84 (by decide) ?_
    exact K_v hx hb hr hlocks hP hD hK hS hT hE ⟨rfl, hF, _, _, hk_55, hk_56, trivial, fun h9 => (hrel_51 h9)⟩ (Nat.le_of_ble_eq_true rfl) (Nat.le_of_ble_eq_true rfl) dX2_readPlain_139
  by_cases c_57 : z_4 = 5
  · refine lv_tableIn (tgt := 87) hx hb dX2_readPlain_4 (by rw [c_57]; decide) (by rw [c_57]; decide) (by rw [c_57]; rfl) (by decide) ?_
    refine lv_aload_n hx hb dX2_readPlain_87 rfl (lv_at hl 1 rfl) ?_
    refine lv_aload_n hx hb dX2_readPlain_88 rfl (lv_at hl 0 rfl) ?_
    refine lv_iconst (v := 0) hx hb dX2_readPlain_89 (by decide) ?_
    refine lv_iconst (v := 5) hx hb dX2_readPlain_90 (by decide) ?_
    have hTo := hT
    refine K_V ⟨hx, hb, hml, hown, hts⟩ (t_X2_readNumber l dC dI sa hlt g _ _ h0 0 5 tn fa _ (hT.sub [0] rfl)  hm_tn hm_fa ) (cwV 2 hts gX2_readPlain_X2_readNumber rfl rfl rfl (by decide +kernel) ⟨Nat.le_of_ble_eq_true rfl, Nat.le_of_ble_eq_true rfl⟩) hP hD hK hS hA hev hT 0 2 rfl rfl rfl rfl hl.1 rfl (Nat.le_of_ble_eq_true rfl) dX2_readPlain_91 ⟨Nat.le_of_ble_eq_true rfl, Nat.le_of_ble_eq_true rfl⟩ (fun r L_58 f_59 H locs hw_60 hP hD hS hT hE1 => ?_)
    have hF := Fr.call hF hE hw_60.2.1 (by decide)
    have hE := hE.tr hE1
    obtain ⟨⟨z_61, rfl⟩, hw_60⟩ := hw_60
    obtain ⟨hfr_62, tn_63, fa_64, hk_65, hk_66, hrel_67, hrel_68⟩ := hw_60
    refine W.eq (g2 := F0 m 94 ls [.int z_61, .ref o]) rfl ?_
    have hTo := hT
    refine T_put (ci := 5) (v := .int z_61) (ty := .int) (t := tI) (C := RX5) (T := TX5) (N := 8) hx hb hts inw_X2_readPlain_5 tyX5 tyX5_ok nmX5 hown hK hP hD hS hT 1 rfl rfl 1 (by decide) (hts (.fieldLink RX2 76 "VatHouse$Step" "vat" "I") (by decide +kernel)) (fun _ h9 => h9) rfl (by decide +kernel) rfl rfl rfl ⟨_, rfl⟩ dX2_readPlain_94 (fun f_70 H locs hP hD hS hT hE1 hrd_71 => ?_)
    have hF := Fr.put (a := o) (ci := 5) hF hE ((hE1 o (hT.at 1 rfl).1).2.symm.trans (hT.at 1 rfl).2) (by decide) hrd_71
    have hE := hE.tr hE1
    have hk_72 : rd f_70 h0 2 = .int tn_63 := ((Fr.put (cs := [(5, 1)]) (a := o) (ci := 5) Fr.rf Ext.rf (hTo.at 1 rfl).2 (by decide) hrd_71) h0 (hTo.at 0 rfl).1 2 (hTo.at 0 rfl).2 2 (by decide)).trans hk_65
    have hk_73 : rd f_70 h0 3 = .int fa_64 := ((Fr.put (cs := [(5, 1)]) (a := o) (ci := 5) Fr.rf Ext.rf (hTo.at 1 rfl).2 (by decide) hrd_71) h0 (hTo.at 0 rfl).1 2 (hTo.at 0 rfl).2 3 (by decide)).trans hk_66
    refine lv_aload_n hx hb dX2_readPlain_97 rfl (lv_at hl 1 rfl) ?_
    refine lv_aload_n hx hb dX2_readPlain_98 rfl (lv_at hl 0 rfl) ?_
    refine lv_iconst (v := 1) hx hb dX2_readPlain_99 (by decide) ?_
    refine lv_sipush (v := 1000) hx hb dX2_readPlain_100 (by decide) ?_
    have hTo := hT
    refine K_V ⟨hx, hb, hml, hown, hts⟩ (t_X2_readNumber l dC dI sa hlt g _ _ h0 1 1000 tn_63 fa_64 _ (hT.sub [0] rfl)  hk_72 hk_73 ) (cwV 2 hts gX2_readPlain_X2_readNumber rfl rfl rfl (by decide +kernel) ⟨Nat.le_of_ble_eq_true rfl, Nat.le_of_ble_eq_true rfl⟩) hP hD hK hS hA hev hT 0 2 rfl rfl rfl rfl hl.1 rfl (Nat.le_of_ble_eq_true rfl) dX2_readPlain_103 ⟨Nat.le_of_ble_eq_true rfl, Nat.le_of_ble_eq_true rfl⟩ (fun r L_74 f_75 H locs hw_76 hP hD hS hT hE1 => ?_)
    have hF := Fr.call hF hE hw_76.2.1 (by decide)
    have hE := hE.tr hE1
    obtain ⟨⟨z_77, rfl⟩, hw_76⟩ := hw_76
    obtain ⟨hfr_78, tn_79, fa_80, hk_81, hk_82, hrel_83, hrel_84⟩ := hw_76
    refine W.eq (g2 := F0 m 106 ls [.int z_77, .ref o]) rfl ?_
    have hTo := hT
    refine T_put (ci := 5) (v := .int z_77) (ty := .int) (t := tI) (C := RX5) (T := TX5) (N := 8) hx hb hts inw_X2_readPlain_5 tyX5 tyX5_ok nmX5 hown hK hP hD hS hT 1 rfl rfl 2 (by decide) (hts (.fieldLink RX2 79 "VatHouse$Step" "number" "I") (by decide +kernel)) (fun _ h9 => h9) rfl (by decide +kernel) rfl rfl rfl ⟨_, rfl⟩ dX2_readPlain_106 (fun f_86 H locs hP hD hS hT hE1 hrd_87 => ?_)
    have hF := Fr.put (a := o) (ci := 5) hF hE ((hE1 o (hT.at 1 rfl).1).2.symm.trans (hT.at 1 rfl).2) (by decide) hrd_87
    have hE := hE.tr hE1
    have hk_88 : rd f_86 h0 2 = .int tn_79 := ((Fr.put (cs := [(5, 2)]) (a := o) (ci := 5) Fr.rf Ext.rf (hTo.at 1 rfl).2 (by decide) hrd_87) h0 (hTo.at 0 rfl).1 2 (hTo.at 0 rfl).2 2 (by decide)).trans hk_81
    have hk_89 : rd f_86 h0 3 = .int fa_80 := ((Fr.put (cs := [(5, 2)]) (a := o) (ci := 5) Fr.rf Ext.rf (hTo.at 1 rfl).2 (by decide) hrd_87) h0 (hTo.at 0 rfl).1 2 (hTo.at 0 rfl).2 3 (by decide)).trans hk_82
    refine lv_goto (tgt := 139) hx hb dX2_readPlain_109 (by decide) ?_
    exact K_v hx hb hr hlocks hP hD hK hS hT hE ⟨rfl, hF, _, _, hk_88, hk_89, trivial, fun h9 => (hrel_68 (hrel_84 h9))⟩ (Nat.le_of_ble_eq_true rfl) (Nat.le_of_ble_eq_true rfl) dX2_readPlain_139
  by_cases c_90 : z_4 = 6
  · refine lv_tableIn (tgt := 112) hx hb dX2_readPlain_4 (by rw [c_90]; decide) (by rw [c_90]; decide) (by rw [c_90]; rfl) (by decide) ?_
    refine lv_aload_n hx hb dX2_readPlain_112 rfl (lv_at hl 1 rfl) ?_
    refine lv_aload_n hx hb dX2_readPlain_113 rfl (lv_at hl 0 rfl) ?_
    refine lv_iconst (v := 0) hx hb dX2_readPlain_114 (by decide) ?_
    refine lv_iconst (v := 5) hx hb dX2_readPlain_115 (by decide) ?_
    have hTo := hT
    refine K_V ⟨hx, hb, hml, hown, hts⟩ (t_X2_readNumber l dC dI sa hlt g _ _ h0 0 5 tn fa _ (hT.sub [0] rfl)  hm_tn hm_fa ) (cwV 2 hts gX2_readPlain_X2_readNumber rfl rfl rfl (by decide +kernel) ⟨Nat.le_of_ble_eq_true rfl, Nat.le_of_ble_eq_true rfl⟩) hP hD hK hS hA hev hT 0 2 rfl rfl rfl rfl hl.1 rfl (Nat.le_of_ble_eq_true rfl) dX2_readPlain_116 ⟨Nat.le_of_ble_eq_true rfl, Nat.le_of_ble_eq_true rfl⟩ (fun r L_91 f_92 H locs hw_93 hP hD hS hT hE1 => ?_)
    have hF := Fr.call hF hE hw_93.2.1 (by decide)
    have hE := hE.tr hE1
    obtain ⟨⟨z_94, rfl⟩, hw_93⟩ := hw_93
    obtain ⟨hfr_95, tn_96, fa_97, hk_98, hk_99, hrel_100, hrel_101⟩ := hw_93
    refine W.eq (g2 := F0 m 119 ls [.int z_94, .ref o]) rfl ?_
    have hTo := hT
    refine T_put (ci := 5) (v := .int z_94) (ty := .int) (t := tI) (C := RX5) (T := TX5) (N := 8) hx hb hts inw_X2_readPlain_5 tyX5 tyX5_ok nmX5 hown hK hP hD hS hT 1 rfl rfl 1 (by decide) (hts (.fieldLink RX2 76 "VatHouse$Step" "vat" "I") (by decide +kernel)) (fun _ h9 => h9) rfl (by decide +kernel) rfl rfl rfl ⟨_, rfl⟩ dX2_readPlain_119 (fun f_103 H locs hP hD hS hT hE1 hrd_104 => ?_)
    have hF := Fr.put (a := o) (ci := 5) hF hE ((hE1 o (hT.at 1 rfl).1).2.symm.trans (hT.at 1 rfl).2) (by decide) hrd_104
    have hE := hE.tr hE1
    have hk_105 : rd f_103 h0 2 = .int tn_96 := ((Fr.put (cs := [(5, 1)]) (a := o) (ci := 5) Fr.rf Ext.rf (hTo.at 1 rfl).2 (by decide) hrd_104) h0 (hTo.at 0 rfl).1 2 (hTo.at 0 rfl).2 2 (by decide)).trans hk_98
    have hk_106 : rd f_103 h0 3 = .int fa_97 := ((Fr.put (cs := [(5, 1)]) (a := o) (ci := 5) Fr.rf Ext.rf (hTo.at 1 rfl).2 (by decide) hrd_104) h0 (hTo.at 0 rfl).1 2 (hTo.at 0 rfl).2 3 (by decide)).trans hk_99
    refine lv_goto (tgt := 139) hx hb dX2_readPlain_122 (by decide) ?_
    exact K_v hx hb hr hlocks hP hD hK hS hT hE ⟨rfl, hF, _, _, hk_105, hk_106, trivial, fun h9 => (hrel_101 h9)⟩ (Nat.le_of_ble_eq_true rfl) (Nat.le_of_ble_eq_true rfl) dX2_readPlain_139
  by_cases c_107 : z_4 = 7
  · refine lv_tableIn (tgt := 125) hx hb dX2_readPlain_4 (by rw [c_107]; decide) (by rw [c_107]; decide) (by rw [c_107]; rfl) (by decide) ?_
    refine lv_aload_n hx hb dX2_readPlain_125 rfl (lv_at hl 1 rfl) ?_
    refine lv_aload_n hx hb dX2_readPlain_126 rfl (lv_at hl 0 rfl) ?_
    refine lv_iconst (v := 1) hx hb dX2_readPlain_127 (by decide) ?_
    refine lv_bipush (v := 99) hx hb dX2_readPlain_128 (by decide) ?_
    have hTo := hT
    refine K_V ⟨hx, hb, hml, hown, hts⟩ (t_X2_readNumber l dC dI sa hlt g _ _ h0 1 99 tn fa _ (hT.sub [0] rfl)  hm_tn hm_fa ) (cwV 2 hts gX2_readPlain_X2_readNumber rfl rfl rfl (by decide +kernel) ⟨Nat.le_of_ble_eq_true rfl, Nat.le_of_ble_eq_true rfl⟩) hP hD hK hS hA hev hT 0 2 rfl rfl rfl rfl hl.1 rfl (Nat.le_of_ble_eq_true rfl) dX2_readPlain_130 ⟨Nat.le_of_ble_eq_true rfl, Nat.le_of_ble_eq_true rfl⟩ (fun r L_108 f_109 H locs hw_110 hP hD hS hT hE1 => ?_)
    have hF := Fr.call hF hE hw_110.2.1 (by decide)
    have hE := hE.tr hE1
    obtain ⟨⟨z_111, rfl⟩, hw_110⟩ := hw_110
    obtain ⟨hfr_112, tn_113, fa_114, hk_115, hk_116, hrel_117, hrel_118⟩ := hw_110
    refine W.eq (g2 := F0 m 133 ls [.int z_111, .ref o]) rfl ?_
    have hTo := hT
    refine T_put (ci := 5) (v := .int z_111) (ty := .int) (t := tI) (C := RX5) (T := TX5) (N := 8) hx hb hts inw_X2_readPlain_5 tyX5 tyX5_ok nmX5 hown hK hP hD hS hT 1 rfl rfl 2 (by decide) (hts (.fieldLink RX2 79 "VatHouse$Step" "number" "I") (by decide +kernel)) (fun _ h9 => h9) rfl (by decide +kernel) rfl rfl rfl ⟨_, rfl⟩ dX2_readPlain_133 (fun f_120 H locs hP hD hS hT hE1 hrd_121 => ?_)
    have hF := Fr.put (a := o) (ci := 5) hF hE ((hE1 o (hT.at 1 rfl).1).2.symm.trans (hT.at 1 rfl).2) (by decide) hrd_121
    have hE := hE.tr hE1
    have hk_122 : rd f_120 h0 2 = .int tn_113 := ((Fr.put (cs := [(5, 2)]) (a := o) (ci := 5) Fr.rf Ext.rf (hTo.at 1 rfl).2 (by decide) hrd_121) h0 (hTo.at 0 rfl).1 2 (hTo.at 0 rfl).2 2 (by decide)).trans hk_115
    have hk_123 : rd f_120 h0 3 = .int fa_114 := ((Fr.put (cs := [(5, 2)]) (a := o) (ci := 5) Fr.rf Ext.rf (hTo.at 1 rfl).2 (by decide) hrd_121) h0 (hTo.at 0 rfl).1 2 (hTo.at 0 rfl).2 3 (by decide)).trans hk_116
    refine lv_goto (tgt := 139) hx hb dX2_readPlain_136 (by decide) ?_
    exact K_v hx hb hr hlocks hP hD hK hS hT hE ⟨rfl, hF, _, _, hk_122, hk_123, trivial, fun h9 => (hrel_118 h9)⟩ (Nat.le_of_ble_eq_true rfl) (Nat.le_of_ble_eq_true rfl) dX2_readPlain_139
  refine lv_tableOut (tgt := 139) hx hb dX2_readPlain_4 (tab_out_1_7 c_5 c_38 c_39 c_40 c_57 c_90 c_107) (by decide) ?_
  exact K_v hx hb hr hlocks hP hD hK hS hT hE ⟨rfl, hF, _, _, hm_tn, hm_fa, trivial, fun h9 => h9⟩ (Nat.le_of_ble_eq_true rfl) (Nat.le_of_ble_eq_true rfl) dX2_readPlain_139

abbrev rm_X2_readTest : Room := { frames := 3, cells := 0, slots := 0, locals := 65 }
theorem inw_X2_readTest_2 : ∀ w ∈ wsX20, w ∈ wsX2_readTest := by decide +kernel
theorem inw_X2_readTest_5 : ∀ w ∈ wsX50, w ∈ wsX2_readTest := by decide +kernel
set_option maxHeartbeats 800000 in
set_option maxRecDepth 100000 in
theorem t_X2_readTest (l : Launch) (dC : Nat → ClassId) (dI : Nat → Nat → Nat) (sa : Nat → Nat) (hlt : l.stackTraces = false) (g : Nat → Nat) (L : List Nat) (f : Nat → va_E) (h0 : Nat) (o : Nat) (tn : Int32) (fa : Int32) (sz : Nat) (hT : TP g L f [(h0, (0, 2, 0)), (o, (0, 5, 0))]) (hm_tn : rd f h0 2 = .int tn) (hm_fa : rd f h0 3 = .int fa) : KC l dC dI sa g yX2_readTest wsX2_readTest rm_X2_readTest [.ref h0, .ref o] L f sz (fun r L' f' => (r = none) ∧ Fr [(2, 1), (2, 2), (2, 3), (2, 4), (5, 0), (5, 1), (5, 2), (5, 3), (5, 4), (5, 5), (5, 6), (5, 7)] L f f' ∧ (∃ tn' : Int32, ∃ fa' : Int32, rd f' h0 2 = .int tn' ∧ rd f' h0 3 = .int fa' ∧ (True) ∧ (fa' = 0 → fa = 0))) 0 0 := by
  refine CT.start (cc := cX2_readTest) (maxL := 2) (ret := none) (by decide) rfl (Nat.le_of_ble_eq_true rfl) ?_
  intro p e s m below meth c ls hst hP hK hD hev hS hl
  obtain ⟨hx, hb, hr, hml, hts, hown, hlocks, hin⟩ := hst
  have hown : s.vm.findClass RX2 = some m.cls := hown
  have hin : meth.name = yX2_readTest.name := hin
  have hA : ∀ q : Nat, s.heap.size ≤ q → va_A (va_pl L f) s.heap.size q := fun _ h => Or.inr h
  have hE : Ext L f L f := Ext.rf
  have hF : Fr [(2, 1), (2, 2), (2, 3), (2, 4), (5, 0), (5, 1), (5, 2), (5, 3), (5, 4), (5, 5), (5, 6), (5, 7)] L f f := Fr.rf
  have hl : lv_has ls 2 [(0, .ref h0), (1, .ref o)] := hl
  refine lv_aload_n hx hb dX2_readTest_0 rfl (lv_at hl 0 rfl) ?_
  refine T_get (ci := 2) (C := RX2) (T := TX2) (N := 6) (t := tI) hx hb hts inw_X2_readTest_2 hown hK hP hT 0 rfl rfl 2 (by decide) (hts (.fieldLink RX2 44 "VatHouse$Reader" "token" "I") (by decide +kernel)) (fun _ h9 => h9) rfl dX2_readTest_1 (fun v_3 hv_1 hr_2 => ?_)
  obtain rfl : v_3 = .int tn := hr_2.symm.trans hm_tn
  refine lv_bipush (v := 15) hx hb dX2_readTest_4 (by decide) ?_
  refine lv_icmp_lt (tgt := 18) hx hb dX2_readTest_6 (by decide) (fun c_4 => ?_) (fun c_4 => ?_)
  · refine lv_aload_n hx hb dX2_readTest_18 rfl (lv_at hl 0 rfl) ?_
    refine lv_iconst (v := 1) hx hb dX2_readTest_19 (by decide) ?_
    have hTo := hT
    refine K_V ⟨hx, hb, hml, hown, hts⟩ (t_X2_refuse l dC dI sa hlt g _ _ h0 1 fa _ (hT.sub [0] rfl)  hm_fa (by decide)) (cwV 1 hts gX2_readTest_X2_refuse rfl rfl rfl (by decide +kernel) ⟨Nat.le_of_ble_eq_true rfl, Nat.le_of_ble_eq_true rfl⟩) hP hD hK hS hA hev hT 0 2 rfl rfl rfl rfl hl.1 rfl (Nat.le_of_ble_eq_true rfl) dX2_readTest_20 ⟨Nat.le_of_ble_eq_true rfl, Nat.le_of_ble_eq_true rfl⟩ (fun r L_5 f_6 H locs hw_7 hP hD hS hT hE1 => ?_)
    have hF := Fr.call hF hE hw_7.2.1 (by decide)
    have hE := hE.tr hE1
    obtain ⟨rfl, hw_7⟩ := hw_7
    obtain ⟨hfr_8, fa_9, hk_10, hrel_11⟩ := hw_7
    have hk_13 : rd f_6 h0 2 = .int tn := (hfr_8 h0 (hTo.at 0 rfl).1 2 (hTo.at 0 rfl).2 2 (by decide)).trans hm_tn
    refine W.eq (g2 := F0 m 23 ls []) rfl ?_
    refine lv_aload_n hx hb dX2_readTest_23 rfl (lv_at hl 1 rfl) ?_
    refine lv_aload_n hx hb dX2_readTest_24 rfl (lv_at hl 0 rfl) ?_
    refine T_get (ci := 2) (C := RX2) (T := TX2) (N := 6) (t := tI) hx hb hts inw_X2_readTest_2 hown hK hP hT 0 rfl rfl 2 (by decide) (hts (.fieldLink RX2 44 "VatHouse$Reader" "token" "I") (by decide +kernel)) (fun _ h9 => h9) rfl dX2_readTest_25 (fun v_16 hv_14 hr_15 => ?_)
    obtain rfl : v_16 = .int tn := hr_15.symm.trans hk_13
    have hTo := hT
    refine T_put (ci := 5) (v := .int tn) (ty := .int) (t := tI) (C := RX5) (T := TX5) (N := 8) hx hb hts inw_X2_readTest_5 tyX5 tyX5_ok nmX5 hown hK hP hD hS hT 1 rfl rfl 3 (by decide) (hts (.fieldLink RX2 94 "VatHouse$Step" "look" "I") (by decide +kernel)) (fun _ h9 => h9) rfl (by decide +kernel) rfl rfl rfl ⟨_, rfl⟩ dX2_readTest_28 (fun f_17 H locs hP hD hS hT hE1 hrd_18 => ?_)
    have hF := Fr.put (a := o) (ci := 5) hF hE ((hE1 o (hT.at 1 rfl).1).2.symm.trans (hT.at 1 rfl).2) (by decide) hrd_18
    have hE := hE.tr hE1
    have hk_19 : rd f_17 h0 2 = .int tn := ((Fr.put (cs := [(5, 3)]) (a := o) (ci := 5) Fr.rf Ext.rf (hTo.at 1 rfl).2 (by decide) hrd_18) h0 (hTo.at 0 rfl).1 2 (hTo.at 0 rfl).2 2 (by decide)).trans hk_13
    have hk_20 : rd f_17 h0 3 = .int fa_9 := ((Fr.put (cs := [(5, 3)]) (a := o) (ci := 5) Fr.rf Ext.rf (hTo.at 1 rfl).2 (by decide) hrd_18) h0 (hTo.at 0 rfl).1 2 (hTo.at 0 rfl).2 3 (by decide)).trans hk_10
    refine lv_aload_n hx hb dX2_readTest_31 rfl (lv_at hl 0 rfl) ?_
    refine lv_aload_n hx hb dX2_readTest_32 rfl (lv_at hl 0 rfl) ?_
    refine T_get (ci := 2) (C := RX2) (T := TX2) (N := 6) (t := tI) hx hb hts inw_X2_readTest_2 hown hK hP hT 0 rfl rfl 2 (by decide) (hts (.fieldLink RX2 44 "VatHouse$Reader" "token" "I") (by decide +kernel)) (fun _ h9 => h9) rfl dX2_readTest_33 (fun v_23 hv_21 hr_22 => ?_)
    obtain rfl : v_23 = .int tn := hr_22.symm.trans hk_19
    have hTo := hT
    refine K_V ⟨hx, hb, hml, hown, hts⟩ (t_X2_pass l dC dI sa hlt g _ _ h0 tn tn fa_9 _ (hT.sub [0] rfl)  hk_19 hk_20 ) (cwV 1 hts gX2_readTest_X2_pass rfl rfl rfl (by decide +kernel) ⟨Nat.le_of_ble_eq_true rfl, Nat.le_of_ble_eq_true rfl⟩) hP hD hK hS hA hev hT 0 2 rfl rfl rfl rfl hl.1 rfl (Nat.le_of_ble_eq_true rfl) dX2_readTest_36 ⟨Nat.le_of_ble_eq_true rfl, Nat.le_of_ble_eq_true rfl⟩ (fun r L_24 f_25 H locs hw_26 hP hD hS hT hE1 => ?_)
    have hF := Fr.call hF hE hw_26.2.1 (by decide)
    have hE := hE.tr hE1
    obtain ⟨rfl, hw_26⟩ := hw_26
    obtain ⟨hfr_27, tn_28, fa_29, hk_30, hk_31, hrel_32, hrel_33⟩ := hw_26
    refine W.eq (g2 := F0 m 39 ls []) rfl ?_
    refine lv_aload_n hx hb dX2_readTest_39 rfl (lv_at hl 1 rfl) ?_
    refine T_get (ci := 5) (C := RX5) (T := TX5) (N := 8) (t := tI) hx hb hts inw_X2_readTest_5 hown hK hP hT 1 rfl rfl 3 (by decide) (hts (.fieldLink RX2 94 "VatHouse$Step" "look" "I") (by decide +kernel)) (fun _ h9 => h9) rfl dX2_readTest_40 (fun v_37 hv_35 hr_36 => ?_)
    obtain ⟨z_38, rfl⟩ := hv_35
    refine lv_bipush (v := 17) hx hb dX2_readTest_43 (by decide) ?_
    refine lv_icmp_eq (tgt := 57) hx hb dX2_readTest_45 (by decide) (fun c_39 => ?_) (fun c_39 => ?_)
    · refine lv_aload_n hx hb dX2_readTest_57 rfl (lv_at hl 1 rfl) ?_
      refine lv_aload_n hx hb dX2_readTest_58 rfl (lv_at hl 0 rfl) ?_
      refine lv_iconst (v := 0) hx hb dX2_readTest_59 (by decide) ?_
      refine lv_iconst (v := 5) hx hb dX2_readTest_60 (by decide) ?_
      have hTo := hT
      refine K_V ⟨hx, hb, hml, hown, hts⟩ (t_X2_readNumber l dC dI sa hlt g _ _ h0 0 5 tn_28 fa_29 _ (hT.sub [0] rfl)  hk_30 hk_31 ) (cwV 2 hts gX2_readTest_X2_readNumber rfl rfl rfl (by decide +kernel) ⟨Nat.le_of_ble_eq_true rfl, Nat.le_of_ble_eq_true rfl⟩) hP hD hK hS hA hev hT 0 2 rfl rfl rfl rfl hl.1 rfl (Nat.le_of_ble_eq_true rfl) dX2_readTest_61 ⟨Nat.le_of_ble_eq_true rfl, Nat.le_of_ble_eq_true rfl⟩ (fun r L_40 f_41 H locs hw_42 hP hD hS hT hE1 => ?_)
      have hF := Fr.call hF hE hw_42.2.1 (by decide)
      have hE := hE.tr hE1
      obtain ⟨⟨z_43, rfl⟩, hw_42⟩ := hw_42
      obtain ⟨hfr_44, tn_45, fa_46, hk_47, hk_48, hrel_49, hrel_50⟩ := hw_42
      refine W.eq (g2 := F0 m 64 ls [.int z_43, .ref o]) rfl ?_
      have hTo := hT
      refine T_put (ci := 5) (v := .int z_43) (ty := .int) (t := tI) (C := RX5) (T := TX5) (N := 8) hx hb hts inw_X2_readTest_5 tyX5 tyX5_ok nmX5 hown hK hP hD hS hT 1 rfl rfl 1 (by decide) (hts (.fieldLink RX2 76 "VatHouse$Step" "vat" "I") (by decide +kernel)) (fun _ h9 => h9) rfl (by decide +kernel) rfl rfl rfl ⟨_, rfl⟩ dX2_readTest_64 (fun f_52 H locs hP hD hS hT hE1 hrd_53 => ?_)
      have hF := Fr.put (a := o) (ci := 5) hF hE ((hE1 o (hT.at 1 rfl).1).2.symm.trans (hT.at 1 rfl).2) (by decide) hrd_53
      have hE := hE.tr hE1
      have hk_54 : rd f_52 h0 2 = .int tn_45 := ((Fr.put (cs := [(5, 1)]) (a := o) (ci := 5) Fr.rf Ext.rf (hTo.at 1 rfl).2 (by decide) hrd_53) h0 (hTo.at 0 rfl).1 2 (hTo.at 0 rfl).2 2 (by decide)).trans hk_47
      have hk_55 : rd f_52 h0 3 = .int fa_46 := ((Fr.put (cs := [(5, 1)]) (a := o) (ci := 5) Fr.rf Ext.rf (hTo.at 1 rfl).2 (by decide) hrd_53) h0 (hTo.at 0 rfl).1 2 (hTo.at 0 rfl).2 3 (by decide)).trans hk_48
      refine lv_aload_n hx hb dX2_readTest_67 rfl (lv_at hl 1 rfl) ?_
      refine lv_aload_n hx hb dX2_readTest_68 rfl (lv_at hl 0 rfl) ?_
      refine T_get (ci := 2) (C := RX2) (T := TX2) (N := 6) (t := tI) hx hb hts inw_X2_readTest_2 hown hK hP hT 0 rfl rfl 2 (by decide) (hts (.fieldLink RX2 44 "VatHouse$Reader" "token" "I") (by decide +kernel)) (fun _ h9 => h9) rfl dX2_readTest_69 (fun v_58 hv_56 hr_57 => ?_)
      obtain rfl : v_58 = .int tn_45 := hr_57.symm.trans hk_54
      refine lv_bipush (v := 60) hx hb dX2_readTest_72 (by decide) ?_
      refine lv_icmp_ne (tgt := 81) hx hb dX2_readTest_74 (by decide) (fun c_59 => ?_) (fun c_59 => ?_)
      · refine lv_iconst (v := 0) hx hb dX2_readTest_81 (by decide) ?_
        have hTo := hT
        refine T_put (ci := 5) (v := .int 0) (ty := .boolean) (t := tI) (C := RX5) (T := TX5) (N := 8) hx hb hts inw_X2_readTest_5 tyX5 tyX5_ok nmX5 hown hK hP hD hS hT 1 rfl rfl 4 (by decide) (hts (.fieldLink RX2 97 "VatHouse$Step" "below" "Z") (by decide +kernel)) (fun _ h9 => h9) rfl (by decide +kernel) rfl rfl rfl ⟨_, rfl⟩ dX2_readTest_82 (fun f_60 H locs hP hD hS hT hE1 hrd_61 => ?_)
        have hF := Fr.put (a := o) (ci := 5) hF hE ((hE1 o (hT.at 1 rfl).1).2.symm.trans (hT.at 1 rfl).2) (by decide) hrd_61
        have hE := hE.tr hE1
        have hk_62 : rd f_60 h0 2 = .int tn_45 := ((Fr.put (cs := [(5, 4)]) (a := o) (ci := 5) Fr.rf Ext.rf (hTo.at 1 rfl).2 (by decide) hrd_61) h0 (hTo.at 0 rfl).1 2 (hTo.at 0 rfl).2 2 (by decide)).trans hk_54
        have hk_63 : rd f_60 h0 3 = .int fa_46 := ((Fr.put (cs := [(5, 4)]) (a := o) (ci := 5) Fr.rf Ext.rf (hTo.at 1 rfl).2 (by decide) hrd_61) h0 (hTo.at 0 rfl).1 2 (hTo.at 0 rfl).2 3 (by decide)).trans hk_55
        refine lv_aload_n hx hb dX2_readTest_85 rfl (lv_at hl 0 rfl) ?_
        refine lv_aload_n hx hb dX2_readTest_86 rfl (lv_at hl 1 rfl) ?_
        refine T_get (ci := 5) (C := RX5) (T := TX5) (N := 8) (t := tI) hx hb hts inw_X2_readTest_5 hown hK hP hT 1 rfl rfl 4 (by decide) (hts (.fieldLink RX2 97 "VatHouse$Step" "below" "Z") (by decide +kernel)) (fun _ h9 => h9) rfl dX2_readTest_87 (fun v_66 hv_64 hr_65 => ?_)
        obtain ⟨z_67, rfl⟩ := hv_64
        refine lv_if_eq (tgt := 98) hx hb dX2_readTest_90 (by decide) (fun c_68 => ?_) (fun c_68 => ?_)
        · refine lv_bipush (v := 61) hx hb dX2_readTest_98 (by decide) ?_
          have hTo := hT
          refine K_V ⟨hx, hb, hml, hown, hts⟩ (t_X2_pass l dC dI sa hlt g _ _ h0 61 tn_45 fa_46 _ (hT.sub [0] rfl)  hk_62 hk_63 ) (cwV 1 hts gX2_readTest_X2_pass rfl rfl rfl (by decide +kernel) ⟨Nat.le_of_ble_eq_true rfl, Nat.le_of_ble_eq_true rfl⟩) hP hD hK hS hA hev hT 0 2 rfl rfl rfl rfl hl.1 rfl (Nat.le_of_ble_eq_true rfl) dX2_readTest_100 ⟨Nat.le_of_ble_eq_true rfl, Nat.le_of_ble_eq_true rfl⟩ (fun r L_69 f_70 H locs hw_71 hP hD hS hT hE1 => ?_)
          have hF := Fr.call hF hE hw_71.2.1 (by decide)
          have hE := hE.tr hE1
          obtain ⟨rfl, hw_71⟩ := hw_71
          obtain ⟨hfr_72, tn_73, fa_74, hk_75, hk_76, hrel_77, hrel_78⟩ := hw_71
          refine W.eq (g2 := F0 m 103 ls []) rfl ?_
          refine lv_aload_n hx hb dX2_readTest_103 rfl (lv_at hl 1 rfl) ?_
          refine lv_aload_n hx hb dX2_readTest_104 rfl (lv_at hl 0 rfl) ?_
          refine lv_iconst (v := 0) hx hb dX2_readTest_105 (by decide) ?_
          refine lv_sipush (v := 9999) hx hb dX2_readTest_106 (by decide) ?_
          have hTo := hT
          refine K_V ⟨hx, hb, hml, hown, hts⟩ (t_X2_readNumber l dC dI sa hlt g _ _ h0 0 9999 tn_73 fa_74 _ (hT.sub [0] rfl)  hk_75 hk_76 ) (cwV 2 hts gX2_readTest_X2_readNumber rfl rfl rfl (by decide +kernel) ⟨Nat.le_of_ble_eq_true rfl, Nat.le_of_ble_eq_true rfl⟩) hP hD hK hS hA hev hT 0 2 rfl rfl rfl rfl hl.1 rfl (Nat.le_of_ble_eq_true rfl) dX2_readTest_109 ⟨Nat.le_of_ble_eq_true rfl, Nat.le_of_ble_eq_true rfl⟩ (fun r L_80 f_81 H locs hw_82 hP hD hS hT hE1 => ?_)
          have hF := Fr.call hF hE hw_82.2.1 (by decide)
          have hE := hE.tr hE1
          obtain ⟨⟨z_83, rfl⟩, hw_82⟩ := hw_82
          obtain ⟨hfr_84, tn_85, fa_86, hk_87, hk_88, hrel_89, hrel_90⟩ := hw_82
          refine W.eq (g2 := F0 m 112 ls [.int z_83, .ref o]) rfl ?_
          have hTo := hT
          refine T_put (ci := 5) (v := .int z_83) (ty := .int) (t := tI) (C := RX5) (T := TX5) (N := 8) hx hb hts inw_X2_readTest_5 tyX5 tyX5_ok nmX5 hown hK hP hD hS hT 1 rfl rfl 2 (by decide) (hts (.fieldLink RX2 79 "VatHouse$Step" "number" "I") (by decide +kernel)) (fun _ h9 => h9) rfl (by decide +kernel) rfl rfl rfl ⟨_, rfl⟩ dX2_readTest_112 (fun f_92 H locs hP hD hS hT hE1 hrd_93 => ?_)
          have hF := Fr.put (a := o) (ci := 5) hF hE ((hE1 o (hT.at 1 rfl).1).2.symm.trans (hT.at 1 rfl).2) (by decide) hrd_93
          have hE := hE.tr hE1
          have hk_94 : rd f_92 h0 2 = .int tn_85 := ((Fr.put (cs := [(5, 2)]) (a := o) (ci := 5) Fr.rf Ext.rf (hTo.at 1 rfl).2 (by decide) hrd_93) h0 (hTo.at 0 rfl).1 2 (hTo.at 0 rfl).2 2 (by decide)).trans hk_87
          have hk_95 : rd f_92 h0 3 = .int fa_86 := ((Fr.put (cs := [(5, 2)]) (a := o) (ci := 5) Fr.rf Ext.rf (hTo.at 1 rfl).2 (by decide) hrd_93) h0 (hTo.at 0 rfl).1 2 (hTo.at 0 rfl).2 3 (by decide)).trans hk_88
          exact K_v hx hb hr hlocks hP hD hK hS hT hE ⟨rfl, hF, _, _, hk_94, hk_95, trivial, fun h9 => (absurd ((hrel_33 (hrel_50 ((hrel_78 (hrel_90 h9)).1))).1) hrel_11)⟩ (Nat.le_of_ble_eq_true rfl) (Nat.le_of_ble_eq_true rfl) dX2_readTest_115
        · refine lv_bipush (v := 60) hx hb dX2_readTest_93 (by decide) ?_
          refine lv_goto (tgt := 100) hx hb dX2_readTest_95 (by decide) ?_
          have hTo := hT
          refine K_V ⟨hx, hb, hml, hown, hts⟩ (t_X2_pass l dC dI sa hlt g _ _ h0 60 tn_45 fa_46 _ (hT.sub [0] rfl)  hk_62 hk_63 ) (cwV 1 hts gX2_readTest_X2_pass rfl rfl rfl (by decide +kernel) ⟨Nat.le_of_ble_eq_true rfl, Nat.le_of_ble_eq_true rfl⟩) hP hD hK hS hA hev hT 0 2 rfl rfl rfl rfl hl.1 rfl (Nat.le_of_ble_eq_true rfl) dX2_readTest_100 ⟨Nat.le_of_ble_eq_true rfl, Nat.le_of_ble_eq_true rfl⟩ (fun r L_96 f_97 H locs hw_98 hP hD hS hT hE1 => ?_)
          have hF := Fr.call hF hE hw_98.2.1 (by decide)
          have hE := hE.tr hE1
          obtain ⟨rfl, hw_98⟩ := hw_98
          obtain ⟨hfr_99, tn_100, fa_101, hk_102, hk_103, hrel_104, hrel_105⟩ := hw_98
          refine W.eq (g2 := F0 m 103 ls []) rfl ?_
          refine lv_aload_n hx hb dX2_readTest_103 rfl (lv_at hl 1 rfl) ?_
          refine lv_aload_n hx hb dX2_readTest_104 rfl (lv_at hl 0 rfl) ?_
          refine lv_iconst (v := 0) hx hb dX2_readTest_105 (by decide) ?_
          refine lv_sipush (v := 9999) hx hb dX2_readTest_106 (by decide) ?_
          have hTo := hT
          refine K_V ⟨hx, hb, hml, hown, hts⟩ (t_X2_readNumber l dC dI sa hlt g _ _ h0 0 9999 tn_100 fa_101 _ (hT.sub [0] rfl)  hk_102 hk_103 ) (cwV 2 hts gX2_readTest_X2_readNumber rfl rfl rfl (by decide +kernel) ⟨Nat.le_of_ble_eq_true rfl, Nat.le_of_ble_eq_true rfl⟩) hP hD hK hS hA hev hT 0 2 rfl rfl rfl rfl hl.1 rfl (Nat.le_of_ble_eq_true rfl) dX2_readTest_109 ⟨Nat.le_of_ble_eq_true rfl, Nat.le_of_ble_eq_true rfl⟩ (fun r L_107 f_108 H locs hw_109 hP hD hS hT hE1 => ?_)
          have hF := Fr.call hF hE hw_109.2.1 (by decide)
          have hE := hE.tr hE1
          obtain ⟨⟨z_110, rfl⟩, hw_109⟩ := hw_109
          obtain ⟨hfr_111, tn_112, fa_113, hk_114, hk_115, hrel_116, hrel_117⟩ := hw_109
          refine W.eq (g2 := F0 m 112 ls [.int z_110, .ref o]) rfl ?_
          have hTo := hT
          refine T_put (ci := 5) (v := .int z_110) (ty := .int) (t := tI) (C := RX5) (T := TX5) (N := 8) hx hb hts inw_X2_readTest_5 tyX5 tyX5_ok nmX5 hown hK hP hD hS hT 1 rfl rfl 2 (by decide) (hts (.fieldLink RX2 79 "VatHouse$Step" "number" "I") (by decide +kernel)) (fun _ h9 => h9) rfl (by decide +kernel) rfl rfl rfl ⟨_, rfl⟩ dX2_readTest_112 (fun f_119 H locs hP hD hS hT hE1 hrd_120 => ?_)
          have hF := Fr.put (a := o) (ci := 5) hF hE ((hE1 o (hT.at 1 rfl).1).2.symm.trans (hT.at 1 rfl).2) (by decide) hrd_120
          have hE := hE.tr hE1
          have hk_121 : rd f_119 h0 2 = .int tn_112 := ((Fr.put (cs := [(5, 2)]) (a := o) (ci := 5) Fr.rf Ext.rf (hTo.at 1 rfl).2 (by decide) hrd_120) h0 (hTo.at 0 rfl).1 2 (hTo.at 0 rfl).2 2 (by decide)).trans hk_114
          have hk_122 : rd f_119 h0 3 = .int fa_113 := ((Fr.put (cs := [(5, 2)]) (a := o) (ci := 5) Fr.rf Ext.rf (hTo.at 1 rfl).2 (by decide) hrd_120) h0 (hTo.at 0 rfl).1 2 (hTo.at 0 rfl).2 3 (by decide)).trans hk_115
          exact K_v hx hb hr hlocks hP hD hK hS hT hE ⟨rfl, hF, _, _, hk_121, hk_122, trivial, fun h9 => (absurd ((hrel_33 (hrel_50 ((hrel_105 (hrel_117 h9)).1))).1) hrel_11)⟩ (Nat.le_of_ble_eq_true rfl) (Nat.le_of_ble_eq_true rfl) dX2_readTest_115
      · refine lv_iconst (v := 1) hx hb dX2_readTest_77 (by decide) ?_
        refine lv_goto (tgt := 82) hx hb dX2_readTest_78 (by decide) ?_
        have hTo := hT
        refine T_put (ci := 5) (v := .int 1) (ty := .boolean) (t := tI) (C := RX5) (T := TX5) (N := 8) hx hb hts inw_X2_readTest_5 tyX5 tyX5_ok nmX5 hown hK hP hD hS hT 1 rfl rfl 4 (by decide) (hts (.fieldLink RX2 97 "VatHouse$Step" "below" "Z") (by decide +kernel)) (fun _ h9 => h9) rfl (by decide +kernel) rfl rfl rfl ⟨_, rfl⟩ dX2_readTest_82 (fun f_123 H locs hP hD hS hT hE1 hrd_124 => ?_)
        have hF := Fr.put (a := o) (ci := 5) hF hE ((hE1 o (hT.at 1 rfl).1).2.symm.trans (hT.at 1 rfl).2) (by decide) hrd_124
        have hE := hE.tr hE1
        have hk_125 : rd f_123 h0 2 = .int tn_45 := ((Fr.put (cs := [(5, 4)]) (a := o) (ci := 5) Fr.rf Ext.rf (hTo.at 1 rfl).2 (by decide) hrd_124) h0 (hTo.at 0 rfl).1 2 (hTo.at 0 rfl).2 2 (by decide)).trans hk_54
        have hk_126 : rd f_123 h0 3 = .int fa_46 := ((Fr.put (cs := [(5, 4)]) (a := o) (ci := 5) Fr.rf Ext.rf (hTo.at 1 rfl).2 (by decide) hrd_124) h0 (hTo.at 0 rfl).1 2 (hTo.at 0 rfl).2 3 (by decide)).trans hk_55
        refine lv_aload_n hx hb dX2_readTest_85 rfl (lv_at hl 0 rfl) ?_
        refine lv_aload_n hx hb dX2_readTest_86 rfl (lv_at hl 1 rfl) ?_
        refine T_get (ci := 5) (C := RX5) (T := TX5) (N := 8) (t := tI) hx hb hts inw_X2_readTest_5 hown hK hP hT 1 rfl rfl 4 (by decide) (hts (.fieldLink RX2 97 "VatHouse$Step" "below" "Z") (by decide +kernel)) (fun _ h9 => h9) rfl dX2_readTest_87 (fun v_129 hv_127 hr_128 => ?_)
        obtain ⟨z_130, rfl⟩ := hv_127
        refine lv_if_eq (tgt := 98) hx hb dX2_readTest_90 (by decide) (fun c_131 => ?_) (fun c_131 => ?_)
        · refine lv_bipush (v := 61) hx hb dX2_readTest_98 (by decide) ?_
          have hTo := hT
          refine K_V ⟨hx, hb, hml, hown, hts⟩ (t_X2_pass l dC dI sa hlt g _ _ h0 61 tn_45 fa_46 _ (hT.sub [0] rfl)  hk_125 hk_126 ) (cwV 1 hts gX2_readTest_X2_pass rfl rfl rfl (by decide +kernel) ⟨Nat.le_of_ble_eq_true rfl, Nat.le_of_ble_eq_true rfl⟩) hP hD hK hS hA hev hT 0 2 rfl rfl rfl rfl hl.1 rfl (Nat.le_of_ble_eq_true rfl) dX2_readTest_100 ⟨Nat.le_of_ble_eq_true rfl, Nat.le_of_ble_eq_true rfl⟩ (fun r L_132 f_133 H locs hw_134 hP hD hS hT hE1 => ?_)
          have hF := Fr.call hF hE hw_134.2.1 (by decide)
          have hE := hE.tr hE1
          obtain ⟨rfl, hw_134⟩ := hw_134
          obtain ⟨hfr_135, tn_136, fa_137, hk_138, hk_139, hrel_140, hrel_141⟩ := hw_134
          refine W.eq (g2 := F0 m 103 ls []) rfl ?_
          refine lv_aload_n hx hb dX2_readTest_103 rfl (lv_at hl 1 rfl) ?_
          refine lv_aload_n hx hb dX2_readTest_104 rfl (lv_at hl 0 rfl) ?_
          refine lv_iconst (v := 0) hx hb dX2_readTest_105 (by decide) ?_
          refine lv_sipush (v := 9999) hx hb dX2_readTest_106 (by decide) ?_
          have hTo := hT
          refine K_V ⟨hx, hb, hml, hown, hts⟩ (t_X2_readNumber l dC dI sa hlt g _ _ h0 0 9999 tn_136 fa_137 _ (hT.sub [0] rfl)  hk_138 hk_139 ) (cwV 2 hts gX2_readTest_X2_readNumber rfl rfl rfl (by decide +kernel) ⟨Nat.le_of_ble_eq_true rfl, Nat.le_of_ble_eq_true rfl⟩) hP hD hK hS hA hev hT 0 2 rfl rfl rfl rfl hl.1 rfl (Nat.le_of_ble_eq_true rfl) dX2_readTest_109 ⟨Nat.le_of_ble_eq_true rfl, Nat.le_of_ble_eq_true rfl⟩ (fun r L_143 f_144 H locs hw_145 hP hD hS hT hE1 => ?_)
          have hF := Fr.call hF hE hw_145.2.1 (by decide)
          have hE := hE.tr hE1
          obtain ⟨⟨z_146, rfl⟩, hw_145⟩ := hw_145
          obtain ⟨hfr_147, tn_148, fa_149, hk_150, hk_151, hrel_152, hrel_153⟩ := hw_145
          refine W.eq (g2 := F0 m 112 ls [.int z_146, .ref o]) rfl ?_
          have hTo := hT
          refine T_put (ci := 5) (v := .int z_146) (ty := .int) (t := tI) (C := RX5) (T := TX5) (N := 8) hx hb hts inw_X2_readTest_5 tyX5 tyX5_ok nmX5 hown hK hP hD hS hT 1 rfl rfl 2 (by decide) (hts (.fieldLink RX2 79 "VatHouse$Step" "number" "I") (by decide +kernel)) (fun _ h9 => h9) rfl (by decide +kernel) rfl rfl rfl ⟨_, rfl⟩ dX2_readTest_112 (fun f_155 H locs hP hD hS hT hE1 hrd_156 => ?_)
          have hF := Fr.put (a := o) (ci := 5) hF hE ((hE1 o (hT.at 1 rfl).1).2.symm.trans (hT.at 1 rfl).2) (by decide) hrd_156
          have hE := hE.tr hE1
          have hk_157 : rd f_155 h0 2 = .int tn_148 := ((Fr.put (cs := [(5, 2)]) (a := o) (ci := 5) Fr.rf Ext.rf (hTo.at 1 rfl).2 (by decide) hrd_156) h0 (hTo.at 0 rfl).1 2 (hTo.at 0 rfl).2 2 (by decide)).trans hk_150
          have hk_158 : rd f_155 h0 3 = .int fa_149 := ((Fr.put (cs := [(5, 2)]) (a := o) (ci := 5) Fr.rf Ext.rf (hTo.at 1 rfl).2 (by decide) hrd_156) h0 (hTo.at 0 rfl).1 2 (hTo.at 0 rfl).2 3 (by decide)).trans hk_151
          exact K_v hx hb hr hlocks hP hD hK hS hT hE ⟨rfl, hF, _, _, hk_157, hk_158, trivial, fun h9 => (absurd ((hrel_33 (hrel_50 ((hrel_141 (hrel_153 h9)).1))).1) hrel_11)⟩ (Nat.le_of_ble_eq_true rfl) (Nat.le_of_ble_eq_true rfl) dX2_readTest_115
        · refine lv_bipush (v := 60) hx hb dX2_readTest_93 (by decide) ?_
          refine lv_goto (tgt := 100) hx hb dX2_readTest_95 (by decide) ?_
          have hTo := hT
          refine K_V ⟨hx, hb, hml, hown, hts⟩ (t_X2_pass l dC dI sa hlt g _ _ h0 60 tn_45 fa_46 _ (hT.sub [0] rfl)  hk_125 hk_126 ) (cwV 1 hts gX2_readTest_X2_pass rfl rfl rfl (by decide +kernel) ⟨Nat.le_of_ble_eq_true rfl, Nat.le_of_ble_eq_true rfl⟩) hP hD hK hS hA hev hT 0 2 rfl rfl rfl rfl hl.1 rfl (Nat.le_of_ble_eq_true rfl) dX2_readTest_100 ⟨Nat.le_of_ble_eq_true rfl, Nat.le_of_ble_eq_true rfl⟩ (fun r L_159 f_160 H locs hw_161 hP hD hS hT hE1 => ?_)
          have hF := Fr.call hF hE hw_161.2.1 (by decide)
          have hE := hE.tr hE1
          obtain ⟨rfl, hw_161⟩ := hw_161
          obtain ⟨hfr_162, tn_163, fa_164, hk_165, hk_166, hrel_167, hrel_168⟩ := hw_161
          refine W.eq (g2 := F0 m 103 ls []) rfl ?_
          refine lv_aload_n hx hb dX2_readTest_103 rfl (lv_at hl 1 rfl) ?_
          refine lv_aload_n hx hb dX2_readTest_104 rfl (lv_at hl 0 rfl) ?_
          refine lv_iconst (v := 0) hx hb dX2_readTest_105 (by decide) ?_
          refine lv_sipush (v := 9999) hx hb dX2_readTest_106 (by decide) ?_
          have hTo := hT
          refine K_V ⟨hx, hb, hml, hown, hts⟩ (t_X2_readNumber l dC dI sa hlt g _ _ h0 0 9999 tn_163 fa_164 _ (hT.sub [0] rfl)  hk_165 hk_166 ) (cwV 2 hts gX2_readTest_X2_readNumber rfl rfl rfl (by decide +kernel) ⟨Nat.le_of_ble_eq_true rfl, Nat.le_of_ble_eq_true rfl⟩) hP hD hK hS hA hev hT 0 2 rfl rfl rfl rfl hl.1 rfl (Nat.le_of_ble_eq_true rfl) dX2_readTest_109 ⟨Nat.le_of_ble_eq_true rfl, Nat.le_of_ble_eq_true rfl⟩ (fun r L_170 f_171 H locs hw_172 hP hD hS hT hE1 => ?_)
          have hF := Fr.call hF hE hw_172.2.1 (by decide)
          have hE := hE.tr hE1
          obtain ⟨⟨z_173, rfl⟩, hw_172⟩ := hw_172
          obtain ⟨hfr_174, tn_175, fa_176, hk_177, hk_178, hrel_179, hrel_180⟩ := hw_172
          refine W.eq (g2 := F0 m 112 ls [.int z_173, .ref o]) rfl ?_
          have hTo := hT
          refine T_put (ci := 5) (v := .int z_173) (ty := .int) (t := tI) (C := RX5) (T := TX5) (N := 8) hx hb hts inw_X2_readTest_5 tyX5 tyX5_ok nmX5 hown hK hP hD hS hT 1 rfl rfl 2 (by decide) (hts (.fieldLink RX2 79 "VatHouse$Step" "number" "I") (by decide +kernel)) (fun _ h9 => h9) rfl (by decide +kernel) rfl rfl rfl ⟨_, rfl⟩ dX2_readTest_112 (fun f_182 H locs hP hD hS hT hE1 hrd_183 => ?_)
          have hF := Fr.put (a := o) (ci := 5) hF hE ((hE1 o (hT.at 1 rfl).1).2.symm.trans (hT.at 1 rfl).2) (by decide) hrd_183
          have hE := hE.tr hE1
          have hk_184 : rd f_182 h0 2 = .int tn_175 := ((Fr.put (cs := [(5, 2)]) (a := o) (ci := 5) Fr.rf Ext.rf (hTo.at 1 rfl).2 (by decide) hrd_183) h0 (hTo.at 0 rfl).1 2 (hTo.at 0 rfl).2 2 (by decide)).trans hk_177
          have hk_185 : rd f_182 h0 3 = .int fa_176 := ((Fr.put (cs := [(5, 2)]) (a := o) (ci := 5) Fr.rf Ext.rf (hTo.at 1 rfl).2 (by decide) hrd_183) h0 (hTo.at 0 rfl).1 2 (hTo.at 0 rfl).2 3 (by decide)).trans hk_178
          exact K_v hx hb hr hlocks hP hD hK hS hT hE ⟨rfl, hF, _, _, hk_184, hk_185, trivial, fun h9 => (absurd ((hrel_33 (hrel_50 ((hrel_168 (hrel_180 h9)).1))).1) hrel_11)⟩ (Nat.le_of_ble_eq_true rfl) (Nat.le_of_ble_eq_true rfl) dX2_readTest_115
    · refine lv_aload_n hx hb dX2_readTest_48 rfl (lv_at hl 1 rfl) ?_
      refine T_get (ci := 5) (C := RX5) (T := TX5) (N := 8) (t := tI) hx hb hts inw_X2_readTest_5 hown hK hP hT 1 rfl rfl 3 (by decide) (hts (.fieldLink RX2 94 "VatHouse$Step" "look" "I") (by decide +kernel)) (fun _ h9 => h9) rfl dX2_readTest_49 (fun v_188 hv_186 hr_187 => ?_)
      obtain rfl : v_188 = .int z_38 := hr_187.symm.trans hr_36
      refine lv_bipush (v := 18) hx hb dX2_readTest_52 (by decide) ?_
      refine lv_icmp_ne (tgt := 67) hx hb dX2_readTest_54 (by decide) (fun c_189 => ?_) (fun c_189 => ?_)
      · refine lv_aload_n hx hb dX2_readTest_67 rfl (lv_at hl 1 rfl) ?_
        refine lv_aload_n hx hb dX2_readTest_68 rfl (lv_at hl 0 rfl) ?_
        refine T_get (ci := 2) (C := RX2) (T := TX2) (N := 6) (t := tI) hx hb hts inw_X2_readTest_2 hown hK hP hT 0 rfl rfl 2 (by decide) (hts (.fieldLink RX2 44 "VatHouse$Reader" "token" "I") (by decide +kernel)) (fun _ h9 => h9) rfl dX2_readTest_69 (fun v_192 hv_190 hr_191 => ?_)
        obtain rfl : v_192 = .int tn_28 := hr_191.symm.trans hk_30
        refine lv_bipush (v := 60) hx hb dX2_readTest_72 (by decide) ?_
        refine lv_icmp_ne (tgt := 81) hx hb dX2_readTest_74 (by decide) (fun c_193 => ?_) (fun c_193 => ?_)
        · refine lv_iconst (v := 0) hx hb dX2_readTest_81 (by decide) ?_
          have hTo := hT
          refine T_put (ci := 5) (v := .int 0) (ty := .boolean) (t := tI) (C := RX5) (T := TX5) (N := 8) hx hb hts inw_X2_readTest_5 tyX5 tyX5_ok nmX5 hown hK hP hD hS hT 1 rfl rfl 4 (by decide) (hts (.fieldLink RX2 97 "VatHouse$Step" "below" "Z") (by decide +kernel)) (fun _ h9 => h9) rfl (by decide +kernel) rfl rfl rfl ⟨_, rfl⟩ dX2_readTest_82 (fun f_194 H locs hP hD hS hT hE1 hrd_195 => ?_)
          have hF := Fr.put (a := o) (ci := 5) hF hE ((hE1 o (hT.at 1 rfl).1).2.symm.trans (hT.at 1 rfl).2) (by decide) hrd_195
          have hE := hE.tr hE1
          have hk_196 : rd f_194 h0 2 = .int tn_28 := ((Fr.put (cs := [(5, 4)]) (a := o) (ci := 5) Fr.rf Ext.rf (hTo.at 1 rfl).2 (by decide) hrd_195) h0 (hTo.at 0 rfl).1 2 (hTo.at 0 rfl).2 2 (by decide)).trans hk_30
          have hk_197 : rd f_194 h0 3 = .int fa_29 := ((Fr.put (cs := [(5, 4)]) (a := o) (ci := 5) Fr.rf Ext.rf (hTo.at 1 rfl).2 (by decide) hrd_195) h0 (hTo.at 0 rfl).1 2 (hTo.at 0 rfl).2 3 (by decide)).trans hk_31
          refine lv_aload_n hx hb dX2_readTest_85 rfl (lv_at hl 0 rfl) ?_
          refine lv_aload_n hx hb dX2_readTest_86 rfl (lv_at hl 1 rfl) ?_
          refine T_get (ci := 5) (C := RX5) (T := TX5) (N := 8) (t := tI) hx hb hts inw_X2_readTest_5 hown hK hP hT 1 rfl rfl 4 (by decide) (hts (.fieldLink RX2 97 "VatHouse$Step" "below" "Z") (by decide +kernel)) (fun _ h9 => h9) rfl dX2_readTest_87 (fun v_200 hv_198 hr_199 => ?_)
          obtain ⟨z_201, rfl⟩ := hv_198
          refine lv_if_eq (tgt := 98) hx hb dX2_readTest_90 (by decide) (fun c_202 => ?_) (fun c_202 => ?_)
          · refine lv_bipush (v := 61) hx hb dX2_readTest_98 (by decide) ?_
            have hTo := hT
            refine K_V ⟨hx, hb, hml, hown, hts⟩ (t_X2_pass l dC dI sa hlt g _ _ h0 61 tn_28 fa_29 _ (hT.sub [0] rfl)  hk_196 hk_197 ) (cwV 1 hts gX2_readTest_X2_pass rfl rfl rfl (by decide +kernel) ⟨Nat.le_of_ble_eq_true rfl, Nat.le_of_ble_eq_true rfl⟩) hP hD hK hS hA hev hT 0 2 rfl rfl rfl rfl hl.1 rfl (Nat.le_of_ble_eq_true rfl) dX2_readTest_100 ⟨Nat.le_of_ble_eq_true rfl, Nat.le_of_ble_eq_true rfl⟩ (fun r L_203 f_204 H locs hw_205 hP hD hS hT hE1 => ?_)
            have hF := Fr.call hF hE hw_205.2.1 (by decide)
            have hE := hE.tr hE1
            obtain ⟨rfl, hw_205⟩ := hw_205
            obtain ⟨hfr_206, tn_207, fa_208, hk_209, hk_210, hrel_211, hrel_212⟩ := hw_205
            refine W.eq (g2 := F0 m 103 ls []) rfl ?_
            refine lv_aload_n hx hb dX2_readTest_103 rfl (lv_at hl 1 rfl) ?_
            refine lv_aload_n hx hb dX2_readTest_104 rfl (lv_at hl 0 rfl) ?_
            refine lv_iconst (v := 0) hx hb dX2_readTest_105 (by decide) ?_
            refine lv_sipush (v := 9999) hx hb dX2_readTest_106 (by decide) ?_
            have hTo := hT
            refine K_V ⟨hx, hb, hml, hown, hts⟩ (t_X2_readNumber l dC dI sa hlt g _ _ h0 0 9999 tn_207 fa_208 _ (hT.sub [0] rfl)  hk_209 hk_210 ) (cwV 2 hts gX2_readTest_X2_readNumber rfl rfl rfl (by decide +kernel) ⟨Nat.le_of_ble_eq_true rfl, Nat.le_of_ble_eq_true rfl⟩) hP hD hK hS hA hev hT 0 2 rfl rfl rfl rfl hl.1 rfl (Nat.le_of_ble_eq_true rfl) dX2_readTest_109 ⟨Nat.le_of_ble_eq_true rfl, Nat.le_of_ble_eq_true rfl⟩ (fun r L_214 f_215 H locs hw_216 hP hD hS hT hE1 => ?_)
            have hF := Fr.call hF hE hw_216.2.1 (by decide)
            have hE := hE.tr hE1
            obtain ⟨⟨z_217, rfl⟩, hw_216⟩ := hw_216
            obtain ⟨hfr_218, tn_219, fa_220, hk_221, hk_222, hrel_223, hrel_224⟩ := hw_216
            refine W.eq (g2 := F0 m 112 ls [.int z_217, .ref o]) rfl ?_
            have hTo := hT
            refine T_put (ci := 5) (v := .int z_217) (ty := .int) (t := tI) (C := RX5) (T := TX5) (N := 8) hx hb hts inw_X2_readTest_5 tyX5 tyX5_ok nmX5 hown hK hP hD hS hT 1 rfl rfl 2 (by decide) (hts (.fieldLink RX2 79 "VatHouse$Step" "number" "I") (by decide +kernel)) (fun _ h9 => h9) rfl (by decide +kernel) rfl rfl rfl ⟨_, rfl⟩ dX2_readTest_112 (fun f_226 H locs hP hD hS hT hE1 hrd_227 => ?_)
            have hF := Fr.put (a := o) (ci := 5) hF hE ((hE1 o (hT.at 1 rfl).1).2.symm.trans (hT.at 1 rfl).2) (by decide) hrd_227
            have hE := hE.tr hE1
            have hk_228 : rd f_226 h0 2 = .int tn_219 := ((Fr.put (cs := [(5, 2)]) (a := o) (ci := 5) Fr.rf Ext.rf (hTo.at 1 rfl).2 (by decide) hrd_227) h0 (hTo.at 0 rfl).1 2 (hTo.at 0 rfl).2 2 (by decide)).trans hk_221
            have hk_229 : rd f_226 h0 3 = .int fa_220 := ((Fr.put (cs := [(5, 2)]) (a := o) (ci := 5) Fr.rf Ext.rf (hTo.at 1 rfl).2 (by decide) hrd_227) h0 (hTo.at 0 rfl).1 2 (hTo.at 0 rfl).2 3 (by decide)).trans hk_222
            exact K_v hx hb hr hlocks hP hD hK hS hT hE ⟨rfl, hF, _, _, hk_228, hk_229, trivial, fun h9 => (absurd ((hrel_33 ((hrel_212 (hrel_224 h9)).1)).1) hrel_11)⟩ (Nat.le_of_ble_eq_true rfl) (Nat.le_of_ble_eq_true rfl) dX2_readTest_115
          · refine lv_bipush (v := 60) hx hb dX2_readTest_93 (by decide) ?_
            refine lv_goto (tgt := 100) hx hb dX2_readTest_95 (by decide) ?_
            have hTo := hT
            refine K_V ⟨hx, hb, hml, hown, hts⟩ (t_X2_pass l dC dI sa hlt g _ _ h0 60 tn_28 fa_29 _ (hT.sub [0] rfl)  hk_196 hk_197 ) (cwV 1 hts gX2_readTest_X2_pass rfl rfl rfl (by decide +kernel) ⟨Nat.le_of_ble_eq_true rfl, Nat.le_of_ble_eq_true rfl⟩) hP hD hK hS hA hev hT 0 2 rfl rfl rfl rfl hl.1 rfl (Nat.le_of_ble_eq_true rfl) dX2_readTest_100 ⟨Nat.le_of_ble_eq_true rfl, Nat.le_of_ble_eq_true rfl⟩ (fun r L_230 f_231 H locs hw_232 hP hD hS hT hE1 => ?_)
            have hF := Fr.call hF hE hw_232.2.1 (by decide)
            have hE := hE.tr hE1
            obtain ⟨rfl, hw_232⟩ := hw_232
            obtain ⟨hfr_233, tn_234, fa_235, hk_236, hk_237, hrel_238, hrel_239⟩ := hw_232
            refine W.eq (g2 := F0 m 103 ls []) rfl ?_
            refine lv_aload_n hx hb dX2_readTest_103 rfl (lv_at hl 1 rfl) ?_
            refine lv_aload_n hx hb dX2_readTest_104 rfl (lv_at hl 0 rfl) ?_
            refine lv_iconst (v := 0) hx hb dX2_readTest_105 (by decide) ?_
            refine lv_sipush (v := 9999) hx hb dX2_readTest_106 (by decide) ?_
            have hTo := hT
            refine K_V ⟨hx, hb, hml, hown, hts⟩ (t_X2_readNumber l dC dI sa hlt g _ _ h0 0 9999 tn_234 fa_235 _ (hT.sub [0] rfl)  hk_236 hk_237 ) (cwV 2 hts gX2_readTest_X2_readNumber rfl rfl rfl (by decide +kernel) ⟨Nat.le_of_ble_eq_true rfl, Nat.le_of_ble_eq_true rfl⟩) hP hD hK hS hA hev hT 0 2 rfl rfl rfl rfl hl.1 rfl (Nat.le_of_ble_eq_true rfl) dX2_readTest_109 ⟨Nat.le_of_ble_eq_true rfl, Nat.le_of_ble_eq_true rfl⟩ (fun r L_241 f_242 H locs hw_243 hP hD hS hT hE1 => ?_)
            have hF := Fr.call hF hE hw_243.2.1 (by decide)
            have hE := hE.tr hE1
            obtain ⟨⟨z_244, rfl⟩, hw_243⟩ := hw_243
            obtain ⟨hfr_245, tn_246, fa_247, hk_248, hk_249, hrel_250, hrel_251⟩ := hw_243
            refine W.eq (g2 := F0 m 112 ls [.int z_244, .ref o]) rfl ?_
            have hTo := hT
            refine T_put (ci := 5) (v := .int z_244) (ty := .int) (t := tI) (C := RX5) (T := TX5) (N := 8) hx hb hts inw_X2_readTest_5 tyX5 tyX5_ok nmX5 hown hK hP hD hS hT 1 rfl rfl 2 (by decide) (hts (.fieldLink RX2 79 "VatHouse$Step" "number" "I") (by decide +kernel)) (fun _ h9 => h9) rfl (by decide +kernel) rfl rfl rfl ⟨_, rfl⟩ dX2_readTest_112 (fun f_253 H locs hP hD hS hT hE1 hrd_254 => ?_)
            have hF := Fr.put (a := o) (ci := 5) hF hE ((hE1 o (hT.at 1 rfl).1).2.symm.trans (hT.at 1 rfl).2) (by decide) hrd_254
            have hE := hE.tr hE1
            have hk_255 : rd f_253 h0 2 = .int tn_246 := ((Fr.put (cs := [(5, 2)]) (a := o) (ci := 5) Fr.rf Ext.rf (hTo.at 1 rfl).2 (by decide) hrd_254) h0 (hTo.at 0 rfl).1 2 (hTo.at 0 rfl).2 2 (by decide)).trans hk_248
            have hk_256 : rd f_253 h0 3 = .int fa_247 := ((Fr.put (cs := [(5, 2)]) (a := o) (ci := 5) Fr.rf Ext.rf (hTo.at 1 rfl).2 (by decide) hrd_254) h0 (hTo.at 0 rfl).1 2 (hTo.at 0 rfl).2 3 (by decide)).trans hk_249
            exact K_v hx hb hr hlocks hP hD hK hS hT hE ⟨rfl, hF, _, _, hk_255, hk_256, trivial, fun h9 => (absurd ((hrel_33 ((hrel_239 (hrel_251 h9)).1)).1) hrel_11)⟩ (Nat.le_of_ble_eq_true rfl) (Nat.le_of_ble_eq_true rfl) dX2_readTest_115
        · refine lv_iconst (v := 1) hx hb dX2_readTest_77 (by decide) ?_
          refine lv_goto (tgt := 82) hx hb dX2_readTest_78 (by decide) ?_
          have hTo := hT
          refine T_put (ci := 5) (v := .int 1) (ty := .boolean) (t := tI) (C := RX5) (T := TX5) (N := 8) hx hb hts inw_X2_readTest_5 tyX5 tyX5_ok nmX5 hown hK hP hD hS hT 1 rfl rfl 4 (by decide) (hts (.fieldLink RX2 97 "VatHouse$Step" "below" "Z") (by decide +kernel)) (fun _ h9 => h9) rfl (by decide +kernel) rfl rfl rfl ⟨_, rfl⟩ dX2_readTest_82 (fun f_257 H locs hP hD hS hT hE1 hrd_258 => ?_)
          have hF := Fr.put (a := o) (ci := 5) hF hE ((hE1 o (hT.at 1 rfl).1).2.symm.trans (hT.at 1 rfl).2) (by decide) hrd_258
          have hE := hE.tr hE1
          have hk_259 : rd f_257 h0 2 = .int tn_28 := ((Fr.put (cs := [(5, 4)]) (a := o) (ci := 5) Fr.rf Ext.rf (hTo.at 1 rfl).2 (by decide) hrd_258) h0 (hTo.at 0 rfl).1 2 (hTo.at 0 rfl).2 2 (by decide)).trans hk_30
          have hk_260 : rd f_257 h0 3 = .int fa_29 := ((Fr.put (cs := [(5, 4)]) (a := o) (ci := 5) Fr.rf Ext.rf (hTo.at 1 rfl).2 (by decide) hrd_258) h0 (hTo.at 0 rfl).1 2 (hTo.at 0 rfl).2 3 (by decide)).trans hk_31
          refine lv_aload_n hx hb dX2_readTest_85 rfl (lv_at hl 0 rfl) ?_
          refine lv_aload_n hx hb dX2_readTest_86 rfl (lv_at hl 1 rfl) ?_
          refine T_get (ci := 5) (C := RX5) (T := TX5) (N := 8) (t := tI) hx hb hts inw_X2_readTest_5 hown hK hP hT 1 rfl rfl 4 (by decide) (hts (.fieldLink RX2 97 "VatHouse$Step" "below" "Z") (by decide +kernel)) (fun _ h9 => h9) rfl dX2_readTest_87 (fun v_263 hv_261 hr_262 => ?_)
          obtain ⟨z_264, rfl⟩ := hv_261
          refine lv_if_eq (tgt := 98) hx hb dX2_readTest_90 (by decide) (fun c_265 => ?_) (fun c_265 => ?_)
          · refine lv_bipush (v := 61) hx hb dX2_readTest_98 (by decide) ?_
            have hTo := hT
            refine K_V ⟨hx, hb, hml, hown, hts⟩ (t_X2_pass l dC dI sa hlt g _ _ h0 61 tn_28 fa_29 _ (hT.sub [0] rfl)  hk_259 hk_260 ) (cwV 1 hts gX2_readTest_X2_pass rfl rfl rfl (by decide +kernel) ⟨Nat.le_of_ble_eq_true rfl, Nat.le_of_ble_eq_true rfl⟩) hP hD hK hS hA hev hT 0 2 rfl rfl rfl rfl hl.1 rfl (Nat.le_of_ble_eq_true rfl) dX2_readTest_100 ⟨Nat.le_of_ble_eq_true rfl, Nat.le_of_ble_eq_true rfl⟩ (fun r L_266 f_267 H locs hw_268 hP hD hS hT hE1 => ?_)
            have hF := Fr.call hF hE hw_268.2.1 (by decide)
            have hE := hE.tr hE1
            obtain ⟨rfl, hw_268⟩ := hw_268
            obtain ⟨hfr_269, tn_270, fa_271, hk_272, hk_273, hrel_274, hrel_275⟩ := hw_268
            refine W.eq (g2 := F0 m 103 ls []) rfl ?_
            refine lv_aload_n hx hb dX2_readTest_103 rfl (lv_at hl 1 rfl) ?_
            refine lv_aload_n hx hb dX2_readTest_104 rfl (lv_at hl 0 rfl) ?_
            refine lv_iconst (v := 0) hx hb dX2_readTest_105 (by decide) ?_
            refine lv_sipush (v := 9999) hx hb dX2_readTest_106 (by decide) ?_
            have hTo := hT
            refine K_V ⟨hx, hb, hml, hown, hts⟩ (t_X2_readNumber l dC dI sa hlt g _ _ h0 0 9999 tn_270 fa_271 _ (hT.sub [0] rfl)  hk_272 hk_273 ) (cwV 2 hts gX2_readTest_X2_readNumber rfl rfl rfl (by decide +kernel) ⟨Nat.le_of_ble_eq_true rfl, Nat.le_of_ble_eq_true rfl⟩) hP hD hK hS hA hev hT 0 2 rfl rfl rfl rfl hl.1 rfl (Nat.le_of_ble_eq_true rfl) dX2_readTest_109 ⟨Nat.le_of_ble_eq_true rfl, Nat.le_of_ble_eq_true rfl⟩ (fun r L_277 f_278 H locs hw_279 hP hD hS hT hE1 => ?_)
            have hF := Fr.call hF hE hw_279.2.1 (by decide)
            have hE := hE.tr hE1
            obtain ⟨⟨z_280, rfl⟩, hw_279⟩ := hw_279
            obtain ⟨hfr_281, tn_282, fa_283, hk_284, hk_285, hrel_286, hrel_287⟩ := hw_279
            refine W.eq (g2 := F0 m 112 ls [.int z_280, .ref o]) rfl ?_
            have hTo := hT
            refine T_put (ci := 5) (v := .int z_280) (ty := .int) (t := tI) (C := RX5) (T := TX5) (N := 8) hx hb hts inw_X2_readTest_5 tyX5 tyX5_ok nmX5 hown hK hP hD hS hT 1 rfl rfl 2 (by decide) (hts (.fieldLink RX2 79 "VatHouse$Step" "number" "I") (by decide +kernel)) (fun _ h9 => h9) rfl (by decide +kernel) rfl rfl rfl ⟨_, rfl⟩ dX2_readTest_112 (fun f_289 H locs hP hD hS hT hE1 hrd_290 => ?_)
            have hF := Fr.put (a := o) (ci := 5) hF hE ((hE1 o (hT.at 1 rfl).1).2.symm.trans (hT.at 1 rfl).2) (by decide) hrd_290
            have hE := hE.tr hE1
            have hk_291 : rd f_289 h0 2 = .int tn_282 := ((Fr.put (cs := [(5, 2)]) (a := o) (ci := 5) Fr.rf Ext.rf (hTo.at 1 rfl).2 (by decide) hrd_290) h0 (hTo.at 0 rfl).1 2 (hTo.at 0 rfl).2 2 (by decide)).trans hk_284
            have hk_292 : rd f_289 h0 3 = .int fa_283 := ((Fr.put (cs := [(5, 2)]) (a := o) (ci := 5) Fr.rf Ext.rf (hTo.at 1 rfl).2 (by decide) hrd_290) h0 (hTo.at 0 rfl).1 2 (hTo.at 0 rfl).2 3 (by decide)).trans hk_285
            exact K_v hx hb hr hlocks hP hD hK hS hT hE ⟨rfl, hF, _, _, hk_291, hk_292, trivial, fun h9 => (absurd ((hrel_33 ((hrel_275 (hrel_287 h9)).1)).1) hrel_11)⟩ (Nat.le_of_ble_eq_true rfl) (Nat.le_of_ble_eq_true rfl) dX2_readTest_115
          · refine lv_bipush (v := 60) hx hb dX2_readTest_93 (by decide) ?_
            refine lv_goto (tgt := 100) hx hb dX2_readTest_95 (by decide) ?_
            have hTo := hT
            refine K_V ⟨hx, hb, hml, hown, hts⟩ (t_X2_pass l dC dI sa hlt g _ _ h0 60 tn_28 fa_29 _ (hT.sub [0] rfl)  hk_259 hk_260 ) (cwV 1 hts gX2_readTest_X2_pass rfl rfl rfl (by decide +kernel) ⟨Nat.le_of_ble_eq_true rfl, Nat.le_of_ble_eq_true rfl⟩) hP hD hK hS hA hev hT 0 2 rfl rfl rfl rfl hl.1 rfl (Nat.le_of_ble_eq_true rfl) dX2_readTest_100 ⟨Nat.le_of_ble_eq_true rfl, Nat.le_of_ble_eq_true rfl⟩ (fun r L_293 f_294 H locs hw_295 hP hD hS hT hE1 => ?_)
            have hF := Fr.call hF hE hw_295.2.1 (by decide)
            have hE := hE.tr hE1
            obtain ⟨rfl, hw_295⟩ := hw_295
            obtain ⟨hfr_296, tn_297, fa_298, hk_299, hk_300, hrel_301, hrel_302⟩ := hw_295
            refine W.eq (g2 := F0 m 103 ls []) rfl ?_
            refine lv_aload_n hx hb dX2_readTest_103 rfl (lv_at hl 1 rfl) ?_
            refine lv_aload_n hx hb dX2_readTest_104 rfl (lv_at hl 0 rfl) ?_
            refine lv_iconst (v := 0) hx hb dX2_readTest_105 (by decide) ?_
            refine lv_sipush (v := 9999) hx hb dX2_readTest_106 (by decide) ?_
            have hTo := hT
            refine K_V ⟨hx, hb, hml, hown, hts⟩ (t_X2_readNumber l dC dI sa hlt g _ _ h0 0 9999 tn_297 fa_298 _ (hT.sub [0] rfl)  hk_299 hk_300 ) (cwV 2 hts gX2_readTest_X2_readNumber rfl rfl rfl (by decide +kernel) ⟨Nat.le_of_ble_eq_true rfl, Nat.le_of_ble_eq_true rfl⟩) hP hD hK hS hA hev hT 0 2 rfl rfl rfl rfl hl.1 rfl (Nat.le_of_ble_eq_true rfl) dX2_readTest_109 ⟨Nat.le_of_ble_eq_true rfl, Nat.le_of_ble_eq_true rfl⟩ (fun r L_304 f_305 H locs hw_306 hP hD hS hT hE1 => ?_)
            have hF := Fr.call hF hE hw_306.2.1 (by decide)
            have hE := hE.tr hE1
            obtain ⟨⟨z_307, rfl⟩, hw_306⟩ := hw_306
            obtain ⟨hfr_308, tn_309, fa_310, hk_311, hk_312, hrel_313, hrel_314⟩ := hw_306
            refine W.eq (g2 := F0 m 112 ls [.int z_307, .ref o]) rfl ?_
            have hTo := hT
            refine T_put (ci := 5) (v := .int z_307) (ty := .int) (t := tI) (C := RX5) (T := TX5) (N := 8) hx hb hts inw_X2_readTest_5 tyX5 tyX5_ok nmX5 hown hK hP hD hS hT 1 rfl rfl 2 (by decide) (hts (.fieldLink RX2 79 "VatHouse$Step" "number" "I") (by decide +kernel)) (fun _ h9 => h9) rfl (by decide +kernel) rfl rfl rfl ⟨_, rfl⟩ dX2_readTest_112 (fun f_316 H locs hP hD hS hT hE1 hrd_317 => ?_)
            have hF := Fr.put (a := o) (ci := 5) hF hE ((hE1 o (hT.at 1 rfl).1).2.symm.trans (hT.at 1 rfl).2) (by decide) hrd_317
            have hE := hE.tr hE1
            have hk_318 : rd f_316 h0 2 = .int tn_309 := ((Fr.put (cs := [(5, 2)]) (a := o) (ci := 5) Fr.rf Ext.rf (hTo.at 1 rfl).2 (by decide) hrd_317) h0 (hTo.at 0 rfl).1 2 (hTo.at 0 rfl).2 2 (by decide)).trans hk_311
            have hk_319 : rd f_316 h0 3 = .int fa_310 := ((Fr.put (cs := [(5, 2)]) (a := o) (ci := 5) Fr.rf Ext.rf (hTo.at 1 rfl).2 (by decide) hrd_317) h0 (hTo.at 0 rfl).1 2 (hTo.at 0 rfl).2 3 (by decide)).trans hk_312
            exact K_v hx hb hr hlocks hP hD hK hS hT hE ⟨rfl, hF, _, _, hk_318, hk_319, trivial, fun h9 => (absurd ((hrel_33 ((hrel_302 (hrel_314 h9)).1)).1) hrel_11)⟩ (Nat.le_of_ble_eq_true rfl) (Nat.le_of_ble_eq_true rfl) dX2_readTest_115
      · refine lv_aload_n hx hb dX2_readTest_57 rfl (lv_at hl 1 rfl) ?_
        refine lv_aload_n hx hb dX2_readTest_58 rfl (lv_at hl 0 rfl) ?_
        refine lv_iconst (v := 0) hx hb dX2_readTest_59 (by decide) ?_
        refine lv_iconst (v := 5) hx hb dX2_readTest_60 (by decide) ?_
        have hTo := hT
        refine K_V ⟨hx, hb, hml, hown, hts⟩ (t_X2_readNumber l dC dI sa hlt g _ _ h0 0 5 tn_28 fa_29 _ (hT.sub [0] rfl)  hk_30 hk_31 ) (cwV 2 hts gX2_readTest_X2_readNumber rfl rfl rfl (by decide +kernel) ⟨Nat.le_of_ble_eq_true rfl, Nat.le_of_ble_eq_true rfl⟩) hP hD hK hS hA hev hT 0 2 rfl rfl rfl rfl hl.1 rfl (Nat.le_of_ble_eq_true rfl) dX2_readTest_61 ⟨Nat.le_of_ble_eq_true rfl, Nat.le_of_ble_eq_true rfl⟩ (fun r L_320 f_321 H locs hw_322 hP hD hS hT hE1 => ?_)
        have hF := Fr.call hF hE hw_322.2.1 (by decide)
        have hE := hE.tr hE1
        obtain ⟨⟨z_323, rfl⟩, hw_322⟩ := hw_322
        obtain ⟨hfr_324, tn_325, fa_326, hk_327, hk_328, hrel_329, hrel_330⟩ := hw_322
        refine W.eq (g2 := F0 m 64 ls [.int z_323, .ref o]) rfl ?_
        have hTo := hT
        refine T_put (ci := 5) (v := .int z_323) (ty := .int) (t := tI) (C := RX5) (T := TX5) (N := 8) hx hb hts inw_X2_readTest_5 tyX5 tyX5_ok nmX5 hown hK hP hD hS hT 1 rfl rfl 1 (by decide) (hts (.fieldLink RX2 76 "VatHouse$Step" "vat" "I") (by decide +kernel)) (fun _ h9 => h9) rfl (by decide +kernel) rfl rfl rfl ⟨_, rfl⟩ dX2_readTest_64 (fun f_332 H locs hP hD hS hT hE1 hrd_333 => ?_)
        have hF := Fr.put (a := o) (ci := 5) hF hE ((hE1 o (hT.at 1 rfl).1).2.symm.trans (hT.at 1 rfl).2) (by decide) hrd_333
        have hE := hE.tr hE1
        have hk_334 : rd f_332 h0 2 = .int tn_325 := ((Fr.put (cs := [(5, 1)]) (a := o) (ci := 5) Fr.rf Ext.rf (hTo.at 1 rfl).2 (by decide) hrd_333) h0 (hTo.at 0 rfl).1 2 (hTo.at 0 rfl).2 2 (by decide)).trans hk_327
        have hk_335 : rd f_332 h0 3 = .int fa_326 := ((Fr.put (cs := [(5, 1)]) (a := o) (ci := 5) Fr.rf Ext.rf (hTo.at 1 rfl).2 (by decide) hrd_333) h0 (hTo.at 0 rfl).1 2 (hTo.at 0 rfl).2 3 (by decide)).trans hk_328
        refine lv_aload_n hx hb dX2_readTest_67 rfl (lv_at hl 1 rfl) ?_
        refine lv_aload_n hx hb dX2_readTest_68 rfl (lv_at hl 0 rfl) ?_
        refine T_get (ci := 2) (C := RX2) (T := TX2) (N := 6) (t := tI) hx hb hts inw_X2_readTest_2 hown hK hP hT 0 rfl rfl 2 (by decide) (hts (.fieldLink RX2 44 "VatHouse$Reader" "token" "I") (by decide +kernel)) (fun _ h9 => h9) rfl dX2_readTest_69 (fun v_338 hv_336 hr_337 => ?_)
        obtain rfl : v_338 = .int tn_325 := hr_337.symm.trans hk_334
        refine lv_bipush (v := 60) hx hb dX2_readTest_72 (by decide) ?_
        refine lv_icmp_ne (tgt := 81) hx hb dX2_readTest_74 (by decide) (fun c_339 => ?_) (fun c_339 => ?_)
        · refine lv_iconst (v := 0) hx hb dX2_readTest_81 (by decide) ?_
          have hTo := hT
          refine T_put (ci := 5) (v := .int 0) (ty := .boolean) (t := tI) (C := RX5) (T := TX5) (N := 8) hx hb hts inw_X2_readTest_5 tyX5 tyX5_ok nmX5 hown hK hP hD hS hT 1 rfl rfl 4 (by decide) (hts (.fieldLink RX2 97 "VatHouse$Step" "below" "Z") (by decide +kernel)) (fun _ h9 => h9) rfl (by decide +kernel) rfl rfl rfl ⟨_, rfl⟩ dX2_readTest_82 (fun f_340 H locs hP hD hS hT hE1 hrd_341 => ?_)
          have hF := Fr.put (a := o) (ci := 5) hF hE ((hE1 o (hT.at 1 rfl).1).2.symm.trans (hT.at 1 rfl).2) (by decide) hrd_341
          have hE := hE.tr hE1
          have hk_342 : rd f_340 h0 2 = .int tn_325 := ((Fr.put (cs := [(5, 4)]) (a := o) (ci := 5) Fr.rf Ext.rf (hTo.at 1 rfl).2 (by decide) hrd_341) h0 (hTo.at 0 rfl).1 2 (hTo.at 0 rfl).2 2 (by decide)).trans hk_334
          have hk_343 : rd f_340 h0 3 = .int fa_326 := ((Fr.put (cs := [(5, 4)]) (a := o) (ci := 5) Fr.rf Ext.rf (hTo.at 1 rfl).2 (by decide) hrd_341) h0 (hTo.at 0 rfl).1 2 (hTo.at 0 rfl).2 3 (by decide)).trans hk_335
          refine lv_aload_n hx hb dX2_readTest_85 rfl (lv_at hl 0 rfl) ?_
          refine lv_aload_n hx hb dX2_readTest_86 rfl (lv_at hl 1 rfl) ?_
          refine T_get (ci := 5) (C := RX5) (T := TX5) (N := 8) (t := tI) hx hb hts inw_X2_readTest_5 hown hK hP hT 1 rfl rfl 4 (by decide) (hts (.fieldLink RX2 97 "VatHouse$Step" "below" "Z") (by decide +kernel)) (fun _ h9 => h9) rfl dX2_readTest_87 (fun v_346 hv_344 hr_345 => ?_)
          obtain ⟨z_347, rfl⟩ := hv_344
          refine lv_if_eq (tgt := 98) hx hb dX2_readTest_90 (by decide) (fun c_348 => ?_) (fun c_348 => ?_)
          · refine lv_bipush (v := 61) hx hb dX2_readTest_98 (by decide) ?_
            have hTo := hT
            refine K_V ⟨hx, hb, hml, hown, hts⟩ (t_X2_pass l dC dI sa hlt g _ _ h0 61 tn_325 fa_326 _ (hT.sub [0] rfl)  hk_342 hk_343 ) (cwV 1 hts gX2_readTest_X2_pass rfl rfl rfl (by decide +kernel) ⟨Nat.le_of_ble_eq_true rfl, Nat.le_of_ble_eq_true rfl⟩) hP hD hK hS hA hev hT 0 2 rfl rfl rfl rfl hl.1 rfl (Nat.le_of_ble_eq_true rfl) dX2_readTest_100 ⟨Nat.le_of_ble_eq_true rfl, Nat.le_of_ble_eq_true rfl⟩ (fun r L_349 f_350 H locs hw_351 hP hD hS hT hE1 => ?_)
            have hF := Fr.call hF hE hw_351.2.1 (by decide)
            have hE := hE.tr hE1
            obtain ⟨rfl, hw_351⟩ := hw_351
            obtain ⟨hfr_352, tn_353, fa_354, hk_355, hk_356, hrel_357, hrel_358⟩ := hw_351
            refine W.eq (g2 := F0 m 103 ls []) rfl ?_
            refine lv_aload_n hx hb dX2_readTest_103 rfl (lv_at hl 1 rfl) ?_
            refine lv_aload_n hx hb dX2_readTest_104 rfl (lv_at hl 0 rfl) ?_
            refine lv_iconst (v := 0) hx hb dX2_readTest_105 (by decide) ?_
            refine lv_sipush (v := 9999) hx hb dX2_readTest_106 (by decide) ?_
            have hTo := hT
            refine K_V ⟨hx, hb, hml, hown, hts⟩ (t_X2_readNumber l dC dI sa hlt g _ _ h0 0 9999 tn_353 fa_354 _ (hT.sub [0] rfl)  hk_355 hk_356 ) (cwV 2 hts gX2_readTest_X2_readNumber rfl rfl rfl (by decide +kernel) ⟨Nat.le_of_ble_eq_true rfl, Nat.le_of_ble_eq_true rfl⟩) hP hD hK hS hA hev hT 0 2 rfl rfl rfl rfl hl.1 rfl (Nat.le_of_ble_eq_true rfl) dX2_readTest_109 ⟨Nat.le_of_ble_eq_true rfl, Nat.le_of_ble_eq_true rfl⟩ (fun r L_360 f_361 H locs hw_362 hP hD hS hT hE1 => ?_)
            have hF := Fr.call hF hE hw_362.2.1 (by decide)
            have hE := hE.tr hE1
            obtain ⟨⟨z_363, rfl⟩, hw_362⟩ := hw_362
            obtain ⟨hfr_364, tn_365, fa_366, hk_367, hk_368, hrel_369, hrel_370⟩ := hw_362
            refine W.eq (g2 := F0 m 112 ls [.int z_363, .ref o]) rfl ?_
            have hTo := hT
            refine T_put (ci := 5) (v := .int z_363) (ty := .int) (t := tI) (C := RX5) (T := TX5) (N := 8) hx hb hts inw_X2_readTest_5 tyX5 tyX5_ok nmX5 hown hK hP hD hS hT 1 rfl rfl 2 (by decide) (hts (.fieldLink RX2 79 "VatHouse$Step" "number" "I") (by decide +kernel)) (fun _ h9 => h9) rfl (by decide +kernel) rfl rfl rfl ⟨_, rfl⟩ dX2_readTest_112 (fun f_372 H locs hP hD hS hT hE1 hrd_373 => ?_)
            have hF := Fr.put (a := o) (ci := 5) hF hE ((hE1 o (hT.at 1 rfl).1).2.symm.trans (hT.at 1 rfl).2) (by decide) hrd_373
            have hE := hE.tr hE1
            have hk_374 : rd f_372 h0 2 = .int tn_365 := ((Fr.put (cs := [(5, 2)]) (a := o) (ci := 5) Fr.rf Ext.rf (hTo.at 1 rfl).2 (by decide) hrd_373) h0 (hTo.at 0 rfl).1 2 (hTo.at 0 rfl).2 2 (by decide)).trans hk_367
            have hk_375 : rd f_372 h0 3 = .int fa_366 := ((Fr.put (cs := [(5, 2)]) (a := o) (ci := 5) Fr.rf Ext.rf (hTo.at 1 rfl).2 (by decide) hrd_373) h0 (hTo.at 0 rfl).1 2 (hTo.at 0 rfl).2 3 (by decide)).trans hk_368
            exact K_v hx hb hr hlocks hP hD hK hS hT hE ⟨rfl, hF, _, _, hk_374, hk_375, trivial, fun h9 => (absurd ((hrel_33 (hrel_330 ((hrel_358 (hrel_370 h9)).1))).1) hrel_11)⟩ (Nat.le_of_ble_eq_true rfl) (Nat.le_of_ble_eq_true rfl) dX2_readTest_115
          · refine lv_bipush (v := 60) hx hb dX2_readTest_93 (by decide) ?_
            refine lv_goto (tgt := 100) hx hb dX2_readTest_95 (by decide) ?_
            have hTo := hT
            refine K_V ⟨hx, hb, hml, hown, hts⟩ (t_X2_pass l dC dI sa hlt g _ _ h0 60 tn_325 fa_326 _ (hT.sub [0] rfl)  hk_342 hk_343 ) (cwV 1 hts gX2_readTest_X2_pass rfl rfl rfl (by decide +kernel) ⟨Nat.le_of_ble_eq_true rfl, Nat.le_of_ble_eq_true rfl⟩) hP hD hK hS hA hev hT 0 2 rfl rfl rfl rfl hl.1 rfl (Nat.le_of_ble_eq_true rfl) dX2_readTest_100 ⟨Nat.le_of_ble_eq_true rfl, Nat.le_of_ble_eq_true rfl⟩ (fun r L_376 f_377 H locs hw_378 hP hD hS hT hE1 => ?_)
            have hF := Fr.call hF hE hw_378.2.1 (by decide)
            have hE := hE.tr hE1
            obtain ⟨rfl, hw_378⟩ := hw_378
            obtain ⟨hfr_379, tn_380, fa_381, hk_382, hk_383, hrel_384, hrel_385⟩ := hw_378
            refine W.eq (g2 := F0 m 103 ls []) rfl ?_
            refine lv_aload_n hx hb dX2_readTest_103 rfl (lv_at hl 1 rfl) ?_
            refine lv_aload_n hx hb dX2_readTest_104 rfl (lv_at hl 0 rfl) ?_
            refine lv_iconst (v := 0) hx hb dX2_readTest_105 (by decide) ?_
            refine lv_sipush (v := 9999) hx hb dX2_readTest_106 (by decide) ?_
            have hTo := hT
            refine K_V ⟨hx, hb, hml, hown, hts⟩ (t_X2_readNumber l dC dI sa hlt g _ _ h0 0 9999 tn_380 fa_381 _ (hT.sub [0] rfl)  hk_382 hk_383 ) (cwV 2 hts gX2_readTest_X2_readNumber rfl rfl rfl (by decide +kernel) ⟨Nat.le_of_ble_eq_true rfl, Nat.le_of_ble_eq_true rfl⟩) hP hD hK hS hA hev hT 0 2 rfl rfl rfl rfl hl.1 rfl (Nat.le_of_ble_eq_true rfl) dX2_readTest_109 ⟨Nat.le_of_ble_eq_true rfl, Nat.le_of_ble_eq_true rfl⟩ (fun r L_387 f_388 H locs hw_389 hP hD hS hT hE1 => ?_)
            have hF := Fr.call hF hE hw_389.2.1 (by decide)
            have hE := hE.tr hE1
            obtain ⟨⟨z_390, rfl⟩, hw_389⟩ := hw_389
            obtain ⟨hfr_391, tn_392, fa_393, hk_394, hk_395, hrel_396, hrel_397⟩ := hw_389
            refine W.eq (g2 := F0 m 112 ls [.int z_390, .ref o]) rfl ?_
            have hTo := hT
            refine T_put (ci := 5) (v := .int z_390) (ty := .int) (t := tI) (C := RX5) (T := TX5) (N := 8) hx hb hts inw_X2_readTest_5 tyX5 tyX5_ok nmX5 hown hK hP hD hS hT 1 rfl rfl 2 (by decide) (hts (.fieldLink RX2 79 "VatHouse$Step" "number" "I") (by decide +kernel)) (fun _ h9 => h9) rfl (by decide +kernel) rfl rfl rfl ⟨_, rfl⟩ dX2_readTest_112 (fun f_399 H locs hP hD hS hT hE1 hrd_400 => ?_)
            have hF := Fr.put (a := o) (ci := 5) hF hE ((hE1 o (hT.at 1 rfl).1).2.symm.trans (hT.at 1 rfl).2) (by decide) hrd_400
            have hE := hE.tr hE1
            have hk_401 : rd f_399 h0 2 = .int tn_392 := ((Fr.put (cs := [(5, 2)]) (a := o) (ci := 5) Fr.rf Ext.rf (hTo.at 1 rfl).2 (by decide) hrd_400) h0 (hTo.at 0 rfl).1 2 (hTo.at 0 rfl).2 2 (by decide)).trans hk_394
            have hk_402 : rd f_399 h0 3 = .int fa_393 := ((Fr.put (cs := [(5, 2)]) (a := o) (ci := 5) Fr.rf Ext.rf (hTo.at 1 rfl).2 (by decide) hrd_400) h0 (hTo.at 0 rfl).1 2 (hTo.at 0 rfl).2 3 (by decide)).trans hk_395
            exact K_v hx hb hr hlocks hP hD hK hS hT hE ⟨rfl, hF, _, _, hk_401, hk_402, trivial, fun h9 => (absurd ((hrel_33 (hrel_330 ((hrel_385 (hrel_397 h9)).1))).1) hrel_11)⟩ (Nat.le_of_ble_eq_true rfl) (Nat.le_of_ble_eq_true rfl) dX2_readTest_115
        · refine lv_iconst (v := 1) hx hb dX2_readTest_77 (by decide) ?_
          refine lv_goto (tgt := 82) hx hb dX2_readTest_78 (by decide) ?_
          have hTo := hT
          refine T_put (ci := 5) (v := .int 1) (ty := .boolean) (t := tI) (C := RX5) (T := TX5) (N := 8) hx hb hts inw_X2_readTest_5 tyX5 tyX5_ok nmX5 hown hK hP hD hS hT 1 rfl rfl 4 (by decide) (hts (.fieldLink RX2 97 "VatHouse$Step" "below" "Z") (by decide +kernel)) (fun _ h9 => h9) rfl (by decide +kernel) rfl rfl rfl ⟨_, rfl⟩ dX2_readTest_82 (fun f_403 H locs hP hD hS hT hE1 hrd_404 => ?_)
          have hF := Fr.put (a := o) (ci := 5) hF hE ((hE1 o (hT.at 1 rfl).1).2.symm.trans (hT.at 1 rfl).2) (by decide) hrd_404
          have hE := hE.tr hE1
          have hk_405 : rd f_403 h0 2 = .int tn_325 := ((Fr.put (cs := [(5, 4)]) (a := o) (ci := 5) Fr.rf Ext.rf (hTo.at 1 rfl).2 (by decide) hrd_404) h0 (hTo.at 0 rfl).1 2 (hTo.at 0 rfl).2 2 (by decide)).trans hk_334
          have hk_406 : rd f_403 h0 3 = .int fa_326 := ((Fr.put (cs := [(5, 4)]) (a := o) (ci := 5) Fr.rf Ext.rf (hTo.at 1 rfl).2 (by decide) hrd_404) h0 (hTo.at 0 rfl).1 2 (hTo.at 0 rfl).2 3 (by decide)).trans hk_335
          refine lv_aload_n hx hb dX2_readTest_85 rfl (lv_at hl 0 rfl) ?_
          refine lv_aload_n hx hb dX2_readTest_86 rfl (lv_at hl 1 rfl) ?_
          refine T_get (ci := 5) (C := RX5) (T := TX5) (N := 8) (t := tI) hx hb hts inw_X2_readTest_5 hown hK hP hT 1 rfl rfl 4 (by decide) (hts (.fieldLink RX2 97 "VatHouse$Step" "below" "Z") (by decide +kernel)) (fun _ h9 => h9) rfl dX2_readTest_87 (fun v_409 hv_407 hr_408 => ?_)
          obtain ⟨z_410, rfl⟩ := hv_407
          refine lv_if_eq (tgt := 98) hx hb dX2_readTest_90 (by decide) (fun c_411 => ?_) (fun c_411 => ?_)
          · refine lv_bipush (v := 61) hx hb dX2_readTest_98 (by decide) ?_
            have hTo := hT
            refine K_V ⟨hx, hb, hml, hown, hts⟩ (t_X2_pass l dC dI sa hlt g _ _ h0 61 tn_325 fa_326 _ (hT.sub [0] rfl)  hk_405 hk_406 ) (cwV 1 hts gX2_readTest_X2_pass rfl rfl rfl (by decide +kernel) ⟨Nat.le_of_ble_eq_true rfl, Nat.le_of_ble_eq_true rfl⟩) hP hD hK hS hA hev hT 0 2 rfl rfl rfl rfl hl.1 rfl (Nat.le_of_ble_eq_true rfl) dX2_readTest_100 ⟨Nat.le_of_ble_eq_true rfl, Nat.le_of_ble_eq_true rfl⟩ (fun r L_412 f_413 H locs hw_414 hP hD hS hT hE1 => ?_)
            have hF := Fr.call hF hE hw_414.2.1 (by decide)
            have hE := hE.tr hE1
            obtain ⟨rfl, hw_414⟩ := hw_414
            obtain ⟨hfr_415, tn_416, fa_417, hk_418, hk_419, hrel_420, hrel_421⟩ := hw_414
            refine W.eq (g2 := F0 m 103 ls []) rfl ?_
            refine lv_aload_n hx hb dX2_readTest_103 rfl (lv_at hl 1 rfl) ?_
            refine lv_aload_n hx hb dX2_readTest_104 rfl (lv_at hl 0 rfl) ?_
            refine lv_iconst (v := 0) hx hb dX2_readTest_105 (by decide) ?_
            refine lv_sipush (v := 9999) hx hb dX2_readTest_106 (by decide) ?_
            have hTo := hT
            refine K_V ⟨hx, hb, hml, hown, hts⟩ (t_X2_readNumber l dC dI sa hlt g _ _ h0 0 9999 tn_416 fa_417 _ (hT.sub [0] rfl)  hk_418 hk_419 ) (cwV 2 hts gX2_readTest_X2_readNumber rfl rfl rfl (by decide +kernel) ⟨Nat.le_of_ble_eq_true rfl, Nat.le_of_ble_eq_true rfl⟩) hP hD hK hS hA hev hT 0 2 rfl rfl rfl rfl hl.1 rfl (Nat.le_of_ble_eq_true rfl) dX2_readTest_109 ⟨Nat.le_of_ble_eq_true rfl, Nat.le_of_ble_eq_true rfl⟩ (fun r L_423 f_424 H locs hw_425 hP hD hS hT hE1 => ?_)
            have hF := Fr.call hF hE hw_425.2.1 (by decide)
            have hE := hE.tr hE1
            obtain ⟨⟨z_426, rfl⟩, hw_425⟩ := hw_425
            obtain ⟨hfr_427, tn_428, fa_429, hk_430, hk_431, hrel_432, hrel_433⟩ := hw_425
            refine W.eq (g2 := F0 m 112 ls [.int z_426, .ref o]) rfl ?_
            have hTo := hT
            refine T_put (ci := 5) (v := .int z_426) (ty := .int) (t := tI) (C := RX5) (T := TX5) (N := 8) hx hb hts inw_X2_readTest_5 tyX5 tyX5_ok nmX5 hown hK hP hD hS hT 1 rfl rfl 2 (by decide) (hts (.fieldLink RX2 79 "VatHouse$Step" "number" "I") (by decide +kernel)) (fun _ h9 => h9) rfl (by decide +kernel) rfl rfl rfl ⟨_, rfl⟩ dX2_readTest_112 (fun f_435 H locs hP hD hS hT hE1 hrd_436 => ?_)
            have hF := Fr.put (a := o) (ci := 5) hF hE ((hE1 o (hT.at 1 rfl).1).2.symm.trans (hT.at 1 rfl).2) (by decide) hrd_436
            have hE := hE.tr hE1
            have hk_437 : rd f_435 h0 2 = .int tn_428 := ((Fr.put (cs := [(5, 2)]) (a := o) (ci := 5) Fr.rf Ext.rf (hTo.at 1 rfl).2 (by decide) hrd_436) h0 (hTo.at 0 rfl).1 2 (hTo.at 0 rfl).2 2 (by decide)).trans hk_430
            have hk_438 : rd f_435 h0 3 = .int fa_429 := ((Fr.put (cs := [(5, 2)]) (a := o) (ci := 5) Fr.rf Ext.rf (hTo.at 1 rfl).2 (by decide) hrd_436) h0 (hTo.at 0 rfl).1 2 (hTo.at 0 rfl).2 3 (by decide)).trans hk_431
            exact K_v hx hb hr hlocks hP hD hK hS hT hE ⟨rfl, hF, _, _, hk_437, hk_438, trivial, fun h9 => (absurd ((hrel_33 (hrel_330 ((hrel_421 (hrel_433 h9)).1))).1) hrel_11)⟩ (Nat.le_of_ble_eq_true rfl) (Nat.le_of_ble_eq_true rfl) dX2_readTest_115
          · refine lv_bipush (v := 60) hx hb dX2_readTest_93 (by decide) ?_
            refine lv_goto (tgt := 100) hx hb dX2_readTest_95 (by decide) ?_
            have hTo := hT
            refine K_V ⟨hx, hb, hml, hown, hts⟩ (t_X2_pass l dC dI sa hlt g _ _ h0 60 tn_325 fa_326 _ (hT.sub [0] rfl)  hk_405 hk_406 ) (cwV 1 hts gX2_readTest_X2_pass rfl rfl rfl (by decide +kernel) ⟨Nat.le_of_ble_eq_true rfl, Nat.le_of_ble_eq_true rfl⟩) hP hD hK hS hA hev hT 0 2 rfl rfl rfl rfl hl.1 rfl (Nat.le_of_ble_eq_true rfl) dX2_readTest_100 ⟨Nat.le_of_ble_eq_true rfl, Nat.le_of_ble_eq_true rfl⟩ (fun r L_439 f_440 H locs hw_441 hP hD hS hT hE1 => ?_)
            have hF := Fr.call hF hE hw_441.2.1 (by decide)
            have hE := hE.tr hE1
            obtain ⟨rfl, hw_441⟩ := hw_441
            obtain ⟨hfr_442, tn_443, fa_444, hk_445, hk_446, hrel_447, hrel_448⟩ := hw_441
            refine W.eq (g2 := F0 m 103 ls []) rfl ?_
            refine lv_aload_n hx hb dX2_readTest_103 rfl (lv_at hl 1 rfl) ?_
            refine lv_aload_n hx hb dX2_readTest_104 rfl (lv_at hl 0 rfl) ?_
            refine lv_iconst (v := 0) hx hb dX2_readTest_105 (by decide) ?_
            refine lv_sipush (v := 9999) hx hb dX2_readTest_106 (by decide) ?_
            have hTo := hT
            refine K_V ⟨hx, hb, hml, hown, hts⟩ (t_X2_readNumber l dC dI sa hlt g _ _ h0 0 9999 tn_443 fa_444 _ (hT.sub [0] rfl)  hk_445 hk_446 ) (cwV 2 hts gX2_readTest_X2_readNumber rfl rfl rfl (by decide +kernel) ⟨Nat.le_of_ble_eq_true rfl, Nat.le_of_ble_eq_true rfl⟩) hP hD hK hS hA hev hT 0 2 rfl rfl rfl rfl hl.1 rfl (Nat.le_of_ble_eq_true rfl) dX2_readTest_109 ⟨Nat.le_of_ble_eq_true rfl, Nat.le_of_ble_eq_true rfl⟩ (fun r L_450 f_451 H locs hw_452 hP hD hS hT hE1 => ?_)
            have hF := Fr.call hF hE hw_452.2.1 (by decide)
            have hE := hE.tr hE1
            obtain ⟨⟨z_453, rfl⟩, hw_452⟩ := hw_452
            obtain ⟨hfr_454, tn_455, fa_456, hk_457, hk_458, hrel_459, hrel_460⟩ := hw_452
            refine W.eq (g2 := F0 m 112 ls [.int z_453, .ref o]) rfl ?_
            have hTo := hT
            refine T_put (ci := 5) (v := .int z_453) (ty := .int) (t := tI) (C := RX5) (T := TX5) (N := 8) hx hb hts inw_X2_readTest_5 tyX5 tyX5_ok nmX5 hown hK hP hD hS hT 1 rfl rfl 2 (by decide) (hts (.fieldLink RX2 79 "VatHouse$Step" "number" "I") (by decide +kernel)) (fun _ h9 => h9) rfl (by decide +kernel) rfl rfl rfl ⟨_, rfl⟩ dX2_readTest_112 (fun f_462 H locs hP hD hS hT hE1 hrd_463 => ?_)
            have hF := Fr.put (a := o) (ci := 5) hF hE ((hE1 o (hT.at 1 rfl).1).2.symm.trans (hT.at 1 rfl).2) (by decide) hrd_463
            have hE := hE.tr hE1
            have hk_464 : rd f_462 h0 2 = .int tn_455 := ((Fr.put (cs := [(5, 2)]) (a := o) (ci := 5) Fr.rf Ext.rf (hTo.at 1 rfl).2 (by decide) hrd_463) h0 (hTo.at 0 rfl).1 2 (hTo.at 0 rfl).2 2 (by decide)).trans hk_457
            have hk_465 : rd f_462 h0 3 = .int fa_456 := ((Fr.put (cs := [(5, 2)]) (a := o) (ci := 5) Fr.rf Ext.rf (hTo.at 1 rfl).2 (by decide) hrd_463) h0 (hTo.at 0 rfl).1 2 (hTo.at 0 rfl).2 3 (by decide)).trans hk_458
            exact K_v hx hb hr hlocks hP hD hK hS hT hE ⟨rfl, hF, _, _, hk_464, hk_465, trivial, fun h9 => (absurd ((hrel_33 (hrel_330 ((hrel_448 (hrel_460 h9)).1))).1) hrel_11)⟩ (Nat.le_of_ble_eq_true rfl) (Nat.le_of_ble_eq_true rfl) dX2_readTest_115
  · refine lv_aload_n hx hb dX2_readTest_9 rfl (lv_at hl 0 rfl) ?_
    refine T_get (ci := 2) (C := RX2) (T := TX2) (N := 6) (t := tI) hx hb hts inw_X2_readTest_2 hown hK hP hT 0 rfl rfl 2 (by decide) (hts (.fieldLink RX2 44 "VatHouse$Reader" "token" "I") (by decide +kernel)) (fun _ h9 => h9) rfl dX2_readTest_10 (fun v_468 hv_466 hr_467 => ?_)
    obtain rfl : v_468 = .int tn := hr_467.symm.trans hm_tn
    refine lv_bipush (v := 19) hx hb dX2_readTest_13 (by decide) ?_
    refine lv_icmp_le (tgt := 23) hx hb dX2_readTest_15 (by decide) (fun c_469 => ?_) (fun c_469 => ?_)
    · refine lv_aload_n hx hb dX2_readTest_23 rfl (lv_at hl 1 rfl) ?_
      refine lv_aload_n hx hb dX2_readTest_24 rfl (lv_at hl 0 rfl) ?_
      refine T_get (ci := 2) (C := RX2) (T := TX2) (N := 6) (t := tI) hx hb hts inw_X2_readTest_2 hown hK hP hT 0 rfl rfl 2 (by decide) (hts (.fieldLink RX2 44 "VatHouse$Reader" "token" "I") (by decide +kernel)) (fun _ h9 => h9) rfl dX2_readTest_25 (fun v_472 hv_470 hr_471 => ?_)
      obtain rfl : v_472 = .int tn := hr_471.symm.trans hm_tn
      have hTo := hT
      refine T_put (ci := 5) (v := .int tn) (ty := .int) (t := tI) (C := RX5) (T := TX5) (N := 8) hx hb hts inw_X2_readTest_5 tyX5 tyX5_ok nmX5 hown hK hP hD hS hT 1 rfl rfl 3 (by decide) (hts (.fieldLink RX2 94 "VatHouse$Step" "look" "I") (by decide +kernel)) (fun _ h9 => h9) rfl (by decide +kernel) rfl rfl rfl ⟨_, rfl⟩ dX2_readTest_28 (fun f_473 H locs hP hD hS hT hE1 hrd_474 => ?_)
      have hF := Fr.put (a := o) (ci := 5) hF hE ((hE1 o (hT.at 1 rfl).1).2.symm.trans (hT.at 1 rfl).2) (by decide) hrd_474
      have hE := hE.tr hE1
      have hk_475 : rd f_473 h0 2 = .int tn := ((Fr.put (cs := [(5, 3)]) (a := o) (ci := 5) Fr.rf Ext.rf (hTo.at 1 rfl).2 (by decide) hrd_474) h0 (hTo.at 0 rfl).1 2 (hTo.at 0 rfl).2 2 (by decide)).trans hm_tn
      have hk_476 : rd f_473 h0 3 = .int fa := ((Fr.put (cs := [(5, 3)]) (a := o) (ci := 5) Fr.rf Ext.rf (hTo.at 1 rfl).2 (by decide) hrd_474) h0 (hTo.at 0 rfl).1 2 (hTo.at 0 rfl).2 3 (by decide)).trans hm_fa
      refine lv_aload_n hx hb dX2_readTest_31 rfl (lv_at hl 0 rfl) ?_
      refine lv_aload_n hx hb dX2_readTest_32 rfl (lv_at hl 0 rfl) ?_
      refine T_get (ci := 2) (C := RX2) (T := TX2) (N := 6) (t := tI) hx hb hts inw_X2_readTest_2 hown hK hP hT 0 rfl rfl 2 (by decide) (hts (.fieldLink RX2 44 "VatHouse$Reader" "token" "I") (by decide +kernel)) (fun _ h9 => h9) rfl dX2_readTest_33 (fun v_479 hv_477 hr_478 => ?_)
      obtain rfl : v_479 = .int tn := hr_478.symm.trans hk_475
      have hTo := hT
      refine K_V ⟨hx, hb, hml, hown, hts⟩ (t_X2_pass l dC dI sa hlt g _ _ h0 tn tn fa _ (hT.sub [0] rfl)  hk_475 hk_476 ) (cwV 1 hts gX2_readTest_X2_pass rfl rfl rfl (by decide +kernel) ⟨Nat.le_of_ble_eq_true rfl, Nat.le_of_ble_eq_true rfl⟩) hP hD hK hS hA hev hT 0 2 rfl rfl rfl rfl hl.1 rfl (Nat.le_of_ble_eq_true rfl) dX2_readTest_36 ⟨Nat.le_of_ble_eq_true rfl, Nat.le_of_ble_eq_true rfl⟩ (fun r L_480 f_481 H locs hw_482 hP hD hS hT hE1 => ?_)
      have hF := Fr.call hF hE hw_482.2.1 (by decide)
      have hE := hE.tr hE1
      obtain ⟨rfl, hw_482⟩ := hw_482
      obtain ⟨hfr_483, tn_484, fa_485, hk_486, hk_487, hrel_488, hrel_489⟩ := hw_482
      refine W.eq (g2 := F0 m 39 ls []) rfl ?_
      refine lv_aload_n hx hb dX2_readTest_39 rfl (lv_at hl 1 rfl) ?_
      refine T_get (ci := 5) (C := RX5) (T := TX5) (N := 8) (t := tI) hx hb hts inw_X2_readTest_5 hown hK hP hT 1 rfl rfl 3 (by decide) (hts (.fieldLink RX2 94 "VatHouse$Step" "look" "I") (by decide +kernel)) (fun _ h9 => h9) rfl dX2_readTest_40 (fun v_493 hv_491 hr_492 => ?_)
      obtain ⟨z_494, rfl⟩ := hv_491
      refine lv_bipush (v := 17) hx hb dX2_readTest_43 (by decide) ?_
      refine lv_icmp_eq (tgt := 57) hx hb dX2_readTest_45 (by decide) (fun c_495 => ?_) (fun c_495 => ?_)
      · refine lv_aload_n hx hb dX2_readTest_57 rfl (lv_at hl 1 rfl) ?_
        refine lv_aload_n hx hb dX2_readTest_58 rfl (lv_at hl 0 rfl) ?_
        refine lv_iconst (v := 0) hx hb dX2_readTest_59 (by decide) ?_
        refine lv_iconst (v := 5) hx hb dX2_readTest_60 (by decide) ?_
        have hTo := hT
        refine K_V ⟨hx, hb, hml, hown, hts⟩ (t_X2_readNumber l dC dI sa hlt g _ _ h0 0 5 tn_484 fa_485 _ (hT.sub [0] rfl)  hk_486 hk_487 ) (cwV 2 hts gX2_readTest_X2_readNumber rfl rfl rfl (by decide +kernel) ⟨Nat.le_of_ble_eq_true rfl, Nat.le_of_ble_eq_true rfl⟩) hP hD hK hS hA hev hT 0 2 rfl rfl rfl rfl hl.1 rfl (Nat.le_of_ble_eq_true rfl) dX2_readTest_61 ⟨Nat.le_of_ble_eq_true rfl, Nat.le_of_ble_eq_true rfl⟩ (fun r L_496 f_497 H locs hw_498 hP hD hS hT hE1 => ?_)
        have hF := Fr.call hF hE hw_498.2.1 (by decide)
        have hE := hE.tr hE1
        obtain ⟨⟨z_499, rfl⟩, hw_498⟩ := hw_498
        obtain ⟨hfr_500, tn_501, fa_502, hk_503, hk_504, hrel_505, hrel_506⟩ := hw_498
        refine W.eq (g2 := F0 m 64 ls [.int z_499, .ref o]) rfl ?_
        have hTo := hT
        refine T_put (ci := 5) (v := .int z_499) (ty := .int) (t := tI) (C := RX5) (T := TX5) (N := 8) hx hb hts inw_X2_readTest_5 tyX5 tyX5_ok nmX5 hown hK hP hD hS hT 1 rfl rfl 1 (by decide) (hts (.fieldLink RX2 76 "VatHouse$Step" "vat" "I") (by decide +kernel)) (fun _ h9 => h9) rfl (by decide +kernel) rfl rfl rfl ⟨_, rfl⟩ dX2_readTest_64 (fun f_508 H locs hP hD hS hT hE1 hrd_509 => ?_)
        have hF := Fr.put (a := o) (ci := 5) hF hE ((hE1 o (hT.at 1 rfl).1).2.symm.trans (hT.at 1 rfl).2) (by decide) hrd_509
        have hE := hE.tr hE1
        have hk_510 : rd f_508 h0 2 = .int tn_501 := ((Fr.put (cs := [(5, 1)]) (a := o) (ci := 5) Fr.rf Ext.rf (hTo.at 1 rfl).2 (by decide) hrd_509) h0 (hTo.at 0 rfl).1 2 (hTo.at 0 rfl).2 2 (by decide)).trans hk_503
        have hk_511 : rd f_508 h0 3 = .int fa_502 := ((Fr.put (cs := [(5, 1)]) (a := o) (ci := 5) Fr.rf Ext.rf (hTo.at 1 rfl).2 (by decide) hrd_509) h0 (hTo.at 0 rfl).1 2 (hTo.at 0 rfl).2 3 (by decide)).trans hk_504
        refine lv_aload_n hx hb dX2_readTest_67 rfl (lv_at hl 1 rfl) ?_
        refine lv_aload_n hx hb dX2_readTest_68 rfl (lv_at hl 0 rfl) ?_
        refine T_get (ci := 2) (C := RX2) (T := TX2) (N := 6) (t := tI) hx hb hts inw_X2_readTest_2 hown hK hP hT 0 rfl rfl 2 (by decide) (hts (.fieldLink RX2 44 "VatHouse$Reader" "token" "I") (by decide +kernel)) (fun _ h9 => h9) rfl dX2_readTest_69 (fun v_514 hv_512 hr_513 => ?_)
        obtain rfl : v_514 = .int tn_501 := hr_513.symm.trans hk_510
        refine lv_bipush (v := 60) hx hb dX2_readTest_72 (by decide) ?_
        refine lv_icmp_ne (tgt := 81) hx hb dX2_readTest_74 (by decide) (fun c_515 => ?_) (fun c_515 => ?_)
        · refine lv_iconst (v := 0) hx hb dX2_readTest_81 (by decide) ?_
          have hTo := hT
          refine T_put (ci := 5) (v := .int 0) (ty := .boolean) (t := tI) (C := RX5) (T := TX5) (N := 8) hx hb hts inw_X2_readTest_5 tyX5 tyX5_ok nmX5 hown hK hP hD hS hT 1 rfl rfl 4 (by decide) (hts (.fieldLink RX2 97 "VatHouse$Step" "below" "Z") (by decide +kernel)) (fun _ h9 => h9) rfl (by decide +kernel) rfl rfl rfl ⟨_, rfl⟩ dX2_readTest_82 (fun f_516 H locs hP hD hS hT hE1 hrd_517 => ?_)
          have hF := Fr.put (a := o) (ci := 5) hF hE ((hE1 o (hT.at 1 rfl).1).2.symm.trans (hT.at 1 rfl).2) (by decide) hrd_517
          have hE := hE.tr hE1
          have hk_518 : rd f_516 h0 2 = .int tn_501 := ((Fr.put (cs := [(5, 4)]) (a := o) (ci := 5) Fr.rf Ext.rf (hTo.at 1 rfl).2 (by decide) hrd_517) h0 (hTo.at 0 rfl).1 2 (hTo.at 0 rfl).2 2 (by decide)).trans hk_510
          have hk_519 : rd f_516 h0 3 = .int fa_502 := ((Fr.put (cs := [(5, 4)]) (a := o) (ci := 5) Fr.rf Ext.rf (hTo.at 1 rfl).2 (by decide) hrd_517) h0 (hTo.at 0 rfl).1 2 (hTo.at 0 rfl).2 3 (by decide)).trans hk_511
          refine lv_aload_n hx hb dX2_readTest_85 rfl (lv_at hl 0 rfl) ?_
          refine lv_aload_n hx hb dX2_readTest_86 rfl (lv_at hl 1 rfl) ?_
          refine T_get (ci := 5) (C := RX5) (T := TX5) (N := 8) (t := tI) hx hb hts inw_X2_readTest_5 hown hK hP hT 1 rfl rfl 4 (by decide) (hts (.fieldLink RX2 97 "VatHouse$Step" "below" "Z") (by decide +kernel)) (fun _ h9 => h9) rfl dX2_readTest_87 (fun v_522 hv_520 hr_521 => ?_)
          obtain ⟨z_523, rfl⟩ := hv_520
          refine lv_if_eq (tgt := 98) hx hb dX2_readTest_90 (by decide) (fun c_524 => ?_) (fun c_524 => ?_)
          · refine lv_bipush (v := 61) hx hb dX2_readTest_98 (by decide) ?_
            have hTo := hT
            refine K_V ⟨hx, hb, hml, hown, hts⟩ (t_X2_pass l dC dI sa hlt g _ _ h0 61 tn_501 fa_502 _ (hT.sub [0] rfl)  hk_518 hk_519 ) (cwV 1 hts gX2_readTest_X2_pass rfl rfl rfl (by decide +kernel) ⟨Nat.le_of_ble_eq_true rfl, Nat.le_of_ble_eq_true rfl⟩) hP hD hK hS hA hev hT 0 2 rfl rfl rfl rfl hl.1 rfl (Nat.le_of_ble_eq_true rfl) dX2_readTest_100 ⟨Nat.le_of_ble_eq_true rfl, Nat.le_of_ble_eq_true rfl⟩ (fun r L_525 f_526 H locs hw_527 hP hD hS hT hE1 => ?_)
            have hF := Fr.call hF hE hw_527.2.1 (by decide)
            have hE := hE.tr hE1
            obtain ⟨rfl, hw_527⟩ := hw_527
            obtain ⟨hfr_528, tn_529, fa_530, hk_531, hk_532, hrel_533, hrel_534⟩ := hw_527
            refine W.eq (g2 := F0 m 103 ls []) rfl ?_
            refine lv_aload_n hx hb dX2_readTest_103 rfl (lv_at hl 1 rfl) ?_
            refine lv_aload_n hx hb dX2_readTest_104 rfl (lv_at hl 0 rfl) ?_
            refine lv_iconst (v := 0) hx hb dX2_readTest_105 (by decide) ?_
            refine lv_sipush (v := 9999) hx hb dX2_readTest_106 (by decide) ?_
            have hTo := hT
            refine K_V ⟨hx, hb, hml, hown, hts⟩ (t_X2_readNumber l dC dI sa hlt g _ _ h0 0 9999 tn_529 fa_530 _ (hT.sub [0] rfl)  hk_531 hk_532 ) (cwV 2 hts gX2_readTest_X2_readNumber rfl rfl rfl (by decide +kernel) ⟨Nat.le_of_ble_eq_true rfl, Nat.le_of_ble_eq_true rfl⟩) hP hD hK hS hA hev hT 0 2 rfl rfl rfl rfl hl.1 rfl (Nat.le_of_ble_eq_true rfl) dX2_readTest_109 ⟨Nat.le_of_ble_eq_true rfl, Nat.le_of_ble_eq_true rfl⟩ (fun r L_536 f_537 H locs hw_538 hP hD hS hT hE1 => ?_)
            have hF := Fr.call hF hE hw_538.2.1 (by decide)
            have hE := hE.tr hE1
            obtain ⟨⟨z_539, rfl⟩, hw_538⟩ := hw_538
            obtain ⟨hfr_540, tn_541, fa_542, hk_543, hk_544, hrel_545, hrel_546⟩ := hw_538
            refine W.eq (g2 := F0 m 112 ls [.int z_539, .ref o]) rfl ?_
            have hTo := hT
            refine T_put (ci := 5) (v := .int z_539) (ty := .int) (t := tI) (C := RX5) (T := TX5) (N := 8) hx hb hts inw_X2_readTest_5 tyX5 tyX5_ok nmX5 hown hK hP hD hS hT 1 rfl rfl 2 (by decide) (hts (.fieldLink RX2 79 "VatHouse$Step" "number" "I") (by decide +kernel)) (fun _ h9 => h9) rfl (by decide +kernel) rfl rfl rfl ⟨_, rfl⟩ dX2_readTest_112 (fun f_548 H locs hP hD hS hT hE1 hrd_549 => ?_)
            have hF := Fr.put (a := o) (ci := 5) hF hE ((hE1 o (hT.at 1 rfl).1).2.symm.trans (hT.at 1 rfl).2) (by decide) hrd_549
            have hE := hE.tr hE1
            have hk_550 : rd f_548 h0 2 = .int tn_541 := ((Fr.put (cs := [(5, 2)]) (a := o) (ci := 5) Fr.rf Ext.rf (hTo.at 1 rfl).2 (by decide) hrd_549) h0 (hTo.at 0 rfl).1 2 (hTo.at 0 rfl).2 2 (by decide)).trans hk_543
            have hk_551 : rd f_548 h0 3 = .int fa_542 := ((Fr.put (cs := [(5, 2)]) (a := o) (ci := 5) Fr.rf Ext.rf (hTo.at 1 rfl).2 (by decide) hrd_549) h0 (hTo.at 0 rfl).1 2 (hTo.at 0 rfl).2 3 (by decide)).trans hk_544
            exact K_v hx hb hr hlocks hP hD hK hS hT hE ⟨rfl, hF, _, _, hk_550, hk_551, trivial, fun h9 => ((hrel_489 (hrel_506 ((hrel_534 (hrel_546 h9)).1))).1)⟩ (Nat.le_of_ble_eq_true rfl) (Nat.le_of_ble_eq_true rfl) dX2_readTest_115
          · refine lv_bipush (v := 60) hx hb dX2_readTest_93 (by decide) ?_
            refine lv_goto (tgt := 100) hx hb dX2_readTest_95 (by decide) ?_
            have hTo := hT
            refine K_V ⟨hx, hb, hml, hown, hts⟩ (t_X2_pass l dC dI sa hlt g _ _ h0 60 tn_501 fa_502 _ (hT.sub [0] rfl)  hk_518 hk_519 ) (cwV 1 hts gX2_readTest_X2_pass rfl rfl rfl (by decide +kernel) ⟨Nat.le_of_ble_eq_true rfl, Nat.le_of_ble_eq_true rfl⟩) hP hD hK hS hA hev hT 0 2 rfl rfl rfl rfl hl.1 rfl (Nat.le_of_ble_eq_true rfl) dX2_readTest_100 ⟨Nat.le_of_ble_eq_true rfl, Nat.le_of_ble_eq_true rfl⟩ (fun r L_552 f_553 H locs hw_554 hP hD hS hT hE1 => ?_)
            have hF := Fr.call hF hE hw_554.2.1 (by decide)
            have hE := hE.tr hE1
            obtain ⟨rfl, hw_554⟩ := hw_554
            obtain ⟨hfr_555, tn_556, fa_557, hk_558, hk_559, hrel_560, hrel_561⟩ := hw_554
            refine W.eq (g2 := F0 m 103 ls []) rfl ?_
            refine lv_aload_n hx hb dX2_readTest_103 rfl (lv_at hl 1 rfl) ?_
            refine lv_aload_n hx hb dX2_readTest_104 rfl (lv_at hl 0 rfl) ?_
            refine lv_iconst (v := 0) hx hb dX2_readTest_105 (by decide) ?_
            refine lv_sipush (v := 9999) hx hb dX2_readTest_106 (by decide) ?_
            have hTo := hT
            refine K_V ⟨hx, hb, hml, hown, hts⟩ (t_X2_readNumber l dC dI sa hlt g _ _ h0 0 9999 tn_556 fa_557 _ (hT.sub [0] rfl)  hk_558 hk_559 ) (cwV 2 hts gX2_readTest_X2_readNumber rfl rfl rfl (by decide +kernel) ⟨Nat.le_of_ble_eq_true rfl, Nat.le_of_ble_eq_true rfl⟩) hP hD hK hS hA hev hT 0 2 rfl rfl rfl rfl hl.1 rfl (Nat.le_of_ble_eq_true rfl) dX2_readTest_109 ⟨Nat.le_of_ble_eq_true rfl, Nat.le_of_ble_eq_true rfl⟩ (fun r L_563 f_564 H locs hw_565 hP hD hS hT hE1 => ?_)
            have hF := Fr.call hF hE hw_565.2.1 (by decide)
            have hE := hE.tr hE1
            obtain ⟨⟨z_566, rfl⟩, hw_565⟩ := hw_565
            obtain ⟨hfr_567, tn_568, fa_569, hk_570, hk_571, hrel_572, hrel_573⟩ := hw_565
            refine W.eq (g2 := F0 m 112 ls [.int z_566, .ref o]) rfl ?_
            have hTo := hT
            refine T_put (ci := 5) (v := .int z_566) (ty := .int) (t := tI) (C := RX5) (T := TX5) (N := 8) hx hb hts inw_X2_readTest_5 tyX5 tyX5_ok nmX5 hown hK hP hD hS hT 1 rfl rfl 2 (by decide) (hts (.fieldLink RX2 79 "VatHouse$Step" "number" "I") (by decide +kernel)) (fun _ h9 => h9) rfl (by decide +kernel) rfl rfl rfl ⟨_, rfl⟩ dX2_readTest_112 (fun f_575 H locs hP hD hS hT hE1 hrd_576 => ?_)
            have hF := Fr.put (a := o) (ci := 5) hF hE ((hE1 o (hT.at 1 rfl).1).2.symm.trans (hT.at 1 rfl).2) (by decide) hrd_576
            have hE := hE.tr hE1
            have hk_577 : rd f_575 h0 2 = .int tn_568 := ((Fr.put (cs := [(5, 2)]) (a := o) (ci := 5) Fr.rf Ext.rf (hTo.at 1 rfl).2 (by decide) hrd_576) h0 (hTo.at 0 rfl).1 2 (hTo.at 0 rfl).2 2 (by decide)).trans hk_570
            have hk_578 : rd f_575 h0 3 = .int fa_569 := ((Fr.put (cs := [(5, 2)]) (a := o) (ci := 5) Fr.rf Ext.rf (hTo.at 1 rfl).2 (by decide) hrd_576) h0 (hTo.at 0 rfl).1 2 (hTo.at 0 rfl).2 3 (by decide)).trans hk_571
            exact K_v hx hb hr hlocks hP hD hK hS hT hE ⟨rfl, hF, _, _, hk_577, hk_578, trivial, fun h9 => ((hrel_489 (hrel_506 ((hrel_561 (hrel_573 h9)).1))).1)⟩ (Nat.le_of_ble_eq_true rfl) (Nat.le_of_ble_eq_true rfl) dX2_readTest_115
        · refine lv_iconst (v := 1) hx hb dX2_readTest_77 (by decide) ?_
          refine lv_goto (tgt := 82) hx hb dX2_readTest_78 (by decide) ?_
          have hTo := hT
          refine T_put (ci := 5) (v := .int 1) (ty := .boolean) (t := tI) (C := RX5) (T := TX5) (N := 8) hx hb hts inw_X2_readTest_5 tyX5 tyX5_ok nmX5 hown hK hP hD hS hT 1 rfl rfl 4 (by decide) (hts (.fieldLink RX2 97 "VatHouse$Step" "below" "Z") (by decide +kernel)) (fun _ h9 => h9) rfl (by decide +kernel) rfl rfl rfl ⟨_, rfl⟩ dX2_readTest_82 (fun f_579 H locs hP hD hS hT hE1 hrd_580 => ?_)
          have hF := Fr.put (a := o) (ci := 5) hF hE ((hE1 o (hT.at 1 rfl).1).2.symm.trans (hT.at 1 rfl).2) (by decide) hrd_580
          have hE := hE.tr hE1
          have hk_581 : rd f_579 h0 2 = .int tn_501 := ((Fr.put (cs := [(5, 4)]) (a := o) (ci := 5) Fr.rf Ext.rf (hTo.at 1 rfl).2 (by decide) hrd_580) h0 (hTo.at 0 rfl).1 2 (hTo.at 0 rfl).2 2 (by decide)).trans hk_510
          have hk_582 : rd f_579 h0 3 = .int fa_502 := ((Fr.put (cs := [(5, 4)]) (a := o) (ci := 5) Fr.rf Ext.rf (hTo.at 1 rfl).2 (by decide) hrd_580) h0 (hTo.at 0 rfl).1 2 (hTo.at 0 rfl).2 3 (by decide)).trans hk_511
          refine lv_aload_n hx hb dX2_readTest_85 rfl (lv_at hl 0 rfl) ?_
          refine lv_aload_n hx hb dX2_readTest_86 rfl (lv_at hl 1 rfl) ?_
          refine T_get (ci := 5) (C := RX5) (T := TX5) (N := 8) (t := tI) hx hb hts inw_X2_readTest_5 hown hK hP hT 1 rfl rfl 4 (by decide) (hts (.fieldLink RX2 97 "VatHouse$Step" "below" "Z") (by decide +kernel)) (fun _ h9 => h9) rfl dX2_readTest_87 (fun v_585 hv_583 hr_584 => ?_)
          obtain ⟨z_586, rfl⟩ := hv_583
          refine lv_if_eq (tgt := 98) hx hb dX2_readTest_90 (by decide) (fun c_587 => ?_) (fun c_587 => ?_)
          · refine lv_bipush (v := 61) hx hb dX2_readTest_98 (by decide) ?_
            have hTo := hT
            refine K_V ⟨hx, hb, hml, hown, hts⟩ (t_X2_pass l dC dI sa hlt g _ _ h0 61 tn_501 fa_502 _ (hT.sub [0] rfl)  hk_581 hk_582 ) (cwV 1 hts gX2_readTest_X2_pass rfl rfl rfl (by decide +kernel) ⟨Nat.le_of_ble_eq_true rfl, Nat.le_of_ble_eq_true rfl⟩) hP hD hK hS hA hev hT 0 2 rfl rfl rfl rfl hl.1 rfl (Nat.le_of_ble_eq_true rfl) dX2_readTest_100 ⟨Nat.le_of_ble_eq_true rfl, Nat.le_of_ble_eq_true rfl⟩ (fun r L_588 f_589 H locs hw_590 hP hD hS hT hE1 => ?_)
            have hF := Fr.call hF hE hw_590.2.1 (by decide)
            have hE := hE.tr hE1
            obtain ⟨rfl, hw_590⟩ := hw_590
            obtain ⟨hfr_591, tn_592, fa_593, hk_594, hk_595, hrel_596, hrel_597⟩ := hw_590
            refine W.eq (g2 := F0 m 103 ls []) rfl ?_
            refine lv_aload_n hx hb dX2_readTest_103 rfl (lv_at hl 1 rfl) ?_
            refine lv_aload_n hx hb dX2_readTest_104 rfl (lv_at hl 0 rfl) ?_
            refine lv_iconst (v := 0) hx hb dX2_readTest_105 (by decide) ?_
            refine lv_sipush (v := 9999) hx hb dX2_readTest_106 (by decide) ?_
            have hTo := hT
            refine K_V ⟨hx, hb, hml, hown, hts⟩ (t_X2_readNumber l dC dI sa hlt g _ _ h0 0 9999 tn_592 fa_593 _ (hT.sub [0] rfl)  hk_594 hk_595 ) (cwV 2 hts gX2_readTest_X2_readNumber rfl rfl rfl (by decide +kernel) ⟨Nat.le_of_ble_eq_true rfl, Nat.le_of_ble_eq_true rfl⟩) hP hD hK hS hA hev hT 0 2 rfl rfl rfl rfl hl.1 rfl (Nat.le_of_ble_eq_true rfl) dX2_readTest_109 ⟨Nat.le_of_ble_eq_true rfl, Nat.le_of_ble_eq_true rfl⟩ (fun r L_599 f_600 H locs hw_601 hP hD hS hT hE1 => ?_)
            have hF := Fr.call hF hE hw_601.2.1 (by decide)
            have hE := hE.tr hE1
            obtain ⟨⟨z_602, rfl⟩, hw_601⟩ := hw_601
            obtain ⟨hfr_603, tn_604, fa_605, hk_606, hk_607, hrel_608, hrel_609⟩ := hw_601
            refine W.eq (g2 := F0 m 112 ls [.int z_602, .ref o]) rfl ?_
            have hTo := hT
            refine T_put (ci := 5) (v := .int z_602) (ty := .int) (t := tI) (C := RX5) (T := TX5) (N := 8) hx hb hts inw_X2_readTest_5 tyX5 tyX5_ok nmX5 hown hK hP hD hS hT 1 rfl rfl 2 (by decide) (hts (.fieldLink RX2 79 "VatHouse$Step" "number" "I") (by decide +kernel)) (fun _ h9 => h9) rfl (by decide +kernel) rfl rfl rfl ⟨_, rfl⟩ dX2_readTest_112 (fun f_611 H locs hP hD hS hT hE1 hrd_612 => ?_)
            have hF := Fr.put (a := o) (ci := 5) hF hE ((hE1 o (hT.at 1 rfl).1).2.symm.trans (hT.at 1 rfl).2) (by decide) hrd_612
            have hE := hE.tr hE1
            have hk_613 : rd f_611 h0 2 = .int tn_604 := ((Fr.put (cs := [(5, 2)]) (a := o) (ci := 5) Fr.rf Ext.rf (hTo.at 1 rfl).2 (by decide) hrd_612) h0 (hTo.at 0 rfl).1 2 (hTo.at 0 rfl).2 2 (by decide)).trans hk_606
            have hk_614 : rd f_611 h0 3 = .int fa_605 := ((Fr.put (cs := [(5, 2)]) (a := o) (ci := 5) Fr.rf Ext.rf (hTo.at 1 rfl).2 (by decide) hrd_612) h0 (hTo.at 0 rfl).1 2 (hTo.at 0 rfl).2 3 (by decide)).trans hk_607
            exact K_v hx hb hr hlocks hP hD hK hS hT hE ⟨rfl, hF, _, _, hk_613, hk_614, trivial, fun h9 => ((hrel_489 (hrel_506 ((hrel_597 (hrel_609 h9)).1))).1)⟩ (Nat.le_of_ble_eq_true rfl) (Nat.le_of_ble_eq_true rfl) dX2_readTest_115
          · refine lv_bipush (v := 60) hx hb dX2_readTest_93 (by decide) ?_
            refine lv_goto (tgt := 100) hx hb dX2_readTest_95 (by decide) ?_
            have hTo := hT
            refine K_V ⟨hx, hb, hml, hown, hts⟩ (t_X2_pass l dC dI sa hlt g _ _ h0 60 tn_501 fa_502 _ (hT.sub [0] rfl)  hk_581 hk_582 ) (cwV 1 hts gX2_readTest_X2_pass rfl rfl rfl (by decide +kernel) ⟨Nat.le_of_ble_eq_true rfl, Nat.le_of_ble_eq_true rfl⟩) hP hD hK hS hA hev hT 0 2 rfl rfl rfl rfl hl.1 rfl (Nat.le_of_ble_eq_true rfl) dX2_readTest_100 ⟨Nat.le_of_ble_eq_true rfl, Nat.le_of_ble_eq_true rfl⟩ (fun r L_615 f_616 H locs hw_617 hP hD hS hT hE1 => ?_)
            have hF := Fr.call hF hE hw_617.2.1 (by decide)
            have hE := hE.tr hE1
            obtain ⟨rfl, hw_617⟩ := hw_617
            obtain ⟨hfr_618, tn_619, fa_620, hk_621, hk_622, hrel_623, hrel_624⟩ := hw_617
            refine W.eq (g2 := F0 m 103 ls []) rfl ?_
            refine lv_aload_n hx hb dX2_readTest_103 rfl (lv_at hl 1 rfl) ?_
            refine lv_aload_n hx hb dX2_readTest_104 rfl (lv_at hl 0 rfl) ?_
            refine lv_iconst (v := 0) hx hb dX2_readTest_105 (by decide) ?_
            refine lv_sipush (v := 9999) hx hb dX2_readTest_106 (by decide) ?_
            have hTo := hT
            refine K_V ⟨hx, hb, hml, hown, hts⟩ (t_X2_readNumber l dC dI sa hlt g _ _ h0 0 9999 tn_619 fa_620 _ (hT.sub [0] rfl)  hk_621 hk_622 ) (cwV 2 hts gX2_readTest_X2_readNumber rfl rfl rfl (by decide +kernel) ⟨Nat.le_of_ble_eq_true rfl, Nat.le_of_ble_eq_true rfl⟩) hP hD hK hS hA hev hT 0 2 rfl rfl rfl rfl hl.1 rfl (Nat.le_of_ble_eq_true rfl) dX2_readTest_109 ⟨Nat.le_of_ble_eq_true rfl, Nat.le_of_ble_eq_true rfl⟩ (fun r L_626 f_627 H locs hw_628 hP hD hS hT hE1 => ?_)
            have hF := Fr.call hF hE hw_628.2.1 (by decide)
            have hE := hE.tr hE1
            obtain ⟨⟨z_629, rfl⟩, hw_628⟩ := hw_628
            obtain ⟨hfr_630, tn_631, fa_632, hk_633, hk_634, hrel_635, hrel_636⟩ := hw_628
            refine W.eq (g2 := F0 m 112 ls [.int z_629, .ref o]) rfl ?_
            have hTo := hT
            refine T_put (ci := 5) (v := .int z_629) (ty := .int) (t := tI) (C := RX5) (T := TX5) (N := 8) hx hb hts inw_X2_readTest_5 tyX5 tyX5_ok nmX5 hown hK hP hD hS hT 1 rfl rfl 2 (by decide) (hts (.fieldLink RX2 79 "VatHouse$Step" "number" "I") (by decide +kernel)) (fun _ h9 => h9) rfl (by decide +kernel) rfl rfl rfl ⟨_, rfl⟩ dX2_readTest_112 (fun f_638 H locs hP hD hS hT hE1 hrd_639 => ?_)
            have hF := Fr.put (a := o) (ci := 5) hF hE ((hE1 o (hT.at 1 rfl).1).2.symm.trans (hT.at 1 rfl).2) (by decide) hrd_639
            have hE := hE.tr hE1
            have hk_640 : rd f_638 h0 2 = .int tn_631 := ((Fr.put (cs := [(5, 2)]) (a := o) (ci := 5) Fr.rf Ext.rf (hTo.at 1 rfl).2 (by decide) hrd_639) h0 (hTo.at 0 rfl).1 2 (hTo.at 0 rfl).2 2 (by decide)).trans hk_633
            have hk_641 : rd f_638 h0 3 = .int fa_632 := ((Fr.put (cs := [(5, 2)]) (a := o) (ci := 5) Fr.rf Ext.rf (hTo.at 1 rfl).2 (by decide) hrd_639) h0 (hTo.at 0 rfl).1 2 (hTo.at 0 rfl).2 3 (by decide)).trans hk_634
            exact K_v hx hb hr hlocks hP hD hK hS hT hE ⟨rfl, hF, _, _, hk_640, hk_641, trivial, fun h9 => ((hrel_489 (hrel_506 ((hrel_624 (hrel_636 h9)).1))).1)⟩ (Nat.le_of_ble_eq_true rfl) (Nat.le_of_ble_eq_true rfl) dX2_readTest_115
      · refine lv_aload_n hx hb dX2_readTest_48 rfl (lv_at hl 1 rfl) ?_
        refine T_get (ci := 5) (C := RX5) (T := TX5) (N := 8) (t := tI) hx hb hts inw_X2_readTest_5 hown hK hP hT 1 rfl rfl 3 (by decide) (hts (.fieldLink RX2 94 "VatHouse$Step" "look" "I") (by decide +kernel)) (fun _ h9 => h9) rfl dX2_readTest_49 (fun v_644 hv_642 hr_643 => ?_)
        obtain rfl : v_644 = .int z_494 := hr_643.symm.trans hr_492
        refine lv_bipush (v := 18) hx hb dX2_readTest_52 (by decide) ?_
        refine lv_icmp_ne (tgt := 67) hx hb dX2_readTest_54 (by decide) (fun c_645 => ?_) (fun c_645 => ?_)
        · refine lv_aload_n hx hb dX2_readTest_67 rfl (lv_at hl 1 rfl) ?_
          refine lv_aload_n hx hb dX2_readTest_68 rfl (lv_at hl 0 rfl) ?_
          refine T_get (ci := 2) (C := RX2) (T := TX2) (N := 6) (t := tI) hx hb hts inw_X2_readTest_2 hown hK hP hT 0 rfl rfl 2 (by decide) (hts (.fieldLink RX2 44 "VatHouse$Reader" "token" "I") (by decide +kernel)) (fun _ h9 => h9) rfl dX2_readTest_69 (fun v_648 hv_646 hr_647 => ?_)
          obtain rfl : v_648 = .int tn_484 := hr_647.symm.trans hk_486
          refine lv_bipush (v := 60) hx hb dX2_readTest_72 (by decide) ?_
          refine lv_icmp_ne (tgt := 81) hx hb dX2_readTest_74 (by decide) (fun c_649 => ?_) (fun c_649 => ?_)
          · refine lv_iconst (v := 0) hx hb dX2_readTest_81 (by decide) ?_
            have hTo := hT
            refine T_put (ci := 5) (v := .int 0) (ty := .boolean) (t := tI) (C := RX5) (T := TX5) (N := 8) hx hb hts inw_X2_readTest_5 tyX5 tyX5_ok nmX5 hown hK hP hD hS hT 1 rfl rfl 4 (by decide) (hts (.fieldLink RX2 97 "VatHouse$Step" "below" "Z") (by decide +kernel)) (fun _ h9 => h9) rfl (by decide +kernel) rfl rfl rfl ⟨_, rfl⟩ dX2_readTest_82 (fun f_650 H locs hP hD hS hT hE1 hrd_651 => ?_)
            have hF := Fr.put (a := o) (ci := 5) hF hE ((hE1 o (hT.at 1 rfl).1).2.symm.trans (hT.at 1 rfl).2) (by decide) hrd_651
            have hE := hE.tr hE1
            have hk_652 : rd f_650 h0 2 = .int tn_484 := ((Fr.put (cs := [(5, 4)]) (a := o) (ci := 5) Fr.rf Ext.rf (hTo.at 1 rfl).2 (by decide) hrd_651) h0 (hTo.at 0 rfl).1 2 (hTo.at 0 rfl).2 2 (by decide)).trans hk_486
            have hk_653 : rd f_650 h0 3 = .int fa_485 := ((Fr.put (cs := [(5, 4)]) (a := o) (ci := 5) Fr.rf Ext.rf (hTo.at 1 rfl).2 (by decide) hrd_651) h0 (hTo.at 0 rfl).1 2 (hTo.at 0 rfl).2 3 (by decide)).trans hk_487
            refine lv_aload_n hx hb dX2_readTest_85 rfl (lv_at hl 0 rfl) ?_
            refine lv_aload_n hx hb dX2_readTest_86 rfl (lv_at hl 1 rfl) ?_
            refine T_get (ci := 5) (C := RX5) (T := TX5) (N := 8) (t := tI) hx hb hts inw_X2_readTest_5 hown hK hP hT 1 rfl rfl 4 (by decide) (hts (.fieldLink RX2 97 "VatHouse$Step" "below" "Z") (by decide +kernel)) (fun _ h9 => h9) rfl dX2_readTest_87 (fun v_656 hv_654 hr_655 => ?_)
            obtain ⟨z_657, rfl⟩ := hv_654
            refine lv_if_eq (tgt := 98) hx hb dX2_readTest_90 (by decide) (fun c_658 => ?_) (fun c_658 => ?_)
            · refine lv_bipush (v := 61) hx hb dX2_readTest_98 (by decide) ?_
              have hTo := hT
              refine K_V ⟨hx, hb, hml, hown, hts⟩ (t_X2_pass l dC dI sa hlt g _ _ h0 61 tn_484 fa_485 _ (hT.sub [0] rfl)  hk_652 hk_653 ) (cwV 1 hts gX2_readTest_X2_pass rfl rfl rfl (by decide +kernel) ⟨Nat.le_of_ble_eq_true rfl, Nat.le_of_ble_eq_true rfl⟩) hP hD hK hS hA hev hT 0 2 rfl rfl rfl rfl hl.1 rfl (Nat.le_of_ble_eq_true rfl) dX2_readTest_100 ⟨Nat.le_of_ble_eq_true rfl, Nat.le_of_ble_eq_true rfl⟩ (fun r L_659 f_660 H locs hw_661 hP hD hS hT hE1 => ?_)
              have hF := Fr.call hF hE hw_661.2.1 (by decide)
              have hE := hE.tr hE1
              obtain ⟨rfl, hw_661⟩ := hw_661
              obtain ⟨hfr_662, tn_663, fa_664, hk_665, hk_666, hrel_667, hrel_668⟩ := hw_661
              refine W.eq (g2 := F0 m 103 ls []) rfl ?_
              refine lv_aload_n hx hb dX2_readTest_103 rfl (lv_at hl 1 rfl) ?_
              refine lv_aload_n hx hb dX2_readTest_104 rfl (lv_at hl 0 rfl) ?_
              refine lv_iconst (v := 0) hx hb dX2_readTest_105 (by decide) ?_
              refine lv_sipush (v := 9999) hx hb dX2_readTest_106 (by decide) ?_
              have hTo := hT
              refine K_V ⟨hx, hb, hml, hown, hts⟩ (t_X2_readNumber l dC dI sa hlt g _ _ h0 0 9999 tn_663 fa_664 _ (hT.sub [0] rfl)  hk_665 hk_666 ) (cwV 2 hts gX2_readTest_X2_readNumber rfl rfl rfl (by decide +kernel) ⟨Nat.le_of_ble_eq_true rfl, Nat.le_of_ble_eq_true rfl⟩) hP hD hK hS hA hev hT 0 2 rfl rfl rfl rfl hl.1 rfl (Nat.le_of_ble_eq_true rfl) dX2_readTest_109 ⟨Nat.le_of_ble_eq_true rfl, Nat.le_of_ble_eq_true rfl⟩ (fun r L_670 f_671 H locs hw_672 hP hD hS hT hE1 => ?_)
              have hF := Fr.call hF hE hw_672.2.1 (by decide)
              have hE := hE.tr hE1
              obtain ⟨⟨z_673, rfl⟩, hw_672⟩ := hw_672
              obtain ⟨hfr_674, tn_675, fa_676, hk_677, hk_678, hrel_679, hrel_680⟩ := hw_672
              refine W.eq (g2 := F0 m 112 ls [.int z_673, .ref o]) rfl ?_
              have hTo := hT
              refine T_put (ci := 5) (v := .int z_673) (ty := .int) (t := tI) (C := RX5) (T := TX5) (N := 8) hx hb hts inw_X2_readTest_5 tyX5 tyX5_ok nmX5 hown hK hP hD hS hT 1 rfl rfl 2 (by decide) (hts (.fieldLink RX2 79 "VatHouse$Step" "number" "I") (by decide +kernel)) (fun _ h9 => h9) rfl (by decide +kernel) rfl rfl rfl ⟨_, rfl⟩ dX2_readTest_112 (fun f_682 H locs hP hD hS hT hE1 hrd_683 => ?_)
              have hF := Fr.put (a := o) (ci := 5) hF hE ((hE1 o (hT.at 1 rfl).1).2.symm.trans (hT.at 1 rfl).2) (by decide) hrd_683
              have hE := hE.tr hE1
              have hk_684 : rd f_682 h0 2 = .int tn_675 := ((Fr.put (cs := [(5, 2)]) (a := o) (ci := 5) Fr.rf Ext.rf (hTo.at 1 rfl).2 (by decide) hrd_683) h0 (hTo.at 0 rfl).1 2 (hTo.at 0 rfl).2 2 (by decide)).trans hk_677
              have hk_685 : rd f_682 h0 3 = .int fa_676 := ((Fr.put (cs := [(5, 2)]) (a := o) (ci := 5) Fr.rf Ext.rf (hTo.at 1 rfl).2 (by decide) hrd_683) h0 (hTo.at 0 rfl).1 2 (hTo.at 0 rfl).2 3 (by decide)).trans hk_678
              exact K_v hx hb hr hlocks hP hD hK hS hT hE ⟨rfl, hF, _, _, hk_684, hk_685, trivial, fun h9 => ((hrel_489 ((hrel_668 (hrel_680 h9)).1)).1)⟩ (Nat.le_of_ble_eq_true rfl) (Nat.le_of_ble_eq_true rfl) dX2_readTest_115
            · refine lv_bipush (v := 60) hx hb dX2_readTest_93 (by decide) ?_
              refine lv_goto (tgt := 100) hx hb dX2_readTest_95 (by decide) ?_
              have hTo := hT
              refine K_V ⟨hx, hb, hml, hown, hts⟩ (t_X2_pass l dC dI sa hlt g _ _ h0 60 tn_484 fa_485 _ (hT.sub [0] rfl)  hk_652 hk_653 ) (cwV 1 hts gX2_readTest_X2_pass rfl rfl rfl (by decide +kernel) ⟨Nat.le_of_ble_eq_true rfl, Nat.le_of_ble_eq_true rfl⟩) hP hD hK hS hA hev hT 0 2 rfl rfl rfl rfl hl.1 rfl (Nat.le_of_ble_eq_true rfl) dX2_readTest_100 ⟨Nat.le_of_ble_eq_true rfl, Nat.le_of_ble_eq_true rfl⟩ (fun r L_686 f_687 H locs hw_688 hP hD hS hT hE1 => ?_)
              have hF := Fr.call hF hE hw_688.2.1 (by decide)
              have hE := hE.tr hE1
              obtain ⟨rfl, hw_688⟩ := hw_688
              obtain ⟨hfr_689, tn_690, fa_691, hk_692, hk_693, hrel_694, hrel_695⟩ := hw_688
              refine W.eq (g2 := F0 m 103 ls []) rfl ?_
              refine lv_aload_n hx hb dX2_readTest_103 rfl (lv_at hl 1 rfl) ?_
              refine lv_aload_n hx hb dX2_readTest_104 rfl (lv_at hl 0 rfl) ?_
              refine lv_iconst (v := 0) hx hb dX2_readTest_105 (by decide) ?_
              refine lv_sipush (v := 9999) hx hb dX2_readTest_106 (by decide) ?_
              have hTo := hT
              refine K_V ⟨hx, hb, hml, hown, hts⟩ (t_X2_readNumber l dC dI sa hlt g _ _ h0 0 9999 tn_690 fa_691 _ (hT.sub [0] rfl)  hk_692 hk_693 ) (cwV 2 hts gX2_readTest_X2_readNumber rfl rfl rfl (by decide +kernel) ⟨Nat.le_of_ble_eq_true rfl, Nat.le_of_ble_eq_true rfl⟩) hP hD hK hS hA hev hT 0 2 rfl rfl rfl rfl hl.1 rfl (Nat.le_of_ble_eq_true rfl) dX2_readTest_109 ⟨Nat.le_of_ble_eq_true rfl, Nat.le_of_ble_eq_true rfl⟩ (fun r L_697 f_698 H locs hw_699 hP hD hS hT hE1 => ?_)
              have hF := Fr.call hF hE hw_699.2.1 (by decide)
              have hE := hE.tr hE1
              obtain ⟨⟨z_700, rfl⟩, hw_699⟩ := hw_699
              obtain ⟨hfr_701, tn_702, fa_703, hk_704, hk_705, hrel_706, hrel_707⟩ := hw_699
              refine W.eq (g2 := F0 m 112 ls [.int z_700, .ref o]) rfl ?_
              have hTo := hT
              refine T_put (ci := 5) (v := .int z_700) (ty := .int) (t := tI) (C := RX5) (T := TX5) (N := 8) hx hb hts inw_X2_readTest_5 tyX5 tyX5_ok nmX5 hown hK hP hD hS hT 1 rfl rfl 2 (by decide) (hts (.fieldLink RX2 79 "VatHouse$Step" "number" "I") (by decide +kernel)) (fun _ h9 => h9) rfl (by decide +kernel) rfl rfl rfl ⟨_, rfl⟩ dX2_readTest_112 (fun f_709 H locs hP hD hS hT hE1 hrd_710 => ?_)
              have hF := Fr.put (a := o) (ci := 5) hF hE ((hE1 o (hT.at 1 rfl).1).2.symm.trans (hT.at 1 rfl).2) (by decide) hrd_710
              have hE := hE.tr hE1
              have hk_711 : rd f_709 h0 2 = .int tn_702 := ((Fr.put (cs := [(5, 2)]) (a := o) (ci := 5) Fr.rf Ext.rf (hTo.at 1 rfl).2 (by decide) hrd_710) h0 (hTo.at 0 rfl).1 2 (hTo.at 0 rfl).2 2 (by decide)).trans hk_704
              have hk_712 : rd f_709 h0 3 = .int fa_703 := ((Fr.put (cs := [(5, 2)]) (a := o) (ci := 5) Fr.rf Ext.rf (hTo.at 1 rfl).2 (by decide) hrd_710) h0 (hTo.at 0 rfl).1 2 (hTo.at 0 rfl).2 3 (by decide)).trans hk_705
              exact K_v hx hb hr hlocks hP hD hK hS hT hE ⟨rfl, hF, _, _, hk_711, hk_712, trivial, fun h9 => ((hrel_489 ((hrel_695 (hrel_707 h9)).1)).1)⟩ (Nat.le_of_ble_eq_true rfl) (Nat.le_of_ble_eq_true rfl) dX2_readTest_115
          · refine lv_iconst (v := 1) hx hb dX2_readTest_77 (by decide) ?_
            refine lv_goto (tgt := 82) hx hb dX2_readTest_78 (by decide) ?_
            have hTo := hT
            refine T_put (ci := 5) (v := .int 1) (ty := .boolean) (t := tI) (C := RX5) (T := TX5) (N := 8) hx hb hts inw_X2_readTest_5 tyX5 tyX5_ok nmX5 hown hK hP hD hS hT 1 rfl rfl 4 (by decide) (hts (.fieldLink RX2 97 "VatHouse$Step" "below" "Z") (by decide +kernel)) (fun _ h9 => h9) rfl (by decide +kernel) rfl rfl rfl ⟨_, rfl⟩ dX2_readTest_82 (fun f_713 H locs hP hD hS hT hE1 hrd_714 => ?_)
            have hF := Fr.put (a := o) (ci := 5) hF hE ((hE1 o (hT.at 1 rfl).1).2.symm.trans (hT.at 1 rfl).2) (by decide) hrd_714
            have hE := hE.tr hE1
            have hk_715 : rd f_713 h0 2 = .int tn_484 := ((Fr.put (cs := [(5, 4)]) (a := o) (ci := 5) Fr.rf Ext.rf (hTo.at 1 rfl).2 (by decide) hrd_714) h0 (hTo.at 0 rfl).1 2 (hTo.at 0 rfl).2 2 (by decide)).trans hk_486
            have hk_716 : rd f_713 h0 3 = .int fa_485 := ((Fr.put (cs := [(5, 4)]) (a := o) (ci := 5) Fr.rf Ext.rf (hTo.at 1 rfl).2 (by decide) hrd_714) h0 (hTo.at 0 rfl).1 2 (hTo.at 0 rfl).2 3 (by decide)).trans hk_487
            refine lv_aload_n hx hb dX2_readTest_85 rfl (lv_at hl 0 rfl) ?_
            refine lv_aload_n hx hb dX2_readTest_86 rfl (lv_at hl 1 rfl) ?_
            refine T_get (ci := 5) (C := RX5) (T := TX5) (N := 8) (t := tI) hx hb hts inw_X2_readTest_5 hown hK hP hT 1 rfl rfl 4 (by decide) (hts (.fieldLink RX2 97 "VatHouse$Step" "below" "Z") (by decide +kernel)) (fun _ h9 => h9) rfl dX2_readTest_87 (fun v_719 hv_717 hr_718 => ?_)
            obtain ⟨z_720, rfl⟩ := hv_717
            refine lv_if_eq (tgt := 98) hx hb dX2_readTest_90 (by decide) (fun c_721 => ?_) (fun c_721 => ?_)
            · refine lv_bipush (v := 61) hx hb dX2_readTest_98 (by decide) ?_
              have hTo := hT
              refine K_V ⟨hx, hb, hml, hown, hts⟩ (t_X2_pass l dC dI sa hlt g _ _ h0 61 tn_484 fa_485 _ (hT.sub [0] rfl)  hk_715 hk_716 ) (cwV 1 hts gX2_readTest_X2_pass rfl rfl rfl (by decide +kernel) ⟨Nat.le_of_ble_eq_true rfl, Nat.le_of_ble_eq_true rfl⟩) hP hD hK hS hA hev hT 0 2 rfl rfl rfl rfl hl.1 rfl (Nat.le_of_ble_eq_true rfl) dX2_readTest_100 ⟨Nat.le_of_ble_eq_true rfl, Nat.le_of_ble_eq_true rfl⟩ (fun r L_722 f_723 H locs hw_724 hP hD hS hT hE1 => ?_)
              have hF := Fr.call hF hE hw_724.2.1 (by decide)
              have hE := hE.tr hE1
              obtain ⟨rfl, hw_724⟩ := hw_724
              obtain ⟨hfr_725, tn_726, fa_727, hk_728, hk_729, hrel_730, hrel_731⟩ := hw_724
              refine W.eq (g2 := F0 m 103 ls []) rfl ?_
              refine lv_aload_n hx hb dX2_readTest_103 rfl (lv_at hl 1 rfl) ?_
              refine lv_aload_n hx hb dX2_readTest_104 rfl (lv_at hl 0 rfl) ?_
              refine lv_iconst (v := 0) hx hb dX2_readTest_105 (by decide) ?_
              refine lv_sipush (v := 9999) hx hb dX2_readTest_106 (by decide) ?_
              have hTo := hT
              refine K_V ⟨hx, hb, hml, hown, hts⟩ (t_X2_readNumber l dC dI sa hlt g _ _ h0 0 9999 tn_726 fa_727 _ (hT.sub [0] rfl)  hk_728 hk_729 ) (cwV 2 hts gX2_readTest_X2_readNumber rfl rfl rfl (by decide +kernel) ⟨Nat.le_of_ble_eq_true rfl, Nat.le_of_ble_eq_true rfl⟩) hP hD hK hS hA hev hT 0 2 rfl rfl rfl rfl hl.1 rfl (Nat.le_of_ble_eq_true rfl) dX2_readTest_109 ⟨Nat.le_of_ble_eq_true rfl, Nat.le_of_ble_eq_true rfl⟩ (fun r L_733 f_734 H locs hw_735 hP hD hS hT hE1 => ?_)
              have hF := Fr.call hF hE hw_735.2.1 (by decide)
              have hE := hE.tr hE1
              obtain ⟨⟨z_736, rfl⟩, hw_735⟩ := hw_735
              obtain ⟨hfr_737, tn_738, fa_739, hk_740, hk_741, hrel_742, hrel_743⟩ := hw_735
              refine W.eq (g2 := F0 m 112 ls [.int z_736, .ref o]) rfl ?_
              have hTo := hT
              refine T_put (ci := 5) (v := .int z_736) (ty := .int) (t := tI) (C := RX5) (T := TX5) (N := 8) hx hb hts inw_X2_readTest_5 tyX5 tyX5_ok nmX5 hown hK hP hD hS hT 1 rfl rfl 2 (by decide) (hts (.fieldLink RX2 79 "VatHouse$Step" "number" "I") (by decide +kernel)) (fun _ h9 => h9) rfl (by decide +kernel) rfl rfl rfl ⟨_, rfl⟩ dX2_readTest_112 (fun f_745 H locs hP hD hS hT hE1 hrd_746 => ?_)
              have hF := Fr.put (a := o) (ci := 5) hF hE ((hE1 o (hT.at 1 rfl).1).2.symm.trans (hT.at 1 rfl).2) (by decide) hrd_746
              have hE := hE.tr hE1
              have hk_747 : rd f_745 h0 2 = .int tn_738 := ((Fr.put (cs := [(5, 2)]) (a := o) (ci := 5) Fr.rf Ext.rf (hTo.at 1 rfl).2 (by decide) hrd_746) h0 (hTo.at 0 rfl).1 2 (hTo.at 0 rfl).2 2 (by decide)).trans hk_740
              have hk_748 : rd f_745 h0 3 = .int fa_739 := ((Fr.put (cs := [(5, 2)]) (a := o) (ci := 5) Fr.rf Ext.rf (hTo.at 1 rfl).2 (by decide) hrd_746) h0 (hTo.at 0 rfl).1 2 (hTo.at 0 rfl).2 3 (by decide)).trans hk_741
              exact K_v hx hb hr hlocks hP hD hK hS hT hE ⟨rfl, hF, _, _, hk_747, hk_748, trivial, fun h9 => ((hrel_489 ((hrel_731 (hrel_743 h9)).1)).1)⟩ (Nat.le_of_ble_eq_true rfl) (Nat.le_of_ble_eq_true rfl) dX2_readTest_115
            · refine lv_bipush (v := 60) hx hb dX2_readTest_93 (by decide) ?_
              refine lv_goto (tgt := 100) hx hb dX2_readTest_95 (by decide) ?_
              have hTo := hT
              refine K_V ⟨hx, hb, hml, hown, hts⟩ (t_X2_pass l dC dI sa hlt g _ _ h0 60 tn_484 fa_485 _ (hT.sub [0] rfl)  hk_715 hk_716 ) (cwV 1 hts gX2_readTest_X2_pass rfl rfl rfl (by decide +kernel) ⟨Nat.le_of_ble_eq_true rfl, Nat.le_of_ble_eq_true rfl⟩) hP hD hK hS hA hev hT 0 2 rfl rfl rfl rfl hl.1 rfl (Nat.le_of_ble_eq_true rfl) dX2_readTest_100 ⟨Nat.le_of_ble_eq_true rfl, Nat.le_of_ble_eq_true rfl⟩ (fun r L_749 f_750 H locs hw_751 hP hD hS hT hE1 => ?_)
              have hF := Fr.call hF hE hw_751.2.1 (by decide)
              have hE := hE.tr hE1
              obtain ⟨rfl, hw_751⟩ := hw_751
              obtain ⟨hfr_752, tn_753, fa_754, hk_755, hk_756, hrel_757, hrel_758⟩ := hw_751
              refine W.eq (g2 := F0 m 103 ls []) rfl ?_
              refine lv_aload_n hx hb dX2_readTest_103 rfl (lv_at hl 1 rfl) ?_
              refine lv_aload_n hx hb dX2_readTest_104 rfl (lv_at hl 0 rfl) ?_
              refine lv_iconst (v := 0) hx hb dX2_readTest_105 (by decide) ?_
              refine lv_sipush (v := 9999) hx hb dX2_readTest_106 (by decide) ?_
              have hTo := hT
              refine K_V ⟨hx, hb, hml, hown, hts⟩ (t_X2_readNumber l dC dI sa hlt g _ _ h0 0 9999 tn_753 fa_754 _ (hT.sub [0] rfl)  hk_755 hk_756 ) (cwV 2 hts gX2_readTest_X2_readNumber rfl rfl rfl (by decide +kernel) ⟨Nat.le_of_ble_eq_true rfl, Nat.le_of_ble_eq_true rfl⟩) hP hD hK hS hA hev hT 0 2 rfl rfl rfl rfl hl.1 rfl (Nat.le_of_ble_eq_true rfl) dX2_readTest_109 ⟨Nat.le_of_ble_eq_true rfl, Nat.le_of_ble_eq_true rfl⟩ (fun r L_760 f_761 H locs hw_762 hP hD hS hT hE1 => ?_)
              have hF := Fr.call hF hE hw_762.2.1 (by decide)
              have hE := hE.tr hE1
              obtain ⟨⟨z_763, rfl⟩, hw_762⟩ := hw_762
              obtain ⟨hfr_764, tn_765, fa_766, hk_767, hk_768, hrel_769, hrel_770⟩ := hw_762
              refine W.eq (g2 := F0 m 112 ls [.int z_763, .ref o]) rfl ?_
              have hTo := hT
              refine T_put (ci := 5) (v := .int z_763) (ty := .int) (t := tI) (C := RX5) (T := TX5) (N := 8) hx hb hts inw_X2_readTest_5 tyX5 tyX5_ok nmX5 hown hK hP hD hS hT 1 rfl rfl 2 (by decide) (hts (.fieldLink RX2 79 "VatHouse$Step" "number" "I") (by decide +kernel)) (fun _ h9 => h9) rfl (by decide +kernel) rfl rfl rfl ⟨_, rfl⟩ dX2_readTest_112 (fun f_772 H locs hP hD hS hT hE1 hrd_773 => ?_)
              have hF := Fr.put (a := o) (ci := 5) hF hE ((hE1 o (hT.at 1 rfl).1).2.symm.trans (hT.at 1 rfl).2) (by decide) hrd_773
              have hE := hE.tr hE1
              have hk_774 : rd f_772 h0 2 = .int tn_765 := ((Fr.put (cs := [(5, 2)]) (a := o) (ci := 5) Fr.rf Ext.rf (hTo.at 1 rfl).2 (by decide) hrd_773) h0 (hTo.at 0 rfl).1 2 (hTo.at 0 rfl).2 2 (by decide)).trans hk_767
              have hk_775 : rd f_772 h0 3 = .int fa_766 := ((Fr.put (cs := [(5, 2)]) (a := o) (ci := 5) Fr.rf Ext.rf (hTo.at 1 rfl).2 (by decide) hrd_773) h0 (hTo.at 0 rfl).1 2 (hTo.at 0 rfl).2 3 (by decide)).trans hk_768
              exact K_v hx hb hr hlocks hP hD hK hS hT hE ⟨rfl, hF, _, _, hk_774, hk_775, trivial, fun h9 => ((hrel_489 ((hrel_758 (hrel_770 h9)).1)).1)⟩ (Nat.le_of_ble_eq_true rfl) (Nat.le_of_ble_eq_true rfl) dX2_readTest_115
        · refine lv_aload_n hx hb dX2_readTest_57 rfl (lv_at hl 1 rfl) ?_
          refine lv_aload_n hx hb dX2_readTest_58 rfl (lv_at hl 0 rfl) ?_
          refine lv_iconst (v := 0) hx hb dX2_readTest_59 (by decide) ?_
          refine lv_iconst (v := 5) hx hb dX2_readTest_60 (by decide) ?_
          have hTo := hT
          refine K_V ⟨hx, hb, hml, hown, hts⟩ (t_X2_readNumber l dC dI sa hlt g _ _ h0 0 5 tn_484 fa_485 _ (hT.sub [0] rfl)  hk_486 hk_487 ) (cwV 2 hts gX2_readTest_X2_readNumber rfl rfl rfl (by decide +kernel) ⟨Nat.le_of_ble_eq_true rfl, Nat.le_of_ble_eq_true rfl⟩) hP hD hK hS hA hev hT 0 2 rfl rfl rfl rfl hl.1 rfl (Nat.le_of_ble_eq_true rfl) dX2_readTest_61 ⟨Nat.le_of_ble_eq_true rfl, Nat.le_of_ble_eq_true rfl⟩ (fun r L_776 f_777 H locs hw_778 hP hD hS hT hE1 => ?_)
          have hF := Fr.call hF hE hw_778.2.1 (by decide)
          have hE := hE.tr hE1
          obtain ⟨⟨z_779, rfl⟩, hw_778⟩ := hw_778
          obtain ⟨hfr_780, tn_781, fa_782, hk_783, hk_784, hrel_785, hrel_786⟩ := hw_778
          refine W.eq (g2 := F0 m 64 ls [.int z_779, .ref o]) rfl ?_
          have hTo := hT
          refine T_put (ci := 5) (v := .int z_779) (ty := .int) (t := tI) (C := RX5) (T := TX5) (N := 8) hx hb hts inw_X2_readTest_5 tyX5 tyX5_ok nmX5 hown hK hP hD hS hT 1 rfl rfl 1 (by decide) (hts (.fieldLink RX2 76 "VatHouse$Step" "vat" "I") (by decide +kernel)) (fun _ h9 => h9) rfl (by decide +kernel) rfl rfl rfl ⟨_, rfl⟩ dX2_readTest_64 (fun f_788 H locs hP hD hS hT hE1 hrd_789 => ?_)
          have hF := Fr.put (a := o) (ci := 5) hF hE ((hE1 o (hT.at 1 rfl).1).2.symm.trans (hT.at 1 rfl).2) (by decide) hrd_789
          have hE := hE.tr hE1
          have hk_790 : rd f_788 h0 2 = .int tn_781 := ((Fr.put (cs := [(5, 1)]) (a := o) (ci := 5) Fr.rf Ext.rf (hTo.at 1 rfl).2 (by decide) hrd_789) h0 (hTo.at 0 rfl).1 2 (hTo.at 0 rfl).2 2 (by decide)).trans hk_783
          have hk_791 : rd f_788 h0 3 = .int fa_782 := ((Fr.put (cs := [(5, 1)]) (a := o) (ci := 5) Fr.rf Ext.rf (hTo.at 1 rfl).2 (by decide) hrd_789) h0 (hTo.at 0 rfl).1 2 (hTo.at 0 rfl).2 3 (by decide)).trans hk_784
          refine lv_aload_n hx hb dX2_readTest_67 rfl (lv_at hl 1 rfl) ?_
          refine lv_aload_n hx hb dX2_readTest_68 rfl (lv_at hl 0 rfl) ?_
          refine T_get (ci := 2) (C := RX2) (T := TX2) (N := 6) (t := tI) hx hb hts inw_X2_readTest_2 hown hK hP hT 0 rfl rfl 2 (by decide) (hts (.fieldLink RX2 44 "VatHouse$Reader" "token" "I") (by decide +kernel)) (fun _ h9 => h9) rfl dX2_readTest_69 (fun v_794 hv_792 hr_793 => ?_)
          obtain rfl : v_794 = .int tn_781 := hr_793.symm.trans hk_790
          refine lv_bipush (v := 60) hx hb dX2_readTest_72 (by decide) ?_
          refine lv_icmp_ne (tgt := 81) hx hb dX2_readTest_74 (by decide) (fun c_795 => ?_) (fun c_795 => ?_)
          · refine lv_iconst (v := 0) hx hb dX2_readTest_81 (by decide) ?_
            have hTo := hT
            refine T_put (ci := 5) (v := .int 0) (ty := .boolean) (t := tI) (C := RX5) (T := TX5) (N := 8) hx hb hts inw_X2_readTest_5 tyX5 tyX5_ok nmX5 hown hK hP hD hS hT 1 rfl rfl 4 (by decide) (hts (.fieldLink RX2 97 "VatHouse$Step" "below" "Z") (by decide +kernel)) (fun _ h9 => h9) rfl (by decide +kernel) rfl rfl rfl ⟨_, rfl⟩ dX2_readTest_82 (fun f_796 H locs hP hD hS hT hE1 hrd_797 => ?_)
            have hF := Fr.put (a := o) (ci := 5) hF hE ((hE1 o (hT.at 1 rfl).1).2.symm.trans (hT.at 1 rfl).2) (by decide) hrd_797
            have hE := hE.tr hE1
            have hk_798 : rd f_796 h0 2 = .int tn_781 := ((Fr.put (cs := [(5, 4)]) (a := o) (ci := 5) Fr.rf Ext.rf (hTo.at 1 rfl).2 (by decide) hrd_797) h0 (hTo.at 0 rfl).1 2 (hTo.at 0 rfl).2 2 (by decide)).trans hk_790
            have hk_799 : rd f_796 h0 3 = .int fa_782 := ((Fr.put (cs := [(5, 4)]) (a := o) (ci := 5) Fr.rf Ext.rf (hTo.at 1 rfl).2 (by decide) hrd_797) h0 (hTo.at 0 rfl).1 2 (hTo.at 0 rfl).2 3 (by decide)).trans hk_791
            refine lv_aload_n hx hb dX2_readTest_85 rfl (lv_at hl 0 rfl) ?_
            refine lv_aload_n hx hb dX2_readTest_86 rfl (lv_at hl 1 rfl) ?_
            refine T_get (ci := 5) (C := RX5) (T := TX5) (N := 8) (t := tI) hx hb hts inw_X2_readTest_5 hown hK hP hT 1 rfl rfl 4 (by decide) (hts (.fieldLink RX2 97 "VatHouse$Step" "below" "Z") (by decide +kernel)) (fun _ h9 => h9) rfl dX2_readTest_87 (fun v_802 hv_800 hr_801 => ?_)
            obtain ⟨z_803, rfl⟩ := hv_800
            refine lv_if_eq (tgt := 98) hx hb dX2_readTest_90 (by decide) (fun c_804 => ?_) (fun c_804 => ?_)
            · refine lv_bipush (v := 61) hx hb dX2_readTest_98 (by decide) ?_
              have hTo := hT
              refine K_V ⟨hx, hb, hml, hown, hts⟩ (t_X2_pass l dC dI sa hlt g _ _ h0 61 tn_781 fa_782 _ (hT.sub [0] rfl)  hk_798 hk_799 ) (cwV 1 hts gX2_readTest_X2_pass rfl rfl rfl (by decide +kernel) ⟨Nat.le_of_ble_eq_true rfl, Nat.le_of_ble_eq_true rfl⟩) hP hD hK hS hA hev hT 0 2 rfl rfl rfl rfl hl.1 rfl (Nat.le_of_ble_eq_true rfl) dX2_readTest_100 ⟨Nat.le_of_ble_eq_true rfl, Nat.le_of_ble_eq_true rfl⟩ (fun r L_805 f_806 H locs hw_807 hP hD hS hT hE1 => ?_)
              have hF := Fr.call hF hE hw_807.2.1 (by decide)
              have hE := hE.tr hE1
              obtain ⟨rfl, hw_807⟩ := hw_807
              obtain ⟨hfr_808, tn_809, fa_810, hk_811, hk_812, hrel_813, hrel_814⟩ := hw_807
              refine W.eq (g2 := F0 m 103 ls []) rfl ?_
              refine lv_aload_n hx hb dX2_readTest_103 rfl (lv_at hl 1 rfl) ?_
              refine lv_aload_n hx hb dX2_readTest_104 rfl (lv_at hl 0 rfl) ?_
              refine lv_iconst (v := 0) hx hb dX2_readTest_105 (by decide) ?_
              refine lv_sipush (v := 9999) hx hb dX2_readTest_106 (by decide) ?_
              have hTo := hT
              refine K_V ⟨hx, hb, hml, hown, hts⟩ (t_X2_readNumber l dC dI sa hlt g _ _ h0 0 9999 tn_809 fa_810 _ (hT.sub [0] rfl)  hk_811 hk_812 ) (cwV 2 hts gX2_readTest_X2_readNumber rfl rfl rfl (by decide +kernel) ⟨Nat.le_of_ble_eq_true rfl, Nat.le_of_ble_eq_true rfl⟩) hP hD hK hS hA hev hT 0 2 rfl rfl rfl rfl hl.1 rfl (Nat.le_of_ble_eq_true rfl) dX2_readTest_109 ⟨Nat.le_of_ble_eq_true rfl, Nat.le_of_ble_eq_true rfl⟩ (fun r L_816 f_817 H locs hw_818 hP hD hS hT hE1 => ?_)
              have hF := Fr.call hF hE hw_818.2.1 (by decide)
              have hE := hE.tr hE1
              obtain ⟨⟨z_819, rfl⟩, hw_818⟩ := hw_818
              obtain ⟨hfr_820, tn_821, fa_822, hk_823, hk_824, hrel_825, hrel_826⟩ := hw_818
              refine W.eq (g2 := F0 m 112 ls [.int z_819, .ref o]) rfl ?_
              have hTo := hT
              refine T_put (ci := 5) (v := .int z_819) (ty := .int) (t := tI) (C := RX5) (T := TX5) (N := 8) hx hb hts inw_X2_readTest_5 tyX5 tyX5_ok nmX5 hown hK hP hD hS hT 1 rfl rfl 2 (by decide) (hts (.fieldLink RX2 79 "VatHouse$Step" "number" "I") (by decide +kernel)) (fun _ h9 => h9) rfl (by decide +kernel) rfl rfl rfl ⟨_, rfl⟩ dX2_readTest_112 (fun f_828 H locs hP hD hS hT hE1 hrd_829 => ?_)
              have hF := Fr.put (a := o) (ci := 5) hF hE ((hE1 o (hT.at 1 rfl).1).2.symm.trans (hT.at 1 rfl).2) (by decide) hrd_829
              have hE := hE.tr hE1
              have hk_830 : rd f_828 h0 2 = .int tn_821 := ((Fr.put (cs := [(5, 2)]) (a := o) (ci := 5) Fr.rf Ext.rf (hTo.at 1 rfl).2 (by decide) hrd_829) h0 (hTo.at 0 rfl).1 2 (hTo.at 0 rfl).2 2 (by decide)).trans hk_823
              have hk_831 : rd f_828 h0 3 = .int fa_822 := ((Fr.put (cs := [(5, 2)]) (a := o) (ci := 5) Fr.rf Ext.rf (hTo.at 1 rfl).2 (by decide) hrd_829) h0 (hTo.at 0 rfl).1 2 (hTo.at 0 rfl).2 3 (by decide)).trans hk_824
              exact K_v hx hb hr hlocks hP hD hK hS hT hE ⟨rfl, hF, _, _, hk_830, hk_831, trivial, fun h9 => ((hrel_489 (hrel_786 ((hrel_814 (hrel_826 h9)).1))).1)⟩ (Nat.le_of_ble_eq_true rfl) (Nat.le_of_ble_eq_true rfl) dX2_readTest_115
            · refine lv_bipush (v := 60) hx hb dX2_readTest_93 (by decide) ?_
              refine lv_goto (tgt := 100) hx hb dX2_readTest_95 (by decide) ?_
              have hTo := hT
              refine K_V ⟨hx, hb, hml, hown, hts⟩ (t_X2_pass l dC dI sa hlt g _ _ h0 60 tn_781 fa_782 _ (hT.sub [0] rfl)  hk_798 hk_799 ) (cwV 1 hts gX2_readTest_X2_pass rfl rfl rfl (by decide +kernel) ⟨Nat.le_of_ble_eq_true rfl, Nat.le_of_ble_eq_true rfl⟩) hP hD hK hS hA hev hT 0 2 rfl rfl rfl rfl hl.1 rfl (Nat.le_of_ble_eq_true rfl) dX2_readTest_100 ⟨Nat.le_of_ble_eq_true rfl, Nat.le_of_ble_eq_true rfl⟩ (fun r L_832 f_833 H locs hw_834 hP hD hS hT hE1 => ?_)
              have hF := Fr.call hF hE hw_834.2.1 (by decide)
              have hE := hE.tr hE1
              obtain ⟨rfl, hw_834⟩ := hw_834
              obtain ⟨hfr_835, tn_836, fa_837, hk_838, hk_839, hrel_840, hrel_841⟩ := hw_834
              refine W.eq (g2 := F0 m 103 ls []) rfl ?_
              refine lv_aload_n hx hb dX2_readTest_103 rfl (lv_at hl 1 rfl) ?_
              refine lv_aload_n hx hb dX2_readTest_104 rfl (lv_at hl 0 rfl) ?_
              refine lv_iconst (v := 0) hx hb dX2_readTest_105 (by decide) ?_
              refine lv_sipush (v := 9999) hx hb dX2_readTest_106 (by decide) ?_
              have hTo := hT
              refine K_V ⟨hx, hb, hml, hown, hts⟩ (t_X2_readNumber l dC dI sa hlt g _ _ h0 0 9999 tn_836 fa_837 _ (hT.sub [0] rfl)  hk_838 hk_839 ) (cwV 2 hts gX2_readTest_X2_readNumber rfl rfl rfl (by decide +kernel) ⟨Nat.le_of_ble_eq_true rfl, Nat.le_of_ble_eq_true rfl⟩) hP hD hK hS hA hev hT 0 2 rfl rfl rfl rfl hl.1 rfl (Nat.le_of_ble_eq_true rfl) dX2_readTest_109 ⟨Nat.le_of_ble_eq_true rfl, Nat.le_of_ble_eq_true rfl⟩ (fun r L_843 f_844 H locs hw_845 hP hD hS hT hE1 => ?_)
              have hF := Fr.call hF hE hw_845.2.1 (by decide)
              have hE := hE.tr hE1
              obtain ⟨⟨z_846, rfl⟩, hw_845⟩ := hw_845
              obtain ⟨hfr_847, tn_848, fa_849, hk_850, hk_851, hrel_852, hrel_853⟩ := hw_845
              refine W.eq (g2 := F0 m 112 ls [.int z_846, .ref o]) rfl ?_
              have hTo := hT
              refine T_put (ci := 5) (v := .int z_846) (ty := .int) (t := tI) (C := RX5) (T := TX5) (N := 8) hx hb hts inw_X2_readTest_5 tyX5 tyX5_ok nmX5 hown hK hP hD hS hT 1 rfl rfl 2 (by decide) (hts (.fieldLink RX2 79 "VatHouse$Step" "number" "I") (by decide +kernel)) (fun _ h9 => h9) rfl (by decide +kernel) rfl rfl rfl ⟨_, rfl⟩ dX2_readTest_112 (fun f_855 H locs hP hD hS hT hE1 hrd_856 => ?_)
              have hF := Fr.put (a := o) (ci := 5) hF hE ((hE1 o (hT.at 1 rfl).1).2.symm.trans (hT.at 1 rfl).2) (by decide) hrd_856
              have hE := hE.tr hE1
              have hk_857 : rd f_855 h0 2 = .int tn_848 := ((Fr.put (cs := [(5, 2)]) (a := o) (ci := 5) Fr.rf Ext.rf (hTo.at 1 rfl).2 (by decide) hrd_856) h0 (hTo.at 0 rfl).1 2 (hTo.at 0 rfl).2 2 (by decide)).trans hk_850
              have hk_858 : rd f_855 h0 3 = .int fa_849 := ((Fr.put (cs := [(5, 2)]) (a := o) (ci := 5) Fr.rf Ext.rf (hTo.at 1 rfl).2 (by decide) hrd_856) h0 (hTo.at 0 rfl).1 2 (hTo.at 0 rfl).2 3 (by decide)).trans hk_851
              exact K_v hx hb hr hlocks hP hD hK hS hT hE ⟨rfl, hF, _, _, hk_857, hk_858, trivial, fun h9 => ((hrel_489 (hrel_786 ((hrel_841 (hrel_853 h9)).1))).1)⟩ (Nat.le_of_ble_eq_true rfl) (Nat.le_of_ble_eq_true rfl) dX2_readTest_115
          · refine lv_iconst (v := 1) hx hb dX2_readTest_77 (by decide) ?_
            refine lv_goto (tgt := 82) hx hb dX2_readTest_78 (by decide) ?_
            have hTo := hT
            refine T_put (ci := 5) (v := .int 1) (ty := .boolean) (t := tI) (C := RX5) (T := TX5) (N := 8) hx hb hts inw_X2_readTest_5 tyX5 tyX5_ok nmX5 hown hK hP hD hS hT 1 rfl rfl 4 (by decide) (hts (.fieldLink RX2 97 "VatHouse$Step" "below" "Z") (by decide +kernel)) (fun _ h9 => h9) rfl (by decide +kernel) rfl rfl rfl ⟨_, rfl⟩ dX2_readTest_82 (fun f_859 H locs hP hD hS hT hE1 hrd_860 => ?_)
            have hF := Fr.put (a := o) (ci := 5) hF hE ((hE1 o (hT.at 1 rfl).1).2.symm.trans (hT.at 1 rfl).2) (by decide) hrd_860
            have hE := hE.tr hE1
            have hk_861 : rd f_859 h0 2 = .int tn_781 := ((Fr.put (cs := [(5, 4)]) (a := o) (ci := 5) Fr.rf Ext.rf (hTo.at 1 rfl).2 (by decide) hrd_860) h0 (hTo.at 0 rfl).1 2 (hTo.at 0 rfl).2 2 (by decide)).trans hk_790
            have hk_862 : rd f_859 h0 3 = .int fa_782 := ((Fr.put (cs := [(5, 4)]) (a := o) (ci := 5) Fr.rf Ext.rf (hTo.at 1 rfl).2 (by decide) hrd_860) h0 (hTo.at 0 rfl).1 2 (hTo.at 0 rfl).2 3 (by decide)).trans hk_791
            refine lv_aload_n hx hb dX2_readTest_85 rfl (lv_at hl 0 rfl) ?_
            refine lv_aload_n hx hb dX2_readTest_86 rfl (lv_at hl 1 rfl) ?_
            refine T_get (ci := 5) (C := RX5) (T := TX5) (N := 8) (t := tI) hx hb hts inw_X2_readTest_5 hown hK hP hT 1 rfl rfl 4 (by decide) (hts (.fieldLink RX2 97 "VatHouse$Step" "below" "Z") (by decide +kernel)) (fun _ h9 => h9) rfl dX2_readTest_87 (fun v_865 hv_863 hr_864 => ?_)
            obtain ⟨z_866, rfl⟩ := hv_863
            refine lv_if_eq (tgt := 98) hx hb dX2_readTest_90 (by decide) (fun c_867 => ?_) (fun c_867 => ?_)
            · refine lv_bipush (v := 61) hx hb dX2_readTest_98 (by decide) ?_
              have hTo := hT
              refine K_V ⟨hx, hb, hml, hown, hts⟩ (t_X2_pass l dC dI sa hlt g _ _ h0 61 tn_781 fa_782 _ (hT.sub [0] rfl)  hk_861 hk_862 ) (cwV 1 hts gX2_readTest_X2_pass rfl rfl rfl (by decide +kernel) ⟨Nat.le_of_ble_eq_true rfl, Nat.le_of_ble_eq_true rfl⟩) hP hD hK hS hA hev hT 0 2 rfl rfl rfl rfl hl.1 rfl (Nat.le_of_ble_eq_true rfl) dX2_readTest_100 ⟨Nat.le_of_ble_eq_true rfl, Nat.le_of_ble_eq_true rfl⟩ (fun r L_868 f_869 H locs hw_870 hP hD hS hT hE1 => ?_)
              have hF := Fr.call hF hE hw_870.2.1 (by decide)
              have hE := hE.tr hE1
              obtain ⟨rfl, hw_870⟩ := hw_870
              obtain ⟨hfr_871, tn_872, fa_873, hk_874, hk_875, hrel_876, hrel_877⟩ := hw_870
              refine W.eq (g2 := F0 m 103 ls []) rfl ?_
              refine lv_aload_n hx hb dX2_readTest_103 rfl (lv_at hl 1 rfl) ?_
              refine lv_aload_n hx hb dX2_readTest_104 rfl (lv_at hl 0 rfl) ?_
              refine lv_iconst (v := 0) hx hb dX2_readTest_105 (by decide) ?_
              refine lv_sipush (v := 9999) hx hb dX2_readTest_106 (by decide) ?_
              have hTo := hT
              refine K_V ⟨hx, hb, hml, hown, hts⟩ (t_X2_readNumber l dC dI sa hlt g _ _ h0 0 9999 tn_872 fa_873 _ (hT.sub [0] rfl)  hk_874 hk_875 ) (cwV 2 hts gX2_readTest_X2_readNumber rfl rfl rfl (by decide +kernel) ⟨Nat.le_of_ble_eq_true rfl, Nat.le_of_ble_eq_true rfl⟩) hP hD hK hS hA hev hT 0 2 rfl rfl rfl rfl hl.1 rfl (Nat.le_of_ble_eq_true rfl) dX2_readTest_109 ⟨Nat.le_of_ble_eq_true rfl, Nat.le_of_ble_eq_true rfl⟩ (fun r L_879 f_880 H locs hw_881 hP hD hS hT hE1 => ?_)
              have hF := Fr.call hF hE hw_881.2.1 (by decide)
              have hE := hE.tr hE1
              obtain ⟨⟨z_882, rfl⟩, hw_881⟩ := hw_881
              obtain ⟨hfr_883, tn_884, fa_885, hk_886, hk_887, hrel_888, hrel_889⟩ := hw_881
              refine W.eq (g2 := F0 m 112 ls [.int z_882, .ref o]) rfl ?_
              have hTo := hT
              refine T_put (ci := 5) (v := .int z_882) (ty := .int) (t := tI) (C := RX5) (T := TX5) (N := 8) hx hb hts inw_X2_readTest_5 tyX5 tyX5_ok nmX5 hown hK hP hD hS hT 1 rfl rfl 2 (by decide) (hts (.fieldLink RX2 79 "VatHouse$Step" "number" "I") (by decide +kernel)) (fun _ h9 => h9) rfl (by decide +kernel) rfl rfl rfl ⟨_, rfl⟩ dX2_readTest_112 (fun f_891 H locs hP hD hS hT hE1 hrd_892 => ?_)
              have hF := Fr.put (a := o) (ci := 5) hF hE ((hE1 o (hT.at 1 rfl).1).2.symm.trans (hT.at 1 rfl).2) (by decide) hrd_892
              have hE := hE.tr hE1
              have hk_893 : rd f_891 h0 2 = .int tn_884 := ((Fr.put (cs := [(5, 2)]) (a := o) (ci := 5) Fr.rf Ext.rf (hTo.at 1 rfl).2 (by decide) hrd_892) h0 (hTo.at 0 rfl).1 2 (hTo.at 0 rfl).2 2 (by decide)).trans hk_886
              have hk_894 : rd f_891 h0 3 = .int fa_885 := ((Fr.put (cs := [(5, 2)]) (a := o) (ci := 5) Fr.rf Ext.rf (hTo.at 1 rfl).2 (by decide) hrd_892) h0 (hTo.at 0 rfl).1 2 (hTo.at 0 rfl).2 3 (by decide)).trans hk_887
              exact K_v hx hb hr hlocks hP hD hK hS hT hE ⟨rfl, hF, _, _, hk_893, hk_894, trivial, fun h9 => ((hrel_489 (hrel_786 ((hrel_877 (hrel_889 h9)).1))).1)⟩ (Nat.le_of_ble_eq_true rfl) (Nat.le_of_ble_eq_true rfl) dX2_readTest_115
            · refine lv_bipush (v := 60) hx hb dX2_readTest_93 (by decide) ?_
              refine lv_goto (tgt := 100) hx hb dX2_readTest_95 (by decide) ?_
              have hTo := hT
              refine K_V ⟨hx, hb, hml, hown, hts⟩ (t_X2_pass l dC dI sa hlt g _ _ h0 60 tn_781 fa_782 _ (hT.sub [0] rfl)  hk_861 hk_862 ) (cwV 1 hts gX2_readTest_X2_pass rfl rfl rfl (by decide +kernel) ⟨Nat.le_of_ble_eq_true rfl, Nat.le_of_ble_eq_true rfl⟩) hP hD hK hS hA hev hT 0 2 rfl rfl rfl rfl hl.1 rfl (Nat.le_of_ble_eq_true rfl) dX2_readTest_100 ⟨Nat.le_of_ble_eq_true rfl, Nat.le_of_ble_eq_true rfl⟩ (fun r L_895 f_896 H locs hw_897 hP hD hS hT hE1 => ?_)
              have hF := Fr.call hF hE hw_897.2.1 (by decide)
              have hE := hE.tr hE1
              obtain ⟨rfl, hw_897⟩ := hw_897
              obtain ⟨hfr_898, tn_899, fa_900, hk_901, hk_902, hrel_903, hrel_904⟩ := hw_897
              refine W.eq (g2 := F0 m 103 ls []) rfl ?_
              refine lv_aload_n hx hb dX2_readTest_103 rfl (lv_at hl 1 rfl) ?_
              refine lv_aload_n hx hb dX2_readTest_104 rfl (lv_at hl 0 rfl) ?_
              refine lv_iconst (v := 0) hx hb dX2_readTest_105 (by decide) ?_
              refine lv_sipush (v := 9999) hx hb dX2_readTest_106 (by decide) ?_
              have hTo := hT
              refine K_V ⟨hx, hb, hml, hown, hts⟩ (t_X2_readNumber l dC dI sa hlt g _ _ h0 0 9999 tn_899 fa_900 _ (hT.sub [0] rfl)  hk_901 hk_902 ) (cwV 2 hts gX2_readTest_X2_readNumber rfl rfl rfl (by decide +kernel) ⟨Nat.le_of_ble_eq_true rfl, Nat.le_of_ble_eq_true rfl⟩) hP hD hK hS hA hev hT 0 2 rfl rfl rfl rfl hl.1 rfl (Nat.le_of_ble_eq_true rfl) dX2_readTest_109 ⟨Nat.le_of_ble_eq_true rfl, Nat.le_of_ble_eq_true rfl⟩ (fun r L_906 f_907 H locs hw_908 hP hD hS hT hE1 => ?_)
              have hF := Fr.call hF hE hw_908.2.1 (by decide)
              have hE := hE.tr hE1
              obtain ⟨⟨z_909, rfl⟩, hw_908⟩ := hw_908
              obtain ⟨hfr_910, tn_911, fa_912, hk_913, hk_914, hrel_915, hrel_916⟩ := hw_908
              refine W.eq (g2 := F0 m 112 ls [.int z_909, .ref o]) rfl ?_
              have hTo := hT
              refine T_put (ci := 5) (v := .int z_909) (ty := .int) (t := tI) (C := RX5) (T := TX5) (N := 8) hx hb hts inw_X2_readTest_5 tyX5 tyX5_ok nmX5 hown hK hP hD hS hT 1 rfl rfl 2 (by decide) (hts (.fieldLink RX2 79 "VatHouse$Step" "number" "I") (by decide +kernel)) (fun _ h9 => h9) rfl (by decide +kernel) rfl rfl rfl ⟨_, rfl⟩ dX2_readTest_112 (fun f_918 H locs hP hD hS hT hE1 hrd_919 => ?_)
              have hF := Fr.put (a := o) (ci := 5) hF hE ((hE1 o (hT.at 1 rfl).1).2.symm.trans (hT.at 1 rfl).2) (by decide) hrd_919
              have hE := hE.tr hE1
              have hk_920 : rd f_918 h0 2 = .int tn_911 := ((Fr.put (cs := [(5, 2)]) (a := o) (ci := 5) Fr.rf Ext.rf (hTo.at 1 rfl).2 (by decide) hrd_919) h0 (hTo.at 0 rfl).1 2 (hTo.at 0 rfl).2 2 (by decide)).trans hk_913
              have hk_921 : rd f_918 h0 3 = .int fa_912 := ((Fr.put (cs := [(5, 2)]) (a := o) (ci := 5) Fr.rf Ext.rf (hTo.at 1 rfl).2 (by decide) hrd_919) h0 (hTo.at 0 rfl).1 2 (hTo.at 0 rfl).2 3 (by decide)).trans hk_914
              exact K_v hx hb hr hlocks hP hD hK hS hT hE ⟨rfl, hF, _, _, hk_920, hk_921, trivial, fun h9 => ((hrel_489 (hrel_786 ((hrel_904 (hrel_916 h9)).1))).1)⟩ (Nat.le_of_ble_eq_true rfl) (Nat.le_of_ble_eq_true rfl) dX2_readTest_115
    · refine lv_aload_n hx hb dX2_readTest_18 rfl (lv_at hl 0 rfl) ?_
      refine lv_iconst (v := 1) hx hb dX2_readTest_19 (by decide) ?_
      have hTo := hT
      refine K_V ⟨hx, hb, hml, hown, hts⟩ (t_X2_refuse l dC dI sa hlt g _ _ h0 1 fa _ (hT.sub [0] rfl)  hm_fa (by decide)) (cwV 1 hts gX2_readTest_X2_refuse rfl rfl rfl (by decide +kernel) ⟨Nat.le_of_ble_eq_true rfl, Nat.le_of_ble_eq_true rfl⟩) hP hD hK hS hA hev hT 0 2 rfl rfl rfl rfl hl.1 rfl (Nat.le_of_ble_eq_true rfl) dX2_readTest_20 ⟨Nat.le_of_ble_eq_true rfl, Nat.le_of_ble_eq_true rfl⟩ (fun r L_922 f_923 H locs hw_924 hP hD hS hT hE1 => ?_)
      have hF := Fr.call hF hE hw_924.2.1 (by decide)
      have hE := hE.tr hE1
      obtain ⟨rfl, hw_924⟩ := hw_924
      obtain ⟨hfr_925, fa_926, hk_927, hrel_928⟩ := hw_924
      have hk_930 : rd f_923 h0 2 = .int tn := (hfr_925 h0 (hTo.at 0 rfl).1 2 (hTo.at 0 rfl).2 2 (by decide)).trans hm_tn
      refine W.eq (g2 := F0 m 23 ls []) rfl ?_
      refine lv_aload_n hx hb dX2_readTest_23 rfl (lv_at hl 1 rfl) ?_
      refine lv_aload_n hx hb dX2_readTest_24 rfl (lv_at hl 0 rfl) ?_
      refine T_get (ci := 2) (C := RX2) (T := TX2) (N := 6) (t := tI) hx hb hts inw_X2_readTest_2 hown hK hP hT 0 rfl rfl 2 (by decide) (hts (.fieldLink RX2 44 "VatHouse$Reader" "token" "I") (by decide +kernel)) (fun _ h9 => h9) rfl dX2_readTest_25 (fun v_933 hv_931 hr_932 => ?_)
      obtain rfl : v_933 = .int tn := hr_932.symm.trans hk_930
      have hTo := hT
      refine T_put (ci := 5) (v := .int tn) (ty := .int) (t := tI) (C := RX5) (T := TX5) (N := 8) hx hb hts inw_X2_readTest_5 tyX5 tyX5_ok nmX5 hown hK hP hD hS hT 1 rfl rfl 3 (by decide) (hts (.fieldLink RX2 94 "VatHouse$Step" "look" "I") (by decide +kernel)) (fun _ h9 => h9) rfl (by decide +kernel) rfl rfl rfl ⟨_, rfl⟩ dX2_readTest_28 (fun f_934 H locs hP hD hS hT hE1 hrd_935 => ?_)
      have hF := Fr.put (a := o) (ci := 5) hF hE ((hE1 o (hT.at 1 rfl).1).2.symm.trans (hT.at 1 rfl).2) (by decide) hrd_935
      have hE := hE.tr hE1
      have hk_936 : rd f_934 h0 2 = .int tn := ((Fr.put (cs := [(5, 3)]) (a := o) (ci := 5) Fr.rf Ext.rf (hTo.at 1 rfl).2 (by decide) hrd_935) h0 (hTo.at 0 rfl).1 2 (hTo.at 0 rfl).2 2 (by decide)).trans hk_930
      have hk_937 : rd f_934 h0 3 = .int fa_926 := ((Fr.put (cs := [(5, 3)]) (a := o) (ci := 5) Fr.rf Ext.rf (hTo.at 1 rfl).2 (by decide) hrd_935) h0 (hTo.at 0 rfl).1 2 (hTo.at 0 rfl).2 3 (by decide)).trans hk_927
      refine lv_aload_n hx hb dX2_readTest_31 rfl (lv_at hl 0 rfl) ?_
      refine lv_aload_n hx hb dX2_readTest_32 rfl (lv_at hl 0 rfl) ?_
      refine T_get (ci := 2) (C := RX2) (T := TX2) (N := 6) (t := tI) hx hb hts inw_X2_readTest_2 hown hK hP hT 0 rfl rfl 2 (by decide) (hts (.fieldLink RX2 44 "VatHouse$Reader" "token" "I") (by decide +kernel)) (fun _ h9 => h9) rfl dX2_readTest_33 (fun v_940 hv_938 hr_939 => ?_)
      obtain rfl : v_940 = .int tn := hr_939.symm.trans hk_936
      have hTo := hT
      refine K_V ⟨hx, hb, hml, hown, hts⟩ (t_X2_pass l dC dI sa hlt g _ _ h0 tn tn fa_926 _ (hT.sub [0] rfl)  hk_936 hk_937 ) (cwV 1 hts gX2_readTest_X2_pass rfl rfl rfl (by decide +kernel) ⟨Nat.le_of_ble_eq_true rfl, Nat.le_of_ble_eq_true rfl⟩) hP hD hK hS hA hev hT 0 2 rfl rfl rfl rfl hl.1 rfl (Nat.le_of_ble_eq_true rfl) dX2_readTest_36 ⟨Nat.le_of_ble_eq_true rfl, Nat.le_of_ble_eq_true rfl⟩ (fun r L_941 f_942 H locs hw_943 hP hD hS hT hE1 => ?_)
      have hF := Fr.call hF hE hw_943.2.1 (by decide)
      have hE := hE.tr hE1
      obtain ⟨rfl, hw_943⟩ := hw_943
      obtain ⟨hfr_944, tn_945, fa_946, hk_947, hk_948, hrel_949, hrel_950⟩ := hw_943
      refine W.eq (g2 := F0 m 39 ls []) rfl ?_
      refine lv_aload_n hx hb dX2_readTest_39 rfl (lv_at hl 1 rfl) ?_
      refine T_get (ci := 5) (C := RX5) (T := TX5) (N := 8) (t := tI) hx hb hts inw_X2_readTest_5 hown hK hP hT 1 rfl rfl 3 (by decide) (hts (.fieldLink RX2 94 "VatHouse$Step" "look" "I") (by decide +kernel)) (fun _ h9 => h9) rfl dX2_readTest_40 (fun v_954 hv_952 hr_953 => ?_)
      obtain ⟨z_955, rfl⟩ := hv_952
      refine lv_bipush (v := 17) hx hb dX2_readTest_43 (by decide) ?_
      refine lv_icmp_eq (tgt := 57) hx hb dX2_readTest_45 (by decide) (fun c_956 => ?_) (fun c_956 => ?_)
      · refine lv_aload_n hx hb dX2_readTest_57 rfl (lv_at hl 1 rfl) ?_
        refine lv_aload_n hx hb dX2_readTest_58 rfl (lv_at hl 0 rfl) ?_
        refine lv_iconst (v := 0) hx hb dX2_readTest_59 (by decide) ?_
        refine lv_iconst (v := 5) hx hb dX2_readTest_60 (by decide) ?_
        have hTo := hT
        refine K_V ⟨hx, hb, hml, hown, hts⟩ (t_X2_readNumber l dC dI sa hlt g _ _ h0 0 5 tn_945 fa_946 _ (hT.sub [0] rfl)  hk_947 hk_948 ) (cwV 2 hts gX2_readTest_X2_readNumber rfl rfl rfl (by decide +kernel) ⟨Nat.le_of_ble_eq_true rfl, Nat.le_of_ble_eq_true rfl⟩) hP hD hK hS hA hev hT 0 2 rfl rfl rfl rfl hl.1 rfl (Nat.le_of_ble_eq_true rfl) dX2_readTest_61 ⟨Nat.le_of_ble_eq_true rfl, Nat.le_of_ble_eq_true rfl⟩ (fun r L_957 f_958 H locs hw_959 hP hD hS hT hE1 => ?_)
        have hF := Fr.call hF hE hw_959.2.1 (by decide)
        have hE := hE.tr hE1
        obtain ⟨⟨z_960, rfl⟩, hw_959⟩ := hw_959
        obtain ⟨hfr_961, tn_962, fa_963, hk_964, hk_965, hrel_966, hrel_967⟩ := hw_959
        refine W.eq (g2 := F0 m 64 ls [.int z_960, .ref o]) rfl ?_
        have hTo := hT
        refine T_put (ci := 5) (v := .int z_960) (ty := .int) (t := tI) (C := RX5) (T := TX5) (N := 8) hx hb hts inw_X2_readTest_5 tyX5 tyX5_ok nmX5 hown hK hP hD hS hT 1 rfl rfl 1 (by decide) (hts (.fieldLink RX2 76 "VatHouse$Step" "vat" "I") (by decide +kernel)) (fun _ h9 => h9) rfl (by decide +kernel) rfl rfl rfl ⟨_, rfl⟩ dX2_readTest_64 (fun f_969 H locs hP hD hS hT hE1 hrd_970 => ?_)
        have hF := Fr.put (a := o) (ci := 5) hF hE ((hE1 o (hT.at 1 rfl).1).2.symm.trans (hT.at 1 rfl).2) (by decide) hrd_970
        have hE := hE.tr hE1
        have hk_971 : rd f_969 h0 2 = .int tn_962 := ((Fr.put (cs := [(5, 1)]) (a := o) (ci := 5) Fr.rf Ext.rf (hTo.at 1 rfl).2 (by decide) hrd_970) h0 (hTo.at 0 rfl).1 2 (hTo.at 0 rfl).2 2 (by decide)).trans hk_964
        have hk_972 : rd f_969 h0 3 = .int fa_963 := ((Fr.put (cs := [(5, 1)]) (a := o) (ci := 5) Fr.rf Ext.rf (hTo.at 1 rfl).2 (by decide) hrd_970) h0 (hTo.at 0 rfl).1 2 (hTo.at 0 rfl).2 3 (by decide)).trans hk_965
        refine lv_aload_n hx hb dX2_readTest_67 rfl (lv_at hl 1 rfl) ?_
        refine lv_aload_n hx hb dX2_readTest_68 rfl (lv_at hl 0 rfl) ?_
        refine T_get (ci := 2) (C := RX2) (T := TX2) (N := 6) (t := tI) hx hb hts inw_X2_readTest_2 hown hK hP hT 0 rfl rfl 2 (by decide) (hts (.fieldLink RX2 44 "VatHouse$Reader" "token" "I") (by decide +kernel)) (fun _ h9 => h9) rfl dX2_readTest_69 (fun v_975 hv_973 hr_974 => ?_)
        obtain rfl : v_975 = .int tn_962 := hr_974.symm.trans hk_971
        refine lv_bipush (v := 60) hx hb dX2_readTest_72 (by decide) ?_
        refine lv_icmp_ne (tgt := 81) hx hb dX2_readTest_74 (by decide) (fun c_976 => ?_) (fun c_976 => ?_)
        · refine lv_iconst (v := 0) hx hb dX2_readTest_81 (by decide) ?_
          have hTo := hT
          refine T_put (ci := 5) (v := .int 0) (ty := .boolean) (t := tI) (C := RX5) (T := TX5) (N := 8) hx hb hts inw_X2_readTest_5 tyX5 tyX5_ok nmX5 hown hK hP hD hS hT 1 rfl rfl 4 (by decide) (hts (.fieldLink RX2 97 "VatHouse$Step" "below" "Z") (by decide +kernel)) (fun _ h9 => h9) rfl (by decide +kernel) rfl rfl rfl ⟨_, rfl⟩ dX2_readTest_82 (fun f_977 H locs hP hD hS hT hE1 hrd_978 => ?_)
          have hF := Fr.put (a := o) (ci := 5) hF hE ((hE1 o (hT.at 1 rfl).1).2.symm.trans (hT.at 1 rfl).2) (by decide) hrd_978
          have hE := hE.tr hE1
          have hk_979 : rd f_977 h0 2 = .int tn_962 := ((Fr.put (cs := [(5, 4)]) (a := o) (ci := 5) Fr.rf Ext.rf (hTo.at 1 rfl).2 (by decide) hrd_978) h0 (hTo.at 0 rfl).1 2 (hTo.at 0 rfl).2 2 (by decide)).trans hk_971
          have hk_980 : rd f_977 h0 3 = .int fa_963 := ((Fr.put (cs := [(5, 4)]) (a := o) (ci := 5) Fr.rf Ext.rf (hTo.at 1 rfl).2 (by decide) hrd_978) h0 (hTo.at 0 rfl).1 2 (hTo.at 0 rfl).2 3 (by decide)).trans hk_972
          refine lv_aload_n hx hb dX2_readTest_85 rfl (lv_at hl 0 rfl) ?_
          refine lv_aload_n hx hb dX2_readTest_86 rfl (lv_at hl 1 rfl) ?_
          refine T_get (ci := 5) (C := RX5) (T := TX5) (N := 8) (t := tI) hx hb hts inw_X2_readTest_5 hown hK hP hT 1 rfl rfl 4 (by decide) (hts (.fieldLink RX2 97 "VatHouse$Step" "below" "Z") (by decide +kernel)) (fun _ h9 => h9) rfl dX2_readTest_87 (fun v_983 hv_981 hr_982 => ?_)
          obtain ⟨z_984, rfl⟩ := hv_981
          refine lv_if_eq (tgt := 98) hx hb dX2_readTest_90 (by decide) (fun c_985 => ?_) (fun c_985 => ?_)
          · refine lv_bipush (v := 61) hx hb dX2_readTest_98 (by decide) ?_
            have hTo := hT
            refine K_V ⟨hx, hb, hml, hown, hts⟩ (t_X2_pass l dC dI sa hlt g _ _ h0 61 tn_962 fa_963 _ (hT.sub [0] rfl)  hk_979 hk_980 ) (cwV 1 hts gX2_readTest_X2_pass rfl rfl rfl (by decide +kernel) ⟨Nat.le_of_ble_eq_true rfl, Nat.le_of_ble_eq_true rfl⟩) hP hD hK hS hA hev hT 0 2 rfl rfl rfl rfl hl.1 rfl (Nat.le_of_ble_eq_true rfl) dX2_readTest_100 ⟨Nat.le_of_ble_eq_true rfl, Nat.le_of_ble_eq_true rfl⟩ (fun r L_986 f_987 H locs hw_988 hP hD hS hT hE1 => ?_)
            have hF := Fr.call hF hE hw_988.2.1 (by decide)
            have hE := hE.tr hE1
            obtain ⟨rfl, hw_988⟩ := hw_988
            obtain ⟨hfr_989, tn_990, fa_991, hk_992, hk_993, hrel_994, hrel_995⟩ := hw_988
            refine W.eq (g2 := F0 m 103 ls []) rfl ?_
            refine lv_aload_n hx hb dX2_readTest_103 rfl (lv_at hl 1 rfl) ?_
            refine lv_aload_n hx hb dX2_readTest_104 rfl (lv_at hl 0 rfl) ?_
            refine lv_iconst (v := 0) hx hb dX2_readTest_105 (by decide) ?_
            refine lv_sipush (v := 9999) hx hb dX2_readTest_106 (by decide) ?_
            have hTo := hT
            refine K_V ⟨hx, hb, hml, hown, hts⟩ (t_X2_readNumber l dC dI sa hlt g _ _ h0 0 9999 tn_990 fa_991 _ (hT.sub [0] rfl)  hk_992 hk_993 ) (cwV 2 hts gX2_readTest_X2_readNumber rfl rfl rfl (by decide +kernel) ⟨Nat.le_of_ble_eq_true rfl, Nat.le_of_ble_eq_true rfl⟩) hP hD hK hS hA hev hT 0 2 rfl rfl rfl rfl hl.1 rfl (Nat.le_of_ble_eq_true rfl) dX2_readTest_109 ⟨Nat.le_of_ble_eq_true rfl, Nat.le_of_ble_eq_true rfl⟩ (fun r L_997 f_998 H locs hw_999 hP hD hS hT hE1 => ?_)
            have hF := Fr.call hF hE hw_999.2.1 (by decide)
            have hE := hE.tr hE1
            obtain ⟨⟨z_1000, rfl⟩, hw_999⟩ := hw_999
            obtain ⟨hfr_1001, tn_1002, fa_1003, hk_1004, hk_1005, hrel_1006, hrel_1007⟩ := hw_999
            refine W.eq (g2 := F0 m 112 ls [.int z_1000, .ref o]) rfl ?_
            have hTo := hT
            refine T_put (ci := 5) (v := .int z_1000) (ty := .int) (t := tI) (C := RX5) (T := TX5) (N := 8) hx hb hts inw_X2_readTest_5 tyX5 tyX5_ok nmX5 hown hK hP hD hS hT 1 rfl rfl 2 (by decide) (hts (.fieldLink RX2 79 "VatHouse$Step" "number" "I") (by decide +kernel)) (fun _ h9 => h9) rfl (by decide +kernel) rfl rfl rfl ⟨_, rfl⟩ dX2_readTest_112 (fun f_1009 H locs hP hD hS hT hE1 hrd_1010 => ?_)
            have hF := Fr.put (a := o) (ci := 5) hF hE ((hE1 o (hT.at 1 rfl).1).2.symm.trans (hT.at 1 rfl).2) (by decide) hrd_1010
            have hE := hE.tr hE1
            have hk_1011 : rd f_1009 h0 2 = .int tn_1002 := ((Fr.put (cs := [(5, 2)]) (a := o) (ci := 5) Fr.rf Ext.rf (hTo.at 1 rfl).2 (by decide) hrd_1010) h0 (hTo.at 0 rfl).1 2 (hTo.at 0 rfl).2 2 (by decide)).trans hk_1004
            have hk_1012 : rd f_1009 h0 3 = .int fa_1003 := ((Fr.put (cs := [(5, 2)]) (a := o) (ci := 5) Fr.rf Ext.rf (hTo.at 1 rfl).2 (by decide) hrd_1010) h0 (hTo.at 0 rfl).1 2 (hTo.at 0 rfl).2 3 (by decide)).trans hk_1005
            exact K_v hx hb hr hlocks hP hD hK hS hT hE ⟨rfl, hF, _, _, hk_1011, hk_1012, trivial, fun h9 => (absurd ((hrel_950 (hrel_967 ((hrel_995 (hrel_1007 h9)).1))).1) hrel_928)⟩ (Nat.le_of_ble_eq_true rfl) (Nat.le_of_ble_eq_true rfl) dX2_readTest_115
          · refine lv_bipush (v := 60) hx hb dX2_readTest_93 (by decide) ?_
            refine lv_goto (tgt := 100) hx hb dX2_readTest_95 (by decide) ?_
            have hTo := hT
            refine K_V ⟨hx, hb, hml, hown, hts⟩ (t_X2_pass l dC dI sa hlt g _ _ h0 60 tn_962 fa_963 _ (hT.sub [0] rfl)  hk_979 hk_980 ) (cwV 1 hts gX2_readTest_X2_pass rfl rfl rfl (by decide +kernel) ⟨Nat.le_of_ble_eq_true rfl, Nat.le_of_ble_eq_true rfl⟩) hP hD hK hS hA hev hT 0 2 rfl rfl rfl rfl hl.1 rfl (Nat.le_of_ble_eq_true rfl) dX2_readTest_100 ⟨Nat.le_of_ble_eq_true rfl, Nat.le_of_ble_eq_true rfl⟩ (fun r L_1013 f_1014 H locs hw_1015 hP hD hS hT hE1 => ?_)
            have hF := Fr.call hF hE hw_1015.2.1 (by decide)
            have hE := hE.tr hE1
            obtain ⟨rfl, hw_1015⟩ := hw_1015
            obtain ⟨hfr_1016, tn_1017, fa_1018, hk_1019, hk_1020, hrel_1021, hrel_1022⟩ := hw_1015
            refine W.eq (g2 := F0 m 103 ls []) rfl ?_
            refine lv_aload_n hx hb dX2_readTest_103 rfl (lv_at hl 1 rfl) ?_
            refine lv_aload_n hx hb dX2_readTest_104 rfl (lv_at hl 0 rfl) ?_
            refine lv_iconst (v := 0) hx hb dX2_readTest_105 (by decide) ?_
            refine lv_sipush (v := 9999) hx hb dX2_readTest_106 (by decide) ?_
            have hTo := hT
            refine K_V ⟨hx, hb, hml, hown, hts⟩ (t_X2_readNumber l dC dI sa hlt g _ _ h0 0 9999 tn_1017 fa_1018 _ (hT.sub [0] rfl)  hk_1019 hk_1020 ) (cwV 2 hts gX2_readTest_X2_readNumber rfl rfl rfl (by decide +kernel) ⟨Nat.le_of_ble_eq_true rfl, Nat.le_of_ble_eq_true rfl⟩) hP hD hK hS hA hev hT 0 2 rfl rfl rfl rfl hl.1 rfl (Nat.le_of_ble_eq_true rfl) dX2_readTest_109 ⟨Nat.le_of_ble_eq_true rfl, Nat.le_of_ble_eq_true rfl⟩ (fun r L_1024 f_1025 H locs hw_1026 hP hD hS hT hE1 => ?_)
            have hF := Fr.call hF hE hw_1026.2.1 (by decide)
            have hE := hE.tr hE1
            obtain ⟨⟨z_1027, rfl⟩, hw_1026⟩ := hw_1026
            obtain ⟨hfr_1028, tn_1029, fa_1030, hk_1031, hk_1032, hrel_1033, hrel_1034⟩ := hw_1026
            refine W.eq (g2 := F0 m 112 ls [.int z_1027, .ref o]) rfl ?_
            have hTo := hT
            refine T_put (ci := 5) (v := .int z_1027) (ty := .int) (t := tI) (C := RX5) (T := TX5) (N := 8) hx hb hts inw_X2_readTest_5 tyX5 tyX5_ok nmX5 hown hK hP hD hS hT 1 rfl rfl 2 (by decide) (hts (.fieldLink RX2 79 "VatHouse$Step" "number" "I") (by decide +kernel)) (fun _ h9 => h9) rfl (by decide +kernel) rfl rfl rfl ⟨_, rfl⟩ dX2_readTest_112 (fun f_1036 H locs hP hD hS hT hE1 hrd_1037 => ?_)
            have hF := Fr.put (a := o) (ci := 5) hF hE ((hE1 o (hT.at 1 rfl).1).2.symm.trans (hT.at 1 rfl).2) (by decide) hrd_1037
            have hE := hE.tr hE1
            have hk_1038 : rd f_1036 h0 2 = .int tn_1029 := ((Fr.put (cs := [(5, 2)]) (a := o) (ci := 5) Fr.rf Ext.rf (hTo.at 1 rfl).2 (by decide) hrd_1037) h0 (hTo.at 0 rfl).1 2 (hTo.at 0 rfl).2 2 (by decide)).trans hk_1031
            have hk_1039 : rd f_1036 h0 3 = .int fa_1030 := ((Fr.put (cs := [(5, 2)]) (a := o) (ci := 5) Fr.rf Ext.rf (hTo.at 1 rfl).2 (by decide) hrd_1037) h0 (hTo.at 0 rfl).1 2 (hTo.at 0 rfl).2 3 (by decide)).trans hk_1032
            exact K_v hx hb hr hlocks hP hD hK hS hT hE ⟨rfl, hF, _, _, hk_1038, hk_1039, trivial, fun h9 => (absurd ((hrel_950 (hrel_967 ((hrel_1022 (hrel_1034 h9)).1))).1) hrel_928)⟩ (Nat.le_of_ble_eq_true rfl) (Nat.le_of_ble_eq_true rfl) dX2_readTest_115
        · refine lv_iconst (v := 1) hx hb dX2_readTest_77 (by decide) ?_
          refine lv_goto (tgt := 82) hx hb dX2_readTest_78 (by decide) ?_
          have hTo := hT
          refine T_put (ci := 5) (v := .int 1) (ty := .boolean) (t := tI) (C := RX5) (T := TX5) (N := 8) hx hb hts inw_X2_readTest_5 tyX5 tyX5_ok nmX5 hown hK hP hD hS hT 1 rfl rfl 4 (by decide) (hts (.fieldLink RX2 97 "VatHouse$Step" "below" "Z") (by decide +kernel)) (fun _ h9 => h9) rfl (by decide +kernel) rfl rfl rfl ⟨_, rfl⟩ dX2_readTest_82 (fun f_1040 H locs hP hD hS hT hE1 hrd_1041 => ?_)
          have hF := Fr.put (a := o) (ci := 5) hF hE ((hE1 o (hT.at 1 rfl).1).2.symm.trans (hT.at 1 rfl).2) (by decide) hrd_1041
          have hE := hE.tr hE1
          have hk_1042 : rd f_1040 h0 2 = .int tn_962 := ((Fr.put (cs := [(5, 4)]) (a := o) (ci := 5) Fr.rf Ext.rf (hTo.at 1 rfl).2 (by decide) hrd_1041) h0 (hTo.at 0 rfl).1 2 (hTo.at 0 rfl).2 2 (by decide)).trans hk_971
          have hk_1043 : rd f_1040 h0 3 = .int fa_963 := ((Fr.put (cs := [(5, 4)]) (a := o) (ci := 5) Fr.rf Ext.rf (hTo.at 1 rfl).2 (by decide) hrd_1041) h0 (hTo.at 0 rfl).1 2 (hTo.at 0 rfl).2 3 (by decide)).trans hk_972
          refine lv_aload_n hx hb dX2_readTest_85 rfl (lv_at hl 0 rfl) ?_
          refine lv_aload_n hx hb dX2_readTest_86 rfl (lv_at hl 1 rfl) ?_
          refine T_get (ci := 5) (C := RX5) (T := TX5) (N := 8) (t := tI) hx hb hts inw_X2_readTest_5 hown hK hP hT 1 rfl rfl 4 (by decide) (hts (.fieldLink RX2 97 "VatHouse$Step" "below" "Z") (by decide +kernel)) (fun _ h9 => h9) rfl dX2_readTest_87 (fun v_1046 hv_1044 hr_1045 => ?_)
          obtain ⟨z_1047, rfl⟩ := hv_1044
          refine lv_if_eq (tgt := 98) hx hb dX2_readTest_90 (by decide) (fun c_1048 => ?_) (fun c_1048 => ?_)
          · refine lv_bipush (v := 61) hx hb dX2_readTest_98 (by decide) ?_
            have hTo := hT
            refine K_V ⟨hx, hb, hml, hown, hts⟩ (t_X2_pass l dC dI sa hlt g _ _ h0 61 tn_962 fa_963 _ (hT.sub [0] rfl)  hk_1042 hk_1043 ) (cwV 1 hts gX2_readTest_X2_pass rfl rfl rfl (by decide +kernel) ⟨Nat.le_of_ble_eq_true rfl, Nat.le_of_ble_eq_true rfl⟩) hP hD hK hS hA hev hT 0 2 rfl rfl rfl rfl hl.1 rfl (Nat.le_of_ble_eq_true rfl) dX2_readTest_100 ⟨Nat.le_of_ble_eq_true rfl, Nat.le_of_ble_eq_true rfl⟩ (fun r L_1049 f_1050 H locs hw_1051 hP hD hS hT hE1 => ?_)
            have hF := Fr.call hF hE hw_1051.2.1 (by decide)
            have hE := hE.tr hE1
            obtain ⟨rfl, hw_1051⟩ := hw_1051
            obtain ⟨hfr_1052, tn_1053, fa_1054, hk_1055, hk_1056, hrel_1057, hrel_1058⟩ := hw_1051
            refine W.eq (g2 := F0 m 103 ls []) rfl ?_
            refine lv_aload_n hx hb dX2_readTest_103 rfl (lv_at hl 1 rfl) ?_
            refine lv_aload_n hx hb dX2_readTest_104 rfl (lv_at hl 0 rfl) ?_
            refine lv_iconst (v := 0) hx hb dX2_readTest_105 (by decide) ?_
            refine lv_sipush (v := 9999) hx hb dX2_readTest_106 (by decide) ?_
            have hTo := hT
            refine K_V ⟨hx, hb, hml, hown, hts⟩ (t_X2_readNumber l dC dI sa hlt g _ _ h0 0 9999 tn_1053 fa_1054 _ (hT.sub [0] rfl)  hk_1055 hk_1056 ) (cwV 2 hts gX2_readTest_X2_readNumber rfl rfl rfl (by decide +kernel) ⟨Nat.le_of_ble_eq_true rfl, Nat.le_of_ble_eq_true rfl⟩) hP hD hK hS hA hev hT 0 2 rfl rfl rfl rfl hl.1 rfl (Nat.le_of_ble_eq_true rfl) dX2_readTest_109 ⟨Nat.le_of_ble_eq_true rfl, Nat.le_of_ble_eq_true rfl⟩ (fun r L_1060 f_1061 H locs hw_1062 hP hD hS hT hE1 => ?_)
            have hF := Fr.call hF hE hw_1062.2.1 (by decide)
            have hE := hE.tr hE1
            obtain ⟨⟨z_1063, rfl⟩, hw_1062⟩ := hw_1062
            obtain ⟨hfr_1064, tn_1065, fa_1066, hk_1067, hk_1068, hrel_1069, hrel_1070⟩ := hw_1062
            refine W.eq (g2 := F0 m 112 ls [.int z_1063, .ref o]) rfl ?_
            have hTo := hT
            refine T_put (ci := 5) (v := .int z_1063) (ty := .int) (t := tI) (C := RX5) (T := TX5) (N := 8) hx hb hts inw_X2_readTest_5 tyX5 tyX5_ok nmX5 hown hK hP hD hS hT 1 rfl rfl 2 (by decide) (hts (.fieldLink RX2 79 "VatHouse$Step" "number" "I") (by decide +kernel)) (fun _ h9 => h9) rfl (by decide +kernel) rfl rfl rfl ⟨_, rfl⟩ dX2_readTest_112 (fun f_1072 H locs hP hD hS hT hE1 hrd_1073 => ?_)
            have hF := Fr.put (a := o) (ci := 5) hF hE ((hE1 o (hT.at 1 rfl).1).2.symm.trans (hT.at 1 rfl).2) (by decide) hrd_1073
            have hE := hE.tr hE1
            have hk_1074 : rd f_1072 h0 2 = .int tn_1065 := ((Fr.put (cs := [(5, 2)]) (a := o) (ci := 5) Fr.rf Ext.rf (hTo.at 1 rfl).2 (by decide) hrd_1073) h0 (hTo.at 0 rfl).1 2 (hTo.at 0 rfl).2 2 (by decide)).trans hk_1067
            have hk_1075 : rd f_1072 h0 3 = .int fa_1066 := ((Fr.put (cs := [(5, 2)]) (a := o) (ci := 5) Fr.rf Ext.rf (hTo.at 1 rfl).2 (by decide) hrd_1073) h0 (hTo.at 0 rfl).1 2 (hTo.at 0 rfl).2 3 (by decide)).trans hk_1068
            exact K_v hx hb hr hlocks hP hD hK hS hT hE ⟨rfl, hF, _, _, hk_1074, hk_1075, trivial, fun h9 => (absurd ((hrel_950 (hrel_967 ((hrel_1058 (hrel_1070 h9)).1))).1) hrel_928)⟩ (Nat.le_of_ble_eq_true rfl) (Nat.le_of_ble_eq_true rfl) dX2_readTest_115
          · refine lv_bipush (v := 60) hx hb dX2_readTest_93 (by decide) ?_
            refine lv_goto (tgt := 100) hx hb dX2_readTest_95 (by decide) ?_
            have hTo := hT
            refine K_V ⟨hx, hb, hml, hown, hts⟩ (t_X2_pass l dC dI sa hlt g _ _ h0 60 tn_962 fa_963 _ (hT.sub [0] rfl)  hk_1042 hk_1043 ) (cwV 1 hts gX2_readTest_X2_pass rfl rfl rfl (by decide +kernel) ⟨Nat.le_of_ble_eq_true rfl, Nat.le_of_ble_eq_true rfl⟩) hP hD hK hS hA hev hT 0 2 rfl rfl rfl rfl hl.1 rfl (Nat.le_of_ble_eq_true rfl) dX2_readTest_100 ⟨Nat.le_of_ble_eq_true rfl, Nat.le_of_ble_eq_true rfl⟩ (fun r L_1076 f_1077 H locs hw_1078 hP hD hS hT hE1 => ?_)
            have hF := Fr.call hF hE hw_1078.2.1 (by decide)
            have hE := hE.tr hE1
            obtain ⟨rfl, hw_1078⟩ := hw_1078
            obtain ⟨hfr_1079, tn_1080, fa_1081, hk_1082, hk_1083, hrel_1084, hrel_1085⟩ := hw_1078
            refine W.eq (g2 := F0 m 103 ls []) rfl ?_
            refine lv_aload_n hx hb dX2_readTest_103 rfl (lv_at hl 1 rfl) ?_
            refine lv_aload_n hx hb dX2_readTest_104 rfl (lv_at hl 0 rfl) ?_
            refine lv_iconst (v := 0) hx hb dX2_readTest_105 (by decide) ?_
            refine lv_sipush (v := 9999) hx hb dX2_readTest_106 (by decide) ?_
            have hTo := hT
            refine K_V ⟨hx, hb, hml, hown, hts⟩ (t_X2_readNumber l dC dI sa hlt g _ _ h0 0 9999 tn_1080 fa_1081 _ (hT.sub [0] rfl)  hk_1082 hk_1083 ) (cwV 2 hts gX2_readTest_X2_readNumber rfl rfl rfl (by decide +kernel) ⟨Nat.le_of_ble_eq_true rfl, Nat.le_of_ble_eq_true rfl⟩) hP hD hK hS hA hev hT 0 2 rfl rfl rfl rfl hl.1 rfl (Nat.le_of_ble_eq_true rfl) dX2_readTest_109 ⟨Nat.le_of_ble_eq_true rfl, Nat.le_of_ble_eq_true rfl⟩ (fun r L_1087 f_1088 H locs hw_1089 hP hD hS hT hE1 => ?_)
            have hF := Fr.call hF hE hw_1089.2.1 (by decide)
            have hE := hE.tr hE1
            obtain ⟨⟨z_1090, rfl⟩, hw_1089⟩ := hw_1089
            obtain ⟨hfr_1091, tn_1092, fa_1093, hk_1094, hk_1095, hrel_1096, hrel_1097⟩ := hw_1089
            refine W.eq (g2 := F0 m 112 ls [.int z_1090, .ref o]) rfl ?_
            have hTo := hT
            refine T_put (ci := 5) (v := .int z_1090) (ty := .int) (t := tI) (C := RX5) (T := TX5) (N := 8) hx hb hts inw_X2_readTest_5 tyX5 tyX5_ok nmX5 hown hK hP hD hS hT 1 rfl rfl 2 (by decide) (hts (.fieldLink RX2 79 "VatHouse$Step" "number" "I") (by decide +kernel)) (fun _ h9 => h9) rfl (by decide +kernel) rfl rfl rfl ⟨_, rfl⟩ dX2_readTest_112 (fun f_1099 H locs hP hD hS hT hE1 hrd_1100 => ?_)
            have hF := Fr.put (a := o) (ci := 5) hF hE ((hE1 o (hT.at 1 rfl).1).2.symm.trans (hT.at 1 rfl).2) (by decide) hrd_1100
            have hE := hE.tr hE1
            have hk_1101 : rd f_1099 h0 2 = .int tn_1092 := ((Fr.put (cs := [(5, 2)]) (a := o) (ci := 5) Fr.rf Ext.rf (hTo.at 1 rfl).2 (by decide) hrd_1100) h0 (hTo.at 0 rfl).1 2 (hTo.at 0 rfl).2 2 (by decide)).trans hk_1094
            have hk_1102 : rd f_1099 h0 3 = .int fa_1093 := ((Fr.put (cs := [(5, 2)]) (a := o) (ci := 5) Fr.rf Ext.rf (hTo.at 1 rfl).2 (by decide) hrd_1100) h0 (hTo.at 0 rfl).1 2 (hTo.at 0 rfl).2 3 (by decide)).trans hk_1095
            exact K_v hx hb hr hlocks hP hD hK hS hT hE ⟨rfl, hF, _, _, hk_1101, hk_1102, trivial, fun h9 => (absurd ((hrel_950 (hrel_967 ((hrel_1085 (hrel_1097 h9)).1))).1) hrel_928)⟩ (Nat.le_of_ble_eq_true rfl) (Nat.le_of_ble_eq_true rfl) dX2_readTest_115
      · refine lv_aload_n hx hb dX2_readTest_48 rfl (lv_at hl 1 rfl) ?_
        refine T_get (ci := 5) (C := RX5) (T := TX5) (N := 8) (t := tI) hx hb hts inw_X2_readTest_5 hown hK hP hT 1 rfl rfl 3 (by decide) (hts (.fieldLink RX2 94 "VatHouse$Step" "look" "I") (by decide +kernel)) (fun _ h9 => h9) rfl dX2_readTest_49 (fun v_1105 hv_1103 hr_1104 => ?_)
        obtain rfl : v_1105 = .int z_955 := hr_1104.symm.trans hr_953
        refine lv_bipush (v := 18) hx hb dX2_readTest_52 (by decide) ?_
        refine lv_icmp_ne (tgt := 67) hx hb dX2_readTest_54 (by decide) (fun c_1106 => ?_) (fun c_1106 => ?_)
        · refine lv_aload_n hx hb dX2_readTest_67 rfl (lv_at hl 1 rfl) ?_
          refine lv_aload_n hx hb dX2_readTest_68 rfl (lv_at hl 0 rfl) ?_
          refine T_get (ci := 2) (C := RX2) (T := TX2) (N := 6) (t := tI) hx hb hts inw_X2_readTest_2 hown hK hP hT 0 rfl rfl 2 (by decide) (hts (.fieldLink RX2 44 "VatHouse$Reader" "token" "I") (by decide +kernel)) (fun _ h9 => h9) rfl dX2_readTest_69 (fun v_1109 hv_1107 hr_1108 => ?_)
          obtain rfl : v_1109 = .int tn_945 := hr_1108.symm.trans hk_947
          refine lv_bipush (v := 60) hx hb dX2_readTest_72 (by decide) ?_
          refine lv_icmp_ne (tgt := 81) hx hb dX2_readTest_74 (by decide) (fun c_1110 => ?_) (fun c_1110 => ?_)
          · refine lv_iconst (v := 0) hx hb dX2_readTest_81 (by decide) ?_
            have hTo := hT
            refine T_put (ci := 5) (v := .int 0) (ty := .boolean) (t := tI) (C := RX5) (T := TX5) (N := 8) hx hb hts inw_X2_readTest_5 tyX5 tyX5_ok nmX5 hown hK hP hD hS hT 1 rfl rfl 4 (by decide) (hts (.fieldLink RX2 97 "VatHouse$Step" "below" "Z") (by decide +kernel)) (fun _ h9 => h9) rfl (by decide +kernel) rfl rfl rfl ⟨_, rfl⟩ dX2_readTest_82 (fun f_1111 H locs hP hD hS hT hE1 hrd_1112 => ?_)
            have hF := Fr.put (a := o) (ci := 5) hF hE ((hE1 o (hT.at 1 rfl).1).2.symm.trans (hT.at 1 rfl).2) (by decide) hrd_1112
            have hE := hE.tr hE1
            have hk_1113 : rd f_1111 h0 2 = .int tn_945 := ((Fr.put (cs := [(5, 4)]) (a := o) (ci := 5) Fr.rf Ext.rf (hTo.at 1 rfl).2 (by decide) hrd_1112) h0 (hTo.at 0 rfl).1 2 (hTo.at 0 rfl).2 2 (by decide)).trans hk_947
            have hk_1114 : rd f_1111 h0 3 = .int fa_946 := ((Fr.put (cs := [(5, 4)]) (a := o) (ci := 5) Fr.rf Ext.rf (hTo.at 1 rfl).2 (by decide) hrd_1112) h0 (hTo.at 0 rfl).1 2 (hTo.at 0 rfl).2 3 (by decide)).trans hk_948
            refine lv_aload_n hx hb dX2_readTest_85 rfl (lv_at hl 0 rfl) ?_
            refine lv_aload_n hx hb dX2_readTest_86 rfl (lv_at hl 1 rfl) ?_
            refine T_get (ci := 5) (C := RX5) (T := TX5) (N := 8) (t := tI) hx hb hts inw_X2_readTest_5 hown hK hP hT 1 rfl rfl 4 (by decide) (hts (.fieldLink RX2 97 "VatHouse$Step" "below" "Z") (by decide +kernel)) (fun _ h9 => h9) rfl dX2_readTest_87 (fun v_1117 hv_1115 hr_1116 => ?_)
            obtain ⟨z_1118, rfl⟩ := hv_1115
            refine lv_if_eq (tgt := 98) hx hb dX2_readTest_90 (by decide) (fun c_1119 => ?_) (fun c_1119 => ?_)
            · refine lv_bipush (v := 61) hx hb dX2_readTest_98 (by decide) ?_
              have hTo := hT
              refine K_V ⟨hx, hb, hml, hown, hts⟩ (t_X2_pass l dC dI sa hlt g _ _ h0 61 tn_945 fa_946 _ (hT.sub [0] rfl)  hk_1113 hk_1114 ) (cwV 1 hts gX2_readTest_X2_pass rfl rfl rfl (by decide +kernel) ⟨Nat.le_of_ble_eq_true rfl, Nat.le_of_ble_eq_true rfl⟩) hP hD hK hS hA hev hT 0 2 rfl rfl rfl rfl hl.1 rfl (Nat.le_of_ble_eq_true rfl) dX2_readTest_100 ⟨Nat.le_of_ble_eq_true rfl, Nat.le_of_ble_eq_true rfl⟩ (fun r L_1120 f_1121 H locs hw_1122 hP hD hS hT hE1 => ?_)
              have hF := Fr.call hF hE hw_1122.2.1 (by decide)
              have hE := hE.tr hE1
              obtain ⟨rfl, hw_1122⟩ := hw_1122
              obtain ⟨hfr_1123, tn_1124, fa_1125, hk_1126, hk_1127, hrel_1128, hrel_1129⟩ := hw_1122
              refine W.eq (g2 := F0 m 103 ls []) rfl ?_
              refine lv_aload_n hx hb dX2_readTest_103 rfl (lv_at hl 1 rfl) ?_
              refine lv_aload_n hx hb dX2_readTest_104 rfl (lv_at hl 0 rfl) ?_
              refine lv_iconst (v := 0) hx hb dX2_readTest_105 (by decide) ?_
              refine lv_sipush (v := 9999) hx hb dX2_readTest_106 (by decide) ?_
              have hTo := hT
              refine K_V ⟨hx, hb, hml, hown, hts⟩ (t_X2_readNumber l dC dI sa hlt g _ _ h0 0 9999 tn_1124 fa_1125 _ (hT.sub [0] rfl)  hk_1126 hk_1127 ) (cwV 2 hts gX2_readTest_X2_readNumber rfl rfl rfl (by decide +kernel) ⟨Nat.le_of_ble_eq_true rfl, Nat.le_of_ble_eq_true rfl⟩) hP hD hK hS hA hev hT 0 2 rfl rfl rfl rfl hl.1 rfl (Nat.le_of_ble_eq_true rfl) dX2_readTest_109 ⟨Nat.le_of_ble_eq_true rfl, Nat.le_of_ble_eq_true rfl⟩ (fun r L_1131 f_1132 H locs hw_1133 hP hD hS hT hE1 => ?_)
              have hF := Fr.call hF hE hw_1133.2.1 (by decide)
              have hE := hE.tr hE1
              obtain ⟨⟨z_1134, rfl⟩, hw_1133⟩ := hw_1133
              obtain ⟨hfr_1135, tn_1136, fa_1137, hk_1138, hk_1139, hrel_1140, hrel_1141⟩ := hw_1133
              refine W.eq (g2 := F0 m 112 ls [.int z_1134, .ref o]) rfl ?_
              have hTo := hT
              refine T_put (ci := 5) (v := .int z_1134) (ty := .int) (t := tI) (C := RX5) (T := TX5) (N := 8) hx hb hts inw_X2_readTest_5 tyX5 tyX5_ok nmX5 hown hK hP hD hS hT 1 rfl rfl 2 (by decide) (hts (.fieldLink RX2 79 "VatHouse$Step" "number" "I") (by decide +kernel)) (fun _ h9 => h9) rfl (by decide +kernel) rfl rfl rfl ⟨_, rfl⟩ dX2_readTest_112 (fun f_1143 H locs hP hD hS hT hE1 hrd_1144 => ?_)
              have hF := Fr.put (a := o) (ci := 5) hF hE ((hE1 o (hT.at 1 rfl).1).2.symm.trans (hT.at 1 rfl).2) (by decide) hrd_1144
              have hE := hE.tr hE1
              have hk_1145 : rd f_1143 h0 2 = .int tn_1136 := ((Fr.put (cs := [(5, 2)]) (a := o) (ci := 5) Fr.rf Ext.rf (hTo.at 1 rfl).2 (by decide) hrd_1144) h0 (hTo.at 0 rfl).1 2 (hTo.at 0 rfl).2 2 (by decide)).trans hk_1138
              have hk_1146 : rd f_1143 h0 3 = .int fa_1137 := ((Fr.put (cs := [(5, 2)]) (a := o) (ci := 5) Fr.rf Ext.rf (hTo.at 1 rfl).2 (by decide) hrd_1144) h0 (hTo.at 0 rfl).1 2 (hTo.at 0 rfl).2 3 (by decide)).trans hk_1139
              exact K_v hx hb hr hlocks hP hD hK hS hT hE ⟨rfl, hF, _, _, hk_1145, hk_1146, trivial, fun h9 => (absurd ((hrel_950 ((hrel_1129 (hrel_1141 h9)).1)).1) hrel_928)⟩ (Nat.le_of_ble_eq_true rfl) (Nat.le_of_ble_eq_true rfl) dX2_readTest_115
            · refine lv_bipush (v := 60) hx hb dX2_readTest_93 (by decide) ?_
              refine lv_goto (tgt := 100) hx hb dX2_readTest_95 (by decide) ?_
              have hTo := hT
              refine K_V ⟨hx, hb, hml, hown, hts⟩ (t_X2_pass l dC dI sa hlt g _ _ h0 60 tn_945 fa_946 _ (hT.sub [0] rfl)  hk_1113 hk_1114 ) (cwV 1 hts gX2_readTest_X2_pass rfl rfl rfl (by decide +kernel) ⟨Nat.le_of_ble_eq_true rfl, Nat.le_of_ble_eq_true rfl⟩) hP hD hK hS hA hev hT 0 2 rfl rfl rfl rfl hl.1 rfl (Nat.le_of_ble_eq_true rfl) dX2_readTest_100 ⟨Nat.le_of_ble_eq_true rfl, Nat.le_of_ble_eq_true rfl⟩ (fun r L_1147 f_1148 H locs hw_1149 hP hD hS hT hE1 => ?_)
              have hF := Fr.call hF hE hw_1149.2.1 (by decide)
              have hE := hE.tr hE1
              obtain ⟨rfl, hw_1149⟩ := hw_1149
              obtain ⟨hfr_1150, tn_1151, fa_1152, hk_1153, hk_1154, hrel_1155, hrel_1156⟩ := hw_1149
              refine W.eq (g2 := F0 m 103 ls []) rfl ?_
              refine lv_aload_n hx hb dX2_readTest_103 rfl (lv_at hl 1 rfl) ?_
              refine lv_aload_n hx hb dX2_readTest_104 rfl (lv_at hl 0 rfl) ?_
              refine lv_iconst (v := 0) hx hb dX2_readTest_105 (by decide) ?_
              refine lv_sipush (v := 9999) hx hb dX2_readTest_106 (by decide) ?_
              have hTo := hT
              refine K_V ⟨hx, hb, hml, hown, hts⟩ (t_X2_readNumber l dC dI sa hlt g _ _ h0 0 9999 tn_1151 fa_1152 _ (hT.sub [0] rfl)  hk_1153 hk_1154 ) (cwV 2 hts gX2_readTest_X2_readNumber rfl rfl rfl (by decide +kernel) ⟨Nat.le_of_ble_eq_true rfl, Nat.le_of_ble_eq_true rfl⟩) hP hD hK hS hA hev hT 0 2 rfl rfl rfl rfl hl.1 rfl (Nat.le_of_ble_eq_true rfl) dX2_readTest_109 ⟨Nat.le_of_ble_eq_true rfl, Nat.le_of_ble_eq_true rfl⟩ (fun r L_1158 f_1159 H locs hw_1160 hP hD hS hT hE1 => ?_)
              have hF := Fr.call hF hE hw_1160.2.1 (by decide)
              have hE := hE.tr hE1
              obtain ⟨⟨z_1161, rfl⟩, hw_1160⟩ := hw_1160
              obtain ⟨hfr_1162, tn_1163, fa_1164, hk_1165, hk_1166, hrel_1167, hrel_1168⟩ := hw_1160
              refine W.eq (g2 := F0 m 112 ls [.int z_1161, .ref o]) rfl ?_
              have hTo := hT
              refine T_put (ci := 5) (v := .int z_1161) (ty := .int) (t := tI) (C := RX5) (T := TX5) (N := 8) hx hb hts inw_X2_readTest_5 tyX5 tyX5_ok nmX5 hown hK hP hD hS hT 1 rfl rfl 2 (by decide) (hts (.fieldLink RX2 79 "VatHouse$Step" "number" "I") (by decide +kernel)) (fun _ h9 => h9) rfl (by decide +kernel) rfl rfl rfl ⟨_, rfl⟩ dX2_readTest_112 (fun f_1170 H locs hP hD hS hT hE1 hrd_1171 => ?_)
              have hF := Fr.put (a := o) (ci := 5) hF hE ((hE1 o (hT.at 1 rfl).1).2.symm.trans (hT.at 1 rfl).2) (by decide) hrd_1171
              have hE := hE.tr hE1
              have hk_1172 : rd f_1170 h0 2 = .int tn_1163 := ((Fr.put (cs := [(5, 2)]) (a := o) (ci := 5) Fr.rf Ext.rf (hTo.at 1 rfl).2 (by decide) hrd_1171) h0 (hTo.at 0 rfl).1 2 (hTo.at 0 rfl).2 2 (by decide)).trans hk_1165
              have hk_1173 : rd f_1170 h0 3 = .int fa_1164 := ((Fr.put (cs := [(5, 2)]) (a := o) (ci := 5) Fr.rf Ext.rf (hTo.at 1 rfl).2 (by decide) hrd_1171) h0 (hTo.at 0 rfl).1 2 (hTo.at 0 rfl).2 3 (by decide)).trans hk_1166
              exact K_v hx hb hr hlocks hP hD hK hS hT hE ⟨rfl, hF, _, _, hk_1172, hk_1173, trivial, fun h9 => (absurd ((hrel_950 ((hrel_1156 (hrel_1168 h9)).1)).1) hrel_928)⟩ (Nat.le_of_ble_eq_true rfl) (Nat.le_of_ble_eq_true rfl) dX2_readTest_115
          · refine lv_iconst (v := 1) hx hb dX2_readTest_77 (by decide) ?_
            refine lv_goto (tgt := 82) hx hb dX2_readTest_78 (by decide) ?_
            have hTo := hT
            refine T_put (ci := 5) (v := .int 1) (ty := .boolean) (t := tI) (C := RX5) (T := TX5) (N := 8) hx hb hts inw_X2_readTest_5 tyX5 tyX5_ok nmX5 hown hK hP hD hS hT 1 rfl rfl 4 (by decide) (hts (.fieldLink RX2 97 "VatHouse$Step" "below" "Z") (by decide +kernel)) (fun _ h9 => h9) rfl (by decide +kernel) rfl rfl rfl ⟨_, rfl⟩ dX2_readTest_82 (fun f_1174 H locs hP hD hS hT hE1 hrd_1175 => ?_)
            have hF := Fr.put (a := o) (ci := 5) hF hE ((hE1 o (hT.at 1 rfl).1).2.symm.trans (hT.at 1 rfl).2) (by decide) hrd_1175
            have hE := hE.tr hE1
            have hk_1176 : rd f_1174 h0 2 = .int tn_945 := ((Fr.put (cs := [(5, 4)]) (a := o) (ci := 5) Fr.rf Ext.rf (hTo.at 1 rfl).2 (by decide) hrd_1175) h0 (hTo.at 0 rfl).1 2 (hTo.at 0 rfl).2 2 (by decide)).trans hk_947
            have hk_1177 : rd f_1174 h0 3 = .int fa_946 := ((Fr.put (cs := [(5, 4)]) (a := o) (ci := 5) Fr.rf Ext.rf (hTo.at 1 rfl).2 (by decide) hrd_1175) h0 (hTo.at 0 rfl).1 2 (hTo.at 0 rfl).2 3 (by decide)).trans hk_948
            refine lv_aload_n hx hb dX2_readTest_85 rfl (lv_at hl 0 rfl) ?_
            refine lv_aload_n hx hb dX2_readTest_86 rfl (lv_at hl 1 rfl) ?_
            refine T_get (ci := 5) (C := RX5) (T := TX5) (N := 8) (t := tI) hx hb hts inw_X2_readTest_5 hown hK hP hT 1 rfl rfl 4 (by decide) (hts (.fieldLink RX2 97 "VatHouse$Step" "below" "Z") (by decide +kernel)) (fun _ h9 => h9) rfl dX2_readTest_87 (fun v_1180 hv_1178 hr_1179 => ?_)
            obtain ⟨z_1181, rfl⟩ := hv_1178
            refine lv_if_eq (tgt := 98) hx hb dX2_readTest_90 (by decide) (fun c_1182 => ?_) (fun c_1182 => ?_)
            · refine lv_bipush (v := 61) hx hb dX2_readTest_98 (by decide) ?_
              have hTo := hT
              refine K_V ⟨hx, hb, hml, hown, hts⟩ (t_X2_pass l dC dI sa hlt g _ _ h0 61 tn_945 fa_946 _ (hT.sub [0] rfl)  hk_1176 hk_1177 ) (cwV 1 hts gX2_readTest_X2_pass rfl rfl rfl (by decide +kernel) ⟨Nat.le_of_ble_eq_true rfl, Nat.le_of_ble_eq_true rfl⟩) hP hD hK hS hA hev hT 0 2 rfl rfl rfl rfl hl.1 rfl (Nat.le_of_ble_eq_true rfl) dX2_readTest_100 ⟨Nat.le_of_ble_eq_true rfl, Nat.le_of_ble_eq_true rfl⟩ (fun r L_1183 f_1184 H locs hw_1185 hP hD hS hT hE1 => ?_)
              have hF := Fr.call hF hE hw_1185.2.1 (by decide)
              have hE := hE.tr hE1
              obtain ⟨rfl, hw_1185⟩ := hw_1185
              obtain ⟨hfr_1186, tn_1187, fa_1188, hk_1189, hk_1190, hrel_1191, hrel_1192⟩ := hw_1185
              refine W.eq (g2 := F0 m 103 ls []) rfl ?_
              refine lv_aload_n hx hb dX2_readTest_103 rfl (lv_at hl 1 rfl) ?_
              refine lv_aload_n hx hb dX2_readTest_104 rfl (lv_at hl 0 rfl) ?_
              refine lv_iconst (v := 0) hx hb dX2_readTest_105 (by decide) ?_
              refine lv_sipush (v := 9999) hx hb dX2_readTest_106 (by decide) ?_
              have hTo := hT
              refine K_V ⟨hx, hb, hml, hown, hts⟩ (t_X2_readNumber l dC dI sa hlt g _ _ h0 0 9999 tn_1187 fa_1188 _ (hT.sub [0] rfl)  hk_1189 hk_1190 ) (cwV 2 hts gX2_readTest_X2_readNumber rfl rfl rfl (by decide +kernel) ⟨Nat.le_of_ble_eq_true rfl, Nat.le_of_ble_eq_true rfl⟩) hP hD hK hS hA hev hT 0 2 rfl rfl rfl rfl hl.1 rfl (Nat.le_of_ble_eq_true rfl) dX2_readTest_109 ⟨Nat.le_of_ble_eq_true rfl, Nat.le_of_ble_eq_true rfl⟩ (fun r L_1194 f_1195 H locs hw_1196 hP hD hS hT hE1 => ?_)
              have hF := Fr.call hF hE hw_1196.2.1 (by decide)
              have hE := hE.tr hE1
              obtain ⟨⟨z_1197, rfl⟩, hw_1196⟩ := hw_1196
              obtain ⟨hfr_1198, tn_1199, fa_1200, hk_1201, hk_1202, hrel_1203, hrel_1204⟩ := hw_1196
              refine W.eq (g2 := F0 m 112 ls [.int z_1197, .ref o]) rfl ?_
              have hTo := hT
              refine T_put (ci := 5) (v := .int z_1197) (ty := .int) (t := tI) (C := RX5) (T := TX5) (N := 8) hx hb hts inw_X2_readTest_5 tyX5 tyX5_ok nmX5 hown hK hP hD hS hT 1 rfl rfl 2 (by decide) (hts (.fieldLink RX2 79 "VatHouse$Step" "number" "I") (by decide +kernel)) (fun _ h9 => h9) rfl (by decide +kernel) rfl rfl rfl ⟨_, rfl⟩ dX2_readTest_112 (fun f_1206 H locs hP hD hS hT hE1 hrd_1207 => ?_)
              have hF := Fr.put (a := o) (ci := 5) hF hE ((hE1 o (hT.at 1 rfl).1).2.symm.trans (hT.at 1 rfl).2) (by decide) hrd_1207
              have hE := hE.tr hE1
              have hk_1208 : rd f_1206 h0 2 = .int tn_1199 := ((Fr.put (cs := [(5, 2)]) (a := o) (ci := 5) Fr.rf Ext.rf (hTo.at 1 rfl).2 (by decide) hrd_1207) h0 (hTo.at 0 rfl).1 2 (hTo.at 0 rfl).2 2 (by decide)).trans hk_1201
              have hk_1209 : rd f_1206 h0 3 = .int fa_1200 := ((Fr.put (cs := [(5, 2)]) (a := o) (ci := 5) Fr.rf Ext.rf (hTo.at 1 rfl).2 (by decide) hrd_1207) h0 (hTo.at 0 rfl).1 2 (hTo.at 0 rfl).2 3 (by decide)).trans hk_1202
              exact K_v hx hb hr hlocks hP hD hK hS hT hE ⟨rfl, hF, _, _, hk_1208, hk_1209, trivial, fun h9 => (absurd ((hrel_950 ((hrel_1192 (hrel_1204 h9)).1)).1) hrel_928)⟩ (Nat.le_of_ble_eq_true rfl) (Nat.le_of_ble_eq_true rfl) dX2_readTest_115
            · refine lv_bipush (v := 60) hx hb dX2_readTest_93 (by decide) ?_
              refine lv_goto (tgt := 100) hx hb dX2_readTest_95 (by decide) ?_
              have hTo := hT
              refine K_V ⟨hx, hb, hml, hown, hts⟩ (t_X2_pass l dC dI sa hlt g _ _ h0 60 tn_945 fa_946 _ (hT.sub [0] rfl)  hk_1176 hk_1177 ) (cwV 1 hts gX2_readTest_X2_pass rfl rfl rfl (by decide +kernel) ⟨Nat.le_of_ble_eq_true rfl, Nat.le_of_ble_eq_true rfl⟩) hP hD hK hS hA hev hT 0 2 rfl rfl rfl rfl hl.1 rfl (Nat.le_of_ble_eq_true rfl) dX2_readTest_100 ⟨Nat.le_of_ble_eq_true rfl, Nat.le_of_ble_eq_true rfl⟩ (fun r L_1210 f_1211 H locs hw_1212 hP hD hS hT hE1 => ?_)
              have hF := Fr.call hF hE hw_1212.2.1 (by decide)
              have hE := hE.tr hE1
              obtain ⟨rfl, hw_1212⟩ := hw_1212
              obtain ⟨hfr_1213, tn_1214, fa_1215, hk_1216, hk_1217, hrel_1218, hrel_1219⟩ := hw_1212
              refine W.eq (g2 := F0 m 103 ls []) rfl ?_
              refine lv_aload_n hx hb dX2_readTest_103 rfl (lv_at hl 1 rfl) ?_
              refine lv_aload_n hx hb dX2_readTest_104 rfl (lv_at hl 0 rfl) ?_
              refine lv_iconst (v := 0) hx hb dX2_readTest_105 (by decide) ?_
              refine lv_sipush (v := 9999) hx hb dX2_readTest_106 (by decide) ?_
              have hTo := hT
              refine K_V ⟨hx, hb, hml, hown, hts⟩ (t_X2_readNumber l dC dI sa hlt g _ _ h0 0 9999 tn_1214 fa_1215 _ (hT.sub [0] rfl)  hk_1216 hk_1217 ) (cwV 2 hts gX2_readTest_X2_readNumber rfl rfl rfl (by decide +kernel) ⟨Nat.le_of_ble_eq_true rfl, Nat.le_of_ble_eq_true rfl⟩) hP hD hK hS hA hev hT 0 2 rfl rfl rfl rfl hl.1 rfl (Nat.le_of_ble_eq_true rfl) dX2_readTest_109 ⟨Nat.le_of_ble_eq_true rfl, Nat.le_of_ble_eq_true rfl⟩ (fun r L_1221 f_1222 H locs hw_1223 hP hD hS hT hE1 => ?_)
              have hF := Fr.call hF hE hw_1223.2.1 (by decide)
              have hE := hE.tr hE1
              obtain ⟨⟨z_1224, rfl⟩, hw_1223⟩ := hw_1223
              obtain ⟨hfr_1225, tn_1226, fa_1227, hk_1228, hk_1229, hrel_1230, hrel_1231⟩ := hw_1223
              refine W.eq (g2 := F0 m 112 ls [.int z_1224, .ref o]) rfl ?_
              have hTo := hT
              refine T_put (ci := 5) (v := .int z_1224) (ty := .int) (t := tI) (C := RX5) (T := TX5) (N := 8) hx hb hts inw_X2_readTest_5 tyX5 tyX5_ok nmX5 hown hK hP hD hS hT 1 rfl rfl 2 (by decide) (hts (.fieldLink RX2 79 "VatHouse$Step" "number" "I") (by decide +kernel)) (fun _ h9 => h9) rfl (by decide +kernel) rfl rfl rfl ⟨_, rfl⟩ dX2_readTest_112 (fun f_1233 H locs hP hD hS hT hE1 hrd_1234 => ?_)
              have hF := Fr.put (a := o) (ci := 5) hF hE ((hE1 o (hT.at 1 rfl).1).2.symm.trans (hT.at 1 rfl).2) (by decide) hrd_1234
              have hE := hE.tr hE1
              have hk_1235 : rd f_1233 h0 2 = .int tn_1226 := ((Fr.put (cs := [(5, 2)]) (a := o) (ci := 5) Fr.rf Ext.rf (hTo.at 1 rfl).2 (by decide) hrd_1234) h0 (hTo.at 0 rfl).1 2 (hTo.at 0 rfl).2 2 (by decide)).trans hk_1228
              have hk_1236 : rd f_1233 h0 3 = .int fa_1227 := ((Fr.put (cs := [(5, 2)]) (a := o) (ci := 5) Fr.rf Ext.rf (hTo.at 1 rfl).2 (by decide) hrd_1234) h0 (hTo.at 0 rfl).1 2 (hTo.at 0 rfl).2 3 (by decide)).trans hk_1229
              exact K_v hx hb hr hlocks hP hD hK hS hT hE ⟨rfl, hF, _, _, hk_1235, hk_1236, trivial, fun h9 => (absurd ((hrel_950 ((hrel_1219 (hrel_1231 h9)).1)).1) hrel_928)⟩ (Nat.le_of_ble_eq_true rfl) (Nat.le_of_ble_eq_true rfl) dX2_readTest_115
        · refine lv_aload_n hx hb dX2_readTest_57 rfl (lv_at hl 1 rfl) ?_
          refine lv_aload_n hx hb dX2_readTest_58 rfl (lv_at hl 0 rfl) ?_
          refine lv_iconst (v := 0) hx hb dX2_readTest_59 (by decide) ?_
          refine lv_iconst (v := 5) hx hb dX2_readTest_60 (by decide) ?_
          have hTo := hT
          refine K_V ⟨hx, hb, hml, hown, hts⟩ (t_X2_readNumber l dC dI sa hlt g _ _ h0 0 5 tn_945 fa_946 _ (hT.sub [0] rfl)  hk_947 hk_948 ) (cwV 2 hts gX2_readTest_X2_readNumber rfl rfl rfl (by decide +kernel) ⟨Nat.le_of_ble_eq_true rfl, Nat.le_of_ble_eq_true rfl⟩) hP hD hK hS hA hev hT 0 2 rfl rfl rfl rfl hl.1 rfl (Nat.le_of_ble_eq_true rfl) dX2_readTest_61 ⟨Nat.le_of_ble_eq_true rfl, Nat.le_of_ble_eq_true rfl⟩ (fun r L_1237 f_1238 H locs hw_1239 hP hD hS hT hE1 => ?_)
          have hF := Fr.call hF hE hw_1239.2.1 (by decide)
          have hE := hE.tr hE1
          obtain ⟨⟨z_1240, rfl⟩, hw_1239⟩ := hw_1239
          obtain ⟨hfr_1241, tn_1242, fa_1243, hk_1244, hk_1245, hrel_1246, hrel_1247⟩ := hw_1239
          refine W.eq (g2 := F0 m 64 ls [.int z_1240, .ref o]) rfl ?_
          have hTo := hT
          refine T_put (ci := 5) (v := .int z_1240) (ty := .int) (t := tI) (C := RX5) (T := TX5) (N := 8) hx hb hts inw_X2_readTest_5 tyX5 tyX5_ok nmX5 hown hK hP hD hS hT 1 rfl rfl 1 (by decide) (hts (.fieldLink RX2 76 "VatHouse$Step" "vat" "I") (by decide +kernel)) (fun _ h9 => h9) rfl (by decide +kernel) rfl rfl rfl ⟨_, rfl⟩ dX2_readTest_64 (fun f_1249 H locs hP hD hS hT hE1 hrd_1250 => ?_)
          have hF := Fr.put (a := o) (ci := 5) hF hE ((hE1 o (hT.at 1 rfl).1).2.symm.trans (hT.at 1 rfl).2) (by decide) hrd_1250
          have hE := hE.tr hE1
          have hk_1251 : rd f_1249 h0 2 = .int tn_1242 := ((Fr.put (cs := [(5, 1)]) (a := o) (ci := 5) Fr.rf Ext.rf (hTo.at 1 rfl).2 (by decide) hrd_1250) h0 (hTo.at 0 rfl).1 2 (hTo.at 0 rfl).2 2 (by decide)).trans hk_1244
          have hk_1252 : rd f_1249 h0 3 = .int fa_1243 := ((Fr.put (cs := [(5, 1)]) (a := o) (ci := 5) Fr.rf Ext.rf (hTo.at 1 rfl).2 (by decide) hrd_1250) h0 (hTo.at 0 rfl).1 2 (hTo.at 0 rfl).2 3 (by decide)).trans hk_1245
          refine lv_aload_n hx hb dX2_readTest_67 rfl (lv_at hl 1 rfl) ?_
          refine lv_aload_n hx hb dX2_readTest_68 rfl (lv_at hl 0 rfl) ?_
          refine T_get (ci := 2) (C := RX2) (T := TX2) (N := 6) (t := tI) hx hb hts inw_X2_readTest_2 hown hK hP hT 0 rfl rfl 2 (by decide) (hts (.fieldLink RX2 44 "VatHouse$Reader" "token" "I") (by decide +kernel)) (fun _ h9 => h9) rfl dX2_readTest_69 (fun v_1255 hv_1253 hr_1254 => ?_)
          obtain rfl : v_1255 = .int tn_1242 := hr_1254.symm.trans hk_1251
          refine lv_bipush (v := 60) hx hb dX2_readTest_72 (by decide) ?_
          refine lv_icmp_ne (tgt := 81) hx hb dX2_readTest_74 (by decide) (fun c_1256 => ?_) (fun c_1256 => ?_)
          · refine lv_iconst (v := 0) hx hb dX2_readTest_81 (by decide) ?_
            have hTo := hT
            refine T_put (ci := 5) (v := .int 0) (ty := .boolean) (t := tI) (C := RX5) (T := TX5) (N := 8) hx hb hts inw_X2_readTest_5 tyX5 tyX5_ok nmX5 hown hK hP hD hS hT 1 rfl rfl 4 (by decide) (hts (.fieldLink RX2 97 "VatHouse$Step" "below" "Z") (by decide +kernel)) (fun _ h9 => h9) rfl (by decide +kernel) rfl rfl rfl ⟨_, rfl⟩ dX2_readTest_82 (fun f_1257 H locs hP hD hS hT hE1 hrd_1258 => ?_)
            have hF := Fr.put (a := o) (ci := 5) hF hE ((hE1 o (hT.at 1 rfl).1).2.symm.trans (hT.at 1 rfl).2) (by decide) hrd_1258
            have hE := hE.tr hE1
            have hk_1259 : rd f_1257 h0 2 = .int tn_1242 := ((Fr.put (cs := [(5, 4)]) (a := o) (ci := 5) Fr.rf Ext.rf (hTo.at 1 rfl).2 (by decide) hrd_1258) h0 (hTo.at 0 rfl).1 2 (hTo.at 0 rfl).2 2 (by decide)).trans hk_1251
            have hk_1260 : rd f_1257 h0 3 = .int fa_1243 := ((Fr.put (cs := [(5, 4)]) (a := o) (ci := 5) Fr.rf Ext.rf (hTo.at 1 rfl).2 (by decide) hrd_1258) h0 (hTo.at 0 rfl).1 2 (hTo.at 0 rfl).2 3 (by decide)).trans hk_1252
            refine lv_aload_n hx hb dX2_readTest_85 rfl (lv_at hl 0 rfl) ?_
            refine lv_aload_n hx hb dX2_readTest_86 rfl (lv_at hl 1 rfl) ?_
            refine T_get (ci := 5) (C := RX5) (T := TX5) (N := 8) (t := tI) hx hb hts inw_X2_readTest_5 hown hK hP hT 1 rfl rfl 4 (by decide) (hts (.fieldLink RX2 97 "VatHouse$Step" "below" "Z") (by decide +kernel)) (fun _ h9 => h9) rfl dX2_readTest_87 (fun v_1263 hv_1261 hr_1262 => ?_)
            obtain ⟨z_1264, rfl⟩ := hv_1261
            refine lv_if_eq (tgt := 98) hx hb dX2_readTest_90 (by decide) (fun c_1265 => ?_) (fun c_1265 => ?_)
            · refine lv_bipush (v := 61) hx hb dX2_readTest_98 (by decide) ?_
              have hTo := hT
              refine K_V ⟨hx, hb, hml, hown, hts⟩ (t_X2_pass l dC dI sa hlt g _ _ h0 61 tn_1242 fa_1243 _ (hT.sub [0] rfl)  hk_1259 hk_1260 ) (cwV 1 hts gX2_readTest_X2_pass rfl rfl rfl (by decide +kernel) ⟨Nat.le_of_ble_eq_true rfl, Nat.le_of_ble_eq_true rfl⟩) hP hD hK hS hA hev hT 0 2 rfl rfl rfl rfl hl.1 rfl (Nat.le_of_ble_eq_true rfl) dX2_readTest_100 ⟨Nat.le_of_ble_eq_true rfl, Nat.le_of_ble_eq_true rfl⟩ (fun r L_1266 f_1267 H locs hw_1268 hP hD hS hT hE1 => ?_)
              have hF := Fr.call hF hE hw_1268.2.1 (by decide)
              have hE := hE.tr hE1
              obtain ⟨rfl, hw_1268⟩ := hw_1268
              obtain ⟨hfr_1269, tn_1270, fa_1271, hk_1272, hk_1273, hrel_1274, hrel_1275⟩ := hw_1268
              refine W.eq (g2 := F0 m 103 ls []) rfl ?_
              refine lv_aload_n hx hb dX2_readTest_103 rfl (lv_at hl 1 rfl) ?_
              refine lv_aload_n hx hb dX2_readTest_104 rfl (lv_at hl 0 rfl) ?_
              refine lv_iconst (v := 0) hx hb dX2_readTest_105 (by decide) ?_
              refine lv_sipush (v := 9999) hx hb dX2_readTest_106 (by decide) ?_
              have hTo := hT
              refine K_V ⟨hx, hb, hml, hown, hts⟩ (t_X2_readNumber l dC dI sa hlt g _ _ h0 0 9999 tn_1270 fa_1271 _ (hT.sub [0] rfl)  hk_1272 hk_1273 ) (cwV 2 hts gX2_readTest_X2_readNumber rfl rfl rfl (by decide +kernel) ⟨Nat.le_of_ble_eq_true rfl, Nat.le_of_ble_eq_true rfl⟩) hP hD hK hS hA hev hT 0 2 rfl rfl rfl rfl hl.1 rfl (Nat.le_of_ble_eq_true rfl) dX2_readTest_109 ⟨Nat.le_of_ble_eq_true rfl, Nat.le_of_ble_eq_true rfl⟩ (fun r L_1277 f_1278 H locs hw_1279 hP hD hS hT hE1 => ?_)
              have hF := Fr.call hF hE hw_1279.2.1 (by decide)
              have hE := hE.tr hE1
              obtain ⟨⟨z_1280, rfl⟩, hw_1279⟩ := hw_1279
              obtain ⟨hfr_1281, tn_1282, fa_1283, hk_1284, hk_1285, hrel_1286, hrel_1287⟩ := hw_1279
              refine W.eq (g2 := F0 m 112 ls [.int z_1280, .ref o]) rfl ?_
              have hTo := hT
              refine T_put (ci := 5) (v := .int z_1280) (ty := .int) (t := tI) (C := RX5) (T := TX5) (N := 8) hx hb hts inw_X2_readTest_5 tyX5 tyX5_ok nmX5 hown hK hP hD hS hT 1 rfl rfl 2 (by decide) (hts (.fieldLink RX2 79 "VatHouse$Step" "number" "I") (by decide +kernel)) (fun _ h9 => h9) rfl (by decide +kernel) rfl rfl rfl ⟨_, rfl⟩ dX2_readTest_112 (fun f_1289 H locs hP hD hS hT hE1 hrd_1290 => ?_)
              have hF := Fr.put (a := o) (ci := 5) hF hE ((hE1 o (hT.at 1 rfl).1).2.symm.trans (hT.at 1 rfl).2) (by decide) hrd_1290
              have hE := hE.tr hE1
              have hk_1291 : rd f_1289 h0 2 = .int tn_1282 := ((Fr.put (cs := [(5, 2)]) (a := o) (ci := 5) Fr.rf Ext.rf (hTo.at 1 rfl).2 (by decide) hrd_1290) h0 (hTo.at 0 rfl).1 2 (hTo.at 0 rfl).2 2 (by decide)).trans hk_1284
              have hk_1292 : rd f_1289 h0 3 = .int fa_1283 := ((Fr.put (cs := [(5, 2)]) (a := o) (ci := 5) Fr.rf Ext.rf (hTo.at 1 rfl).2 (by decide) hrd_1290) h0 (hTo.at 0 rfl).1 2 (hTo.at 0 rfl).2 3 (by decide)).trans hk_1285
              exact K_v hx hb hr hlocks hP hD hK hS hT hE ⟨rfl, hF, _, _, hk_1291, hk_1292, trivial, fun h9 => (absurd ((hrel_950 (hrel_1247 ((hrel_1275 (hrel_1287 h9)).1))).1) hrel_928)⟩ (Nat.le_of_ble_eq_true rfl) (Nat.le_of_ble_eq_true rfl) dX2_readTest_115
            · refine lv_bipush (v := 60) hx hb dX2_readTest_93 (by decide) ?_
              refine lv_goto (tgt := 100) hx hb dX2_readTest_95 (by decide) ?_
              have hTo := hT
              refine K_V ⟨hx, hb, hml, hown, hts⟩ (t_X2_pass l dC dI sa hlt g _ _ h0 60 tn_1242 fa_1243 _ (hT.sub [0] rfl)  hk_1259 hk_1260 ) (cwV 1 hts gX2_readTest_X2_pass rfl rfl rfl (by decide +kernel) ⟨Nat.le_of_ble_eq_true rfl, Nat.le_of_ble_eq_true rfl⟩) hP hD hK hS hA hev hT 0 2 rfl rfl rfl rfl hl.1 rfl (Nat.le_of_ble_eq_true rfl) dX2_readTest_100 ⟨Nat.le_of_ble_eq_true rfl, Nat.le_of_ble_eq_true rfl⟩ (fun r L_1293 f_1294 H locs hw_1295 hP hD hS hT hE1 => ?_)
              have hF := Fr.call hF hE hw_1295.2.1 (by decide)
              have hE := hE.tr hE1
              obtain ⟨rfl, hw_1295⟩ := hw_1295
              obtain ⟨hfr_1296, tn_1297, fa_1298, hk_1299, hk_1300, hrel_1301, hrel_1302⟩ := hw_1295
              refine W.eq (g2 := F0 m 103 ls []) rfl ?_
              refine lv_aload_n hx hb dX2_readTest_103 rfl (lv_at hl 1 rfl) ?_
              refine lv_aload_n hx hb dX2_readTest_104 rfl (lv_at hl 0 rfl) ?_
              refine lv_iconst (v := 0) hx hb dX2_readTest_105 (by decide) ?_
              refine lv_sipush (v := 9999) hx hb dX2_readTest_106 (by decide) ?_
              have hTo := hT
              refine K_V ⟨hx, hb, hml, hown, hts⟩ (t_X2_readNumber l dC dI sa hlt g _ _ h0 0 9999 tn_1297 fa_1298 _ (hT.sub [0] rfl)  hk_1299 hk_1300 ) (cwV 2 hts gX2_readTest_X2_readNumber rfl rfl rfl (by decide +kernel) ⟨Nat.le_of_ble_eq_true rfl, Nat.le_of_ble_eq_true rfl⟩) hP hD hK hS hA hev hT 0 2 rfl rfl rfl rfl hl.1 rfl (Nat.le_of_ble_eq_true rfl) dX2_readTest_109 ⟨Nat.le_of_ble_eq_true rfl, Nat.le_of_ble_eq_true rfl⟩ (fun r L_1304 f_1305 H locs hw_1306 hP hD hS hT hE1 => ?_)
              have hF := Fr.call hF hE hw_1306.2.1 (by decide)
              have hE := hE.tr hE1
              obtain ⟨⟨z_1307, rfl⟩, hw_1306⟩ := hw_1306
              obtain ⟨hfr_1308, tn_1309, fa_1310, hk_1311, hk_1312, hrel_1313, hrel_1314⟩ := hw_1306
              refine W.eq (g2 := F0 m 112 ls [.int z_1307, .ref o]) rfl ?_
              have hTo := hT
              refine T_put (ci := 5) (v := .int z_1307) (ty := .int) (t := tI) (C := RX5) (T := TX5) (N := 8) hx hb hts inw_X2_readTest_5 tyX5 tyX5_ok nmX5 hown hK hP hD hS hT 1 rfl rfl 2 (by decide) (hts (.fieldLink RX2 79 "VatHouse$Step" "number" "I") (by decide +kernel)) (fun _ h9 => h9) rfl (by decide +kernel) rfl rfl rfl ⟨_, rfl⟩ dX2_readTest_112 (fun f_1316 H locs hP hD hS hT hE1 hrd_1317 => ?_)
              have hF := Fr.put (a := o) (ci := 5) hF hE ((hE1 o (hT.at 1 rfl).1).2.symm.trans (hT.at 1 rfl).2) (by decide) hrd_1317
              have hE := hE.tr hE1
              have hk_1318 : rd f_1316 h0 2 = .int tn_1309 := ((Fr.put (cs := [(5, 2)]) (a := o) (ci := 5) Fr.rf Ext.rf (hTo.at 1 rfl).2 (by decide) hrd_1317) h0 (hTo.at 0 rfl).1 2 (hTo.at 0 rfl).2 2 (by decide)).trans hk_1311
              have hk_1319 : rd f_1316 h0 3 = .int fa_1310 := ((Fr.put (cs := [(5, 2)]) (a := o) (ci := 5) Fr.rf Ext.rf (hTo.at 1 rfl).2 (by decide) hrd_1317) h0 (hTo.at 0 rfl).1 2 (hTo.at 0 rfl).2 3 (by decide)).trans hk_1312
              exact K_v hx hb hr hlocks hP hD hK hS hT hE ⟨rfl, hF, _, _, hk_1318, hk_1319, trivial, fun h9 => (absurd ((hrel_950 (hrel_1247 ((hrel_1302 (hrel_1314 h9)).1))).1) hrel_928)⟩ (Nat.le_of_ble_eq_true rfl) (Nat.le_of_ble_eq_true rfl) dX2_readTest_115
          · refine lv_iconst (v := 1) hx hb dX2_readTest_77 (by decide) ?_
            refine lv_goto (tgt := 82) hx hb dX2_readTest_78 (by decide) ?_
            have hTo := hT
            refine T_put (ci := 5) (v := .int 1) (ty := .boolean) (t := tI) (C := RX5) (T := TX5) (N := 8) hx hb hts inw_X2_readTest_5 tyX5 tyX5_ok nmX5 hown hK hP hD hS hT 1 rfl rfl 4 (by decide) (hts (.fieldLink RX2 97 "VatHouse$Step" "below" "Z") (by decide +kernel)) (fun _ h9 => h9) rfl (by decide +kernel) rfl rfl rfl ⟨_, rfl⟩ dX2_readTest_82 (fun f_1320 H locs hP hD hS hT hE1 hrd_1321 => ?_)
            have hF := Fr.put (a := o) (ci := 5) hF hE ((hE1 o (hT.at 1 rfl).1).2.symm.trans (hT.at 1 rfl).2) (by decide) hrd_1321
            have hE := hE.tr hE1
            have hk_1322 : rd f_1320 h0 2 = .int tn_1242 := ((Fr.put (cs := [(5, 4)]) (a := o) (ci := 5) Fr.rf Ext.rf (hTo.at 1 rfl).2 (by decide) hrd_1321) h0 (hTo.at 0 rfl).1 2 (hTo.at 0 rfl).2 2 (by decide)).trans hk_1251
            have hk_1323 : rd f_1320 h0 3 = .int fa_1243 := ((Fr.put (cs := [(5, 4)]) (a := o) (ci := 5) Fr.rf Ext.rf (hTo.at 1 rfl).2 (by decide) hrd_1321) h0 (hTo.at 0 rfl).1 2 (hTo.at 0 rfl).2 3 (by decide)).trans hk_1252
            refine lv_aload_n hx hb dX2_readTest_85 rfl (lv_at hl 0 rfl) ?_
            refine lv_aload_n hx hb dX2_readTest_86 rfl (lv_at hl 1 rfl) ?_
            refine T_get (ci := 5) (C := RX5) (T := TX5) (N := 8) (t := tI) hx hb hts inw_X2_readTest_5 hown hK hP hT 1 rfl rfl 4 (by decide) (hts (.fieldLink RX2 97 "VatHouse$Step" "below" "Z") (by decide +kernel)) (fun _ h9 => h9) rfl dX2_readTest_87 (fun v_1326 hv_1324 hr_1325 => ?_)
            obtain ⟨z_1327, rfl⟩ := hv_1324
            refine lv_if_eq (tgt := 98) hx hb dX2_readTest_90 (by decide) (fun c_1328 => ?_) (fun c_1328 => ?_)
            · refine lv_bipush (v := 61) hx hb dX2_readTest_98 (by decide) ?_
              have hTo := hT
              refine K_V ⟨hx, hb, hml, hown, hts⟩ (t_X2_pass l dC dI sa hlt g _ _ h0 61 tn_1242 fa_1243 _ (hT.sub [0] rfl)  hk_1322 hk_1323 ) (cwV 1 hts gX2_readTest_X2_pass rfl rfl rfl (by decide +kernel) ⟨Nat.le_of_ble_eq_true rfl, Nat.le_of_ble_eq_true rfl⟩) hP hD hK hS hA hev hT 0 2 rfl rfl rfl rfl hl.1 rfl (Nat.le_of_ble_eq_true rfl) dX2_readTest_100 ⟨Nat.le_of_ble_eq_true rfl, Nat.le_of_ble_eq_true rfl⟩ (fun r L_1329 f_1330 H locs hw_1331 hP hD hS hT hE1 => ?_)
              have hF := Fr.call hF hE hw_1331.2.1 (by decide)
              have hE := hE.tr hE1
              obtain ⟨rfl, hw_1331⟩ := hw_1331
              obtain ⟨hfr_1332, tn_1333, fa_1334, hk_1335, hk_1336, hrel_1337, hrel_1338⟩ := hw_1331
              refine W.eq (g2 := F0 m 103 ls []) rfl ?_
              refine lv_aload_n hx hb dX2_readTest_103 rfl (lv_at hl 1 rfl) ?_
              refine lv_aload_n hx hb dX2_readTest_104 rfl (lv_at hl 0 rfl) ?_
              refine lv_iconst (v := 0) hx hb dX2_readTest_105 (by decide) ?_
              refine lv_sipush (v := 9999) hx hb dX2_readTest_106 (by decide) ?_
              have hTo := hT
              refine K_V ⟨hx, hb, hml, hown, hts⟩ (t_X2_readNumber l dC dI sa hlt g _ _ h0 0 9999 tn_1333 fa_1334 _ (hT.sub [0] rfl)  hk_1335 hk_1336 ) (cwV 2 hts gX2_readTest_X2_readNumber rfl rfl rfl (by decide +kernel) ⟨Nat.le_of_ble_eq_true rfl, Nat.le_of_ble_eq_true rfl⟩) hP hD hK hS hA hev hT 0 2 rfl rfl rfl rfl hl.1 rfl (Nat.le_of_ble_eq_true rfl) dX2_readTest_109 ⟨Nat.le_of_ble_eq_true rfl, Nat.le_of_ble_eq_true rfl⟩ (fun r L_1340 f_1341 H locs hw_1342 hP hD hS hT hE1 => ?_)
              have hF := Fr.call hF hE hw_1342.2.1 (by decide)
              have hE := hE.tr hE1
              obtain ⟨⟨z_1343, rfl⟩, hw_1342⟩ := hw_1342
              obtain ⟨hfr_1344, tn_1345, fa_1346, hk_1347, hk_1348, hrel_1349, hrel_1350⟩ := hw_1342
              refine W.eq (g2 := F0 m 112 ls [.int z_1343, .ref o]) rfl ?_
              have hTo := hT
              refine T_put (ci := 5) (v := .int z_1343) (ty := .int) (t := tI) (C := RX5) (T := TX5) (N := 8) hx hb hts inw_X2_readTest_5 tyX5 tyX5_ok nmX5 hown hK hP hD hS hT 1 rfl rfl 2 (by decide) (hts (.fieldLink RX2 79 "VatHouse$Step" "number" "I") (by decide +kernel)) (fun _ h9 => h9) rfl (by decide +kernel) rfl rfl rfl ⟨_, rfl⟩ dX2_readTest_112 (fun f_1352 H locs hP hD hS hT hE1 hrd_1353 => ?_)
              have hF := Fr.put (a := o) (ci := 5) hF hE ((hE1 o (hT.at 1 rfl).1).2.symm.trans (hT.at 1 rfl).2) (by decide) hrd_1353
              have hE := hE.tr hE1
              have hk_1354 : rd f_1352 h0 2 = .int tn_1345 := ((Fr.put (cs := [(5, 2)]) (a := o) (ci := 5) Fr.rf Ext.rf (hTo.at 1 rfl).2 (by decide) hrd_1353) h0 (hTo.at 0 rfl).1 2 (hTo.at 0 rfl).2 2 (by decide)).trans hk_1347
              have hk_1355 : rd f_1352 h0 3 = .int fa_1346 := ((Fr.put (cs := [(5, 2)]) (a := o) (ci := 5) Fr.rf Ext.rf (hTo.at 1 rfl).2 (by decide) hrd_1353) h0 (hTo.at 0 rfl).1 2 (hTo.at 0 rfl).2 3 (by decide)).trans hk_1348
              exact K_v hx hb hr hlocks hP hD hK hS hT hE ⟨rfl, hF, _, _, hk_1354, hk_1355, trivial, fun h9 => (absurd ((hrel_950 (hrel_1247 ((hrel_1338 (hrel_1350 h9)).1))).1) hrel_928)⟩ (Nat.le_of_ble_eq_true rfl) (Nat.le_of_ble_eq_true rfl) dX2_readTest_115
            · refine lv_bipush (v := 60) hx hb dX2_readTest_93 (by decide) ?_
              refine lv_goto (tgt := 100) hx hb dX2_readTest_95 (by decide) ?_
              have hTo := hT
              refine K_V ⟨hx, hb, hml, hown, hts⟩ (t_X2_pass l dC dI sa hlt g _ _ h0 60 tn_1242 fa_1243 _ (hT.sub [0] rfl)  hk_1322 hk_1323 ) (cwV 1 hts gX2_readTest_X2_pass rfl rfl rfl (by decide +kernel) ⟨Nat.le_of_ble_eq_true rfl, Nat.le_of_ble_eq_true rfl⟩) hP hD hK hS hA hev hT 0 2 rfl rfl rfl rfl hl.1 rfl (Nat.le_of_ble_eq_true rfl) dX2_readTest_100 ⟨Nat.le_of_ble_eq_true rfl, Nat.le_of_ble_eq_true rfl⟩ (fun r L_1356 f_1357 H locs hw_1358 hP hD hS hT hE1 => ?_)
              have hF := Fr.call hF hE hw_1358.2.1 (by decide)
              have hE := hE.tr hE1
              obtain ⟨rfl, hw_1358⟩ := hw_1358
              obtain ⟨hfr_1359, tn_1360, fa_1361, hk_1362, hk_1363, hrel_1364, hrel_1365⟩ := hw_1358
              refine W.eq (g2 := F0 m 103 ls []) rfl ?_
              refine lv_aload_n hx hb dX2_readTest_103 rfl (lv_at hl 1 rfl) ?_
              refine lv_aload_n hx hb dX2_readTest_104 rfl (lv_at hl 0 rfl) ?_
              refine lv_iconst (v := 0) hx hb dX2_readTest_105 (by decide) ?_
              refine lv_sipush (v := 9999) hx hb dX2_readTest_106 (by decide) ?_
              have hTo := hT
              refine K_V ⟨hx, hb, hml, hown, hts⟩ (t_X2_readNumber l dC dI sa hlt g _ _ h0 0 9999 tn_1360 fa_1361 _ (hT.sub [0] rfl)  hk_1362 hk_1363 ) (cwV 2 hts gX2_readTest_X2_readNumber rfl rfl rfl (by decide +kernel) ⟨Nat.le_of_ble_eq_true rfl, Nat.le_of_ble_eq_true rfl⟩) hP hD hK hS hA hev hT 0 2 rfl rfl rfl rfl hl.1 rfl (Nat.le_of_ble_eq_true rfl) dX2_readTest_109 ⟨Nat.le_of_ble_eq_true rfl, Nat.le_of_ble_eq_true rfl⟩ (fun r L_1367 f_1368 H locs hw_1369 hP hD hS hT hE1 => ?_)
              have hF := Fr.call hF hE hw_1369.2.1 (by decide)
              have hE := hE.tr hE1
              obtain ⟨⟨z_1370, rfl⟩, hw_1369⟩ := hw_1369
              obtain ⟨hfr_1371, tn_1372, fa_1373, hk_1374, hk_1375, hrel_1376, hrel_1377⟩ := hw_1369
              refine W.eq (g2 := F0 m 112 ls [.int z_1370, .ref o]) rfl ?_
              have hTo := hT
              refine T_put (ci := 5) (v := .int z_1370) (ty := .int) (t := tI) (C := RX5) (T := TX5) (N := 8) hx hb hts inw_X2_readTest_5 tyX5 tyX5_ok nmX5 hown hK hP hD hS hT 1 rfl rfl 2 (by decide) (hts (.fieldLink RX2 79 "VatHouse$Step" "number" "I") (by decide +kernel)) (fun _ h9 => h9) rfl (by decide +kernel) rfl rfl rfl ⟨_, rfl⟩ dX2_readTest_112 (fun f_1379 H locs hP hD hS hT hE1 hrd_1380 => ?_)
              have hF := Fr.put (a := o) (ci := 5) hF hE ((hE1 o (hT.at 1 rfl).1).2.symm.trans (hT.at 1 rfl).2) (by decide) hrd_1380
              have hE := hE.tr hE1
              have hk_1381 : rd f_1379 h0 2 = .int tn_1372 := ((Fr.put (cs := [(5, 2)]) (a := o) (ci := 5) Fr.rf Ext.rf (hTo.at 1 rfl).2 (by decide) hrd_1380) h0 (hTo.at 0 rfl).1 2 (hTo.at 0 rfl).2 2 (by decide)).trans hk_1374
              have hk_1382 : rd f_1379 h0 3 = .int fa_1373 := ((Fr.put (cs := [(5, 2)]) (a := o) (ci := 5) Fr.rf Ext.rf (hTo.at 1 rfl).2 (by decide) hrd_1380) h0 (hTo.at 0 rfl).1 2 (hTo.at 0 rfl).2 3 (by decide)).trans hk_1375
              exact K_v hx hb hr hlocks hP hD hK hS hT hE ⟨rfl, hF, _, _, hk_1381, hk_1382, trivial, fun h9 => (absurd ((hrel_950 (hrel_1247 ((hrel_1365 (hrel_1377 h9)).1))).1) hrel_928)⟩ (Nat.le_of_ble_eq_true rfl) (Nat.le_of_ble_eq_true rfl) dX2_readTest_115

abbrev rm_X2_readBlock (j : Nat) (d : Nat) (P : Nat) : Room := { frames := 4 * j + 30, cells := P, slots := 8 * P, locals := 200 * j + 400 }
abbrev rm_X2_readBuilt (j : Nat) (d : Nat) (P : Nat) : Room := { frames := 4 * j + 31, cells := P, slots := 8 * P, locals := 200 * j + 430 }
abbrev rm_X2_readStep (j : Nat) (d : Nat) (P : Nat) : Room := { frames := 4 * j + 32, cells := P, slots := 8 * P, locals := 200 * j + 460 }
abbrev rm_X2_readSteps (j : Nat) (d : Nat) (P : Nat) : Room := { frames := 4 * j + 33, cells := P, slots := 8 * P, locals := 200 * j + 490 }
theorem inw_X2_readBlock_2 : ∀ w ∈ wsX20, w ∈ wsX2_readBlock := by decide +kernel
set_option maxHeartbeats 800000 in
set_option maxRecDepth 100000 in
theorem t_X2_readBlock (l : Launch) (dC : Nat → ClassId) (dI : Nat → Nat → Nat) (sa : Nat → Nat) (hlt : l.stackTraces = false) (g : Nat → Nat) (L : List Nat) (f : Nat → va_E) (j : Nat) (d : Nat) (P : Nat) (h0 : Nat) (dep : Int32) (tn : Int32) (fa : Int32) (sg : Int32) (sz : Nat) (hT : TP g L f [(h0, (0, 2, 0))]) (hm_tn : rd f h0 2 = .int tn) (hm_fa : rd f h0 3 = .int fa) (hm_sg : rd f h0 5 = .int sg) (hd : dep = nI d) (hdj : d + j = 8) (hP0 : pot fa sg = P) (hs3 : sg.toInt ≤ 300) (IHR : ∀ j' d' : Nat, d' + j' = 8 → j = j' + 1 → ∀ (L : List Nat) (f : Nat → va_E) (P : Nat) (h0 : Nat) (dep : Int32) (tn : Int32) (fa : Int32) (sg : Int32) (sz : Nat) (hT : TP g L f [(h0, (0, 2, 0))]) (hm_tn : rd f h0 2 = .int tn) (hm_fa : rd f h0 3 = .int fa) (hm_sg : rd f h0 5 = .int sg) (hd : dep = nI d') (hP0 : pot fa sg = P) (hs3 : sg.toInt ≤ 300), KZ l dC dI sa g yX2_readSteps wsX2_readSteps (rm_X2_readSteps j' d' P) [.ref h0, .int dep] L f sz (fun r L' f' => (∃ v : Value, r = some v ∧ okv L' f' (2, 0, 5, 0) v) ∧ Fr [(2, 1), (2, 2), (2, 3), (2, 4), (5, 0), (5, 1), (5, 2), (5, 3), (5, 4), (5, 5), (5, 6), (5, 7), (2, 5)] L f f' ∧ (∃ tn' : Int32, ∃ fa' : Int32, ∃ sg' : Int32, rd f' h0 2 = .int tn' ∧ rd f' h0 3 = .int fa' ∧ rd f' h0 5 = .int sg' ∧ (True) ∧ (True) ∧ (sg'.toInt ≤ 300))) (fun n f' => ∃ a b : Int32, rd f' h0 3 = .int a ∧ rd f' h0 5 = .int b ∧ n + pot a b ≤ P) P (8 * P)) : KZ l dC dI sa g yX2_readBlock wsX2_readBlock (rm_X2_readBlock j d P) [.ref h0, .int dep] L f sz (fun r L' f' => (∃ v : Value, r = some v ∧ okv L' f' (2, 0, 5, 0) v) ∧ Fr [(2, 1), (2, 2), (2, 3), (2, 4), (5, 0), (5, 1), (5, 2), (5, 3), (5, 4), (5, 5), (5, 6), (5, 7), (2, 5)] L f f' ∧ (∃ tn' : Int32, ∃ fa' : Int32, ∃ sg' : Int32, rd f' h0 2 = .int tn' ∧ rd f' h0 3 = .int fa' ∧ rd f' h0 5 = .int sg' ∧ (True) ∧ (True) ∧ (sg'.toInt ≤ 300))) (fun n f' => ∃ a b : Int32, rd f' h0 3 = .int a ∧ rd f' h0 5 = .int b ∧ n + pot a b ≤ P) P (8 * P) := by
  refine KZ.start (cc := cX2_readBlock) (maxL := 3) (ret := (some (.object "VatHouse$Step"))) (by decide) rfl (Nat.le_of_ble_eq_true rfl) ?_
  intro p e s m below meth c ls hst hP hK hD hev hS hl
  obtain ⟨hx, hb, hr, hml, hts, hown, hlocks, hin⟩ := hst
  have hown : s.vm.findClass RX2 = some m.cls := hown
  have hin : meth.name = yX2_readBlock.name := hin
  have hA : ∀ q : Nat, s.heap.size ≤ q → va_A (va_pl L f) s.heap.size q := fun _ h => Or.inr h
  have hE : Ext L f L f := Ext.rf
  have hF : Fr [(2, 1), (2, 2), (2, 3), (2, 4), (5, 0), (5, 1), (5, 2), (5, 3), (5, 4), (5, 5), (5, 6), (5, 7), (2, 5)] L f f := Fr.rf
  have hl : lv_has ls 3 [(0, .ref h0), (1, .int dep)] := hl
  refine lv_aload_n hx hb dX2_readBlock_0 rfl (lv_at hl 0 rfl) ?_
  refine T_get (ci := 2) (C := RX2) (T := TX2) (N := 6) (t := tI) hx hb hts inw_X2_readBlock_2 hown hK hP hT 0 rfl rfl 2 (by decide) (hts (.fieldLink RX2 44 "VatHouse$Reader" "token" "I") (by decide +kernel)) (fun _ h9 => h9) rfl dX2_readBlock_1 (fun v_3 hv_1 hr_2 => ?_)
  obtain rfl : v_3 = .int tn := hr_2.symm.trans hm_tn
  refine lv_bipush (v := 123) hx hb dX2_readBlock_4 (by decide) ?_
  refine lv_icmp_ne (tgt := 20) hx hb dX2_readBlock_6 (by decide) (fun c_4 => ?_) (fun c_4 => ?_)
  · refine lv_aload_n hx hb dX2_readBlock_20 rfl (lv_at hl 0 rfl) ?_
    refine lv_bipush (v := 123) hx hb dX2_readBlock_21 (by decide) ?_
    have hTo := hT
    refine K_V ⟨hx, hb, hml, hown, hts⟩ (t_X2_pass l dC dI sa hlt g _ _ h0 123 tn fa _ (hT.sub [0] rfl)  hm_tn hm_fa ) (cwV 1 hts gX2_readBlock_X2_pass rfl rfl rfl (by decide +kernel) ⟨(by first | exact Nat.le_of_ble_eq_true rfl | (simp only [rm_X2_pass, rm_X2_readBlock]; omega)), (by first | exact Nat.le_of_ble_eq_true rfl | (simp only [rm_X2_pass, rm_X2_readBlock]; omega))⟩) hP hD hK hS hA hev hT 0 2 rfl rfl rfl rfl hl.1 rfl (Nat.le_of_ble_eq_true rfl) dX2_readBlock_23 ⟨(by first | exact Nat.le_of_ble_eq_true rfl | (simp only [rm_X2_readBlock]; omega) | omega), (by first | exact Nat.le_of_ble_eq_true rfl | (simp only [rm_X2_readBlock]; omega) | omega)⟩ (fun r L_5 f_6 H locs hw_7 hP hD hS hT hE1 => ?_)
    have hF := Fr.call hF hE hw_7.2.1 (by decide)
    have hE := hE.tr hE1
    obtain ⟨rfl, hw_7⟩ := hw_7
    obtain ⟨hfr_8, tn_9, fa_10, hk_11, hk_12, hrel_13, hrel_14⟩ := hw_7
    have hk_16 : rd f_6 h0 5 = .int sg := (hfr_8 h0 (hTo.at 0 rfl).1 2 (hTo.at 0 rfl).2 5 (by decide)).trans hm_sg
    have hq_17 : pot fa_10 sg ≤ pot fa sg := pot_le (fun h9 => (hrel_14 h9).1)
    refine W.eq (g2 := F0 m 26 ls []) rfl ?_
    refine lv_aload_n hx hb dX2_readBlock_26 rfl (lv_at hl 0 rfl) ?_
    refine T_get (ci := 2) (C := RX2) (T := TX2) (N := 6) (t := tI) hx hb hts inw_X2_readBlock_2 hown hK hP hT 0 rfl rfl 3 (by decide) (hts (.fieldLink RX2 28 "VatHouse$Reader" "fault" "I") (by decide +kernel)) (fun _ h9 => h9) rfl dX2_readBlock_27 (fun v_20 hv_18 hr_19 => ?_)
    obtain rfl : v_20 = .int fa_10 := hr_19.symm.trans hk_12
    refine lv_if_eq (tgt := 35) hx hb dX2_readBlock_30 (by decide) (fun c_21 => ?_) (fun c_21 => ?_)
    · refine lv_aload_n hx hb dX2_readBlock_35 rfl (lv_at hl 0 rfl) ?_
      refine lv_iload_n hx hb dX2_readBlock_36 rfl (lv_at hl 1 rfl) ?_
      refine lv_iconst (v := 1) hx hb dX2_readBlock_37 (by decide) ?_
      refine lv_iadd hx hb dX2_readBlock_38 ?_
      refine lv_topi (fun z_22 ez_22 => ?_)
      exact absurd (hrel_14 c_21).2 c_4
    · refine lv_null hx hb dX2_readBlock_33 ?_
      exact K_aZ hx hb hr (Or.inl ⟨_, rfl⟩) (Or.inl rfl) hlocks hP hD hK hS hT hE ⟨⟨_, rfl, Or.inl rfl⟩, hF, _, _, _, hk_11, hk_12, hk_16, trivial, trivial, hs3⟩ (⟨_, _, hk_12, hk_16, by omega⟩) (by first | exact Nat.le_of_ble_eq_true rfl | (simp only [rm_X2_readBlock]; omega) | omega) (by first | exact Nat.le_of_ble_eq_true rfl | (simp only [rm_X2_readBlock]; omega) | omega) (by first | exact Nat.le_of_ble_eq_true rfl | (simp only [rm_X2_readBlock]; omega) | omega) dX2_readBlock_34
  · refine lv_iload_n hx hb dX2_readBlock_9 rfl (lv_at hl 1 rfl) ?_
    refine lv_bipush (v := 8) hx hb dX2_readBlock_10 (by decide) ?_
    refine lv_icmp_lt (tgt := 20) hx hb dX2_readBlock_12 (by decide) (fun c_23 => ?_) (fun c_23 => ?_)
    · refine lv_aload_n hx hb dX2_readBlock_20 rfl (lv_at hl 0 rfl) ?_
      refine lv_bipush (v := 123) hx hb dX2_readBlock_21 (by decide) ?_
      have hTo := hT
      refine K_V ⟨hx, hb, hml, hown, hts⟩ (t_X2_pass l dC dI sa hlt g _ _ h0 123 tn fa _ (hT.sub [0] rfl)  hm_tn hm_fa ) (cwV 1 hts gX2_readBlock_X2_pass rfl rfl rfl (by decide +kernel) ⟨(by first | exact Nat.le_of_ble_eq_true rfl | (simp only [rm_X2_pass, rm_X2_readBlock]; omega)), (by first | exact Nat.le_of_ble_eq_true rfl | (simp only [rm_X2_pass, rm_X2_readBlock]; omega))⟩) hP hD hK hS hA hev hT 0 2 rfl rfl rfl rfl hl.1 rfl (Nat.le_of_ble_eq_true rfl) dX2_readBlock_23 ⟨(by first | exact Nat.le_of_ble_eq_true rfl | (simp only [rm_X2_readBlock]; omega) | omega), (by first | exact Nat.le_of_ble_eq_true rfl | (simp only [rm_X2_readBlock]; omega) | omega)⟩ (fun r L_24 f_25 H locs hw_26 hP hD hS hT hE1 => ?_)
      have hF := Fr.call hF hE hw_26.2.1 (by decide)
      have hE := hE.tr hE1
      obtain ⟨rfl, hw_26⟩ := hw_26
      obtain ⟨hfr_27, tn_28, fa_29, hk_30, hk_31, hrel_32, hrel_33⟩ := hw_26
      have hk_35 : rd f_25 h0 5 = .int sg := (hfr_27 h0 (hTo.at 0 rfl).1 2 (hTo.at 0 rfl).2 5 (by decide)).trans hm_sg
      have hq_36 : pot fa_29 sg ≤ pot fa sg := pot_le (fun h9 => (hrel_33 h9).1)
      refine W.eq (g2 := F0 m 26 ls []) rfl ?_
      refine lv_aload_n hx hb dX2_readBlock_26 rfl (lv_at hl 0 rfl) ?_
      refine T_get (ci := 2) (C := RX2) (T := TX2) (N := 6) (t := tI) hx hb hts inw_X2_readBlock_2 hown hK hP hT 0 rfl rfl 3 (by decide) (hts (.fieldLink RX2 28 "VatHouse$Reader" "fault" "I") (by decide +kernel)) (fun _ h9 => h9) rfl dX2_readBlock_27 (fun v_39 hv_37 hr_38 => ?_)
      obtain rfl : v_39 = .int fa_29 := hr_38.symm.trans hk_31
      refine lv_if_eq (tgt := 35) hx hb dX2_readBlock_30 (by decide) (fun c_40 => ?_) (fun c_40 => ?_)
      · refine lv_aload_n hx hb dX2_readBlock_35 rfl (lv_at hl 0 rfl) ?_
        refine lv_iload_n hx hb dX2_readBlock_36 rfl (lv_at hl 1 rfl) ?_
        refine lv_iconst (v := 1) hx hb dX2_readBlock_37 (by decide) ?_
        refine lv_iadd hx hb dX2_readBlock_38 ?_
        refine lv_topi (fun z_41 ez_41 => ?_)
        obtain ⟨j1, hj_42⟩ : ∃ j1, j = j1 + 1 := ⟨j - 1, by have := lv7 hd c_23 (by omega); omega⟩
        have hTo := hT
        refine K_VZ ⟨hx, hb, hml, hown, hts⟩ (IHR j1 (d + 1) (by omega) hj_42 _ _ (pot fa_29 sg) h0 z_41 tn_28 fa_29 sg _ (hT.sub [0] rfl)  hk_30 hk_31 hk_35 (by rw [ez_41, hd]; exact nI_1 d) rfl hs3) (cwV 1 hts gX2_readBlock_X2_readSteps rfl rfl rfl (by decide +kernel) ⟨(by first | exact Nat.le_of_ble_eq_true rfl | (simp only [rm_X2_readSteps, rm_X2_readBlock]; omega)), (by first | exact Nat.le_of_ble_eq_true rfl | (simp only [rm_X2_readSteps, rm_X2_readBlock]; omega))⟩) hP hD hK hS hA hev hT 0 2 rfl rfl rfl rfl hl.1 rfl (Nat.le_of_ble_eq_true rfl) dX2_readBlock_39 ⟨(by first | exact Nat.le_of_ble_eq_true rfl | (simp only [rm_X2_readBlock]; omega) | omega), (by first | exact Nat.le_of_ble_eq_true rfl | (simp only [rm_X2_readBlock]; omega) | omega)⟩ (fun r L_43 f_44 n_46 H locs hw_45 hn_47 hP hD hS hT hE1 => ?_)
        have hF := Fr.call hF hE hw_45.2.1 (by decide)
        have hE := hE.tr hE1
        obtain ⟨⟨v_48, rfl, hv9⟩, hw_45⟩ := hw_45
        rcases hv9 with rfl | ⟨b_49, rfl, hb9⟩
        · obtain ⟨hfr_50, tn_51, fa_52, sg_53, hk_54, hk_55, hk_56, hrel_57, hrel_58, hrel_59⟩ := hw_45
          have hq_61 : n_46 + pot fa_52 sg_53 ≤ pot fa_29 sg := by
            obtain ⟨a9, b9, g1, g2, g3⟩ := hn_47
            cases g1.symm.trans hk_55
            cases g2.symm.trans hk_56
            exact g3
          refine W.eq (g2 := F0 m 42 ls [.null]) rfl ?_
          refine lv_astore_nN (lv' := [(2, .null), (0, .ref h0), (1, .int dep)]) hx hb dX2_readBlock_42 rfl hl (by decide) rfl (fun ls hl => ?_)
          refine lv_aload_n hx hb dX2_readBlock_43 rfl (lv_at hl 1 rfl) ?_
          refine lv_bipush (v := 125) hx hb dX2_readBlock_44 (by decide) ?_
          have hTo := hT
          refine K_V ⟨hx, hb, hml, hown, hts⟩ (t_X2_pass l dC dI sa hlt g _ _ h0 125 tn_51 fa_52 _ (hT.sub [0] rfl)  hk_54 hk_55 ) (cwV 1 hts gX2_readBlock_X2_pass rfl rfl rfl (by decide +kernel) ⟨(by first | exact Nat.le_of_ble_eq_true rfl | (simp only [rm_X2_pass, rm_X2_readBlock]; omega)), (by first | exact Nat.le_of_ble_eq_true rfl | (simp only [rm_X2_pass, rm_X2_readBlock]; omega))⟩) hP hD hK hS hA hev hT 0 2 rfl rfl rfl rfl hl.1 rfl (Nat.le_of_ble_eq_true rfl) dX2_readBlock_46 ⟨(by first | exact Nat.le_of_ble_eq_true rfl | (simp only [rm_X2_readBlock]; omega) | omega), (by first | exact Nat.le_of_ble_eq_true rfl | (simp only [rm_X2_readBlock]; omega) | omega)⟩ (fun r L_62 f_63 H locs hw_64 hP hD hS hT hE1 => ?_)
          have hF := Fr.call hF hE hw_64.2.1 (by decide)
          have hE := hE.tr hE1
          obtain ⟨rfl, hw_64⟩ := hw_64
          obtain ⟨hfr_65, tn_66, fa_67, hk_68, hk_69, hrel_70, hrel_71⟩ := hw_64
          have hk_73 : rd f_63 h0 5 = .int sg_53 := (hfr_65 h0 (hTo.at 0 rfl).1 2 (hTo.at 0 rfl).2 5 (by decide)).trans hk_56
          have hq_74 : pot fa_67 sg_53 ≤ pot fa_52 sg_53 := pot_le (fun h9 => (hrel_71 h9).1)
          refine W.eq (g2 := F0 m 49 ls []) rfl ?_
          refine lv_aload_nN hx hb dX2_readBlock_49 rfl (lv_at hl 0 rfl) ?_
          exact K_aZ hx hb hr (Or.inl ⟨_, rfl⟩) (Or.inl rfl) hlocks hP hD hK hS hT hE ⟨⟨_, rfl, Or.inl rfl⟩, hF, _, _, _, hk_68, hk_69, hk_73, trivial, trivial, hrel_59⟩ (⟨_, _, hk_69, hk_73, by omega⟩) (by first | exact Nat.le_of_ble_eq_true rfl | (simp only [rm_X2_readBlock]; omega) | omega) (by first | exact Nat.le_of_ble_eq_true rfl | (simp only [rm_X2_readBlock]; omega) | omega) (by first | exact Nat.le_of_ble_eq_true rfl | (simp only [rm_X2_readBlock]; omega) | omega) dX2_readBlock_50
        · have hT := hT.add hb9
          obtain ⟨hfr_75, tn_76, fa_77, sg_78, hk_79, hk_80, hk_81, hrel_82, hrel_83, hrel_84⟩ := hw_45
          have hq_86 : n_46 + pot fa_77 sg_78 ≤ pot fa_29 sg := by
            obtain ⟨a9, b9, g1, g2, g3⟩ := hn_47
            cases g1.symm.trans hk_80
            cases g2.symm.trans hk_81
            exact g3
          refine W.eq (g2 := F0 m 42 ls [.ref b_49]) rfl ?_
          refine lv_astore_n (lv' := [(2, .ref b_49), (0, .ref h0), (1, .int dep)]) hx hb dX2_readBlock_42 rfl hl (by decide) rfl (fun ls hl => ?_)
          refine lv_aload_n hx hb dX2_readBlock_43 rfl (lv_at hl 1 rfl) ?_
          refine lv_bipush (v := 125) hx hb dX2_readBlock_44 (by decide) ?_
          have hTo := hT
          refine K_V ⟨hx, hb, hml, hown, hts⟩ (t_X2_pass l dC dI sa hlt g _ _ h0 125 tn_76 fa_77 _ (hT.sub [1] rfl)  hk_79 hk_80 ) (cwV 1 hts gX2_readBlock_X2_pass rfl rfl rfl (by decide +kernel) ⟨(by first | exact Nat.le_of_ble_eq_true rfl | (simp only [rm_X2_pass, rm_X2_readBlock]; omega)), (by first | exact Nat.le_of_ble_eq_true rfl | (simp only [rm_X2_pass, rm_X2_readBlock]; omega))⟩) hP hD hK hS hA hev hT 1 2 rfl rfl rfl rfl hl.1 rfl (Nat.le_of_ble_eq_true rfl) dX2_readBlock_46 ⟨(by first | exact Nat.le_of_ble_eq_true rfl | (simp only [rm_X2_readBlock]; omega) | omega), (by first | exact Nat.le_of_ble_eq_true rfl | (simp only [rm_X2_readBlock]; omega) | omega)⟩ (fun r L_87 f_88 H locs hw_89 hP hD hS hT hE1 => ?_)
          have hF := Fr.call hF hE hw_89.2.1 (by decide)
          have hE := hE.tr hE1
          obtain ⟨rfl, hw_89⟩ := hw_89
          obtain ⟨hfr_90, tn_91, fa_92, hk_93, hk_94, hrel_95, hrel_96⟩ := hw_89
          have hk_98 : rd f_88 h0 5 = .int sg_78 := (hfr_90 h0 (hTo.at 1 rfl).1 2 (hTo.at 1 rfl).2 5 (by decide)).trans hk_81
          have hq_99 : pot fa_92 sg_78 ≤ pot fa_77 sg_78 := pot_le (fun h9 => (hrel_96 h9).1)
          refine W.eq (g2 := F0 m 49 ls []) rfl ?_
          refine lv_aload_n hx hb dX2_readBlock_49 rfl (lv_at hl 0 rfl) ?_
          exact K_aZ hx hb hr (Or.inl ⟨_, rfl⟩) (Or.inr ⟨_, rfl⟩) hlocks hP hD hK hS hT hE ⟨⟨_, rfl, Or.inr ⟨_, rfl, hT.at 0 rfl⟩⟩, hF, _, _, _, hk_93, hk_94, hk_98, trivial, trivial, hrel_84⟩ (⟨_, _, hk_94, hk_98, by omega⟩) (by first | exact Nat.le_of_ble_eq_true rfl | (simp only [rm_X2_readBlock]; omega) | omega) (by first | exact Nat.le_of_ble_eq_true rfl | (simp only [rm_X2_readBlock]; omega) | omega) (by first | exact Nat.le_of_ble_eq_true rfl | (simp only [rm_X2_readBlock]; omega) | omega) dX2_readBlock_50
      · refine lv_null hx hb dX2_readBlock_33 ?_
        exact K_aZ hx hb hr (Or.inl ⟨_, rfl⟩) (Or.inl rfl) hlocks hP hD hK hS hT hE ⟨⟨_, rfl, Or.inl rfl⟩, hF, _, _, _, hk_30, hk_31, hk_35, trivial, trivial, hs3⟩ (⟨_, _, hk_31, hk_35, by omega⟩) (by first | exact Nat.le_of_ble_eq_true rfl | (simp only [rm_X2_readBlock]; omega) | omega) (by first | exact Nat.le_of_ble_eq_true rfl | (simp only [rm_X2_readBlock]; omega) | omega) (by first | exact Nat.le_of_ble_eq_true rfl | (simp only [rm_X2_readBlock]; omega) | omega) dX2_readBlock_34
    · refine lv_aload_n hx hb dX2_readBlock_15 rfl (lv_at hl 0 rfl) ?_
      refine lv_iconst (v := 2) hx hb dX2_readBlock_16 (by decide) ?_
      have hTo := hT
      refine K_V ⟨hx, hb, hml, hown, hts⟩ (t_X2_refuse l dC dI sa hlt g _ _ h0 2 fa _ (hT.sub [0] rfl)  hm_fa (by decide)) (cwV 1 hts gX2_readBlock_X2_refuse rfl rfl rfl (by decide +kernel) ⟨(by first | exact Nat.le_of_ble_eq_true rfl | (simp only [rm_X2_refuse, rm_X2_readBlock]; omega)), (by first | exact Nat.le_of_ble_eq_true rfl | (simp only [rm_X2_refuse, rm_X2_readBlock]; omega))⟩) hP hD hK hS hA hev hT 0 2 rfl rfl rfl rfl hl.1 rfl (Nat.le_of_ble_eq_true rfl) dX2_readBlock_17 ⟨(by first | exact Nat.le_of_ble_eq_true rfl | (simp only [rm_X2_readBlock]; omega) | omega), (by first | exact Nat.le_of_ble_eq_true rfl | (simp only [rm_X2_readBlock]; omega) | omega)⟩ (fun r L_100 f_101 H locs hw_102 hP hD hS hT hE1 => ?_)
      have hF := Fr.call hF hE hw_102.2.1 (by decide)
      have hE := hE.tr hE1
      obtain ⟨rfl, hw_102⟩ := hw_102
      obtain ⟨hfr_103, fa_104, hk_105, hrel_106⟩ := hw_102
      have hk_108 : rd f_101 h0 2 = .int tn := (hfr_103 h0 (hTo.at 0 rfl).1 2 (hTo.at 0 rfl).2 2 (by decide)).trans hm_tn
      have hk_109 : rd f_101 h0 5 = .int sg := (hfr_103 h0 (hTo.at 0 rfl).1 2 (hTo.at 0 rfl).2 5 (by decide)).trans hm_sg
      have hq_110 := pot_ne sg hrel_106
      refine W.eq (g2 := F0 m 20 ls []) rfl ?_
      refine lv_aload_n hx hb dX2_readBlock_20 rfl (lv_at hl 0 rfl) ?_
      refine lv_bipush (v := 123) hx hb dX2_readBlock_21 (by decide) ?_
      have hTo := hT
      refine K_V ⟨hx, hb, hml, hown, hts⟩ (t_X2_pass l dC dI sa hlt g _ _ h0 123 tn fa_104 _ (hT.sub [0] rfl)  hk_108 hk_105 ) (cwV 1 hts gX2_readBlock_X2_pass rfl rfl rfl (by decide +kernel) ⟨(by first | exact Nat.le_of_ble_eq_true rfl | (simp only [rm_X2_pass, rm_X2_readBlock]; omega)), (by first | exact Nat.le_of_ble_eq_true rfl | (simp only [rm_X2_pass, rm_X2_readBlock]; omega))⟩) hP hD hK hS hA hev hT 0 2 rfl rfl rfl rfl hl.1 rfl (Nat.le_of_ble_eq_true rfl) dX2_readBlock_23 ⟨(by first | exact Nat.le_of_ble_eq_true rfl | (simp only [rm_X2_readBlock]; omega) | omega), (by first | exact Nat.le_of_ble_eq_true rfl | (simp only [rm_X2_readBlock]; omega) | omega)⟩ (fun r L_111 f_112 H locs hw_113 hP hD hS hT hE1 => ?_)
      have hF := Fr.call hF hE hw_113.2.1 (by decide)
      have hE := hE.tr hE1
      obtain ⟨rfl, hw_113⟩ := hw_113
      obtain ⟨hfr_114, tn_115, fa_116, hk_117, hk_118, hrel_119, hrel_120⟩ := hw_113
      have hk_122 : rd f_112 h0 5 = .int sg := (hfr_114 h0 (hTo.at 0 rfl).1 2 (hTo.at 0 rfl).2 5 (by decide)).trans hk_109
      have hq_123 : pot fa_116 sg ≤ pot fa_104 sg := pot_le (fun h9 => (hrel_120 h9).1)
      refine W.eq (g2 := F0 m 26 ls []) rfl ?_
      refine lv_aload_n hx hb dX2_readBlock_26 rfl (lv_at hl 0 rfl) ?_
      refine T_get (ci := 2) (C := RX2) (T := TX2) (N := 6) (t := tI) hx hb hts inw_X2_readBlock_2 hown hK hP hT 0 rfl rfl 3 (by decide) (hts (.fieldLink RX2 28 "VatHouse$Reader" "fault" "I") (by decide +kernel)) (fun _ h9 => h9) rfl dX2_readBlock_27 (fun v_126 hv_124 hr_125 => ?_)
      obtain rfl : v_126 = .int fa_116 := hr_125.symm.trans hk_118
      refine lv_if_eq (tgt := 35) hx hb dX2_readBlock_30 (by decide) (fun c_127 => ?_) (fun c_127 => ?_)
      · refine lv_aload_n hx hb dX2_readBlock_35 rfl (lv_at hl 0 rfl) ?_
        refine lv_iload_n hx hb dX2_readBlock_36 rfl (lv_at hl 1 rfl) ?_
        refine lv_iconst (v := 1) hx hb dX2_readBlock_37 (by decide) ?_
        refine lv_iadd hx hb dX2_readBlock_38 ?_
        refine lv_topi (fun z_128 ez_128 => ?_)
        exact absurd (hrel_120 c_127).1 hrel_106
      · refine lv_null hx hb dX2_readBlock_33 ?_
        exact K_aZ hx hb hr (Or.inl ⟨_, rfl⟩) (Or.inl rfl) hlocks hP hD hK hS hT hE ⟨⟨_, rfl, Or.inl rfl⟩, hF, _, _, _, hk_117, hk_118, hk_122, trivial, trivial, hs3⟩ (⟨_, _, hk_118, hk_122, by omega⟩) (by first | exact Nat.le_of_ble_eq_true rfl | (simp only [rm_X2_readBlock]; omega) | omega) (by first | exact Nat.le_of_ble_eq_true rfl | (simp only [rm_X2_readBlock]; omega) | omega) (by first | exact Nat.le_of_ble_eq_true rfl | (simp only [rm_X2_readBlock]; omega) | omega) dX2_readBlock_34

theorem inw_X2_readBuilt_2 : ∀ w ∈ wsX20, w ∈ wsX2_readBuilt := by decide +kernel
theorem inw_X2_readBuilt_5 : ∀ w ∈ wsX50, w ∈ wsX2_readBuilt := by decide +kernel
set_option maxHeartbeats 800000 in
set_option maxRecDepth 100000 in
theorem t_X2_readBuilt (l : Launch) (dC : Nat → ClassId) (dI : Nat → Nat → Nat) (sa : Nat → Nat) (hlt : l.stackTraces = false) (g : Nat → Nat) (L : List Nat) (f : Nat → va_E) (j : Nat) (d : Nat) (P : Nat) (h0 : Nat) (o : Nat) (dep : Int32) (tn : Int32) (fa : Int32) (sg : Int32) (sz : Nat) (hT : TP g L f [(h0, (0, 2, 0)), (o, (0, 5, 0))]) (hm_tn : rd f h0 2 = .int tn) (hm_fa : rd f h0 3 = .int fa) (hm_sg : rd f h0 5 = .int sg) (hd : dep = nI d) (hdj : d + j = 8) (hP0 : pot fa sg = P) (hs3 : sg.toInt ≤ 300) (IHR : ∀ j' d' : Nat, d' + j' = 8 → j = j' + 1 → ∀ (L : List Nat) (f : Nat → va_E) (P : Nat) (h0 : Nat) (dep : Int32) (tn : Int32) (fa : Int32) (sg : Int32) (sz : Nat) (hT : TP g L f [(h0, (0, 2, 0))]) (hm_tn : rd f h0 2 = .int tn) (hm_fa : rd f h0 3 = .int fa) (hm_sg : rd f h0 5 = .int sg) (hd : dep = nI d') (hP0 : pot fa sg = P) (hs3 : sg.toInt ≤ 300), KZ l dC dI sa g yX2_readSteps wsX2_readSteps (rm_X2_readSteps j' d' P) [.ref h0, .int dep] L f sz (fun r L' f' => (∃ v : Value, r = some v ∧ okv L' f' (2, 0, 5, 0) v) ∧ Fr [(2, 1), (2, 2), (2, 3), (2, 4), (5, 0), (5, 1), (5, 2), (5, 3), (5, 4), (5, 5), (5, 6), (5, 7), (2, 5)] L f f' ∧ (∃ tn' : Int32, ∃ fa' : Int32, ∃ sg' : Int32, rd f' h0 2 = .int tn' ∧ rd f' h0 3 = .int fa' ∧ rd f' h0 5 = .int sg' ∧ (True) ∧ (True) ∧ (sg'.toInt ≤ 300))) (fun n f' => ∃ a b : Int32, rd f' h0 3 = .int a ∧ rd f' h0 5 = .int b ∧ n + pot a b ≤ P) P (8 * P)) : KZ l dC dI sa g yX2_readBuilt wsX2_readBuilt (rm_X2_readBuilt j d P) [.ref h0, .ref o, .int dep] L f sz (fun r L' f' => (r = none) ∧ Fr [(2, 1), (2, 2), (2, 3), (2, 4), (5, 0), (5, 1), (5, 2), (5, 3), (5, 4), (5, 5), (5, 6), (5, 7), (2, 5)] L f f' ∧ (∃ tn' : Int32, ∃ fa' : Int32, ∃ sg' : Int32, rd f' h0 2 = .int tn' ∧ rd f' h0 3 = .int fa' ∧ rd f' h0 5 = .int sg' ∧ (True) ∧ (True) ∧ (sg'.toInt ≤ 300))) (fun n f' => ∃ a b : Int32, rd f' h0 3 = .int a ∧ rd f' h0 5 = .int b ∧ n + pot a b ≤ P) P (8 * P) := by
  refine KZ.start (cc := cX2_readBuilt) (maxL := 3) (ret := none) (by decide) rfl (Nat.le_of_ble_eq_true rfl) ?_
  intro p e s m below meth c ls hst hP hK hD hev hS hl
  obtain ⟨hx, hb, hr, hml, hts, hown, hlocks, hin⟩ := hst
  have hown : s.vm.findClass RX2 = some m.cls := hown
  have hin : meth.name = yX2_readBuilt.name := hin
  have hA : ∀ q : Nat, s.heap.size ≤ q → va_A (va_pl L f) s.heap.size q := fun _ h => Or.inr h
  have hE : Ext L f L f := Ext.rf
  have hF : Fr [(2, 1), (2, 2), (2, 3), (2, 4), (5, 0), (5, 1), (5, 2), (5, 3), (5, 4), (5, 5), (5, 6), (5, 7), (2, 5)] L f f := Fr.rf
  have hl : lv_has ls 3 [(0, .ref h0), (1, .ref o), (2, .int dep)] := hl
  refine lv_aload_n hx hb dX2_readBuilt_0 rfl (lv_at hl 1 rfl) ?_
  refine T_get (ci := 5) (C := RX5) (T := TX5) (N := 8) (t := tI) hx hb hts inw_X2_readBuilt_5 hown hK hP hT 1 rfl rfl 0 (by decide) (hts (.fieldLink RX2 61 "VatHouse$Step" "word" "I") (by decide +kernel)) (fun _ h9 => h9) rfl dX2_readBuilt_1 (fun v_3 hv_1 hr_2 => ?_)
  obtain ⟨z_4, rfl⟩ := hv_1
  by_cases c_5 : z_4 = 8
  · refine lv_tableIn (tgt := 32) hx hb dX2_readBuilt_4 (by rw [c_5]; decide) (by rw [c_5]; decide) (by rw [c_5]; rfl) (by decide) ?_
    refine lv_aload_n hx hb dX2_readBuilt_32 rfl (lv_at hl 1 rfl) ?_
    refine lv_aload_n hx hb dX2_readBuilt_33 rfl (lv_at hl 0 rfl) ?_
    refine lv_iconst (v := 0) hx hb dX2_readBuilt_34 (by decide) ?_
    refine lv_bipush (v := 50) hx hb dX2_readBuilt_35 (by decide) ?_
    have hTo := hT
    refine K_V ⟨hx, hb, hml, hown, hts⟩ (t_X2_readNumber l dC dI sa hlt g _ _ h0 0 50 tn fa _ (hT.sub [0] rfl)  hm_tn hm_fa ) (cwV 2 hts gX2_readBuilt_X2_readNumber rfl rfl rfl (by decide +kernel) ⟨(by first | exact Nat.le_of_ble_eq_true rfl | (simp only [rm_X2_readNumber, rm_X2_readBuilt]; omega)), (by first | exact Nat.le_of_ble_eq_true rfl | (simp only [rm_X2_readNumber, rm_X2_readBuilt]; omega))⟩) hP hD hK hS hA hev hT 0 2 rfl rfl rfl rfl hl.1 rfl (Nat.le_of_ble_eq_true rfl) dX2_readBuilt_37 ⟨(by first | exact Nat.le_of_ble_eq_true rfl | (simp only [rm_X2_readBuilt]; omega) | omega), (by first | exact Nat.le_of_ble_eq_true rfl | (simp only [rm_X2_readBuilt]; omega) | omega)⟩ (fun r L_6 f_7 H locs hw_8 hP hD hS hT hE1 => ?_)
    have hF := Fr.call hF hE hw_8.2.1 (by decide)
    have hE := hE.tr hE1
    obtain ⟨⟨z_9, rfl⟩, hw_8⟩ := hw_8
    obtain ⟨hfr_10, tn_11, fa_12, hk_13, hk_14, hrel_15, hrel_16⟩ := hw_8
    have hk_18 : rd f_7 h0 5 = .int sg := (hfr_10 h0 (hTo.at 0 rfl).1 2 (hTo.at 0 rfl).2 5 (by decide)).trans hm_sg
    have hq_19 : pot fa_12 sg ≤ pot fa sg := pot_le (fun h9 => (hrel_16 h9))
    refine W.eq (g2 := F0 m 40 ls [.int z_9, .ref o]) rfl ?_
    have hTo := hT
    refine T_put (ci := 5) (v := .int z_9) (ty := .int) (t := tI) (C := RX5) (T := TX5) (N := 8) hx hb hts inw_X2_readBuilt_5 tyX5 tyX5_ok nmX5 hown hK hP hD hS hT 1 rfl rfl 2 (by decide) (hts (.fieldLink RX2 79 "VatHouse$Step" "number" "I") (by decide +kernel)) (fun _ h9 => h9) rfl (by decide +kernel) rfl rfl rfl ⟨_, rfl⟩ dX2_readBuilt_40 (fun f_20 H locs hP hD hS hT hE1 hrd_21 => ?_)
    have hF := Fr.put (a := o) (ci := 5) hF hE ((hE1 o (hT.at 1 rfl).1).2.symm.trans (hT.at 1 rfl).2) (by decide) hrd_21
    have hE := hE.tr hE1
    have hk_22 : rd f_20 h0 2 = .int tn_11 := ((Fr.put (cs := [(5, 2)]) (a := o) (ci := 5) Fr.rf Ext.rf (hTo.at 1 rfl).2 (by decide) hrd_21) h0 (hTo.at 0 rfl).1 2 (hTo.at 0 rfl).2 2 (by decide)).trans hk_13
    have hk_23 : rd f_20 h0 3 = .int fa_12 := ((Fr.put (cs := [(5, 2)]) (a := o) (ci := 5) Fr.rf Ext.rf (hTo.at 1 rfl).2 (by decide) hrd_21) h0 (hTo.at 0 rfl).1 2 (hTo.at 0 rfl).2 3 (by decide)).trans hk_14
    have hk_24 : rd f_20 h0 5 = .int sg := ((Fr.put (cs := [(5, 2)]) (a := o) (ci := 5) Fr.rf Ext.rf (hTo.at 1 rfl).2 (by decide) hrd_21) h0 (hTo.at 0 rfl).1 2 (hTo.at 0 rfl).2 5 (by decide)).trans hk_18
    refine lv_aload_n hx hb dX2_readBuilt_43 rfl (lv_at hl 1 rfl) ?_
    refine lv_aload_n hx hb dX2_readBuilt_44 rfl (lv_at hl 0 rfl) ?_
    refine lv_iload_n hx hb dX2_readBuilt_45 rfl (lv_at hl 2 rfl) ?_
    have hTo := hT
    refine K_VZ ⟨hx, hb, hml, hown, hts⟩ (t_X2_readBlock l dC dI sa hlt g _ _ j d (pot fa_12 sg) h0 dep tn_11 fa_12 sg _ (hT.sub [0] rfl)  hk_22 hk_23 hk_24 hd hdj rfl hs3 IHR) (cwV 1 hts gX2_readBuilt_X2_readBlock rfl rfl rfl (by decide +kernel) ⟨(by first | exact Nat.le_of_ble_eq_true rfl | (simp only [rm_X2_readBlock, rm_X2_readBuilt]; omega)), (by first | exact Nat.le_of_ble_eq_true rfl | (simp only [rm_X2_readBlock, rm_X2_readBuilt]; omega))⟩) hP hD hK hS hA hev hT 0 2 rfl rfl rfl rfl hl.1 rfl (Nat.le_of_ble_eq_true rfl) dX2_readBuilt_46 ⟨(by first | exact Nat.le_of_ble_eq_true rfl | (simp only [rm_X2_readBuilt]; omega) | omega), (by first | exact Nat.le_of_ble_eq_true rfl | (simp only [rm_X2_readBuilt]; omega) | omega)⟩ (fun r L_25 f_26 n_28 H locs hw_27 hn_29 hP hD hS hT hE1 => ?_)
    have hF := Fr.call hF hE hw_27.2.1 (by decide)
    have hE := hE.tr hE1
    obtain ⟨⟨v_30, rfl, hv9⟩, hw_27⟩ := hw_27
    rcases hv9 with rfl | ⟨b_31, rfl, hb9⟩
    · obtain ⟨hfr_32, tn_33, fa_34, sg_35, hk_36, hk_37, hk_38, hrel_39, hrel_40, hrel_41⟩ := hw_27
      have hq_43 : n_28 + pot fa_34 sg_35 ≤ pot fa_12 sg := by
        obtain ⟨a9, b9, g1, g2, g3⟩ := hn_29
        cases g1.symm.trans hk_37
        cases g2.symm.trans hk_38
        exact g3
      refine W.eq (g2 := F0 m 49 ls [.null, .ref o]) rfl ?_
      have hTo := hT
      refine T_put (ci := 5) (v := .null) (ty := .object "VatHouse$Step") (t := (2, 0, 5, 0)) (C := RX5) (T := TX5) (N := 8) hx hb hts inw_X2_readBuilt_5 tyX5 tyX5_ok nmX5 hown hK hP hD hS hT 1 rfl rfl 5 (by decide) (hts (.fieldLink RX2 85 "VatHouse$Step" "block" "LVatHouse$Step;") (by decide +kernel)) (fun _ h9 => h9) rfl (by decide +kernel) rfl rfl rfl (Or.inl rfl) dX2_readBuilt_49 (fun f_44 H locs hP hD hS hT hE1 hrd_45 => ?_)
      have hF := Fr.put (a := o) (ci := 5) hF hE ((hE1 o (hT.at 1 rfl).1).2.symm.trans (hT.at 1 rfl).2) (by decide) hrd_45
      have hE := hE.tr hE1
      have hk_46 : rd f_44 h0 2 = .int tn_33 := ((Fr.put (cs := [(5, 5)]) (a := o) (ci := 5) Fr.rf Ext.rf (hTo.at 1 rfl).2 (by decide) hrd_45) h0 (hTo.at 0 rfl).1 2 (hTo.at 0 rfl).2 2 (by decide)).trans hk_36
      have hk_47 : rd f_44 h0 3 = .int fa_34 := ((Fr.put (cs := [(5, 5)]) (a := o) (ci := 5) Fr.rf Ext.rf (hTo.at 1 rfl).2 (by decide) hrd_45) h0 (hTo.at 0 rfl).1 2 (hTo.at 0 rfl).2 3 (by decide)).trans hk_37
      have hk_48 : rd f_44 h0 5 = .int sg_35 := ((Fr.put (cs := [(5, 5)]) (a := o) (ci := 5) Fr.rf Ext.rf (hTo.at 1 rfl).2 (by decide) hrd_45) h0 (hTo.at 0 rfl).1 2 (hTo.at 0 rfl).2 5 (by decide)).trans hk_38
      refine lv_goto (tgt := 158) hx hb dX2_readBuilt_52 (by decide) ?_
      exact K_vZ hx hb hr hlocks hP hD hK hS hT hE ⟨rfl, hF, _, _, _, hk_46, hk_47, hk_48, trivial, trivial, hrel_41⟩ (⟨_, _, hk_47, hk_48, by omega⟩) (by first | exact Nat.le_of_ble_eq_true rfl | (simp only [rm_X2_readBuilt]; omega) | omega) (by first | exact Nat.le_of_ble_eq_true rfl | (simp only [rm_X2_readBuilt]; omega) | omega) (by first | exact Nat.le_of_ble_eq_true rfl | (simp only [rm_X2_readBuilt]; omega) | omega) dX2_readBuilt_158
    · have hT := hT.add hb9
      obtain ⟨hfr_49, tn_50, fa_51, sg_52, hk_53, hk_54, hk_55, hrel_56, hrel_57, hrel_58⟩ := hw_27
      have hq_60 : n_28 + pot fa_51 sg_52 ≤ pot fa_12 sg := by
        obtain ⟨a9, b9, g1, g2, g3⟩ := hn_29
        cases g1.symm.trans hk_54
        cases g2.symm.trans hk_55
        exact g3
      refine W.eq (g2 := F0 m 49 ls [.ref b_31, .ref o]) rfl ?_
      have hTo := hT
      refine T_put (ci := 5) (v := .ref b_31) (ty := .object "VatHouse$Step") (t := (2, 0, 5, 0)) (C := RX5) (T := TX5) (N := 8) hx hb hts inw_X2_readBuilt_5 tyX5 tyX5_ok nmX5 hown hK hP hD hS hT 2 rfl rfl 5 (by decide) (hts (.fieldLink RX2 85 "VatHouse$Step" "block" "LVatHouse$Step;") (by decide +kernel)) (fun _ h9 => h9) rfl (by decide +kernel) rfl rfl rfl (Or.inr ⟨_, rfl, hT.at 0 rfl⟩) dX2_readBuilt_49 (fun f_61 H locs hP hD hS hT hE1 hrd_62 => ?_)
      have hF := Fr.put (a := o) (ci := 5) hF hE ((hE1 o (hT.at 2 rfl).1).2.symm.trans (hT.at 2 rfl).2) (by decide) hrd_62
      have hE := hE.tr hE1
      have hk_63 : rd f_61 h0 2 = .int tn_50 := ((Fr.put (cs := [(5, 5)]) (a := o) (ci := 5) Fr.rf Ext.rf (hTo.at 2 rfl).2 (by decide) hrd_62) h0 (hTo.at 1 rfl).1 2 (hTo.at 1 rfl).2 2 (by decide)).trans hk_53
      have hk_64 : rd f_61 h0 3 = .int fa_51 := ((Fr.put (cs := [(5, 5)]) (a := o) (ci := 5) Fr.rf Ext.rf (hTo.at 2 rfl).2 (by decide) hrd_62) h0 (hTo.at 1 rfl).1 2 (hTo.at 1 rfl).2 3 (by decide)).trans hk_54
      have hk_65 : rd f_61 h0 5 = .int sg_52 := ((Fr.put (cs := [(5, 5)]) (a := o) (ci := 5) Fr.rf Ext.rf (hTo.at 2 rfl).2 (by decide) hrd_62) h0 (hTo.at 1 rfl).1 2 (hTo.at 1 rfl).2 5 (by decide)).trans hk_55
      refine lv_goto (tgt := 158) hx hb dX2_readBuilt_52 (by decide) ?_
      exact K_vZ hx hb hr hlocks hP hD hK hS hT hE ⟨rfl, hF, _, _, _, hk_63, hk_64, hk_65, trivial, trivial, hrel_58⟩ (⟨_, _, hk_64, hk_65, by omega⟩) (by first | exact Nat.le_of_ble_eq_true rfl | (simp only [rm_X2_readBuilt]; omega) | omega) (by first | exact Nat.le_of_ble_eq_true rfl | (simp only [rm_X2_readBuilt]; omega) | omega) (by first | exact Nat.le_of_ble_eq_true rfl | (simp only [rm_X2_readBuilt]; omega) | omega) dX2_readBuilt_158
  by_cases c_66 : z_4 = 9
  · refine lv_tableIn (tgt := 55) hx hb dX2_readBuilt_4 (by rw [c_66]; decide) (by rw [c_66]; decide) (by rw [c_66]; rfl) (by decide) ?_
    refine lv_aload_n hx hb dX2_readBuilt_55 rfl (lv_at hl 1 rfl) ?_
    refine lv_aload_n hx hb dX2_readBuilt_56 rfl (lv_at hl 0 rfl) ?_
    refine lv_iconst (v := 0) hx hb dX2_readBuilt_57 (by decide) ?_
    refine lv_sipush (v := 200) hx hb dX2_readBuilt_58 (by decide) ?_
    have hTo := hT
    refine K_V ⟨hx, hb, hml, hown, hts⟩ (t_X2_readNumber l dC dI sa hlt g _ _ h0 0 200 tn fa _ (hT.sub [0] rfl)  hm_tn hm_fa ) (cwV 2 hts gX2_readBuilt_X2_readNumber rfl rfl rfl (by decide +kernel) ⟨(by first | exact Nat.le_of_ble_eq_true rfl | (simp only [rm_X2_readNumber, rm_X2_readBuilt]; omega)), (by first | exact Nat.le_of_ble_eq_true rfl | (simp only [rm_X2_readNumber, rm_X2_readBuilt]; omega))⟩) hP hD hK hS hA hev hT 0 2 rfl rfl rfl rfl hl.1 rfl (Nat.le_of_ble_eq_true rfl) dX2_readBuilt_61 ⟨(by first | exact Nat.le_of_ble_eq_true rfl | (simp only [rm_X2_readBuilt]; omega) | omega), (by first | exact Nat.le_of_ble_eq_true rfl | (simp only [rm_X2_readBuilt]; omega) | omega)⟩ (fun r L_67 f_68 H locs hw_69 hP hD hS hT hE1 => ?_)
    have hF := Fr.call hF hE hw_69.2.1 (by decide)
    have hE := hE.tr hE1
    obtain ⟨⟨z_70, rfl⟩, hw_69⟩ := hw_69
    obtain ⟨hfr_71, tn_72, fa_73, hk_74, hk_75, hrel_76, hrel_77⟩ := hw_69
    have hk_79 : rd f_68 h0 5 = .int sg := (hfr_71 h0 (hTo.at 0 rfl).1 2 (hTo.at 0 rfl).2 5 (by decide)).trans hm_sg
    have hq_80 : pot fa_73 sg ≤ pot fa sg := pot_le (fun h9 => (hrel_77 h9))
    refine W.eq (g2 := F0 m 64 ls [.int z_70, .ref o]) rfl ?_
    have hTo := hT
    refine T_put (ci := 5) (v := .int z_70) (ty := .int) (t := tI) (C := RX5) (T := TX5) (N := 8) hx hb hts inw_X2_readBuilt_5 tyX5 tyX5_ok nmX5 hown hK hP hD hS hT 1 rfl rfl 2 (by decide) (hts (.fieldLink RX2 79 "VatHouse$Step" "number" "I") (by decide +kernel)) (fun _ h9 => h9) rfl (by decide +kernel) rfl rfl rfl ⟨_, rfl⟩ dX2_readBuilt_64 (fun f_81 H locs hP hD hS hT hE1 hrd_82 => ?_)
    have hF := Fr.put (a := o) (ci := 5) hF hE ((hE1 o (hT.at 1 rfl).1).2.symm.trans (hT.at 1 rfl).2) (by decide) hrd_82
    have hE := hE.tr hE1
    have hk_83 : rd f_81 h0 2 = .int tn_72 := ((Fr.put (cs := [(5, 2)]) (a := o) (ci := 5) Fr.rf Ext.rf (hTo.at 1 rfl).2 (by decide) hrd_82) h0 (hTo.at 0 rfl).1 2 (hTo.at 0 rfl).2 2 (by decide)).trans hk_74
    have hk_84 : rd f_81 h0 3 = .int fa_73 := ((Fr.put (cs := [(5, 2)]) (a := o) (ci := 5) Fr.rf Ext.rf (hTo.at 1 rfl).2 (by decide) hrd_82) h0 (hTo.at 0 rfl).1 2 (hTo.at 0 rfl).2 3 (by decide)).trans hk_75
    have hk_85 : rd f_81 h0 5 = .int sg := ((Fr.put (cs := [(5, 2)]) (a := o) (ci := 5) Fr.rf Ext.rf (hTo.at 1 rfl).2 (by decide) hrd_82) h0 (hTo.at 0 rfl).1 2 (hTo.at 0 rfl).2 5 (by decide)).trans hk_79
    refine lv_aload_n hx hb dX2_readBuilt_67 rfl (lv_at hl 1 rfl) ?_
    refine lv_aload_n hx hb dX2_readBuilt_68 rfl (lv_at hl 0 rfl) ?_
    refine lv_iload_n hx hb dX2_readBuilt_69 rfl (lv_at hl 2 rfl) ?_
    have hTo := hT
    refine K_VZ ⟨hx, hb, hml, hown, hts⟩ (t_X2_readBlock l dC dI sa hlt g _ _ j d (pot fa_73 sg) h0 dep tn_72 fa_73 sg _ (hT.sub [0] rfl)  hk_83 hk_84 hk_85 hd hdj rfl hs3 IHR) (cwV 1 hts gX2_readBuilt_X2_readBlock rfl rfl rfl (by decide +kernel) ⟨(by first | exact Nat.le_of_ble_eq_true rfl | (simp only [rm_X2_readBlock, rm_X2_readBuilt]; omega)), (by first | exact Nat.le_of_ble_eq_true rfl | (simp only [rm_X2_readBlock, rm_X2_readBuilt]; omega))⟩) hP hD hK hS hA hev hT 0 2 rfl rfl rfl rfl hl.1 rfl (Nat.le_of_ble_eq_true rfl) dX2_readBuilt_70 ⟨(by first | exact Nat.le_of_ble_eq_true rfl | (simp only [rm_X2_readBuilt]; omega) | omega), (by first | exact Nat.le_of_ble_eq_true rfl | (simp only [rm_X2_readBuilt]; omega) | omega)⟩ (fun r L_86 f_87 n_89 H locs hw_88 hn_90 hP hD hS hT hE1 => ?_)
    have hF := Fr.call hF hE hw_88.2.1 (by decide)
    have hE := hE.tr hE1
    obtain ⟨⟨v_91, rfl, hv9⟩, hw_88⟩ := hw_88
    rcases hv9 with rfl | ⟨b_92, rfl, hb9⟩
    · obtain ⟨hfr_93, tn_94, fa_95, sg_96, hk_97, hk_98, hk_99, hrel_100, hrel_101, hrel_102⟩ := hw_88
      have hq_104 : n_89 + pot fa_95 sg_96 ≤ pot fa_73 sg := by
        obtain ⟨a9, b9, g1, g2, g3⟩ := hn_90
        cases g1.symm.trans hk_98
        cases g2.symm.trans hk_99
        exact g3
      refine W.eq (g2 := F0 m 73 ls [.null, .ref o]) rfl ?_
      have hTo := hT
      refine T_put (ci := 5) (v := .null) (ty := .object "VatHouse$Step") (t := (2, 0, 5, 0)) (C := RX5) (T := TX5) (N := 8) hx hb hts inw_X2_readBuilt_5 tyX5 tyX5_ok nmX5 hown hK hP hD hS hT 1 rfl rfl 5 (by decide) (hts (.fieldLink RX2 85 "VatHouse$Step" "block" "LVatHouse$Step;") (by decide +kernel)) (fun _ h9 => h9) rfl (by decide +kernel) rfl rfl rfl (Or.inl rfl) dX2_readBuilt_73 (fun f_105 H locs hP hD hS hT hE1 hrd_106 => ?_)
      have hF := Fr.put (a := o) (ci := 5) hF hE ((hE1 o (hT.at 1 rfl).1).2.symm.trans (hT.at 1 rfl).2) (by decide) hrd_106
      have hE := hE.tr hE1
      have hk_107 : rd f_105 h0 2 = .int tn_94 := ((Fr.put (cs := [(5, 5)]) (a := o) (ci := 5) Fr.rf Ext.rf (hTo.at 1 rfl).2 (by decide) hrd_106) h0 (hTo.at 0 rfl).1 2 (hTo.at 0 rfl).2 2 (by decide)).trans hk_97
      have hk_108 : rd f_105 h0 3 = .int fa_95 := ((Fr.put (cs := [(5, 5)]) (a := o) (ci := 5) Fr.rf Ext.rf (hTo.at 1 rfl).2 (by decide) hrd_106) h0 (hTo.at 0 rfl).1 2 (hTo.at 0 rfl).2 3 (by decide)).trans hk_98
      have hk_109 : rd f_105 h0 5 = .int sg_96 := ((Fr.put (cs := [(5, 5)]) (a := o) (ci := 5) Fr.rf Ext.rf (hTo.at 1 rfl).2 (by decide) hrd_106) h0 (hTo.at 0 rfl).1 2 (hTo.at 0 rfl).2 5 (by decide)).trans hk_99
      refine lv_goto (tgt := 158) hx hb dX2_readBuilt_76 (by decide) ?_
      exact K_vZ hx hb hr hlocks hP hD hK hS hT hE ⟨rfl, hF, _, _, _, hk_107, hk_108, hk_109, trivial, trivial, hrel_102⟩ (⟨_, _, hk_108, hk_109, by omega⟩) (by first | exact Nat.le_of_ble_eq_true rfl | (simp only [rm_X2_readBuilt]; omega) | omega) (by first | exact Nat.le_of_ble_eq_true rfl | (simp only [rm_X2_readBuilt]; omega) | omega) (by first | exact Nat.le_of_ble_eq_true rfl | (simp only [rm_X2_readBuilt]; omega) | omega) dX2_readBuilt_158
    · have hT := hT.add hb9
      obtain ⟨hfr_110, tn_111, fa_112, sg_113, hk_114, hk_115, hk_116, hrel_117, hrel_118, hrel_119⟩ := hw_88
      have hq_121 : n_89 + pot fa_112 sg_113 ≤ pot fa_73 sg := by
        obtain ⟨a9, b9, g1, g2, g3⟩ := hn_90
        cases g1.symm.trans hk_115
        cases g2.symm.trans hk_116
        exact g3
      refine W.eq (g2 := F0 m 73 ls [.ref b_92, .ref o]) rfl ?_
      have hTo := hT
      refine T_put (ci := 5) (v := .ref b_92) (ty := .object "VatHouse$Step") (t := (2, 0, 5, 0)) (C := RX5) (T := TX5) (N := 8) hx hb hts inw_X2_readBuilt_5 tyX5 tyX5_ok nmX5 hown hK hP hD hS hT 2 rfl rfl 5 (by decide) (hts (.fieldLink RX2 85 "VatHouse$Step" "block" "LVatHouse$Step;") (by decide +kernel)) (fun _ h9 => h9) rfl (by decide +kernel) rfl rfl rfl (Or.inr ⟨_, rfl, hT.at 0 rfl⟩) dX2_readBuilt_73 (fun f_122 H locs hP hD hS hT hE1 hrd_123 => ?_)
      have hF := Fr.put (a := o) (ci := 5) hF hE ((hE1 o (hT.at 2 rfl).1).2.symm.trans (hT.at 2 rfl).2) (by decide) hrd_123
      have hE := hE.tr hE1
      have hk_124 : rd f_122 h0 2 = .int tn_111 := ((Fr.put (cs := [(5, 5)]) (a := o) (ci := 5) Fr.rf Ext.rf (hTo.at 2 rfl).2 (by decide) hrd_123) h0 (hTo.at 1 rfl).1 2 (hTo.at 1 rfl).2 2 (by decide)).trans hk_114
      have hk_125 : rd f_122 h0 3 = .int fa_112 := ((Fr.put (cs := [(5, 5)]) (a := o) (ci := 5) Fr.rf Ext.rf (hTo.at 2 rfl).2 (by decide) hrd_123) h0 (hTo.at 1 rfl).1 2 (hTo.at 1 rfl).2 3 (by decide)).trans hk_115
      have hk_126 : rd f_122 h0 5 = .int sg_113 := ((Fr.put (cs := [(5, 5)]) (a := o) (ci := 5) Fr.rf Ext.rf (hTo.at 2 rfl).2 (by decide) hrd_123) h0 (hTo.at 1 rfl).1 2 (hTo.at 1 rfl).2 5 (by decide)).trans hk_116
      refine lv_goto (tgt := 158) hx hb dX2_readBuilt_76 (by decide) ?_
      exact K_vZ hx hb hr hlocks hP hD hK hS hT hE ⟨rfl, hF, _, _, _, hk_124, hk_125, hk_126, trivial, trivial, hrel_119⟩ (⟨_, _, hk_125, hk_126, by omega⟩) (by first | exact Nat.le_of_ble_eq_true rfl | (simp only [rm_X2_readBuilt]; omega) | omega) (by first | exact Nat.le_of_ble_eq_true rfl | (simp only [rm_X2_readBuilt]; omega) | omega) (by first | exact Nat.le_of_ble_eq_true rfl | (simp only [rm_X2_readBuilt]; omega) | omega) dX2_readBuilt_158
  by_cases c_127 : z_4 = 10
  · refine lv_tableIn (tgt := 79) hx hb dX2_readBuilt_4 (by rw [c_127]; decide) (by rw [c_127]; decide) (by rw [c_127]; rfl) (by decide) ?_
    refine lv_aload_n hx hb dX2_readBuilt_79 rfl (lv_at hl 0 rfl) ?_
    refine lv_aload_n hx hb dX2_readBuilt_80 rfl (lv_at hl 1 rfl) ?_
    have hTo := hT
    refine K_V ⟨hx, hb, hml, hown, hts⟩ (t_X2_readTest l dC dI sa hlt g _ _ h0 o tn fa _ (hT.sub [0, 1] rfl)  hm_tn hm_fa ) (cwV 1 hts gX2_readBuilt_X2_readTest rfl rfl rfl (by decide +kernel) ⟨(by first | exact Nat.le_of_ble_eq_true rfl | (simp only [rm_X2_readTest, rm_X2_readBuilt]; omega)), (by first | exact Nat.le_of_ble_eq_true rfl | (simp only [rm_X2_readTest, rm_X2_readBuilt]; omega))⟩) hP hD hK hS hA hev hT 0 2 rfl rfl rfl rfl hl.1 rfl (Nat.le_of_ble_eq_true rfl) dX2_readBuilt_81 ⟨(by first | exact Nat.le_of_ble_eq_true rfl | (simp only [rm_X2_readBuilt]; omega) | omega), (by first | exact Nat.le_of_ble_eq_true rfl | (simp only [rm_X2_readBuilt]; omega) | omega)⟩ (fun r L_128 f_129 H locs hw_130 hP hD hS hT hE1 => ?_)
    have hF := Fr.call hF hE hw_130.2.1 (by decide)
    have hE := hE.tr hE1
    obtain ⟨rfl, hw_130⟩ := hw_130
    obtain ⟨hfr_131, tn_132, fa_133, hk_134, hk_135, hrel_136, hrel_137⟩ := hw_130
    have hk_139 : rd f_129 h0 5 = .int sg := (hfr_131 h0 (hTo.at 0 rfl).1 2 (hTo.at 0 rfl).2 5 (by decide)).trans hm_sg
    have hq_140 : pot fa_133 sg ≤ pot fa sg := pot_le (fun h9 => (hrel_137 h9))
    refine W.eq (g2 := F0 m 84 ls []) rfl ?_
    refine lv_aload_n hx hb dX2_readBuilt_84 rfl (lv_at hl 1 rfl) ?_
    refine lv_aload_n hx hb dX2_readBuilt_85 rfl (lv_at hl 0 rfl) ?_
    refine lv_iload_n hx hb dX2_readBuilt_86 rfl (lv_at hl 2 rfl) ?_
    have hTo := hT
    refine K_VZ ⟨hx, hb, hml, hown, hts⟩ (t_X2_readBlock l dC dI sa hlt g _ _ j d (pot fa_133 sg) h0 dep tn_132 fa_133 sg _ (hT.sub [0] rfl)  hk_134 hk_135 hk_139 hd hdj rfl hs3 IHR) (cwV 1 hts gX2_readBuilt_X2_readBlock rfl rfl rfl (by decide +kernel) ⟨(by first | exact Nat.le_of_ble_eq_true rfl | (simp only [rm_X2_readBlock, rm_X2_readBuilt]; omega)), (by first | exact Nat.le_of_ble_eq_true rfl | (simp only [rm_X2_readBlock, rm_X2_readBuilt]; omega))⟩) hP hD hK hS hA hev hT 0 2 rfl rfl rfl rfl hl.1 rfl (Nat.le_of_ble_eq_true rfl) dX2_readBuilt_87 ⟨(by first | exact Nat.le_of_ble_eq_true rfl | (simp only [rm_X2_readBuilt]; omega) | omega), (by first | exact Nat.le_of_ble_eq_true rfl | (simp only [rm_X2_readBuilt]; omega) | omega)⟩ (fun r L_141 f_142 n_144 H locs hw_143 hn_145 hP hD hS hT hE1 => ?_)
    have hF := Fr.call hF hE hw_143.2.1 (by decide)
    have hE := hE.tr hE1
    obtain ⟨⟨v_146, rfl, hv9⟩, hw_143⟩ := hw_143
    rcases hv9 with rfl | ⟨b_147, rfl, hb9⟩
    · obtain ⟨hfr_148, tn_149, fa_150, sg_151, hk_152, hk_153, hk_154, hrel_155, hrel_156, hrel_157⟩ := hw_143
      have hq_159 : n_144 + pot fa_150 sg_151 ≤ pot fa_133 sg := by
        obtain ⟨a9, b9, g1, g2, g3⟩ := hn_145
        cases g1.symm.trans hk_153
        cases g2.symm.trans hk_154
        exact g3
      refine W.eq (g2 := F0 m 90 ls [.null, .ref o]) rfl ?_
      have hTo := hT
      refine T_put (ci := 5) (v := .null) (ty := .object "VatHouse$Step") (t := (2, 0, 5, 0)) (C := RX5) (T := TX5) (N := 8) hx hb hts inw_X2_readBuilt_5 tyX5 tyX5_ok nmX5 hown hK hP hD hS hT 1 rfl rfl 5 (by decide) (hts (.fieldLink RX2 85 "VatHouse$Step" "block" "LVatHouse$Step;") (by decide +kernel)) (fun _ h9 => h9) rfl (by decide +kernel) rfl rfl rfl (Or.inl rfl) dX2_readBuilt_90 (fun f_160 H locs hP hD hS hT hE1 hrd_161 => ?_)
      have hF := Fr.put (a := o) (ci := 5) hF hE ((hE1 o (hT.at 1 rfl).1).2.symm.trans (hT.at 1 rfl).2) (by decide) hrd_161
      have hE := hE.tr hE1
      have hk_162 : rd f_160 h0 2 = .int tn_149 := ((Fr.put (cs := [(5, 5)]) (a := o) (ci := 5) Fr.rf Ext.rf (hTo.at 1 rfl).2 (by decide) hrd_161) h0 (hTo.at 0 rfl).1 2 (hTo.at 0 rfl).2 2 (by decide)).trans hk_152
      have hk_163 : rd f_160 h0 3 = .int fa_150 := ((Fr.put (cs := [(5, 5)]) (a := o) (ci := 5) Fr.rf Ext.rf (hTo.at 1 rfl).2 (by decide) hrd_161) h0 (hTo.at 0 rfl).1 2 (hTo.at 0 rfl).2 3 (by decide)).trans hk_153
      have hk_164 : rd f_160 h0 5 = .int sg_151 := ((Fr.put (cs := [(5, 5)]) (a := o) (ci := 5) Fr.rf Ext.rf (hTo.at 1 rfl).2 (by decide) hrd_161) h0 (hTo.at 0 rfl).1 2 (hTo.at 0 rfl).2 5 (by decide)).trans hk_154
      refine lv_aload_n hx hb dX2_readBuilt_93 rfl (lv_at hl 0 rfl) ?_
      refine T_get (ci := 2) (C := RX2) (T := TX2) (N := 6) (t := tI) hx hb hts inw_X2_readBuilt_2 hown hK hP hT 0 rfl rfl 2 (by decide) (hts (.fieldLink RX2 44 "VatHouse$Reader" "token" "I") (by decide +kernel)) (fun _ h9 => h9) rfl dX2_readBuilt_94 (fun v_167 hv_165 hr_166 => ?_)
      obtain rfl : v_167 = .int tn_149 := hr_166.symm.trans hk_162
      refine lv_bipush (v := 13) hx hb dX2_readBuilt_97 (by decide) ?_
      refine lv_icmp_ne (tgt := 158) hx hb dX2_readBuilt_99 (by decide) (fun c_168 => ?_) (fun c_168 => ?_)
      · exact K_vZ hx hb hr hlocks hP hD hK hS hT hE ⟨rfl, hF, _, _, _, hk_162, hk_163, hk_164, trivial, trivial, hrel_157⟩ (⟨_, _, hk_163, hk_164, by omega⟩) (by first | exact Nat.le_of_ble_eq_true rfl | (simp only [rm_X2_readBuilt]; omega) | omega) (by first | exact Nat.le_of_ble_eq_true rfl | (simp only [rm_X2_readBuilt]; omega) | omega) (by first | exact Nat.le_of_ble_eq_true rfl | (simp only [rm_X2_readBuilt]; omega) | omega) dX2_readBuilt_158
      · refine lv_aload_n hx hb dX2_readBuilt_102 rfl (lv_at hl 0 rfl) ?_
        refine lv_bipush (v := 13) hx hb dX2_readBuilt_103 (by decide) ?_
        have hTo := hT
        refine K_V ⟨hx, hb, hml, hown, hts⟩ (t_X2_pass l dC dI sa hlt g _ _ h0 13 tn_149 fa_150 _ (hT.sub [0] rfl)  hk_162 hk_163 ) (cwV 1 hts gX2_readBuilt_X2_pass rfl rfl rfl (by decide +kernel) ⟨(by first | exact Nat.le_of_ble_eq_true rfl | (simp only [rm_X2_pass, rm_X2_readBuilt]; omega)), (by first | exact Nat.le_of_ble_eq_true rfl | (simp only [rm_X2_pass, rm_X2_readBuilt]; omega))⟩) hP hD hK hS hA hev hT 0 2 rfl rfl rfl rfl hl.1 rfl (Nat.le_of_ble_eq_true rfl) dX2_readBuilt_105 ⟨(by first | exact Nat.le_of_ble_eq_true rfl | (simp only [rm_X2_readBuilt]; omega) | omega), (by first | exact Nat.le_of_ble_eq_true rfl | (simp only [rm_X2_readBuilt]; omega) | omega)⟩ (fun r L_169 f_170 H locs hw_171 hP hD hS hT hE1 => ?_)
        have hF := Fr.call hF hE hw_171.2.1 (by decide)
        have hE := hE.tr hE1
        obtain ⟨rfl, hw_171⟩ := hw_171
        obtain ⟨hfr_172, tn_173, fa_174, hk_175, hk_176, hrel_177, hrel_178⟩ := hw_171
        have hk_180 : rd f_170 h0 5 = .int sg_151 := (hfr_172 h0 (hTo.at 0 rfl).1 2 (hTo.at 0 rfl).2 5 (by decide)).trans hk_164
        have hq_181 : pot fa_174 sg_151 ≤ pot fa_150 sg_151 := pot_le (fun h9 => (hrel_178 h9).1)
        refine W.eq (g2 := F0 m 108 ls []) rfl ?_
        refine lv_aload_n hx hb dX2_readBuilt_108 rfl (lv_at hl 1 rfl) ?_
        refine lv_aload_n hx hb dX2_readBuilt_109 rfl (lv_at hl 0 rfl) ?_
        refine lv_iload_n hx hb dX2_readBuilt_110 rfl (lv_at hl 2 rfl) ?_
        have hTo := hT
        refine K_VZ ⟨hx, hb, hml, hown, hts⟩ (t_X2_readBlock l dC dI sa hlt g _ _ j d (pot fa_174 sg_151) h0 dep tn_173 fa_174 sg_151 _ (hT.sub [0] rfl)  hk_175 hk_176 hk_180 hd hdj rfl hrel_157 IHR) (cwV 1 hts gX2_readBuilt_X2_readBlock rfl rfl rfl (by decide +kernel) ⟨(by first | exact Nat.le_of_ble_eq_true rfl | (simp only [rm_X2_readBlock, rm_X2_readBuilt]; omega)), (by first | exact Nat.le_of_ble_eq_true rfl | (simp only [rm_X2_readBlock, rm_X2_readBuilt]; omega))⟩) hP hD hK hS hA hev hT 0 2 rfl rfl rfl rfl hl.1 rfl (Nat.le_of_ble_eq_true rfl) dX2_readBuilt_111 ⟨(by first | exact Nat.le_of_ble_eq_true rfl | (simp only [rm_X2_readBuilt]; omega) | omega), (by first | exact Nat.le_of_ble_eq_true rfl | (simp only [rm_X2_readBuilt]; omega) | omega)⟩ (fun r L_182 f_183 n_185 H locs hw_184 hn_186 hP hD hS hT hE1 => ?_)
        have hF := Fr.call hF hE hw_184.2.1 (by decide)
        have hE := hE.tr hE1
        obtain ⟨⟨v_187, rfl, hv9⟩, hw_184⟩ := hw_184
        rcases hv9 with rfl | ⟨b_188, rfl, hb9⟩
        · obtain ⟨hfr_189, tn_190, fa_191, sg_192, hk_193, hk_194, hk_195, hrel_196, hrel_197, hrel_198⟩ := hw_184
          have hq_200 : n_185 + pot fa_191 sg_192 ≤ pot fa_174 sg_151 := by
            obtain ⟨a9, b9, g1, g2, g3⟩ := hn_186
            cases g1.symm.trans hk_194
            cases g2.symm.trans hk_195
            exact g3
          refine W.eq (g2 := F0 m 114 ls [.null, .ref o]) rfl ?_
          have hTo := hT
          refine T_put (ci := 5) (v := .null) (ty := .object "VatHouse$Step") (t := (2, 0, 5, 0)) (C := RX5) (T := TX5) (N := 8) hx hb hts inw_X2_readBuilt_5 tyX5 tyX5_ok nmX5 hown hK hP hD hS hT 1 rfl rfl 6 (by decide) (hts (.fieldLink RX2 91 "VatHouse$Step" "other" "LVatHouse$Step;") (by decide +kernel)) (fun _ h9 => h9) rfl (by decide +kernel) rfl rfl rfl (Or.inl rfl) dX2_readBuilt_114 (fun f_201 H locs hP hD hS hT hE1 hrd_202 => ?_)
          have hF := Fr.put (a := o) (ci := 5) hF hE ((hE1 o (hT.at 1 rfl).1).2.symm.trans (hT.at 1 rfl).2) (by decide) hrd_202
          have hE := hE.tr hE1
          have hk_203 : rd f_201 h0 2 = .int tn_190 := ((Fr.put (cs := [(5, 6)]) (a := o) (ci := 5) Fr.rf Ext.rf (hTo.at 1 rfl).2 (by decide) hrd_202) h0 (hTo.at 0 rfl).1 2 (hTo.at 0 rfl).2 2 (by decide)).trans hk_193
          have hk_204 : rd f_201 h0 3 = .int fa_191 := ((Fr.put (cs := [(5, 6)]) (a := o) (ci := 5) Fr.rf Ext.rf (hTo.at 1 rfl).2 (by decide) hrd_202) h0 (hTo.at 0 rfl).1 2 (hTo.at 0 rfl).2 3 (by decide)).trans hk_194
          have hk_205 : rd f_201 h0 5 = .int sg_192 := ((Fr.put (cs := [(5, 6)]) (a := o) (ci := 5) Fr.rf Ext.rf (hTo.at 1 rfl).2 (by decide) hrd_202) h0 (hTo.at 0 rfl).1 2 (hTo.at 0 rfl).2 5 (by decide)).trans hk_195
          refine lv_goto (tgt := 158) hx hb dX2_readBuilt_117 (by decide) ?_
          exact K_vZ hx hb hr hlocks hP hD hK hS hT hE ⟨rfl, hF, _, _, _, hk_203, hk_204, hk_205, trivial, trivial, hrel_198⟩ (⟨_, _, hk_204, hk_205, by omega⟩) (by first | exact Nat.le_of_ble_eq_true rfl | (simp only [rm_X2_readBuilt]; omega) | omega) (by first | exact Nat.le_of_ble_eq_true rfl | (simp only [rm_X2_readBuilt]; omega) | omega) (by first | exact Nat.le_of_ble_eq_true rfl | (simp only [rm_X2_readBuilt]; omega) | omega) dX2_readBuilt_158
        · have hT := hT.add hb9
          obtain ⟨hfr_206, tn_207, fa_208, sg_209, hk_210, hk_211, hk_212, hrel_213, hrel_214, hrel_215⟩ := hw_184
          have hq_217 : n_185 + pot fa_208 sg_209 ≤ pot fa_174 sg_151 := by
            obtain ⟨a9, b9, g1, g2, g3⟩ := hn_186
            cases g1.symm.trans hk_211
            cases g2.symm.trans hk_212
            exact g3
          refine W.eq (g2 := F0 m 114 ls [.ref b_188, .ref o]) rfl ?_
          have hTo := hT
          refine T_put (ci := 5) (v := .ref b_188) (ty := .object "VatHouse$Step") (t := (2, 0, 5, 0)) (C := RX5) (T := TX5) (N := 8) hx hb hts inw_X2_readBuilt_5 tyX5 tyX5_ok nmX5 hown hK hP hD hS hT 2 rfl rfl 6 (by decide) (hts (.fieldLink RX2 91 "VatHouse$Step" "other" "LVatHouse$Step;") (by decide +kernel)) (fun _ h9 => h9) rfl (by decide +kernel) rfl rfl rfl (Or.inr ⟨_, rfl, hT.at 0 rfl⟩) dX2_readBuilt_114 (fun f_218 H locs hP hD hS hT hE1 hrd_219 => ?_)
          have hF := Fr.put (a := o) (ci := 5) hF hE ((hE1 o (hT.at 2 rfl).1).2.symm.trans (hT.at 2 rfl).2) (by decide) hrd_219
          have hE := hE.tr hE1
          have hk_220 : rd f_218 h0 2 = .int tn_207 := ((Fr.put (cs := [(5, 6)]) (a := o) (ci := 5) Fr.rf Ext.rf (hTo.at 2 rfl).2 (by decide) hrd_219) h0 (hTo.at 1 rfl).1 2 (hTo.at 1 rfl).2 2 (by decide)).trans hk_210
          have hk_221 : rd f_218 h0 3 = .int fa_208 := ((Fr.put (cs := [(5, 6)]) (a := o) (ci := 5) Fr.rf Ext.rf (hTo.at 2 rfl).2 (by decide) hrd_219) h0 (hTo.at 1 rfl).1 2 (hTo.at 1 rfl).2 3 (by decide)).trans hk_211
          have hk_222 : rd f_218 h0 5 = .int sg_209 := ((Fr.put (cs := [(5, 6)]) (a := o) (ci := 5) Fr.rf Ext.rf (hTo.at 2 rfl).2 (by decide) hrd_219) h0 (hTo.at 1 rfl).1 2 (hTo.at 1 rfl).2 5 (by decide)).trans hk_212
          refine lv_goto (tgt := 158) hx hb dX2_readBuilt_117 (by decide) ?_
          exact K_vZ hx hb hr hlocks hP hD hK hS hT hE ⟨rfl, hF, _, _, _, hk_220, hk_221, hk_222, trivial, trivial, hrel_215⟩ (⟨_, _, hk_221, hk_222, by omega⟩) (by first | exact Nat.le_of_ble_eq_true rfl | (simp only [rm_X2_readBuilt]; omega) | omega) (by first | exact Nat.le_of_ble_eq_true rfl | (simp only [rm_X2_readBuilt]; omega) | omega) (by first | exact Nat.le_of_ble_eq_true rfl | (simp only [rm_X2_readBuilt]; omega) | omega) dX2_readBuilt_158
    · have hT := hT.add hb9
      obtain ⟨hfr_223, tn_224, fa_225, sg_226, hk_227, hk_228, hk_229, hrel_230, hrel_231, hrel_232⟩ := hw_143
      have hq_234 : n_144 + pot fa_225 sg_226 ≤ pot fa_133 sg := by
        obtain ⟨a9, b9, g1, g2, g3⟩ := hn_145
        cases g1.symm.trans hk_228
        cases g2.symm.trans hk_229
        exact g3
      refine W.eq (g2 := F0 m 90 ls [.ref b_147, .ref o]) rfl ?_
      have hTo := hT
      refine T_put (ci := 5) (v := .ref b_147) (ty := .object "VatHouse$Step") (t := (2, 0, 5, 0)) (C := RX5) (T := TX5) (N := 8) hx hb hts inw_X2_readBuilt_5 tyX5 tyX5_ok nmX5 hown hK hP hD hS hT 2 rfl rfl 5 (by decide) (hts (.fieldLink RX2 85 "VatHouse$Step" "block" "LVatHouse$Step;") (by decide +kernel)) (fun _ h9 => h9) rfl (by decide +kernel) rfl rfl rfl (Or.inr ⟨_, rfl, hT.at 0 rfl⟩) dX2_readBuilt_90 (fun f_235 H locs hP hD hS hT hE1 hrd_236 => ?_)
      have hF := Fr.put (a := o) (ci := 5) hF hE ((hE1 o (hT.at 2 rfl).1).2.symm.trans (hT.at 2 rfl).2) (by decide) hrd_236
      have hE := hE.tr hE1
      have hk_237 : rd f_235 h0 2 = .int tn_224 := ((Fr.put (cs := [(5, 5)]) (a := o) (ci := 5) Fr.rf Ext.rf (hTo.at 2 rfl).2 (by decide) hrd_236) h0 (hTo.at 1 rfl).1 2 (hTo.at 1 rfl).2 2 (by decide)).trans hk_227
      have hk_238 : rd f_235 h0 3 = .int fa_225 := ((Fr.put (cs := [(5, 5)]) (a := o) (ci := 5) Fr.rf Ext.rf (hTo.at 2 rfl).2 (by decide) hrd_236) h0 (hTo.at 1 rfl).1 2 (hTo.at 1 rfl).2 3 (by decide)).trans hk_228
      have hk_239 : rd f_235 h0 5 = .int sg_226 := ((Fr.put (cs := [(5, 5)]) (a := o) (ci := 5) Fr.rf Ext.rf (hTo.at 2 rfl).2 (by decide) hrd_236) h0 (hTo.at 1 rfl).1 2 (hTo.at 1 rfl).2 5 (by decide)).trans hk_229
      refine lv_aload_n hx hb dX2_readBuilt_93 rfl (lv_at hl 0 rfl) ?_
      refine T_get (ci := 2) (C := RX2) (T := TX2) (N := 6) (t := tI) hx hb hts inw_X2_readBuilt_2 hown hK hP hT 1 rfl rfl 2 (by decide) (hts (.fieldLink RX2 44 "VatHouse$Reader" "token" "I") (by decide +kernel)) (fun _ h9 => h9) rfl dX2_readBuilt_94 (fun v_242 hv_240 hr_241 => ?_)
      obtain rfl : v_242 = .int tn_224 := hr_241.symm.trans hk_237
      refine lv_bipush (v := 13) hx hb dX2_readBuilt_97 (by decide) ?_
      refine lv_icmp_ne (tgt := 158) hx hb dX2_readBuilt_99 (by decide) (fun c_243 => ?_) (fun c_243 => ?_)
      · exact K_vZ hx hb hr hlocks hP hD hK hS hT hE ⟨rfl, hF, _, _, _, hk_237, hk_238, hk_239, trivial, trivial, hrel_232⟩ (⟨_, _, hk_238, hk_239, by omega⟩) (by first | exact Nat.le_of_ble_eq_true rfl | (simp only [rm_X2_readBuilt]; omega) | omega) (by first | exact Nat.le_of_ble_eq_true rfl | (simp only [rm_X2_readBuilt]; omega) | omega) (by first | exact Nat.le_of_ble_eq_true rfl | (simp only [rm_X2_readBuilt]; omega) | omega) dX2_readBuilt_158
      · refine lv_aload_n hx hb dX2_readBuilt_102 rfl (lv_at hl 0 rfl) ?_
        refine lv_bipush (v := 13) hx hb dX2_readBuilt_103 (by decide) ?_
        have hTo := hT
        refine K_V ⟨hx, hb, hml, hown, hts⟩ (t_X2_pass l dC dI sa hlt g _ _ h0 13 tn_224 fa_225 _ (hT.sub [1] rfl)  hk_237 hk_238 ) (cwV 1 hts gX2_readBuilt_X2_pass rfl rfl rfl (by decide +kernel) ⟨(by first | exact Nat.le_of_ble_eq_true rfl | (simp only [rm_X2_pass, rm_X2_readBuilt]; omega)), (by first | exact Nat.le_of_ble_eq_true rfl | (simp only [rm_X2_pass, rm_X2_readBuilt]; omega))⟩) hP hD hK hS hA hev hT 1 2 rfl rfl rfl rfl hl.1 rfl (Nat.le_of_ble_eq_true rfl) dX2_readBuilt_105 ⟨(by first | exact Nat.le_of_ble_eq_true rfl | (simp only [rm_X2_readBuilt]; omega) | omega), (by first | exact Nat.le_of_ble_eq_true rfl | (simp only [rm_X2_readBuilt]; omega) | omega)⟩ (fun r L_244 f_245 H locs hw_246 hP hD hS hT hE1 => ?_)
        have hF := Fr.call hF hE hw_246.2.1 (by decide)
        have hE := hE.tr hE1
        obtain ⟨rfl, hw_246⟩ := hw_246
        obtain ⟨hfr_247, tn_248, fa_249, hk_250, hk_251, hrel_252, hrel_253⟩ := hw_246
        have hk_255 : rd f_245 h0 5 = .int sg_226 := (hfr_247 h0 (hTo.at 1 rfl).1 2 (hTo.at 1 rfl).2 5 (by decide)).trans hk_239
        have hq_256 : pot fa_249 sg_226 ≤ pot fa_225 sg_226 := pot_le (fun h9 => (hrel_253 h9).1)
        refine W.eq (g2 := F0 m 108 ls []) rfl ?_
        refine lv_aload_n hx hb dX2_readBuilt_108 rfl (lv_at hl 1 rfl) ?_
        refine lv_aload_n hx hb dX2_readBuilt_109 rfl (lv_at hl 0 rfl) ?_
        refine lv_iload_n hx hb dX2_readBuilt_110 rfl (lv_at hl 2 rfl) ?_
        have hTo := hT
        refine K_VZ ⟨hx, hb, hml, hown, hts⟩ (t_X2_readBlock l dC dI sa hlt g _ _ j d (pot fa_249 sg_226) h0 dep tn_248 fa_249 sg_226 _ (hT.sub [1] rfl)  hk_250 hk_251 hk_255 hd hdj rfl hrel_232 IHR) (cwV 1 hts gX2_readBuilt_X2_readBlock rfl rfl rfl (by decide +kernel) ⟨(by first | exact Nat.le_of_ble_eq_true rfl | (simp only [rm_X2_readBlock, rm_X2_readBuilt]; omega)), (by first | exact Nat.le_of_ble_eq_true rfl | (simp only [rm_X2_readBlock, rm_X2_readBuilt]; omega))⟩) hP hD hK hS hA hev hT 1 2 rfl rfl rfl rfl hl.1 rfl (Nat.le_of_ble_eq_true rfl) dX2_readBuilt_111 ⟨(by first | exact Nat.le_of_ble_eq_true rfl | (simp only [rm_X2_readBuilt]; omega) | omega), (by first | exact Nat.le_of_ble_eq_true rfl | (simp only [rm_X2_readBuilt]; omega) | omega)⟩ (fun r L_257 f_258 n_260 H locs hw_259 hn_261 hP hD hS hT hE1 => ?_)
        have hF := Fr.call hF hE hw_259.2.1 (by decide)
        have hE := hE.tr hE1
        obtain ⟨⟨v_262, rfl, hv9⟩, hw_259⟩ := hw_259
        rcases hv9 with rfl | ⟨b_263, rfl, hb9⟩
        · obtain ⟨hfr_264, tn_265, fa_266, sg_267, hk_268, hk_269, hk_270, hrel_271, hrel_272, hrel_273⟩ := hw_259
          have hq_275 : n_260 + pot fa_266 sg_267 ≤ pot fa_249 sg_226 := by
            obtain ⟨a9, b9, g1, g2, g3⟩ := hn_261
            cases g1.symm.trans hk_269
            cases g2.symm.trans hk_270
            exact g3
          refine W.eq (g2 := F0 m 114 ls [.null, .ref o]) rfl ?_
          have hTo := hT
          refine T_put (ci := 5) (v := .null) (ty := .object "VatHouse$Step") (t := (2, 0, 5, 0)) (C := RX5) (T := TX5) (N := 8) hx hb hts inw_X2_readBuilt_5 tyX5 tyX5_ok nmX5 hown hK hP hD hS hT 2 rfl rfl 6 (by decide) (hts (.fieldLink RX2 91 "VatHouse$Step" "other" "LVatHouse$Step;") (by decide +kernel)) (fun _ h9 => h9) rfl (by decide +kernel) rfl rfl rfl (Or.inl rfl) dX2_readBuilt_114 (fun f_276 H locs hP hD hS hT hE1 hrd_277 => ?_)
          have hF := Fr.put (a := o) (ci := 5) hF hE ((hE1 o (hT.at 2 rfl).1).2.symm.trans (hT.at 2 rfl).2) (by decide) hrd_277
          have hE := hE.tr hE1
          have hk_278 : rd f_276 h0 2 = .int tn_265 := ((Fr.put (cs := [(5, 6)]) (a := o) (ci := 5) Fr.rf Ext.rf (hTo.at 2 rfl).2 (by decide) hrd_277) h0 (hTo.at 1 rfl).1 2 (hTo.at 1 rfl).2 2 (by decide)).trans hk_268
          have hk_279 : rd f_276 h0 3 = .int fa_266 := ((Fr.put (cs := [(5, 6)]) (a := o) (ci := 5) Fr.rf Ext.rf (hTo.at 2 rfl).2 (by decide) hrd_277) h0 (hTo.at 1 rfl).1 2 (hTo.at 1 rfl).2 3 (by decide)).trans hk_269
          have hk_280 : rd f_276 h0 5 = .int sg_267 := ((Fr.put (cs := [(5, 6)]) (a := o) (ci := 5) Fr.rf Ext.rf (hTo.at 2 rfl).2 (by decide) hrd_277) h0 (hTo.at 1 rfl).1 2 (hTo.at 1 rfl).2 5 (by decide)).trans hk_270
          refine lv_goto (tgt := 158) hx hb dX2_readBuilt_117 (by decide) ?_
          exact K_vZ hx hb hr hlocks hP hD hK hS hT hE ⟨rfl, hF, _, _, _, hk_278, hk_279, hk_280, trivial, trivial, hrel_273⟩ (⟨_, _, hk_279, hk_280, by omega⟩) (by first | exact Nat.le_of_ble_eq_true rfl | (simp only [rm_X2_readBuilt]; omega) | omega) (by first | exact Nat.le_of_ble_eq_true rfl | (simp only [rm_X2_readBuilt]; omega) | omega) (by first | exact Nat.le_of_ble_eq_true rfl | (simp only [rm_X2_readBuilt]; omega) | omega) dX2_readBuilt_158
        · have hT := hT.add hb9
          obtain ⟨hfr_281, tn_282, fa_283, sg_284, hk_285, hk_286, hk_287, hrel_288, hrel_289, hrel_290⟩ := hw_259
          have hq_292 : n_260 + pot fa_283 sg_284 ≤ pot fa_249 sg_226 := by
            obtain ⟨a9, b9, g1, g2, g3⟩ := hn_261
            cases g1.symm.trans hk_286
            cases g2.symm.trans hk_287
            exact g3
          refine W.eq (g2 := F0 m 114 ls [.ref b_263, .ref o]) rfl ?_
          have hTo := hT
          refine T_put (ci := 5) (v := .ref b_263) (ty := .object "VatHouse$Step") (t := (2, 0, 5, 0)) (C := RX5) (T := TX5) (N := 8) hx hb hts inw_X2_readBuilt_5 tyX5 tyX5_ok nmX5 hown hK hP hD hS hT 3 rfl rfl 6 (by decide) (hts (.fieldLink RX2 91 "VatHouse$Step" "other" "LVatHouse$Step;") (by decide +kernel)) (fun _ h9 => h9) rfl (by decide +kernel) rfl rfl rfl (Or.inr ⟨_, rfl, hT.at 0 rfl⟩) dX2_readBuilt_114 (fun f_293 H locs hP hD hS hT hE1 hrd_294 => ?_)
          have hF := Fr.put (a := o) (ci := 5) hF hE ((hE1 o (hT.at 3 rfl).1).2.symm.trans (hT.at 3 rfl).2) (by decide) hrd_294
          have hE := hE.tr hE1
          have hk_295 : rd f_293 h0 2 = .int tn_282 := ((Fr.put (cs := [(5, 6)]) (a := o) (ci := 5) Fr.rf Ext.rf (hTo.at 3 rfl).2 (by decide) hrd_294) h0 (hTo.at 2 rfl).1 2 (hTo.at 2 rfl).2 2 (by decide)).trans hk_285
          have hk_296 : rd f_293 h0 3 = .int fa_283 := ((Fr.put (cs := [(5, 6)]) (a := o) (ci := 5) Fr.rf Ext.rf (hTo.at 3 rfl).2 (by decide) hrd_294) h0 (hTo.at 2 rfl).1 2 (hTo.at 2 rfl).2 3 (by decide)).trans hk_286
          have hk_297 : rd f_293 h0 5 = .int sg_284 := ((Fr.put (cs := [(5, 6)]) (a := o) (ci := 5) Fr.rf Ext.rf (hTo.at 3 rfl).2 (by decide) hrd_294) h0 (hTo.at 2 rfl).1 2 (hTo.at 2 rfl).2 5 (by decide)).trans hk_287
          refine lv_goto (tgt := 158) hx hb dX2_readBuilt_117 (by decide) ?_
          exact K_vZ hx hb hr hlocks hP hD hK hS hT hE ⟨rfl, hF, _, _, _, hk_295, hk_296, hk_297, trivial, trivial, hrel_290⟩ (⟨_, _, hk_296, hk_297, by omega⟩) (by first | exact Nat.le_of_ble_eq_true rfl | (simp only [rm_X2_readBuilt]; omega) | omega) (by first | exact Nat.le_of_ble_eq_true rfl | (simp only [rm_X2_readBuilt]; omega) | omega) (by first | exact Nat.le_of_ble_eq_true rfl | (simp only [rm_X2_readBuilt]; omega) | omega) dX2_readBuilt_158
  refine lv_tableOut (tgt := 120) hx hb dX2_readBuilt_4 (tab_out_8_10 c_5 c_66 c_127) (by decide) ?_
  refine lv_aload_n hx hb dX2_readBuilt_120 rfl (lv_at hl 1 rfl) ?_
  refine lv_aload_n hx hb dX2_readBuilt_121 rfl (lv_at hl 0 rfl) ?_
  refine lv_iload_n hx hb dX2_readBuilt_122 rfl (lv_at hl 2 rfl) ?_
  have hTo := hT
  refine K_VZ ⟨hx, hb, hml, hown, hts⟩ (t_X2_readBlock l dC dI sa hlt g _ _ j d (pot fa sg) h0 dep tn fa sg _ (hT.sub [0] rfl)  hm_tn hm_fa hm_sg hd hdj rfl hs3 IHR) (cwV 1 hts gX2_readBuilt_X2_readBlock rfl rfl rfl (by decide +kernel) ⟨(by first | exact Nat.le_of_ble_eq_true rfl | (simp only [rm_X2_readBlock, rm_X2_readBuilt]; omega)), (by first | exact Nat.le_of_ble_eq_true rfl | (simp only [rm_X2_readBlock, rm_X2_readBuilt]; omega))⟩) hP hD hK hS hA hev hT 0 2 rfl rfl rfl rfl hl.1 rfl (Nat.le_of_ble_eq_true rfl) dX2_readBuilt_123 ⟨(by first | exact Nat.le_of_ble_eq_true rfl | (simp only [rm_X2_readBuilt]; omega) | omega), (by first | exact Nat.le_of_ble_eq_true rfl | (simp only [rm_X2_readBuilt]; omega) | omega)⟩ (fun r L_298 f_299 n_301 H locs hw_300 hn_302 hP hD hS hT hE1 => ?_)
  have hF := Fr.call hF hE hw_300.2.1 (by decide)
  have hE := hE.tr hE1
  obtain ⟨⟨v_303, rfl, hv9⟩, hw_300⟩ := hw_300
  rcases hv9 with rfl | ⟨b_304, rfl, hb9⟩
  · obtain ⟨hfr_305, tn_306, fa_307, sg_308, hk_309, hk_310, hk_311, hrel_312, hrel_313, hrel_314⟩ := hw_300
    have hq_316 : n_301 + pot fa_307 sg_308 ≤ pot fa sg := by
      obtain ⟨a9, b9, g1, g2, g3⟩ := hn_302
      cases g1.symm.trans hk_310
      cases g2.symm.trans hk_311
      exact g3
    refine W.eq (g2 := F0 m 126 ls [.null, .ref o]) rfl ?_
    have hTo := hT
    refine T_put (ci := 5) (v := .null) (ty := .object "VatHouse$Step") (t := (2, 0, 5, 0)) (C := RX5) (T := TX5) (N := 8) hx hb hts inw_X2_readBuilt_5 tyX5 tyX5_ok nmX5 hown hK hP hD hS hT 1 rfl rfl 5 (by decide) (hts (.fieldLink RX2 85 "VatHouse$Step" "block" "LVatHouse$Step;") (by decide +kernel)) (fun _ h9 => h9) rfl (by decide +kernel) rfl rfl rfl (Or.inl rfl) dX2_readBuilt_126 (fun f_317 H locs hP hD hS hT hE1 hrd_318 => ?_)
    have hF := Fr.put (a := o) (ci := 5) hF hE ((hE1 o (hT.at 1 rfl).1).2.symm.trans (hT.at 1 rfl).2) (by decide) hrd_318
    have hE := hE.tr hE1
    have hk_319 : rd f_317 h0 2 = .int tn_306 := ((Fr.put (cs := [(5, 5)]) (a := o) (ci := 5) Fr.rf Ext.rf (hTo.at 1 rfl).2 (by decide) hrd_318) h0 (hTo.at 0 rfl).1 2 (hTo.at 0 rfl).2 2 (by decide)).trans hk_309
    have hk_320 : rd f_317 h0 3 = .int fa_307 := ((Fr.put (cs := [(5, 5)]) (a := o) (ci := 5) Fr.rf Ext.rf (hTo.at 1 rfl).2 (by decide) hrd_318) h0 (hTo.at 0 rfl).1 2 (hTo.at 0 rfl).2 3 (by decide)).trans hk_310
    have hk_321 : rd f_317 h0 5 = .int sg_308 := ((Fr.put (cs := [(5, 5)]) (a := o) (ci := 5) Fr.rf Ext.rf (hTo.at 1 rfl).2 (by decide) hrd_318) h0 (hTo.at 0 rfl).1 2 (hTo.at 0 rfl).2 5 (by decide)).trans hk_311
    refine lv_aload_n hx hb dX2_readBuilt_129 rfl (lv_at hl 0 rfl) ?_
    refine lv_aload_n hx hb dX2_readBuilt_130 rfl (lv_at hl 1 rfl) ?_
    refine T_get (ci := 5) (C := RX5) (T := TX5) (N := 8) (t := tI) hx hb hts inw_X2_readBuilt_5 hown hK hP hT 1 rfl rfl 0 (by decide) (hts (.fieldLink RX2 61 "VatHouse$Step" "word" "I") (by decide +kernel)) (fun _ h9 => h9) rfl dX2_readBuilt_131 (fun v_324 hv_322 hr_323 => ?_)
    obtain ⟨z_325, rfl⟩ := hv_322
    refine lv_bipush (v := 11) hx hb dX2_readBuilt_134 (by decide) ?_
    refine lv_icmp_ne (tgt := 144) hx hb dX2_readBuilt_136 (by decide) (fun c_326 => ?_) (fun c_326 => ?_)
    · refine lv_bipush (v := 14) hx hb dX2_readBuilt_144 (by decide) ?_
      have hTo := hT
      refine K_V ⟨hx, hb, hml, hown, hts⟩ (t_X2_pass l dC dI sa hlt g _ _ h0 14 tn_306 fa_307 _ (hT.sub [0] rfl)  hk_319 hk_320 ) (cwV 1 hts gX2_readBuilt_X2_pass rfl rfl rfl (by decide +kernel) ⟨(by first | exact Nat.le_of_ble_eq_true rfl | (simp only [rm_X2_pass, rm_X2_readBuilt]; omega)), (by first | exact Nat.le_of_ble_eq_true rfl | (simp only [rm_X2_pass, rm_X2_readBuilt]; omega))⟩) hP hD hK hS hA hev hT 0 2 rfl rfl rfl rfl hl.1 rfl (Nat.le_of_ble_eq_true rfl) dX2_readBuilt_146 ⟨(by first | exact Nat.le_of_ble_eq_true rfl | (simp only [rm_X2_readBuilt]; omega) | omega), (by first | exact Nat.le_of_ble_eq_true rfl | (simp only [rm_X2_readBuilt]; omega) | omega)⟩ (fun r L_327 f_328 H locs hw_329 hP hD hS hT hE1 => ?_)
      have hF := Fr.call hF hE hw_329.2.1 (by decide)
      have hE := hE.tr hE1
      obtain ⟨rfl, hw_329⟩ := hw_329
      obtain ⟨hfr_330, tn_331, fa_332, hk_333, hk_334, hrel_335, hrel_336⟩ := hw_329
      have hk_338 : rd f_328 h0 5 = .int sg_308 := (hfr_330 h0 (hTo.at 0 rfl).1 2 (hTo.at 0 rfl).2 5 (by decide)).trans hk_321
      have hq_339 : pot fa_332 sg_308 ≤ pot fa_307 sg_308 := pot_le (fun h9 => (hrel_336 h9).1)
      refine W.eq (g2 := F0 m 149 ls []) rfl ?_
      refine lv_aload_n hx hb dX2_readBuilt_149 rfl (lv_at hl 1 rfl) ?_
      refine lv_aload_n hx hb dX2_readBuilt_150 rfl (lv_at hl 0 rfl) ?_
      refine lv_iload_n hx hb dX2_readBuilt_151 rfl (lv_at hl 2 rfl) ?_
      have hTo := hT
      refine K_VZ ⟨hx, hb, hml, hown, hts⟩ (t_X2_readBlock l dC dI sa hlt g _ _ j d (pot fa_332 sg_308) h0 dep tn_331 fa_332 sg_308 _ (hT.sub [0] rfl)  hk_333 hk_334 hk_338 hd hdj rfl hrel_314 IHR) (cwV 1 hts gX2_readBuilt_X2_readBlock rfl rfl rfl (by decide +kernel) ⟨(by first | exact Nat.le_of_ble_eq_true rfl | (simp only [rm_X2_readBlock, rm_X2_readBuilt]; omega)), (by first | exact Nat.le_of_ble_eq_true rfl | (simp only [rm_X2_readBlock, rm_X2_readBuilt]; omega))⟩) hP hD hK hS hA hev hT 0 2 rfl rfl rfl rfl hl.1 rfl (Nat.le_of_ble_eq_true rfl) dX2_readBuilt_152 ⟨(by first | exact Nat.le_of_ble_eq_true rfl | (simp only [rm_X2_readBuilt]; omega) | omega), (by first | exact Nat.le_of_ble_eq_true rfl | (simp only [rm_X2_readBuilt]; omega) | omega)⟩ (fun r L_340 f_341 n_343 H locs hw_342 hn_344 hP hD hS hT hE1 => ?_)
      have hF := Fr.call hF hE hw_342.2.1 (by decide)
      have hE := hE.tr hE1
      obtain ⟨⟨v_345, rfl, hv9⟩, hw_342⟩ := hw_342
      rcases hv9 with rfl | ⟨b_346, rfl, hb9⟩
      · obtain ⟨hfr_347, tn_348, fa_349, sg_350, hk_351, hk_352, hk_353, hrel_354, hrel_355, hrel_356⟩ := hw_342
        have hq_358 : n_343 + pot fa_349 sg_350 ≤ pot fa_332 sg_308 := by
          obtain ⟨a9, b9, g1, g2, g3⟩ := hn_344
          cases g1.symm.trans hk_352
          cases g2.symm.trans hk_353
          exact g3
        refine W.eq (g2 := F0 m 155 ls [.null, .ref o]) rfl ?_
        have hTo := hT
        refine T_put (ci := 5) (v := .null) (ty := .object "VatHouse$Step") (t := (2, 0, 5, 0)) (C := RX5) (T := TX5) (N := 8) hx hb hts inw_X2_readBuilt_5 tyX5 tyX5_ok nmX5 hown hK hP hD hS hT 1 rfl rfl 6 (by decide) (hts (.fieldLink RX2 91 "VatHouse$Step" "other" "LVatHouse$Step;") (by decide +kernel)) (fun _ h9 => h9) rfl (by decide +kernel) rfl rfl rfl (Or.inl rfl) dX2_readBuilt_155 (fun f_359 H locs hP hD hS hT hE1 hrd_360 => ?_)
        have hF := Fr.put (a := o) (ci := 5) hF hE ((hE1 o (hT.at 1 rfl).1).2.symm.trans (hT.at 1 rfl).2) (by decide) hrd_360
        have hE := hE.tr hE1
        have hk_361 : rd f_359 h0 2 = .int tn_348 := ((Fr.put (cs := [(5, 6)]) (a := o) (ci := 5) Fr.rf Ext.rf (hTo.at 1 rfl).2 (by decide) hrd_360) h0 (hTo.at 0 rfl).1 2 (hTo.at 0 rfl).2 2 (by decide)).trans hk_351
        have hk_362 : rd f_359 h0 3 = .int fa_349 := ((Fr.put (cs := [(5, 6)]) (a := o) (ci := 5) Fr.rf Ext.rf (hTo.at 1 rfl).2 (by decide) hrd_360) h0 (hTo.at 0 rfl).1 2 (hTo.at 0 rfl).2 3 (by decide)).trans hk_352
        have hk_363 : rd f_359 h0 5 = .int sg_350 := ((Fr.put (cs := [(5, 6)]) (a := o) (ci := 5) Fr.rf Ext.rf (hTo.at 1 rfl).2 (by decide) hrd_360) h0 (hTo.at 0 rfl).1 2 (hTo.at 0 rfl).2 5 (by decide)).trans hk_353
        exact K_vZ hx hb hr hlocks hP hD hK hS hT hE ⟨rfl, hF, _, _, _, hk_361, hk_362, hk_363, trivial, trivial, hrel_356⟩ (⟨_, _, hk_362, hk_363, by omega⟩) (by first | exact Nat.le_of_ble_eq_true rfl | (simp only [rm_X2_readBuilt]; omega) | omega) (by first | exact Nat.le_of_ble_eq_true rfl | (simp only [rm_X2_readBuilt]; omega) | omega) (by first | exact Nat.le_of_ble_eq_true rfl | (simp only [rm_X2_readBuilt]; omega) | omega) dX2_readBuilt_158
      · have hT := hT.add hb9
        obtain ⟨hfr_364, tn_365, fa_366, sg_367, hk_368, hk_369, hk_370, hrel_371, hrel_372, hrel_373⟩ := hw_342
        have hq_375 : n_343 + pot fa_366 sg_367 ≤ pot fa_332 sg_308 := by
          obtain ⟨a9, b9, g1, g2, g3⟩ := hn_344
          cases g1.symm.trans hk_369
          cases g2.symm.trans hk_370
          exact g3
        refine W.eq (g2 := F0 m 155 ls [.ref b_346, .ref o]) rfl ?_
        have hTo := hT
        refine T_put (ci := 5) (v := .ref b_346) (ty := .object "VatHouse$Step") (t := (2, 0, 5, 0)) (C := RX5) (T := TX5) (N := 8) hx hb hts inw_X2_readBuilt_5 tyX5 tyX5_ok nmX5 hown hK hP hD hS hT 2 rfl rfl 6 (by decide) (hts (.fieldLink RX2 91 "VatHouse$Step" "other" "LVatHouse$Step;") (by decide +kernel)) (fun _ h9 => h9) rfl (by decide +kernel) rfl rfl rfl (Or.inr ⟨_, rfl, hT.at 0 rfl⟩) dX2_readBuilt_155 (fun f_376 H locs hP hD hS hT hE1 hrd_377 => ?_)
        have hF := Fr.put (a := o) (ci := 5) hF hE ((hE1 o (hT.at 2 rfl).1).2.symm.trans (hT.at 2 rfl).2) (by decide) hrd_377
        have hE := hE.tr hE1
        have hk_378 : rd f_376 h0 2 = .int tn_365 := ((Fr.put (cs := [(5, 6)]) (a := o) (ci := 5) Fr.rf Ext.rf (hTo.at 2 rfl).2 (by decide) hrd_377) h0 (hTo.at 1 rfl).1 2 (hTo.at 1 rfl).2 2 (by decide)).trans hk_368
        have hk_379 : rd f_376 h0 3 = .int fa_366 := ((Fr.put (cs := [(5, 6)]) (a := o) (ci := 5) Fr.rf Ext.rf (hTo.at 2 rfl).2 (by decide) hrd_377) h0 (hTo.at 1 rfl).1 2 (hTo.at 1 rfl).2 3 (by decide)).trans hk_369
        have hk_380 : rd f_376 h0 5 = .int sg_367 := ((Fr.put (cs := [(5, 6)]) (a := o) (ci := 5) Fr.rf Ext.rf (hTo.at 2 rfl).2 (by decide) hrd_377) h0 (hTo.at 1 rfl).1 2 (hTo.at 1 rfl).2 5 (by decide)).trans hk_370
        exact K_vZ hx hb hr hlocks hP hD hK hS hT hE ⟨rfl, hF, _, _, _, hk_378, hk_379, hk_380, trivial, trivial, hrel_373⟩ (⟨_, _, hk_379, hk_380, by omega⟩) (by first | exact Nat.le_of_ble_eq_true rfl | (simp only [rm_X2_readBuilt]; omega) | omega) (by first | exact Nat.le_of_ble_eq_true rfl | (simp only [rm_X2_readBuilt]; omega) | omega) (by first | exact Nat.le_of_ble_eq_true rfl | (simp only [rm_X2_readBuilt]; omega) | omega) dX2_readBuilt_158
    · refine lv_bipush (v := 13) hx hb dX2_readBuilt_139 (by decide) ?_
      refine lv_goto (tgt := 146) hx hb dX2_readBuilt_141 (by decide) ?_
      have hTo := hT
      refine K_V ⟨hx, hb, hml, hown, hts⟩ (t_X2_pass l dC dI sa hlt g _ _ h0 13 tn_306 fa_307 _ (hT.sub [0] rfl)  hk_319 hk_320 ) (cwV 1 hts gX2_readBuilt_X2_pass rfl rfl rfl (by decide +kernel) ⟨(by first | exact Nat.le_of_ble_eq_true rfl | (simp only [rm_X2_pass, rm_X2_readBuilt]; omega)), (by first | exact Nat.le_of_ble_eq_true rfl | (simp only [rm_X2_pass, rm_X2_readBuilt]; omega))⟩) hP hD hK hS hA hev hT 0 2 rfl rfl rfl rfl hl.1 rfl (Nat.le_of_ble_eq_true rfl) dX2_readBuilt_146 ⟨(by first | exact Nat.le_of_ble_eq_true rfl | (simp only [rm_X2_readBuilt]; omega) | omega), (by first | exact Nat.le_of_ble_eq_true rfl | (simp only [rm_X2_readBuilt]; omega) | omega)⟩ (fun r L_381 f_382 H locs hw_383 hP hD hS hT hE1 => ?_)
      have hF := Fr.call hF hE hw_383.2.1 (by decide)
      have hE := hE.tr hE1
      obtain ⟨rfl, hw_383⟩ := hw_383
      obtain ⟨hfr_384, tn_385, fa_386, hk_387, hk_388, hrel_389, hrel_390⟩ := hw_383
      have hk_392 : rd f_382 h0 5 = .int sg_308 := (hfr_384 h0 (hTo.at 0 rfl).1 2 (hTo.at 0 rfl).2 5 (by decide)).trans hk_321
      have hq_393 : pot fa_386 sg_308 ≤ pot fa_307 sg_308 := pot_le (fun h9 => (hrel_390 h9).1)
      refine W.eq (g2 := F0 m 149 ls []) rfl ?_
      refine lv_aload_n hx hb dX2_readBuilt_149 rfl (lv_at hl 1 rfl) ?_
      refine lv_aload_n hx hb dX2_readBuilt_150 rfl (lv_at hl 0 rfl) ?_
      refine lv_iload_n hx hb dX2_readBuilt_151 rfl (lv_at hl 2 rfl) ?_
      have hTo := hT
      refine K_VZ ⟨hx, hb, hml, hown, hts⟩ (t_X2_readBlock l dC dI sa hlt g _ _ j d (pot fa_386 sg_308) h0 dep tn_385 fa_386 sg_308 _ (hT.sub [0] rfl)  hk_387 hk_388 hk_392 hd hdj rfl hrel_314 IHR) (cwV 1 hts gX2_readBuilt_X2_readBlock rfl rfl rfl (by decide +kernel) ⟨(by first | exact Nat.le_of_ble_eq_true rfl | (simp only [rm_X2_readBlock, rm_X2_readBuilt]; omega)), (by first | exact Nat.le_of_ble_eq_true rfl | (simp only [rm_X2_readBlock, rm_X2_readBuilt]; omega))⟩) hP hD hK hS hA hev hT 0 2 rfl rfl rfl rfl hl.1 rfl (Nat.le_of_ble_eq_true rfl) dX2_readBuilt_152 ⟨(by first | exact Nat.le_of_ble_eq_true rfl | (simp only [rm_X2_readBuilt]; omega) | omega), (by first | exact Nat.le_of_ble_eq_true rfl | (simp only [rm_X2_readBuilt]; omega) | omega)⟩ (fun r L_394 f_395 n_397 H locs hw_396 hn_398 hP hD hS hT hE1 => ?_)
      have hF := Fr.call hF hE hw_396.2.1 (by decide)
      have hE := hE.tr hE1
      obtain ⟨⟨v_399, rfl, hv9⟩, hw_396⟩ := hw_396
      rcases hv9 with rfl | ⟨b_400, rfl, hb9⟩
      · obtain ⟨hfr_401, tn_402, fa_403, sg_404, hk_405, hk_406, hk_407, hrel_408, hrel_409, hrel_410⟩ := hw_396
        have hq_412 : n_397 + pot fa_403 sg_404 ≤ pot fa_386 sg_308 := by
          obtain ⟨a9, b9, g1, g2, g3⟩ := hn_398
          cases g1.symm.trans hk_406
          cases g2.symm.trans hk_407
          exact g3
        refine W.eq (g2 := F0 m 155 ls [.null, .ref o]) rfl ?_
        have hTo := hT
        refine T_put (ci := 5) (v := .null) (ty := .object "VatHouse$Step") (t := (2, 0, 5, 0)) (C := RX5) (T := TX5) (N := 8) hx hb hts inw_X2_readBuilt_5 tyX5 tyX5_ok nmX5 hown hK hP hD hS hT 1 rfl rfl 6 (by decide) (hts (.fieldLink RX2 91 "VatHouse$Step" "other" "LVatHouse$Step;") (by decide +kernel)) (fun _ h9 => h9) rfl (by decide +kernel) rfl rfl rfl (Or.inl rfl) dX2_readBuilt_155 (fun f_413 H locs hP hD hS hT hE1 hrd_414 => ?_)
        have hF := Fr.put (a := o) (ci := 5) hF hE ((hE1 o (hT.at 1 rfl).1).2.symm.trans (hT.at 1 rfl).2) (by decide) hrd_414
        have hE := hE.tr hE1
        have hk_415 : rd f_413 h0 2 = .int tn_402 := ((Fr.put (cs := [(5, 6)]) (a := o) (ci := 5) Fr.rf Ext.rf (hTo.at 1 rfl).2 (by decide) hrd_414) h0 (hTo.at 0 rfl).1 2 (hTo.at 0 rfl).2 2 (by decide)).trans hk_405
        have hk_416 : rd f_413 h0 3 = .int fa_403 := ((Fr.put (cs := [(5, 6)]) (a := o) (ci := 5) Fr.rf Ext.rf (hTo.at 1 rfl).2 (by decide) hrd_414) h0 (hTo.at 0 rfl).1 2 (hTo.at 0 rfl).2 3 (by decide)).trans hk_406
        have hk_417 : rd f_413 h0 5 = .int sg_404 := ((Fr.put (cs := [(5, 6)]) (a := o) (ci := 5) Fr.rf Ext.rf (hTo.at 1 rfl).2 (by decide) hrd_414) h0 (hTo.at 0 rfl).1 2 (hTo.at 0 rfl).2 5 (by decide)).trans hk_407
        exact K_vZ hx hb hr hlocks hP hD hK hS hT hE ⟨rfl, hF, _, _, _, hk_415, hk_416, hk_417, trivial, trivial, hrel_410⟩ (⟨_, _, hk_416, hk_417, by omega⟩) (by first | exact Nat.le_of_ble_eq_true rfl | (simp only [rm_X2_readBuilt]; omega) | omega) (by first | exact Nat.le_of_ble_eq_true rfl | (simp only [rm_X2_readBuilt]; omega) | omega) (by first | exact Nat.le_of_ble_eq_true rfl | (simp only [rm_X2_readBuilt]; omega) | omega) dX2_readBuilt_158
      · have hT := hT.add hb9
        obtain ⟨hfr_418, tn_419, fa_420, sg_421, hk_422, hk_423, hk_424, hrel_425, hrel_426, hrel_427⟩ := hw_396
        have hq_429 : n_397 + pot fa_420 sg_421 ≤ pot fa_386 sg_308 := by
          obtain ⟨a9, b9, g1, g2, g3⟩ := hn_398
          cases g1.symm.trans hk_423
          cases g2.symm.trans hk_424
          exact g3
        refine W.eq (g2 := F0 m 155 ls [.ref b_400, .ref o]) rfl ?_
        have hTo := hT
        refine T_put (ci := 5) (v := .ref b_400) (ty := .object "VatHouse$Step") (t := (2, 0, 5, 0)) (C := RX5) (T := TX5) (N := 8) hx hb hts inw_X2_readBuilt_5 tyX5 tyX5_ok nmX5 hown hK hP hD hS hT 2 rfl rfl 6 (by decide) (hts (.fieldLink RX2 91 "VatHouse$Step" "other" "LVatHouse$Step;") (by decide +kernel)) (fun _ h9 => h9) rfl (by decide +kernel) rfl rfl rfl (Or.inr ⟨_, rfl, hT.at 0 rfl⟩) dX2_readBuilt_155 (fun f_430 H locs hP hD hS hT hE1 hrd_431 => ?_)
        have hF := Fr.put (a := o) (ci := 5) hF hE ((hE1 o (hT.at 2 rfl).1).2.symm.trans (hT.at 2 rfl).2) (by decide) hrd_431
        have hE := hE.tr hE1
        have hk_432 : rd f_430 h0 2 = .int tn_419 := ((Fr.put (cs := [(5, 6)]) (a := o) (ci := 5) Fr.rf Ext.rf (hTo.at 2 rfl).2 (by decide) hrd_431) h0 (hTo.at 1 rfl).1 2 (hTo.at 1 rfl).2 2 (by decide)).trans hk_422
        have hk_433 : rd f_430 h0 3 = .int fa_420 := ((Fr.put (cs := [(5, 6)]) (a := o) (ci := 5) Fr.rf Ext.rf (hTo.at 2 rfl).2 (by decide) hrd_431) h0 (hTo.at 1 rfl).1 2 (hTo.at 1 rfl).2 3 (by decide)).trans hk_423
        have hk_434 : rd f_430 h0 5 = .int sg_421 := ((Fr.put (cs := [(5, 6)]) (a := o) (ci := 5) Fr.rf Ext.rf (hTo.at 2 rfl).2 (by decide) hrd_431) h0 (hTo.at 1 rfl).1 2 (hTo.at 1 rfl).2 5 (by decide)).trans hk_424
        exact K_vZ hx hb hr hlocks hP hD hK hS hT hE ⟨rfl, hF, _, _, _, hk_432, hk_433, hk_434, trivial, trivial, hrel_427⟩ (⟨_, _, hk_433, hk_434, by omega⟩) (by first | exact Nat.le_of_ble_eq_true rfl | (simp only [rm_X2_readBuilt]; omega) | omega) (by first | exact Nat.le_of_ble_eq_true rfl | (simp only [rm_X2_readBuilt]; omega) | omega) (by first | exact Nat.le_of_ble_eq_true rfl | (simp only [rm_X2_readBuilt]; omega) | omega) dX2_readBuilt_158
  · have hT := hT.add hb9
    obtain ⟨hfr_435, tn_436, fa_437, sg_438, hk_439, hk_440, hk_441, hrel_442, hrel_443, hrel_444⟩ := hw_300
    have hq_446 : n_301 + pot fa_437 sg_438 ≤ pot fa sg := by
      obtain ⟨a9, b9, g1, g2, g3⟩ := hn_302
      cases g1.symm.trans hk_440
      cases g2.symm.trans hk_441
      exact g3
    refine W.eq (g2 := F0 m 126 ls [.ref b_304, .ref o]) rfl ?_
    have hTo := hT
    refine T_put (ci := 5) (v := .ref b_304) (ty := .object "VatHouse$Step") (t := (2, 0, 5, 0)) (C := RX5) (T := TX5) (N := 8) hx hb hts inw_X2_readBuilt_5 tyX5 tyX5_ok nmX5 hown hK hP hD hS hT 2 rfl rfl 5 (by decide) (hts (.fieldLink RX2 85 "VatHouse$Step" "block" "LVatHouse$Step;") (by decide +kernel)) (fun _ h9 => h9) rfl (by decide +kernel) rfl rfl rfl (Or.inr ⟨_, rfl, hT.at 0 rfl⟩) dX2_readBuilt_126 (fun f_447 H locs hP hD hS hT hE1 hrd_448 => ?_)
    have hF := Fr.put (a := o) (ci := 5) hF hE ((hE1 o (hT.at 2 rfl).1).2.symm.trans (hT.at 2 rfl).2) (by decide) hrd_448
    have hE := hE.tr hE1
    have hk_449 : rd f_447 h0 2 = .int tn_436 := ((Fr.put (cs := [(5, 5)]) (a := o) (ci := 5) Fr.rf Ext.rf (hTo.at 2 rfl).2 (by decide) hrd_448) h0 (hTo.at 1 rfl).1 2 (hTo.at 1 rfl).2 2 (by decide)).trans hk_439
    have hk_450 : rd f_447 h0 3 = .int fa_437 := ((Fr.put (cs := [(5, 5)]) (a := o) (ci := 5) Fr.rf Ext.rf (hTo.at 2 rfl).2 (by decide) hrd_448) h0 (hTo.at 1 rfl).1 2 (hTo.at 1 rfl).2 3 (by decide)).trans hk_440
    have hk_451 : rd f_447 h0 5 = .int sg_438 := ((Fr.put (cs := [(5, 5)]) (a := o) (ci := 5) Fr.rf Ext.rf (hTo.at 2 rfl).2 (by decide) hrd_448) h0 (hTo.at 1 rfl).1 2 (hTo.at 1 rfl).2 5 (by decide)).trans hk_441
    refine lv_aload_n hx hb dX2_readBuilt_129 rfl (lv_at hl 0 rfl) ?_
    refine lv_aload_n hx hb dX2_readBuilt_130 rfl (lv_at hl 1 rfl) ?_
    refine T_get (ci := 5) (C := RX5) (T := TX5) (N := 8) (t := tI) hx hb hts inw_X2_readBuilt_5 hown hK hP hT 2 rfl rfl 0 (by decide) (hts (.fieldLink RX2 61 "VatHouse$Step" "word" "I") (by decide +kernel)) (fun _ h9 => h9) rfl dX2_readBuilt_131 (fun v_454 hv_452 hr_453 => ?_)
    obtain ⟨z_455, rfl⟩ := hv_452
    refine lv_bipush (v := 11) hx hb dX2_readBuilt_134 (by decide) ?_
    refine lv_icmp_ne (tgt := 144) hx hb dX2_readBuilt_136 (by decide) (fun c_456 => ?_) (fun c_456 => ?_)
    · refine lv_bipush (v := 14) hx hb dX2_readBuilt_144 (by decide) ?_
      have hTo := hT
      refine K_V ⟨hx, hb, hml, hown, hts⟩ (t_X2_pass l dC dI sa hlt g _ _ h0 14 tn_436 fa_437 _ (hT.sub [1] rfl)  hk_449 hk_450 ) (cwV 1 hts gX2_readBuilt_X2_pass rfl rfl rfl (by decide +kernel) ⟨(by first | exact Nat.le_of_ble_eq_true rfl | (simp only [rm_X2_pass, rm_X2_readBuilt]; omega)), (by first | exact Nat.le_of_ble_eq_true rfl | (simp only [rm_X2_pass, rm_X2_readBuilt]; omega))⟩) hP hD hK hS hA hev hT 1 2 rfl rfl rfl rfl hl.1 rfl (Nat.le_of_ble_eq_true rfl) dX2_readBuilt_146 ⟨(by first | exact Nat.le_of_ble_eq_true rfl | (simp only [rm_X2_readBuilt]; omega) | omega), (by first | exact Nat.le_of_ble_eq_true rfl | (simp only [rm_X2_readBuilt]; omega) | omega)⟩ (fun r L_457 f_458 H locs hw_459 hP hD hS hT hE1 => ?_)
      have hF := Fr.call hF hE hw_459.2.1 (by decide)
      have hE := hE.tr hE1
      obtain ⟨rfl, hw_459⟩ := hw_459
      obtain ⟨hfr_460, tn_461, fa_462, hk_463, hk_464, hrel_465, hrel_466⟩ := hw_459
      have hk_468 : rd f_458 h0 5 = .int sg_438 := (hfr_460 h0 (hTo.at 1 rfl).1 2 (hTo.at 1 rfl).2 5 (by decide)).trans hk_451
      have hq_469 : pot fa_462 sg_438 ≤ pot fa_437 sg_438 := pot_le (fun h9 => (hrel_466 h9).1)
      refine W.eq (g2 := F0 m 149 ls []) rfl ?_
      refine lv_aload_n hx hb dX2_readBuilt_149 rfl (lv_at hl 1 rfl) ?_
      refine lv_aload_n hx hb dX2_readBuilt_150 rfl (lv_at hl 0 rfl) ?_
      refine lv_iload_n hx hb dX2_readBuilt_151 rfl (lv_at hl 2 rfl) ?_
      have hTo := hT
      refine K_VZ ⟨hx, hb, hml, hown, hts⟩ (t_X2_readBlock l dC dI sa hlt g _ _ j d (pot fa_462 sg_438) h0 dep tn_461 fa_462 sg_438 _ (hT.sub [1] rfl)  hk_463 hk_464 hk_468 hd hdj rfl hrel_444 IHR) (cwV 1 hts gX2_readBuilt_X2_readBlock rfl rfl rfl (by decide +kernel) ⟨(by first | exact Nat.le_of_ble_eq_true rfl | (simp only [rm_X2_readBlock, rm_X2_readBuilt]; omega)), (by first | exact Nat.le_of_ble_eq_true rfl | (simp only [rm_X2_readBlock, rm_X2_readBuilt]; omega))⟩) hP hD hK hS hA hev hT 1 2 rfl rfl rfl rfl hl.1 rfl (Nat.le_of_ble_eq_true rfl) dX2_readBuilt_152 ⟨(by first | exact Nat.le_of_ble_eq_true rfl | (simp only [rm_X2_readBuilt]; omega) | omega), (by first | exact Nat.le_of_ble_eq_true rfl | (simp only [rm_X2_readBuilt]; omega) | omega)⟩ (fun r L_470 f_471 n_473 H locs hw_472 hn_474 hP hD hS hT hE1 => ?_)
      have hF := Fr.call hF hE hw_472.2.1 (by decide)
      have hE := hE.tr hE1
      obtain ⟨⟨v_475, rfl, hv9⟩, hw_472⟩ := hw_472
      rcases hv9 with rfl | ⟨b_476, rfl, hb9⟩
      · obtain ⟨hfr_477, tn_478, fa_479, sg_480, hk_481, hk_482, hk_483, hrel_484, hrel_485, hrel_486⟩ := hw_472
        have hq_488 : n_473 + pot fa_479 sg_480 ≤ pot fa_462 sg_438 := by
          obtain ⟨a9, b9, g1, g2, g3⟩ := hn_474
          cases g1.symm.trans hk_482
          cases g2.symm.trans hk_483
          exact g3
        refine W.eq (g2 := F0 m 155 ls [.null, .ref o]) rfl ?_
        have hTo := hT
        refine T_put (ci := 5) (v := .null) (ty := .object "VatHouse$Step") (t := (2, 0, 5, 0)) (C := RX5) (T := TX5) (N := 8) hx hb hts inw_X2_readBuilt_5 tyX5 tyX5_ok nmX5 hown hK hP hD hS hT 2 rfl rfl 6 (by decide) (hts (.fieldLink RX2 91 "VatHouse$Step" "other" "LVatHouse$Step;") (by decide +kernel)) (fun _ h9 => h9) rfl (by decide +kernel) rfl rfl rfl (Or.inl rfl) dX2_readBuilt_155 (fun f_489 H locs hP hD hS hT hE1 hrd_490 => ?_)
        have hF := Fr.put (a := o) (ci := 5) hF hE ((hE1 o (hT.at 2 rfl).1).2.symm.trans (hT.at 2 rfl).2) (by decide) hrd_490
        have hE := hE.tr hE1
        have hk_491 : rd f_489 h0 2 = .int tn_478 := ((Fr.put (cs := [(5, 6)]) (a := o) (ci := 5) Fr.rf Ext.rf (hTo.at 2 rfl).2 (by decide) hrd_490) h0 (hTo.at 1 rfl).1 2 (hTo.at 1 rfl).2 2 (by decide)).trans hk_481
        have hk_492 : rd f_489 h0 3 = .int fa_479 := ((Fr.put (cs := [(5, 6)]) (a := o) (ci := 5) Fr.rf Ext.rf (hTo.at 2 rfl).2 (by decide) hrd_490) h0 (hTo.at 1 rfl).1 2 (hTo.at 1 rfl).2 3 (by decide)).trans hk_482
        have hk_493 : rd f_489 h0 5 = .int sg_480 := ((Fr.put (cs := [(5, 6)]) (a := o) (ci := 5) Fr.rf Ext.rf (hTo.at 2 rfl).2 (by decide) hrd_490) h0 (hTo.at 1 rfl).1 2 (hTo.at 1 rfl).2 5 (by decide)).trans hk_483
        exact K_vZ hx hb hr hlocks hP hD hK hS hT hE ⟨rfl, hF, _, _, _, hk_491, hk_492, hk_493, trivial, trivial, hrel_486⟩ (⟨_, _, hk_492, hk_493, by omega⟩) (by first | exact Nat.le_of_ble_eq_true rfl | (simp only [rm_X2_readBuilt]; omega) | omega) (by first | exact Nat.le_of_ble_eq_true rfl | (simp only [rm_X2_readBuilt]; omega) | omega) (by first | exact Nat.le_of_ble_eq_true rfl | (simp only [rm_X2_readBuilt]; omega) | omega) dX2_readBuilt_158
      · have hT := hT.add hb9
        obtain ⟨hfr_494, tn_495, fa_496, sg_497, hk_498, hk_499, hk_500, hrel_501, hrel_502, hrel_503⟩ := hw_472
        have hq_505 : n_473 + pot fa_496 sg_497 ≤ pot fa_462 sg_438 := by
          obtain ⟨a9, b9, g1, g2, g3⟩ := hn_474
          cases g1.symm.trans hk_499
          cases g2.symm.trans hk_500
          exact g3
        refine W.eq (g2 := F0 m 155 ls [.ref b_476, .ref o]) rfl ?_
        have hTo := hT
        refine T_put (ci := 5) (v := .ref b_476) (ty := .object "VatHouse$Step") (t := (2, 0, 5, 0)) (C := RX5) (T := TX5) (N := 8) hx hb hts inw_X2_readBuilt_5 tyX5 tyX5_ok nmX5 hown hK hP hD hS hT 3 rfl rfl 6 (by decide) (hts (.fieldLink RX2 91 "VatHouse$Step" "other" "LVatHouse$Step;") (by decide +kernel)) (fun _ h9 => h9) rfl (by decide +kernel) rfl rfl rfl (Or.inr ⟨_, rfl, hT.at 0 rfl⟩) dX2_readBuilt_155 (fun f_506 H locs hP hD hS hT hE1 hrd_507 => ?_)
        have hF := Fr.put (a := o) (ci := 5) hF hE ((hE1 o (hT.at 3 rfl).1).2.symm.trans (hT.at 3 rfl).2) (by decide) hrd_507
        have hE := hE.tr hE1
        have hk_508 : rd f_506 h0 2 = .int tn_495 := ((Fr.put (cs := [(5, 6)]) (a := o) (ci := 5) Fr.rf Ext.rf (hTo.at 3 rfl).2 (by decide) hrd_507) h0 (hTo.at 2 rfl).1 2 (hTo.at 2 rfl).2 2 (by decide)).trans hk_498
        have hk_509 : rd f_506 h0 3 = .int fa_496 := ((Fr.put (cs := [(5, 6)]) (a := o) (ci := 5) Fr.rf Ext.rf (hTo.at 3 rfl).2 (by decide) hrd_507) h0 (hTo.at 2 rfl).1 2 (hTo.at 2 rfl).2 3 (by decide)).trans hk_499
        have hk_510 : rd f_506 h0 5 = .int sg_497 := ((Fr.put (cs := [(5, 6)]) (a := o) (ci := 5) Fr.rf Ext.rf (hTo.at 3 rfl).2 (by decide) hrd_507) h0 (hTo.at 2 rfl).1 2 (hTo.at 2 rfl).2 5 (by decide)).trans hk_500
        exact K_vZ hx hb hr hlocks hP hD hK hS hT hE ⟨rfl, hF, _, _, _, hk_508, hk_509, hk_510, trivial, trivial, hrel_503⟩ (⟨_, _, hk_509, hk_510, by omega⟩) (by first | exact Nat.le_of_ble_eq_true rfl | (simp only [rm_X2_readBuilt]; omega) | omega) (by first | exact Nat.le_of_ble_eq_true rfl | (simp only [rm_X2_readBuilt]; omega) | omega) (by first | exact Nat.le_of_ble_eq_true rfl | (simp only [rm_X2_readBuilt]; omega) | omega) dX2_readBuilt_158
    · refine lv_bipush (v := 13) hx hb dX2_readBuilt_139 (by decide) ?_
      refine lv_goto (tgt := 146) hx hb dX2_readBuilt_141 (by decide) ?_
      have hTo := hT
      refine K_V ⟨hx, hb, hml, hown, hts⟩ (t_X2_pass l dC dI sa hlt g _ _ h0 13 tn_436 fa_437 _ (hT.sub [1] rfl)  hk_449 hk_450 ) (cwV 1 hts gX2_readBuilt_X2_pass rfl rfl rfl (by decide +kernel) ⟨(by first | exact Nat.le_of_ble_eq_true rfl | (simp only [rm_X2_pass, rm_X2_readBuilt]; omega)), (by first | exact Nat.le_of_ble_eq_true rfl | (simp only [rm_X2_pass, rm_X2_readBuilt]; omega))⟩) hP hD hK hS hA hev hT 1 2 rfl rfl rfl rfl hl.1 rfl (Nat.le_of_ble_eq_true rfl) dX2_readBuilt_146 ⟨(by first | exact Nat.le_of_ble_eq_true rfl | (simp only [rm_X2_readBuilt]; omega) | omega), (by first | exact Nat.le_of_ble_eq_true rfl | (simp only [rm_X2_readBuilt]; omega) | omega)⟩ (fun r L_511 f_512 H locs hw_513 hP hD hS hT hE1 => ?_)
      have hF := Fr.call hF hE hw_513.2.1 (by decide)
      have hE := hE.tr hE1
      obtain ⟨rfl, hw_513⟩ := hw_513
      obtain ⟨hfr_514, tn_515, fa_516, hk_517, hk_518, hrel_519, hrel_520⟩ := hw_513
      have hk_522 : rd f_512 h0 5 = .int sg_438 := (hfr_514 h0 (hTo.at 1 rfl).1 2 (hTo.at 1 rfl).2 5 (by decide)).trans hk_451
      have hq_523 : pot fa_516 sg_438 ≤ pot fa_437 sg_438 := pot_le (fun h9 => (hrel_520 h9).1)
      refine W.eq (g2 := F0 m 149 ls []) rfl ?_
      refine lv_aload_n hx hb dX2_readBuilt_149 rfl (lv_at hl 1 rfl) ?_
      refine lv_aload_n hx hb dX2_readBuilt_150 rfl (lv_at hl 0 rfl) ?_
      refine lv_iload_n hx hb dX2_readBuilt_151 rfl (lv_at hl 2 rfl) ?_
      have hTo := hT
      refine K_VZ ⟨hx, hb, hml, hown, hts⟩ (t_X2_readBlock l dC dI sa hlt g _ _ j d (pot fa_516 sg_438) h0 dep tn_515 fa_516 sg_438 _ (hT.sub [1] rfl)  hk_517 hk_518 hk_522 hd hdj rfl hrel_444 IHR) (cwV 1 hts gX2_readBuilt_X2_readBlock rfl rfl rfl (by decide +kernel) ⟨(by first | exact Nat.le_of_ble_eq_true rfl | (simp only [rm_X2_readBlock, rm_X2_readBuilt]; omega)), (by first | exact Nat.le_of_ble_eq_true rfl | (simp only [rm_X2_readBlock, rm_X2_readBuilt]; omega))⟩) hP hD hK hS hA hev hT 1 2 rfl rfl rfl rfl hl.1 rfl (Nat.le_of_ble_eq_true rfl) dX2_readBuilt_152 ⟨(by first | exact Nat.le_of_ble_eq_true rfl | (simp only [rm_X2_readBuilt]; omega) | omega), (by first | exact Nat.le_of_ble_eq_true rfl | (simp only [rm_X2_readBuilt]; omega) | omega)⟩ (fun r L_524 f_525 n_527 H locs hw_526 hn_528 hP hD hS hT hE1 => ?_)
      have hF := Fr.call hF hE hw_526.2.1 (by decide)
      have hE := hE.tr hE1
      obtain ⟨⟨v_529, rfl, hv9⟩, hw_526⟩ := hw_526
      rcases hv9 with rfl | ⟨b_530, rfl, hb9⟩
      · obtain ⟨hfr_531, tn_532, fa_533, sg_534, hk_535, hk_536, hk_537, hrel_538, hrel_539, hrel_540⟩ := hw_526
        have hq_542 : n_527 + pot fa_533 sg_534 ≤ pot fa_516 sg_438 := by
          obtain ⟨a9, b9, g1, g2, g3⟩ := hn_528
          cases g1.symm.trans hk_536
          cases g2.symm.trans hk_537
          exact g3
        refine W.eq (g2 := F0 m 155 ls [.null, .ref o]) rfl ?_
        have hTo := hT
        refine T_put (ci := 5) (v := .null) (ty := .object "VatHouse$Step") (t := (2, 0, 5, 0)) (C := RX5) (T := TX5) (N := 8) hx hb hts inw_X2_readBuilt_5 tyX5 tyX5_ok nmX5 hown hK hP hD hS hT 2 rfl rfl 6 (by decide) (hts (.fieldLink RX2 91 "VatHouse$Step" "other" "LVatHouse$Step;") (by decide +kernel)) (fun _ h9 => h9) rfl (by decide +kernel) rfl rfl rfl (Or.inl rfl) dX2_readBuilt_155 (fun f_543 H locs hP hD hS hT hE1 hrd_544 => ?_)
        have hF := Fr.put (a := o) (ci := 5) hF hE ((hE1 o (hT.at 2 rfl).1).2.symm.trans (hT.at 2 rfl).2) (by decide) hrd_544
        have hE := hE.tr hE1
        have hk_545 : rd f_543 h0 2 = .int tn_532 := ((Fr.put (cs := [(5, 6)]) (a := o) (ci := 5) Fr.rf Ext.rf (hTo.at 2 rfl).2 (by decide) hrd_544) h0 (hTo.at 1 rfl).1 2 (hTo.at 1 rfl).2 2 (by decide)).trans hk_535
        have hk_546 : rd f_543 h0 3 = .int fa_533 := ((Fr.put (cs := [(5, 6)]) (a := o) (ci := 5) Fr.rf Ext.rf (hTo.at 2 rfl).2 (by decide) hrd_544) h0 (hTo.at 1 rfl).1 2 (hTo.at 1 rfl).2 3 (by decide)).trans hk_536
        have hk_547 : rd f_543 h0 5 = .int sg_534 := ((Fr.put (cs := [(5, 6)]) (a := o) (ci := 5) Fr.rf Ext.rf (hTo.at 2 rfl).2 (by decide) hrd_544) h0 (hTo.at 1 rfl).1 2 (hTo.at 1 rfl).2 5 (by decide)).trans hk_537
        exact K_vZ hx hb hr hlocks hP hD hK hS hT hE ⟨rfl, hF, _, _, _, hk_545, hk_546, hk_547, trivial, trivial, hrel_540⟩ (⟨_, _, hk_546, hk_547, by omega⟩) (by first | exact Nat.le_of_ble_eq_true rfl | (simp only [rm_X2_readBuilt]; omega) | omega) (by first | exact Nat.le_of_ble_eq_true rfl | (simp only [rm_X2_readBuilt]; omega) | omega) (by first | exact Nat.le_of_ble_eq_true rfl | (simp only [rm_X2_readBuilt]; omega) | omega) dX2_readBuilt_158
      · have hT := hT.add hb9
        obtain ⟨hfr_548, tn_549, fa_550, sg_551, hk_552, hk_553, hk_554, hrel_555, hrel_556, hrel_557⟩ := hw_526
        have hq_559 : n_527 + pot fa_550 sg_551 ≤ pot fa_516 sg_438 := by
          obtain ⟨a9, b9, g1, g2, g3⟩ := hn_528
          cases g1.symm.trans hk_553
          cases g2.symm.trans hk_554
          exact g3
        refine W.eq (g2 := F0 m 155 ls [.ref b_530, .ref o]) rfl ?_
        have hTo := hT
        refine T_put (ci := 5) (v := .ref b_530) (ty := .object "VatHouse$Step") (t := (2, 0, 5, 0)) (C := RX5) (T := TX5) (N := 8) hx hb hts inw_X2_readBuilt_5 tyX5 tyX5_ok nmX5 hown hK hP hD hS hT 3 rfl rfl 6 (by decide) (hts (.fieldLink RX2 91 "VatHouse$Step" "other" "LVatHouse$Step;") (by decide +kernel)) (fun _ h9 => h9) rfl (by decide +kernel) rfl rfl rfl (Or.inr ⟨_, rfl, hT.at 0 rfl⟩) dX2_readBuilt_155 (fun f_560 H locs hP hD hS hT hE1 hrd_561 => ?_)
        have hF := Fr.put (a := o) (ci := 5) hF hE ((hE1 o (hT.at 3 rfl).1).2.symm.trans (hT.at 3 rfl).2) (by decide) hrd_561
        have hE := hE.tr hE1
        have hk_562 : rd f_560 h0 2 = .int tn_549 := ((Fr.put (cs := [(5, 6)]) (a := o) (ci := 5) Fr.rf Ext.rf (hTo.at 3 rfl).2 (by decide) hrd_561) h0 (hTo.at 2 rfl).1 2 (hTo.at 2 rfl).2 2 (by decide)).trans hk_552
        have hk_563 : rd f_560 h0 3 = .int fa_550 := ((Fr.put (cs := [(5, 6)]) (a := o) (ci := 5) Fr.rf Ext.rf (hTo.at 3 rfl).2 (by decide) hrd_561) h0 (hTo.at 2 rfl).1 2 (hTo.at 2 rfl).2 3 (by decide)).trans hk_553
        have hk_564 : rd f_560 h0 5 = .int sg_551 := ((Fr.put (cs := [(5, 6)]) (a := o) (ci := 5) Fr.rf Ext.rf (hTo.at 3 rfl).2 (by decide) hrd_561) h0 (hTo.at 2 rfl).1 2 (hTo.at 2 rfl).2 5 (by decide)).trans hk_554
        exact K_vZ hx hb hr hlocks hP hD hK hS hT hE ⟨rfl, hF, _, _, _, hk_562, hk_563, hk_564, trivial, trivial, hrel_557⟩ (⟨_, _, hk_563, hk_564, by omega⟩) (by first | exact Nat.le_of_ble_eq_true rfl | (simp only [rm_X2_readBuilt]; omega) | omega) (by first | exact Nat.le_of_ble_eq_true rfl | (simp only [rm_X2_readBuilt]; omega) | omega) (by first | exact Nat.le_of_ble_eq_true rfl | (simp only [rm_X2_readBuilt]; omega) | omega) dX2_readBuilt_158

theorem inw_X2_readStep_2 : ∀ w ∈ wsX20, w ∈ wsX2_readStep := by decide +kernel
theorem inw_X2_readStep_5 : ∀ w ∈ wsX50, w ∈ wsX2_readStep := by decide +kernel
set_option maxHeartbeats 800000 in
set_option maxRecDepth 100000 in
theorem t_X2_readStep (l : Launch) (dC : Nat → ClassId) (dI : Nat → Nat → Nat) (sa : Nat → Nat) (hlt : l.stackTraces = false) (g : Nat → Nat) (L : List Nat) (f : Nat → va_E) (j : Nat) (d : Nat) (P : Nat) (h0 : Nat) (dep : Int32) (tn : Int32) (fa : Int32) (sg : Int32) (sz : Nat) (hT : TP g L f [(h0, (0, 2, 0))]) (hm_tn : rd f h0 2 = .int tn) (hm_fa : rd f h0 3 = .int fa) (hm_sg : rd f h0 5 = .int sg) (hd : dep = nI d) (hdj : d + j = 8) (hP0 : pot fa sg = P) (hs3 : sg.toInt ≤ 300) (IHR : ∀ j' d' : Nat, d' + j' = 8 → j = j' + 1 → ∀ (L : List Nat) (f : Nat → va_E) (P : Nat) (h0 : Nat) (dep : Int32) (tn : Int32) (fa : Int32) (sg : Int32) (sz : Nat) (hT : TP g L f [(h0, (0, 2, 0))]) (hm_tn : rd f h0 2 = .int tn) (hm_fa : rd f h0 3 = .int fa) (hm_sg : rd f h0 5 = .int sg) (hd : dep = nI d') (hP0 : pot fa sg = P) (hs3 : sg.toInt ≤ 300), KZ l dC dI sa g yX2_readSteps wsX2_readSteps (rm_X2_readSteps j' d' P) [.ref h0, .int dep] L f sz (fun r L' f' => (∃ v : Value, r = some v ∧ okv L' f' (2, 0, 5, 0) v) ∧ Fr [(2, 1), (2, 2), (2, 3), (2, 4), (5, 0), (5, 1), (5, 2), (5, 3), (5, 4), (5, 5), (5, 6), (5, 7), (2, 5)] L f f' ∧ (∃ tn' : Int32, ∃ fa' : Int32, ∃ sg' : Int32, rd f' h0 2 = .int tn' ∧ rd f' h0 3 = .int fa' ∧ rd f' h0 5 = .int sg' ∧ (True) ∧ (True) ∧ (sg'.toInt ≤ 300))) (fun n f' => ∃ a b : Int32, rd f' h0 3 = .int a ∧ rd f' h0 5 = .int b ∧ n + pot a b ≤ P) P (8 * P)) (hf0 : fa = 0) : KZ l dC dI sa g yX2_readStep wsX2_readStep (rm_X2_readStep j d P) [.ref h0, .int dep] L f sz (fun r L' f' => (∃ v : Value, r = some v ∧ okv L' f' (1, 0, 5, 0) v) ∧ Fr [(2, 1), (2, 2), (2, 3), (2, 4), (5, 0), (5, 1), (5, 2), (5, 3), (5, 4), (5, 5), (5, 6), (5, 7), (2, 5)] L f f' ∧ (∃ tn' : Int32, ∃ fa' : Int32, ∃ sg' : Int32, rd f' h0 2 = .int tn' ∧ rd f' h0 3 = .int fa' ∧ rd f' h0 5 = .int sg' ∧ (True) ∧ (True) ∧ (sg'.toInt ≤ 300))) (fun n f' => ∃ a b : Int32, rd f' h0 3 = .int a ∧ rd f' h0 5 = .int b ∧ n + pot a b ≤ P) P (8 * P) := by
  refine KZ.start (cc := cX2_readStep) (maxL := 3) (ret := (some (.object "VatHouse$Step"))) (by decide) rfl (Nat.le_of_ble_eq_true rfl) ?_
  intro p e s m below meth c ls hst hP hK hD hev hS hl
  obtain ⟨hx, hb, hr, hml, hts, hown, hlocks, hin⟩ := hst
  have hown : s.vm.findClass RX2 = some m.cls := hown
  have hin : meth.name = yX2_readStep.name := hin
  have hA : ∀ q : Nat, s.heap.size ≤ q → va_A (va_pl L f) s.heap.size q := fun _ h => Or.inr h
  have hE : Ext L f L f := Ext.rf
  have hF : Fr [(2, 1), (2, 2), (2, 3), (2, 4), (5, 0), (5, 1), (5, 2), (5, 3), (5, 4), (5, 5), (5, 6), (5, 7), (2, 5)] L f f := Fr.rf
  have hl : lv_has ls 3 [(0, .ref h0), (1, .int dep)] := hl
  have hpp := pot_pos hf0 hs3
  have hTo := hT
  refine T_new (ci := 5) (fs := [.int 0, .int 0, .int 0, .int 0, .int 0, .null, .null, .null]) (C := RX5) (T := TX5) (N := 8) hx hb hts inw_X2_readStep_5 tyX5 tyX5_ok hown (hts (.classLink RX2 51 RX5) (by decide +kernel)) (hts (.instantiable RX5 8) (by decide +kernel)) (hts (.initialized RX5) (by decide +kernel)) hK hP hD hS hA hT rfl nfX5 (okn_5 g) (by first | exact Nat.le_of_ble_eq_true rfl | (simp only [rm_X2_readStep]; omega) | omega) (by first | exact Nat.le_of_ble_eq_true rfl | (simp only [rm_X2_readStep]; omega) | omega) dX2_readStep_0 (fun q_1 L_2 f_3 H hq_4 hL_5 hP hD hS hT hE1 hrd_6 hrq_7 => ?_)
  have hF := Fr.new hF hE hq_4 hrd_6
  have hE := hE.tr hE1
  have hk_8 := (hrd_6 h0 2 (fun h9 => hq_4 (h9 ▸ (hTo.at 0 rfl).1))).trans hm_tn
  have hk_9 := (hrd_6 h0 3 (fun h9 => hq_4 (h9 ▸ (hTo.at 0 rfl).1))).trans hm_fa
  have hk_10 := (hrd_6 h0 5 (fun h9 => hq_4 (h9 ▸ (hTo.at 0 rfl).1))).trans hm_sg
  refine lv_dup hx hb dX2_readStep_3 rfl ?_
  refine lv_aload_n hx hb dX2_readStep_4 rfl (lv_at hl 0 rfl) ?_
  refine T_get (ci := 2) (C := RX2) (T := TX2) (N := 6) (t := tI) hx hb hts inw_X2_readStep_2 hown hK hP hT 1 rfl rfl 2 (by decide) (hts (.fieldLink RX2 44 "VatHouse$Reader" "token" "I") (by decide +kernel)) (fun _ h9 => h9) rfl dX2_readStep_5 (fun v_13 hv_11 hr_12 => ?_)
  obtain rfl : v_13 = .int tn := hr_12.symm.trans hk_8
  have hTo := hT
  refine K_I ⟨hx, hb, hml, hown, hts⟩ (t_X5_init l dC dI sa hlt g _ _ q_1 tn _ (hT.sub [0] rfl)  ) (cwI 1 hts gX2_readStep_X5_init rfl rfl rfl (hts (.initialized RX5) (by decide +kernel)) (hts (.methodLink RX2 56 yX5_init) (by decide +kernel)) (hts (.instanceMethod yX5_init) (by decide +kernel)) rfl (by decide +kernel) ⟨(by first | exact Nat.le_of_ble_eq_true rfl | (simp only [rm_X5_init, rm_X2_readStep]; omega)), (by first | exact Nat.le_of_ble_eq_true rfl | (simp only [rm_X5_init, rm_X2_readStep]; omega))⟩) hP hD hK hS hA hev hT rfl hl.1 rfl (Nat.le_of_ble_eq_true rfl) dX2_readStep_8 ⟨(by first | exact Nat.le_of_ble_eq_true rfl | (simp only [rm_X2_readStep]; omega) | omega), (by first | exact Nat.le_of_ble_eq_true rfl | (simp only [rm_X2_readStep]; omega) | omega)⟩ (fun r L_14 f_15 H locs hw_16 hP hD hS hT hE1 => ?_)
  have hF := Fr.call hF hE hw_16.2 (by decide)
  have hE := hE.tr hE1
  obtain ⟨rfl, hw_16⟩ := hw_16
  have hk_17 : rd f_15 h0 2 = .int tn := (hw_16 h0 (hTo.at 1 rfl).1 2 (hTo.at 1 rfl).2 2 (by decide)).trans hk_8
  have hk_18 : rd f_15 h0 3 = .int fa := (hw_16 h0 (hTo.at 1 rfl).1 2 (hTo.at 1 rfl).2 3 (by decide)).trans hk_9
  have hk_19 : rd f_15 h0 5 = .int sg := (hw_16 h0 (hTo.at 1 rfl).1 2 (hTo.at 1 rfl).2 5 (by decide)).trans hk_10
  refine W.eq (g2 := F0 m 11 ls [.ref q_1]) rfl ?_
  refine lv_astore_n (lv' := [(2, .ref q_1), (0, .ref h0), (1, .int dep)]) hx hb dX2_readStep_11 rfl hl (by decide) rfl (fun ls hl => ?_)
  refine lv_aload_n hx hb dX2_readStep_12 rfl (lv_at hl 1 rfl) ?_
  refine T_get (ci := 2) (C := RX2) (T := TX2) (N := 6) (t := tI) hx hb hts inw_X2_readStep_2 hown hK hP hT 1 rfl rfl 5 (by decide) (hts (.fieldLink RX2 31 "VatHouse$Reader" "steps" "I") (by decide +kernel)) (fun _ h9 => h9) rfl dX2_readStep_13 (fun v_22 hv_20 hr_21 => ?_)
  obtain rfl : v_22 = .int sg := hr_21.symm.trans hk_19
  refine lv_sipush (v := 300) hx hb dX2_readStep_16 (by decide) ?_
  refine lv_icmp_lt (tgt := 29) hx hb dX2_readStep_19 (by decide) (fun c_23 => ?_) (fun c_23 => ?_)
  · refine lv_aload_n hx hb dX2_readStep_29 rfl (lv_at hl 1 rfl) ?_
    refine lv_dup hx hb dX2_readStep_30 rfl ?_
    refine T_get (ci := 2) (C := RX2) (T := TX2) (N := 6) (t := tI) hx hb hts inw_X2_readStep_2 hown hK hP hT 1 rfl rfl 5 (by decide) (hts (.fieldLink RX2 31 "VatHouse$Reader" "steps" "I") (by decide +kernel)) (fun _ h9 => h9) rfl dX2_readStep_31 (fun v_26 hv_24 hr_25 => ?_)
    obtain rfl : v_26 = .int sg := hr_25.symm.trans hk_19
    refine lv_iconst (v := 1) hx hb dX2_readStep_34 (by decide) ?_
    refine lv_iadd hx hb dX2_readStep_35 ?_
    refine lv_topi (fun z_27 ez_27 => ?_)
    have hTo := hT
    refine T_put (ci := 2) (v := .int z_27) (ty := .int) (t := tI) (C := RX2) (T := TX2) (N := 6) hx hb hts inw_X2_readStep_2 tyX2 tyX2_ok nmX2 hown hK hP hD hS hT 1 rfl rfl 5 (by decide) (hts (.fieldLink RX2 31 "VatHouse$Reader" "steps" "I") (by decide +kernel)) (fun _ h9 => h9) rfl (by decide +kernel) rfl rfl rfl ⟨_, rfl⟩ dX2_readStep_36 (fun f_28 H locs hP hD hS hT hE1 hrd_29 => ?_)
    have hF := Fr.put (a := h0) (ci := 2) hF hE ((hE1 h0 (hT.at 1 rfl).1).2.symm.trans (hT.at 1 rfl).2) (by decide) hrd_29
    have hE := hE.tr hE1
    have hk_30 : rd f_28 h0 2 = .int tn := ((Fr.put (cs := [(2, 5)]) (a := h0) (ci := 2) Fr.rf Ext.rf (hTo.at 1 rfl).2 (by decide) hrd_29) h0 (hTo.at 1 rfl).1 2 (hTo.at 1 rfl).2 2 (by decide)).trans hk_17
    have hk_31 : rd f_28 h0 3 = .int fa := ((Fr.put (cs := [(2, 5)]) (a := h0) (ci := 2) Fr.rf Ext.rf (hTo.at 1 rfl).2 (by decide) hrd_29) h0 (hTo.at 1 rfl).1 2 (hTo.at 1 rfl).2 3 (by decide)).trans hk_18
    have hk_32 : rd f_28 h0 5 = .int z_27 := (hrd_29 h0 5).trans (if_pos ⟨rfl, rfl⟩)
    obtain ⟨hinc, hz3⟩ := pot_inc hf0 c_23 ez_27
    refine lv_aload_n hx hb dX2_readStep_39 rfl (lv_at hl 1 rfl) ?_
    refine lv_aload_n hx hb dX2_readStep_40 rfl (lv_at hl 0 rfl) ?_
    refine T_get (ci := 5) (C := RX5) (T := TX5) (N := 8) (t := tI) hx hb hts inw_X2_readStep_5 hown hK hP hT 0 rfl rfl 0 (by decide) (hts (.fieldLink RX2 61 "VatHouse$Step" "word" "I") (by decide +kernel)) (fun _ h9 => h9) rfl dX2_readStep_41 (fun v_35 hv_33 hr_34 => ?_)
    obtain ⟨z_36, rfl⟩ := hv_33
    have hTo := hT
    refine K_V ⟨hx, hb, hml, hown, hts⟩ (t_X2_pass l dC dI sa hlt g _ _ h0 z_36 tn fa _ (hT.sub [1] rfl)  hk_30 hk_31 ) (cwV 1 hts gX2_readStep_X2_pass rfl rfl rfl (by decide +kernel) ⟨(by first | exact Nat.le_of_ble_eq_true rfl | (simp only [rm_X2_pass, rm_X2_readStep]; omega)), (by first | exact Nat.le_of_ble_eq_true rfl | (simp only [rm_X2_pass, rm_X2_readStep]; omega))⟩) hP hD hK hS hA hev hT 1 2 rfl rfl rfl rfl hl.1 rfl (Nat.le_of_ble_eq_true rfl) dX2_readStep_44 ⟨(by first | exact Nat.le_of_ble_eq_true rfl | (simp only [rm_X2_readStep]; omega) | omega), (by first | exact Nat.le_of_ble_eq_true rfl | (simp only [rm_X2_readStep]; omega) | omega)⟩ (fun r L_37 f_38 H locs hw_39 hP hD hS hT hE1 => ?_)
    have hF := Fr.call hF hE hw_39.2.1 (by decide)
    have hE := hE.tr hE1
    obtain ⟨rfl, hw_39⟩ := hw_39
    obtain ⟨hfr_40, tn_41, fa_42, hk_43, hk_44, hrel_45, hrel_46⟩ := hw_39
    have hk_48 : rd f_38 h0 5 = .int z_27 := (hfr_40 h0 (hTo.at 1 rfl).1 2 (hTo.at 1 rfl).2 5 (by decide)).trans hk_32
    have hq_49 : pot fa_42 z_27 ≤ pot fa z_27 := pot_le (fun h9 => (hrel_46 h9).1)
    refine W.eq (g2 := F0 m 47 ls []) rfl ?_
    refine lv_aload_n hx hb dX2_readStep_47 rfl (lv_at hl 0 rfl) ?_
    refine T_get (ci := 5) (C := RX5) (T := TX5) (N := 8) (t := tI) hx hb hts inw_X2_readStep_5 hown hK hP hT 0 rfl rfl 0 (by decide) (hts (.fieldLink RX2 61 "VatHouse$Step" "word" "I") (by decide +kernel)) (fun _ h9 => h9) rfl dX2_readStep_48 (fun v_52 hv_50 hr_51 => ?_)
    obtain ⟨z_53, rfl⟩ := hv_50
    refine lv_bipush (v := 8) hx hb dX2_readStep_51 (by decide) ?_
    refine lv_icmp_ge (tgt := 70) hx hb dX2_readStep_53 (by decide) (fun c_54 => ?_) (fun c_54 => ?_)
    · refine lv_aload_n hx hb dX2_readStep_70 rfl (lv_at hl 1 rfl) ?_
      refine lv_aload_n hx hb dX2_readStep_71 rfl (lv_at hl 0 rfl) ?_
      refine lv_iload_n hx hb dX2_readStep_72 rfl (lv_at hl 2 rfl) ?_
      have hTo := hT
      refine K_VZ ⟨hx, hb, hml, hown, hts⟩ (t_X2_readBuilt l dC dI sa hlt g _ _ j d (pot fa_42 z_27) h0 q_1 dep tn_41 fa_42 z_27 _ (hT.sub [1, 0] rfl)  hk_43 hk_44 hk_48 hd hdj rfl hz3 IHR) (cwV 2 hts gX2_readStep_X2_readBuilt rfl rfl rfl (by decide +kernel) ⟨(by first | exact Nat.le_of_ble_eq_true rfl | (simp only [rm_X2_readBuilt, rm_X2_readStep]; omega)), (by first | exact Nat.le_of_ble_eq_true rfl | (simp only [rm_X2_readBuilt, rm_X2_readStep]; omega))⟩) hP hD hK hS hA hev hT 1 2 rfl rfl rfl rfl hl.1 rfl (Nat.le_of_ble_eq_true rfl) dX2_readStep_73 ⟨(by first | exact Nat.le_of_ble_eq_true rfl | (simp only [rm_X2_readStep]; omega) | omega), (by first | exact Nat.le_of_ble_eq_true rfl | (simp only [rm_X2_readStep]; omega) | omega)⟩ (fun r L_55 f_56 n_58 H locs hw_57 hn_59 hP hD hS hT hE1 => ?_)
      have hF := Fr.call hF hE hw_57.2.1 (by decide)
      have hE := hE.tr hE1
      obtain ⟨rfl, hw_57⟩ := hw_57
      obtain ⟨hfr_60, tn_61, fa_62, sg_63, hk_64, hk_65, hk_66, hrel_67, hrel_68, hrel_69⟩ := hw_57
      have hq_71 : n_58 + pot fa_62 sg_63 ≤ pot fa_42 z_27 := by
        obtain ⟨a9, b9, g1, g2, g3⟩ := hn_59
        cases g1.symm.trans hk_65
        cases g2.symm.trans hk_66
        exact g3
      refine W.eq (g2 := F0 m 76 ls []) rfl ?_
      refine lv_aload_n hx hb dX2_readStep_76 rfl (lv_at hl 0 rfl) ?_
      exact K_aZ hx hb hr (Or.inl ⟨_, rfl⟩) (Or.inr ⟨_, rfl⟩) hlocks hP hD hK hS hT hE ⟨⟨_, rfl, _, rfl, hT.at 0 rfl⟩, hF, _, _, _, hk_64, hk_65, hk_66, trivial, trivial, hrel_69⟩ (⟨_, _, hk_65, hk_66, by omega⟩) (by first | exact Nat.le_of_ble_eq_true rfl | (simp only [rm_X2_readStep]; omega) | omega) (by first | exact Nat.le_of_ble_eq_true rfl | (simp only [rm_X2_readStep]; omega) | omega) (by first | exact Nat.le_of_ble_eq_true rfl | (simp only [rm_X2_readStep]; omega) | omega) dX2_readStep_77
    · refine lv_aload_n hx hb dX2_readStep_56 rfl (lv_at hl 1 rfl) ?_
      refine lv_aload_n hx hb dX2_readStep_57 rfl (lv_at hl 0 rfl) ?_
      have hTo := hT
      refine K_V ⟨hx, hb, hml, hown, hts⟩ (t_X2_readPlain l dC dI sa hlt g _ _ h0 q_1 tn_41 fa_42 _ (hT.sub [1, 0] rfl)  hk_43 hk_44 ) (cwV 1 hts gX2_readStep_X2_readPlain rfl rfl rfl (by decide +kernel) ⟨(by first | exact Nat.le_of_ble_eq_true rfl | (simp only [rm_X2_readPlain, rm_X2_readStep]; omega)), (by first | exact Nat.le_of_ble_eq_true rfl | (simp only [rm_X2_readPlain, rm_X2_readStep]; omega))⟩) hP hD hK hS hA hev hT 1 2 rfl rfl rfl rfl hl.1 rfl (Nat.le_of_ble_eq_true rfl) dX2_readStep_58 ⟨(by first | exact Nat.le_of_ble_eq_true rfl | (simp only [rm_X2_readStep]; omega) | omega), (by first | exact Nat.le_of_ble_eq_true rfl | (simp only [rm_X2_readStep]; omega) | omega)⟩ (fun r L_72 f_73 H locs hw_74 hP hD hS hT hE1 => ?_)
      have hF := Fr.call hF hE hw_74.2.1 (by decide)
      have hE := hE.tr hE1
      obtain ⟨rfl, hw_74⟩ := hw_74
      obtain ⟨hfr_75, tn_76, fa_77, hk_78, hk_79, hrel_80, hrel_81⟩ := hw_74
      have hk_83 : rd f_73 h0 5 = .int z_27 := (hfr_75 h0 (hTo.at 1 rfl).1 2 (hTo.at 1 rfl).2 5 (by decide)).trans hk_48
      have hq_84 : pot fa_77 z_27 ≤ pot fa_42 z_27 := pot_le (fun h9 => (hrel_81 h9))
      refine W.eq (g2 := F0 m 61 ls []) rfl ?_
      refine lv_aload_n hx hb dX2_readStep_61 rfl (lv_at hl 1 rfl) ?_
      refine lv_bipush (v := 59) hx hb dX2_readStep_62 (by decide) ?_
      have hTo := hT
      refine K_V ⟨hx, hb, hml, hown, hts⟩ (t_X2_pass l dC dI sa hlt g _ _ h0 59 tn_76 fa_77 _ (hT.sub [1] rfl)  hk_78 hk_79 ) (cwV 1 hts gX2_readStep_X2_pass rfl rfl rfl (by decide +kernel) ⟨(by first | exact Nat.le_of_ble_eq_true rfl | (simp only [rm_X2_pass, rm_X2_readStep]; omega)), (by first | exact Nat.le_of_ble_eq_true rfl | (simp only [rm_X2_pass, rm_X2_readStep]; omega))⟩) hP hD hK hS hA hev hT 1 2 rfl rfl rfl rfl hl.1 rfl (Nat.le_of_ble_eq_true rfl) dX2_readStep_64 ⟨(by first | exact Nat.le_of_ble_eq_true rfl | (simp only [rm_X2_readStep]; omega) | omega), (by first | exact Nat.le_of_ble_eq_true rfl | (simp only [rm_X2_readStep]; omega) | omega)⟩ (fun r L_85 f_86 H locs hw_87 hP hD hS hT hE1 => ?_)
      have hF := Fr.call hF hE hw_87.2.1 (by decide)
      have hE := hE.tr hE1
      obtain ⟨rfl, hw_87⟩ := hw_87
      obtain ⟨hfr_88, tn_89, fa_90, hk_91, hk_92, hrel_93, hrel_94⟩ := hw_87
      have hk_96 : rd f_86 h0 5 = .int z_27 := (hfr_88 h0 (hTo.at 1 rfl).1 2 (hTo.at 1 rfl).2 5 (by decide)).trans hk_83
      have hq_97 : pot fa_90 z_27 ≤ pot fa_77 z_27 := pot_le (fun h9 => (hrel_94 h9).1)
      refine W.eq (g2 := F0 m 67 ls []) rfl ?_
      refine lv_goto (tgt := 76) hx hb dX2_readStep_67 (by decide) ?_
      refine lv_aload_n hx hb dX2_readStep_76 rfl (lv_at hl 0 rfl) ?_
      exact K_aZ hx hb hr (Or.inl ⟨_, rfl⟩) (Or.inr ⟨_, rfl⟩) hlocks hP hD hK hS hT hE ⟨⟨_, rfl, _, rfl, hT.at 0 rfl⟩, hF, _, _, _, hk_91, hk_92, hk_96, trivial, trivial, hz3⟩ (⟨_, _, hk_92, hk_96, by omega⟩) (by first | exact Nat.le_of_ble_eq_true rfl | (simp only [rm_X2_readStep]; omega) | omega) (by first | exact Nat.le_of_ble_eq_true rfl | (simp only [rm_X2_readStep]; omega) | omega) (by first | exact Nat.le_of_ble_eq_true rfl | (simp only [rm_X2_readStep]; omega) | omega) dX2_readStep_77
  · refine lv_aload_n hx hb dX2_readStep_22 rfl (lv_at hl 1 rfl) ?_
    refine lv_iconst (v := 2) hx hb dX2_readStep_23 (by decide) ?_
    have hTo := hT
    refine K_V ⟨hx, hb, hml, hown, hts⟩ (t_X2_refuse l dC dI sa hlt g _ _ h0 2 fa _ (hT.sub [1] rfl)  hk_18 (by decide)) (cwV 1 hts gX2_readStep_X2_refuse rfl rfl rfl (by decide +kernel) ⟨(by first | exact Nat.le_of_ble_eq_true rfl | (simp only [rm_X2_refuse, rm_X2_readStep]; omega)), (by first | exact Nat.le_of_ble_eq_true rfl | (simp only [rm_X2_refuse, rm_X2_readStep]; omega))⟩) hP hD hK hS hA hev hT 1 2 rfl rfl rfl rfl hl.1 rfl (Nat.le_of_ble_eq_true rfl) dX2_readStep_24 ⟨(by first | exact Nat.le_of_ble_eq_true rfl | (simp only [rm_X2_readStep]; omega) | omega), (by first | exact Nat.le_of_ble_eq_true rfl | (simp only [rm_X2_readStep]; omega) | omega)⟩ (fun r L_98 f_99 H locs hw_100 hP hD hS hT hE1 => ?_)
    have hF := Fr.call hF hE hw_100.2.1 (by decide)
    have hE := hE.tr hE1
    obtain ⟨rfl, hw_100⟩ := hw_100
    obtain ⟨hfr_101, fa_102, hk_103, hrel_104⟩ := hw_100
    have hk_106 : rd f_99 h0 2 = .int tn := (hfr_101 h0 (hTo.at 1 rfl).1 2 (hTo.at 1 rfl).2 2 (by decide)).trans hk_17
    have hk_107 : rd f_99 h0 5 = .int sg := (hfr_101 h0 (hTo.at 1 rfl).1 2 (hTo.at 1 rfl).2 5 (by decide)).trans hk_19
    have hq_108 := pot_ne sg hrel_104
    refine W.eq (g2 := F0 m 27 ls []) rfl ?_
    refine lv_aload_n hx hb dX2_readStep_27 rfl (lv_at hl 0 rfl) ?_
    exact K_aZ hx hb hr (Or.inl ⟨_, rfl⟩) (Or.inr ⟨_, rfl⟩) hlocks hP hD hK hS hT hE ⟨⟨_, rfl, _, rfl, hT.at 0 rfl⟩, hF, _, _, _, hk_106, hk_103, hk_107, trivial, trivial, hs3⟩ (⟨_, _, hk_103, hk_107, by omega⟩) (by first | exact Nat.le_of_ble_eq_true rfl | (simp only [rm_X2_readStep]; omega) | omega) (by first | exact Nat.le_of_ble_eq_true rfl | (simp only [rm_X2_readStep]; omega) | omega) (by first | exact Nat.le_of_ble_eq_true rfl | (simp only [rm_X2_readStep]; omega) | omega) dX2_readStep_28

theorem inw_X2_readSteps_2 : ∀ w ∈ wsX20, w ∈ wsX2_readSteps := by decide +kernel
theorem inw_X2_readSteps_5 : ∀ w ∈ wsX50, w ∈ wsX2_readSteps := by decide +kernel
set_option maxHeartbeats 800000 in
set_option maxRecDepth 100000 in
theorem t_X2_readSteps (l : Launch) (dC : Nat → ClassId) (dI : Nat → Nat → Nat) (sa : Nat → Nat) (hlt : l.stackTraces = false) (g : Nat → Nat) (L : List Nat) (f : Nat → va_E) (j : Nat) (d : Nat) (P : Nat) (h0 : Nat) (dep : Int32) (tn : Int32) (fa : Int32) (sg : Int32) (sz : Nat) (hT : TP g L f [(h0, (0, 2, 0))]) (hm_tn : rd f h0 2 = .int tn) (hm_fa : rd f h0 3 = .int fa) (hm_sg : rd f h0 5 = .int sg) (hd : dep = nI d) (hdj : d + j = 8) (hP0 : pot fa sg = P) (hs3 : sg.toInt ≤ 300) (IHR : ∀ j' d' : Nat, d' + j' = 8 → j = j' + 1 → ∀ (L : List Nat) (f : Nat → va_E) (P : Nat) (h0 : Nat) (dep : Int32) (tn : Int32) (fa : Int32) (sg : Int32) (sz : Nat) (hT : TP g L f [(h0, (0, 2, 0))]) (hm_tn : rd f h0 2 = .int tn) (hm_fa : rd f h0 3 = .int fa) (hm_sg : rd f h0 5 = .int sg) (hd : dep = nI d') (hP0 : pot fa sg = P) (hs3 : sg.toInt ≤ 300), KZ l dC dI sa g yX2_readSteps wsX2_readSteps (rm_X2_readSteps j' d' P) [.ref h0, .int dep] L f sz (fun r L' f' => (∃ v : Value, r = some v ∧ okv L' f' (2, 0, 5, 0) v) ∧ Fr [(2, 1), (2, 2), (2, 3), (2, 4), (5, 0), (5, 1), (5, 2), (5, 3), (5, 4), (5, 5), (5, 6), (5, 7), (2, 5)] L f f' ∧ (∃ tn' : Int32, ∃ fa' : Int32, ∃ sg' : Int32, rd f' h0 2 = .int tn' ∧ rd f' h0 3 = .int fa' ∧ rd f' h0 5 = .int sg' ∧ (True) ∧ (True) ∧ (sg'.toInt ≤ 300))) (fun n f' => ∃ a b : Int32, rd f' h0 3 = .int a ∧ rd f' h0 5 = .int b ∧ n + pot a b ≤ P) P (8 * P)) : KZ l dC dI sa g yX2_readSteps wsX2_readSteps (rm_X2_readSteps j d P) [.ref h0, .int dep] L f sz (fun r L' f' => (∃ v : Value, r = some v ∧ okv L' f' (2, 0, 5, 0) v) ∧ Fr [(2, 1), (2, 2), (2, 3), (2, 4), (5, 0), (5, 1), (5, 2), (5, 3), (5, 4), (5, 5), (5, 6), (5, 7), (2, 5)] L f f' ∧ (∃ tn' : Int32, ∃ fa' : Int32, ∃ sg' : Int32, rd f' h0 2 = .int tn' ∧ rd f' h0 3 = .int fa' ∧ rd f' h0 5 = .int sg' ∧ (True) ∧ (True) ∧ (sg'.toInt ≤ 300))) (fun n f' => ∃ a b : Int32, rd f' h0 3 = .int a ∧ rd f' h0 5 = .int b ∧ n + pot a b ≤ P) P (8 * P) := by
  refine KZ.start (cc := cX2_readSteps) (maxL := 6) (ret := (some (.object "VatHouse$Step"))) (by decide) rfl (Nat.le_of_ble_eq_true rfl) ?_
  intro p e s m below meth c ls hst hP hK hD hev hS hl
  obtain ⟨hx, hb, hr, hml, hts, hown, hlocks, hin⟩ := hst
  have hown : s.vm.findClass RX2 = some m.cls := hown
  have hin : meth.name = yX2_readSteps.name := hin
  have hA : ∀ q : Nat, s.heap.size ≤ q → va_A (va_pl L f) s.heap.size q := fun _ h => Or.inr h
  have hE : Ext L f L f := Ext.rf
  have hF : Fr [(2, 1), (2, 2), (2, 3), (2, 4), (5, 0), (5, 1), (5, 2), (5, 3), (5, 4), (5, 5), (5, 6), (5, 7), (2, 5)] L f f := Fr.rf
  have hl : lv_has ls 6 [(0, .ref h0), (1, .int dep)] := hl
  refine lv_null hx hb dX2_readSteps_0 ?_
  refine lv_astore_nN (lv' := [(2, .null), (0, .ref h0), (1, .int dep)]) hx hb dX2_readSteps_1 rfl hl (by decide) rfl (fun ls hl => ?_)
  refine lv_null hx hb dX2_readSteps_2 ?_
  refine lv_astore_nN (lv' := [(3, .null), (2, .null), (0, .ref h0), (1, .int dep)]) hx hb dX2_readSteps_3 rfl hl (by decide) rfl (fun ls hl => ?_)
  refine lv_iconst (v := 0) hx hb dX2_readSteps_4 (by decide) ?_
  refine lv_istore (lv' := [(4, .int 0), (3, .null), (2, .null), (0, .ref h0), (1, .int dep)]) hx hb dX2_readSteps_5 hl (by decide) rfl (fun ls hl => ?_)
  have lp : ∀ (n : Nat) (fi : Value) (la : Value) (ii : Int32) (k2 : Int32) (k3 : Int32) (k5 : Int32) (kc : Nat) (L1 : List Nat) (f1 : Nat → va_E) (H : Heap) (locs : List Loc) (ls : Array Slot), (∃ a : Nat, ii = nI a ∧ a ≤ 300 + 1 ∧ 300 + 1 < a + n) → okv L1 f1 (2, 0, 5, 0) fi → okv L1 f1 (2, 0, 5, 0) la → rd f1 h0 2 = .int k2 → rd f1 h0 3 = .int k3 → rd f1 h0 5 = .int k5 → (kc + pot k3 k5 ≤ P) → (k5.toInt ≤ 300) → va_P (dC, dI) vwCl (va_pl L1 f1) H → va_D (va_A (va_pl L f) s.heap.size) (va_pl L1 f1) → va_S (va_A (va_pl L f) s.heap.size) s.heap H locs → TP g L1 f1 [(h0, (0, 2, 0))] → Ext L f L1 f1 → Fr [(2, 1), (2, 2), (2, 3), (2, 4), (5, 0), (5, 1), (5, 2), (5, 3), (5, 4), (5, 5), (5, 6), (5, 7), (2, 5)] L f f1 → lv_has ls 6 [(2, fi), (3, la), (4, .int ii), (0, .ref h0), (1, .int dep)] → W p l e (rm_X2_readSteps j d P) s m [.ref h0, .int dep].toArray below meth c H locs kc (8 * kc) (MQ below (Qz dC dI g L f (va_A (va_pl L f) s.heap.size) (fun r L' f' => (∃ v : Value, r = some v ∧ okv L' f' (2, 0, 5, 0) v) ∧ Fr [(2, 1), (2, 2), (2, 3), (2, 4), (5, 0), (5, 1), (5, 2), (5, 3), (5, 4), (5, 5), (5, 6), (5, 7), (2, 5)] L f f' ∧ (∃ tn' : Int32, ∃ fa' : Int32, ∃ sg' : Int32, rd f' h0 2 = .int tn' ∧ rd f' h0 3 = .int fa' ∧ rd f' h0 5 = .int sg' ∧ (True) ∧ (True) ∧ (sg'.toInt ≤ 300))) (fun n f' => ∃ a b : Int32, rd f' h0 3 = .int a ∧ rd f' h0 5 = .int b ∧ n + pot a b ≤ P)) [.ref h0, .int dep].toArray s (P) (8 * P) (va_A (va_pl L f) s.heap.size)) (F0 m 7 ls []) := by
    intro n
    induction n with
    | zero => intro fi la ii k2 k3 k5 kc L1 f1 H locs ls hm hn_fi hn_la hk_h0_2 hk_h0_3 hk_h0_5 hkc hk5 hP hD hS hT hE hF hl; exact absurd hm (by rintro ⟨a, -, h1, h2⟩; omega)
    | succ n ih =>
      intro fi la ii k2 k3 k5 kc L1 f1 H locs ls hm hn_fi hn_la hk_h0_2 hk_h0_3 hk_h0_5 hkc hk5 hP hD hS hT hE hF hl
      rcases hn_fi with rfl | ⟨b_1, rfl, hb9⟩
      · rcases hn_la with rfl | ⟨b_2, rfl, hb9⟩
        · have hl : lv_has ls 6 [(2, .null), (3, .null), (4, .int ii), (0, .ref h0), (1, .int dep)] := hl
          refine lv_iload hx hb dX2_readSteps_7 (lv_at hl 2 rfl) ?_
          refine lv_sipush (v := 300) hx hb dX2_readSteps_9 (by decide) ?_
          refine lv_icmp_gt (tgt := 71) hx hb dX2_readSteps_12 (by decide) (fun c_3 => ?_) (fun c_3 => ?_)
          · refine lv_aload_nN hx hb dX2_readSteps_71 rfl (lv_at hl 0 rfl) ?_
            exact K_aZ hx hb hr (Or.inl ⟨_, rfl⟩) (Or.inl rfl) hlocks hP hD hK hS hT hE ⟨⟨_, rfl, Or.inl rfl⟩, hF, _, _, _, hk_h0_2, hk_h0_3, hk_h0_5, trivial, trivial, hk5⟩ (⟨_, _, hk_h0_3, hk_h0_5, by omega⟩) (by first | exact Nat.le_of_ble_eq_true rfl | (simp only [rm_X2_readSteps]; omega) | omega) (by first | exact Nat.le_of_ble_eq_true rfl | (simp only [rm_X2_readSteps]; omega) | omega) (by first | exact Nat.le_of_ble_eq_true rfl | (simp only [rm_X2_readSteps]; omega) | omega) dX2_readSteps_72
          · refine lv_aload_n hx hb dX2_readSteps_15 rfl (lv_at hl 3 rfl) ?_
            refine T_get (ci := 2) (C := RX2) (T := TX2) (N := 6) (t := tI) hx hb hts inw_X2_readSteps_2 hown hK hP hT 0 rfl rfl 3 (by decide) (hts (.fieldLink RX2 28 "VatHouse$Reader" "fault" "I") (by decide +kernel)) (fun _ h9 => h9) rfl dX2_readSteps_16 (fun v_6 hv_4 hr_5 => ?_)
            obtain rfl : v_6 = .int k3 := hr_5.symm.trans hk_h0_3
            refine lv_if_ne (tgt := 71) hx hb dX2_readSteps_19 (by decide) (fun c_7 => ?_) (fun c_7 => ?_)
            · refine lv_aload_nN hx hb dX2_readSteps_71 rfl (lv_at hl 0 rfl) ?_
              exact K_aZ hx hb hr (Or.inl ⟨_, rfl⟩) (Or.inl rfl) hlocks hP hD hK hS hT hE ⟨⟨_, rfl, Or.inl rfl⟩, hF, _, _, _, hk_h0_2, hk_h0_3, hk_h0_5, trivial, trivial, hk5⟩ (⟨_, _, hk_h0_3, hk_h0_5, by omega⟩) (by first | exact Nat.le_of_ble_eq_true rfl | (simp only [rm_X2_readSteps]; omega) | omega) (by first | exact Nat.le_of_ble_eq_true rfl | (simp only [rm_X2_readSteps]; omega) | omega) (by first | exact Nat.le_of_ble_eq_true rfl | (simp only [rm_X2_readSteps]; omega) | omega) dX2_readSteps_72
            · refine lv_aload_n hx hb dX2_readSteps_22 rfl (lv_at hl 3 rfl) ?_
              refine T_get (ci := 2) (C := RX2) (T := TX2) (N := 6) (t := tI) hx hb hts inw_X2_readSteps_2 hown hK hP hT 0 rfl rfl 2 (by decide) (hts (.fieldLink RX2 44 "VatHouse$Reader" "token" "I") (by decide +kernel)) (fun _ h9 => h9) rfl dX2_readSteps_23 (fun v_10 hv_8 hr_9 => ?_)
              obtain rfl : v_10 = .int k2 := hr_9.symm.trans hk_h0_2
              refine lv_iconst (v := 1) hx hb dX2_readSteps_26 (by decide) ?_
              refine lv_icmp_lt (tgt := 71) hx hb dX2_readSteps_27 (by decide) (fun c_11 => ?_) (fun c_11 => ?_)
              · refine lv_aload_nN hx hb dX2_readSteps_71 rfl (lv_at hl 0 rfl) ?_
                exact K_aZ hx hb hr (Or.inl ⟨_, rfl⟩) (Or.inl rfl) hlocks hP hD hK hS hT hE ⟨⟨_, rfl, Or.inl rfl⟩, hF, _, _, _, hk_h0_2, hk_h0_3, hk_h0_5, trivial, trivial, hk5⟩ (⟨_, _, hk_h0_3, hk_h0_5, by omega⟩) (by first | exact Nat.le_of_ble_eq_true rfl | (simp only [rm_X2_readSteps]; omega) | omega) (by first | exact Nat.le_of_ble_eq_true rfl | (simp only [rm_X2_readSteps]; omega) | omega) (by first | exact Nat.le_of_ble_eq_true rfl | (simp only [rm_X2_readSteps]; omega) | omega) dX2_readSteps_72
              · refine lv_aload_n hx hb dX2_readSteps_30 rfl (lv_at hl 3 rfl) ?_
                refine T_get (ci := 2) (C := RX2) (T := TX2) (N := 6) (t := tI) hx hb hts inw_X2_readSteps_2 hown hK hP hT 0 rfl rfl 2 (by decide) (hts (.fieldLink RX2 44 "VatHouse$Reader" "token" "I") (by decide +kernel)) (fun _ h9 => h9) rfl dX2_readSteps_31 (fun v_14 hv_12 hr_13 => ?_)
                obtain rfl : v_14 = .int k2 := hr_13.symm.trans hk_h0_2
                refine lv_bipush (v := 12) hx hb dX2_readSteps_34 (by decide) ?_
                refine lv_icmp_gt (tgt := 71) hx hb dX2_readSteps_36 (by decide) (fun c_15 => ?_) (fun c_15 => ?_)
                · refine lv_aload_nN hx hb dX2_readSteps_71 rfl (lv_at hl 0 rfl) ?_
                  exact K_aZ hx hb hr (Or.inl ⟨_, rfl⟩) (Or.inl rfl) hlocks hP hD hK hS hT hE ⟨⟨_, rfl, Or.inl rfl⟩, hF, _, _, _, hk_h0_2, hk_h0_3, hk_h0_5, trivial, trivial, hk5⟩ (⟨_, _, hk_h0_3, hk_h0_5, by omega⟩) (by first | exact Nat.le_of_ble_eq_true rfl | (simp only [rm_X2_readSteps]; omega) | omega) (by first | exact Nat.le_of_ble_eq_true rfl | (simp only [rm_X2_readSteps]; omega) | omega) (by first | exact Nat.le_of_ble_eq_true rfl | (simp only [rm_X2_readSteps]; omega) | omega) dX2_readSteps_72
                · refine lv_aload_n hx hb dX2_readSteps_39 rfl (lv_at hl 3 rfl) ?_
                  refine lv_iload_n hx hb dX2_readSteps_40 rfl (lv_at hl 4 rfl) ?_
                  have hTo := hT
                  refine K_VZ ⟨hx, hb, hml, hown, hts⟩ (t_X2_readStep l dC dI sa hlt g _ _ j d (pot k3 k5) h0 dep k2 k3 k5 _ (hT.sub [0] rfl)  hk_h0_2 hk_h0_3 hk_h0_5 hd hdj rfl hk5 IHR c_7) (cwV 1 hts gX2_readSteps_X2_readStep rfl rfl rfl (by decide +kernel) ⟨(by first | exact Nat.le_of_ble_eq_true rfl | (simp only [rm_X2_readStep, rm_X2_readSteps]; omega)), (by first | exact Nat.le_of_ble_eq_true rfl | (simp only [rm_X2_readStep, rm_X2_readSteps]; omega))⟩) hP hD hK hS hA hev hT 0 2 rfl rfl rfl rfl hl.1 rfl (Nat.le_of_ble_eq_true rfl) dX2_readSteps_41 ⟨(by first | exact Nat.le_of_ble_eq_true rfl | (simp only [rm_X2_readSteps]; omega) | omega), (by first | exact Nat.le_of_ble_eq_true rfl | (simp only [rm_X2_readSteps]; omega) | omega)⟩ (fun r L_16 f_17 n_19 H locs hw_18 hn_20 hP hD hS hT hE1 => ?_)
                  have hF := Fr.call hF hE hw_18.2.1 (by decide)
                  have hE := hE.tr hE1
                  obtain ⟨⟨v_21, rfl, hv9⟩, hw_18⟩ := hw_18
                  obtain ⟨b_22, rfl, hb9⟩ := hv9
                  have hT := hT.add hb9
                  obtain ⟨hfr_23, tn_24, fa_25, sg_26, hk_27, hk_28, hk_29, hrel_30, hrel_31, hrel_32⟩ := hw_18
                  have hq_34 : n_19 + pot fa_25 sg_26 ≤ pot k3 k5 := by
                    obtain ⟨a9, b9, g1, g2, g3⟩ := hn_20
                    cases g1.symm.trans hk_28
                    cases g2.symm.trans hk_29
                    exact g3
                  refine W.eq (g2 := F0 m 44 ls [.ref b_22]) rfl ?_
                  refine lv_astore (lv' := [(5, .ref b_22), (2, .null), (3, .null), (4, .int ii), (0, .ref h0), (1, .int dep)]) hx hb dX2_readSteps_44 hl (by decide) rfl (fun ls hl => ?_)
                  refine lv_aload_nN hx hb dX2_readSteps_46 rfl (lv_at hl 2 rfl) ?_
                  refine lv_ifnonnullN hx hb dX2_readSteps_47 ?_
                  refine lv_aload hx hb dX2_readSteps_50 (lv_at hl 0 rfl) ?_
                  refine lv_astore_n (lv' := [(2, .ref b_22), (5, .ref b_22), (3, .null), (4, .int ii), (0, .ref h0), (1, .int dep)]) hx hb dX2_readSteps_52 rfl hl (by decide) rfl (fun ls hl => ?_)
                  refine lv_goto (tgt := 62) hx hb dX2_readSteps_53 (by decide) ?_
                  refine lv_aload hx hb dX2_readSteps_62 (lv_at hl 1 rfl) ?_
                  refine lv_astore_n (lv' := [(3, .ref b_22), (2, .ref b_22), (5, .ref b_22), (4, .int ii), (0, .ref h0), (1, .int dep)]) hx hb dX2_readSteps_64 rfl hl (by decide) rfl (fun ls hl => ?_)
                  refine lv_iinc (v := (ii + 1)) (lv' := [(4, .int (ii + 1)), (3, .ref b_22), (2, .ref b_22), (5, .ref b_22), (0, .ref h0), (1, .int dep)]) hx hb dX2_readSteps_65 hl (k := 3) rfl rfl (by decide) rfl (fun ls hl => ?_)
                  refine lv_goto (tgt := 7) hx hb dX2_readSteps_68 (by decide) ?_
                  exact W.widen (by first | exact Nat.le_of_ble_eq_true rfl | (simp only [rm_X2_readSteps]; omega) | omega) (by first | exact Nat.le_of_ble_eq_true rfl | (simp only [rm_X2_readSteps]; omega) | omega) (ih (.ref b_22) (.ref b_22) (ii + 1) tn_24 fa_25 sg_26 (kc + n_19) _ _ _ _ _ (up_le (by decide) hm c_3) (Or.inr ⟨_, rfl, hT.at 0 rfl⟩) (Or.inr ⟨_, rfl, hT.at 0 rfl⟩) hk_27 hk_28 hk_29 (by omega) (hrel_32) hP hD hS (hT.sub [1] rfl) hE hF (lv_sub hl [2, 1, 0, 4, 5] rfl))
        · have hT := hT.add hb9
          have hl : lv_has ls 6 [(2, .null), (3, .ref b_2), (4, .int ii), (0, .ref h0), (1, .int dep)] := hl
          refine lv_iload hx hb dX2_readSteps_7 (lv_at hl 2 rfl) ?_
          refine lv_sipush (v := 300) hx hb dX2_readSteps_9 (by decide) ?_
          refine lv_icmp_gt (tgt := 71) hx hb dX2_readSteps_12 (by decide) (fun c_35 => ?_) (fun c_35 => ?_)
          · refine lv_aload_nN hx hb dX2_readSteps_71 rfl (lv_at hl 0 rfl) ?_
            exact K_aZ hx hb hr (Or.inl ⟨_, rfl⟩) (Or.inl rfl) hlocks hP hD hK hS hT hE ⟨⟨_, rfl, Or.inl rfl⟩, hF, _, _, _, hk_h0_2, hk_h0_3, hk_h0_5, trivial, trivial, hk5⟩ (⟨_, _, hk_h0_3, hk_h0_5, by omega⟩) (by first | exact Nat.le_of_ble_eq_true rfl | (simp only [rm_X2_readSteps]; omega) | omega) (by first | exact Nat.le_of_ble_eq_true rfl | (simp only [rm_X2_readSteps]; omega) | omega) (by first | exact Nat.le_of_ble_eq_true rfl | (simp only [rm_X2_readSteps]; omega) | omega) dX2_readSteps_72
          · refine lv_aload_n hx hb dX2_readSteps_15 rfl (lv_at hl 3 rfl) ?_
            refine T_get (ci := 2) (C := RX2) (T := TX2) (N := 6) (t := tI) hx hb hts inw_X2_readSteps_2 hown hK hP hT 1 rfl rfl 3 (by decide) (hts (.fieldLink RX2 28 "VatHouse$Reader" "fault" "I") (by decide +kernel)) (fun _ h9 => h9) rfl dX2_readSteps_16 (fun v_38 hv_36 hr_37 => ?_)
            obtain rfl : v_38 = .int k3 := hr_37.symm.trans hk_h0_3
            refine lv_if_ne (tgt := 71) hx hb dX2_readSteps_19 (by decide) (fun c_39 => ?_) (fun c_39 => ?_)
            · refine lv_aload_nN hx hb dX2_readSteps_71 rfl (lv_at hl 0 rfl) ?_
              exact K_aZ hx hb hr (Or.inl ⟨_, rfl⟩) (Or.inl rfl) hlocks hP hD hK hS hT hE ⟨⟨_, rfl, Or.inl rfl⟩, hF, _, _, _, hk_h0_2, hk_h0_3, hk_h0_5, trivial, trivial, hk5⟩ (⟨_, _, hk_h0_3, hk_h0_5, by omega⟩) (by first | exact Nat.le_of_ble_eq_true rfl | (simp only [rm_X2_readSteps]; omega) | omega) (by first | exact Nat.le_of_ble_eq_true rfl | (simp only [rm_X2_readSteps]; omega) | omega) (by first | exact Nat.le_of_ble_eq_true rfl | (simp only [rm_X2_readSteps]; omega) | omega) dX2_readSteps_72
            · refine lv_aload_n hx hb dX2_readSteps_22 rfl (lv_at hl 3 rfl) ?_
              refine T_get (ci := 2) (C := RX2) (T := TX2) (N := 6) (t := tI) hx hb hts inw_X2_readSteps_2 hown hK hP hT 1 rfl rfl 2 (by decide) (hts (.fieldLink RX2 44 "VatHouse$Reader" "token" "I") (by decide +kernel)) (fun _ h9 => h9) rfl dX2_readSteps_23 (fun v_42 hv_40 hr_41 => ?_)
              obtain rfl : v_42 = .int k2 := hr_41.symm.trans hk_h0_2
              refine lv_iconst (v := 1) hx hb dX2_readSteps_26 (by decide) ?_
              refine lv_icmp_lt (tgt := 71) hx hb dX2_readSteps_27 (by decide) (fun c_43 => ?_) (fun c_43 => ?_)
              · refine lv_aload_nN hx hb dX2_readSteps_71 rfl (lv_at hl 0 rfl) ?_
                exact K_aZ hx hb hr (Or.inl ⟨_, rfl⟩) (Or.inl rfl) hlocks hP hD hK hS hT hE ⟨⟨_, rfl, Or.inl rfl⟩, hF, _, _, _, hk_h0_2, hk_h0_3, hk_h0_5, trivial, trivial, hk5⟩ (⟨_, _, hk_h0_3, hk_h0_5, by omega⟩) (by first | exact Nat.le_of_ble_eq_true rfl | (simp only [rm_X2_readSteps]; omega) | omega) (by first | exact Nat.le_of_ble_eq_true rfl | (simp only [rm_X2_readSteps]; omega) | omega) (by first | exact Nat.le_of_ble_eq_true rfl | (simp only [rm_X2_readSteps]; omega) | omega) dX2_readSteps_72
              · refine lv_aload_n hx hb dX2_readSteps_30 rfl (lv_at hl 3 rfl) ?_
                refine T_get (ci := 2) (C := RX2) (T := TX2) (N := 6) (t := tI) hx hb hts inw_X2_readSteps_2 hown hK hP hT 1 rfl rfl 2 (by decide) (hts (.fieldLink RX2 44 "VatHouse$Reader" "token" "I") (by decide +kernel)) (fun _ h9 => h9) rfl dX2_readSteps_31 (fun v_46 hv_44 hr_45 => ?_)
                obtain rfl : v_46 = .int k2 := hr_45.symm.trans hk_h0_2
                refine lv_bipush (v := 12) hx hb dX2_readSteps_34 (by decide) ?_
                refine lv_icmp_gt (tgt := 71) hx hb dX2_readSteps_36 (by decide) (fun c_47 => ?_) (fun c_47 => ?_)
                · refine lv_aload_nN hx hb dX2_readSteps_71 rfl (lv_at hl 0 rfl) ?_
                  exact K_aZ hx hb hr (Or.inl ⟨_, rfl⟩) (Or.inl rfl) hlocks hP hD hK hS hT hE ⟨⟨_, rfl, Or.inl rfl⟩, hF, _, _, _, hk_h0_2, hk_h0_3, hk_h0_5, trivial, trivial, hk5⟩ (⟨_, _, hk_h0_3, hk_h0_5, by omega⟩) (by first | exact Nat.le_of_ble_eq_true rfl | (simp only [rm_X2_readSteps]; omega) | omega) (by first | exact Nat.le_of_ble_eq_true rfl | (simp only [rm_X2_readSteps]; omega) | omega) (by first | exact Nat.le_of_ble_eq_true rfl | (simp only [rm_X2_readSteps]; omega) | omega) dX2_readSteps_72
                · refine lv_aload_n hx hb dX2_readSteps_39 rfl (lv_at hl 3 rfl) ?_
                  refine lv_iload_n hx hb dX2_readSteps_40 rfl (lv_at hl 4 rfl) ?_
                  have hTo := hT
                  refine K_VZ ⟨hx, hb, hml, hown, hts⟩ (t_X2_readStep l dC dI sa hlt g _ _ j d (pot k3 k5) h0 dep k2 k3 k5 _ (hT.sub [1] rfl)  hk_h0_2 hk_h0_3 hk_h0_5 hd hdj rfl hk5 IHR c_39) (cwV 1 hts gX2_readSteps_X2_readStep rfl rfl rfl (by decide +kernel) ⟨(by first | exact Nat.le_of_ble_eq_true rfl | (simp only [rm_X2_readStep, rm_X2_readSteps]; omega)), (by first | exact Nat.le_of_ble_eq_true rfl | (simp only [rm_X2_readStep, rm_X2_readSteps]; omega))⟩) hP hD hK hS hA hev hT 1 2 rfl rfl rfl rfl hl.1 rfl (Nat.le_of_ble_eq_true rfl) dX2_readSteps_41 ⟨(by first | exact Nat.le_of_ble_eq_true rfl | (simp only [rm_X2_readSteps]; omega) | omega), (by first | exact Nat.le_of_ble_eq_true rfl | (simp only [rm_X2_readSteps]; omega) | omega)⟩ (fun r L_48 f_49 n_51 H locs hw_50 hn_52 hP hD hS hT hE1 => ?_)
                  have hF := Fr.call hF hE hw_50.2.1 (by decide)
                  have hE := hE.tr hE1
                  obtain ⟨⟨v_53, rfl, hv9⟩, hw_50⟩ := hw_50
                  obtain ⟨b_54, rfl, hb9⟩ := hv9
                  have hT := hT.add hb9
                  obtain ⟨hfr_55, tn_56, fa_57, sg_58, hk_59, hk_60, hk_61, hrel_62, hrel_63, hrel_64⟩ := hw_50
                  have hq_66 : n_51 + pot fa_57 sg_58 ≤ pot k3 k5 := by
                    obtain ⟨a9, b9, g1, g2, g3⟩ := hn_52
                    cases g1.symm.trans hk_60
                    cases g2.symm.trans hk_61
                    exact g3
                  refine W.eq (g2 := F0 m 44 ls [.ref b_54]) rfl ?_
                  refine lv_astore (lv' := [(5, .ref b_54), (2, .null), (3, .ref b_2), (4, .int ii), (0, .ref h0), (1, .int dep)]) hx hb dX2_readSteps_44 hl (by decide) rfl (fun ls hl => ?_)
                  refine lv_aload_n hx hb dX2_readSteps_46 rfl (lv_at hl 2 rfl) ?_
                  refine lv_ifnonnull (tgt := 56) hx hb dX2_readSteps_47 (by decide) ?_
                  refine lv_aload_n hx hb dX2_readSteps_56 rfl (lv_at hl 2 rfl) ?_
                  refine lv_aload hx hb dX2_readSteps_57 (lv_at hl 0 rfl) ?_
                  have hTo := hT
                  refine T_put (ci := 5) (v := .ref b_54) (ty := .object "VatHouse$Step") (t := (2, 0, 5, 0)) (C := RX5) (T := TX5) (N := 8) hx hb hts inw_X2_readSteps_5 tyX5 tyX5_ok nmX5 hown hK hP hD hS hT 1 rfl rfl 7 (by decide) (hts (.fieldLink RX2 50 "VatHouse$Step" "next" "LVatHouse$Step;") (by decide +kernel)) (fun _ h9 => h9) rfl (by decide +kernel) rfl rfl rfl (Or.inr ⟨_, rfl, hT.at 0 rfl⟩) dX2_readSteps_59 (fun f_67 H locs hP hD hS hT hE1 hrd_68 => ?_)
                  have hF := Fr.put (a := b_2) (ci := 5) hF hE ((hE1 b_2 (hT.at 1 rfl).1).2.symm.trans (hT.at 1 rfl).2) (by decide) hrd_68
                  have hE := hE.tr hE1
                  have hk_69 : rd f_67 h0 2 = .int tn_56 := ((Fr.put (cs := [(5, 7)]) (a := b_2) (ci := 5) Fr.rf Ext.rf (hTo.at 1 rfl).2 (by decide) hrd_68) h0 (hTo.at 2 rfl).1 2 (hTo.at 2 rfl).2 2 (by decide)).trans hk_59
                  have hk_70 : rd f_67 h0 3 = .int fa_57 := ((Fr.put (cs := [(5, 7)]) (a := b_2) (ci := 5) Fr.rf Ext.rf (hTo.at 1 rfl).2 (by decide) hrd_68) h0 (hTo.at 2 rfl).1 2 (hTo.at 2 rfl).2 3 (by decide)).trans hk_60
                  have hk_71 : rd f_67 h0 5 = .int sg_58 := ((Fr.put (cs := [(5, 7)]) (a := b_2) (ci := 5) Fr.rf Ext.rf (hTo.at 1 rfl).2 (by decide) hrd_68) h0 (hTo.at 2 rfl).1 2 (hTo.at 2 rfl).2 5 (by decide)).trans hk_61
                  refine lv_aload hx hb dX2_readSteps_62 (lv_at hl 0 rfl) ?_
                  refine lv_astore_n (lv' := [(3, .ref b_54), (5, .ref b_54), (2, .null), (4, .int ii), (0, .ref h0), (1, .int dep)]) hx hb dX2_readSteps_64 rfl hl (by decide) rfl (fun ls hl => ?_)
                  refine lv_iinc (v := (ii + 1)) (lv' := [(4, .int (ii + 1)), (3, .ref b_54), (5, .ref b_54), (2, .null), (0, .ref h0), (1, .int dep)]) hx hb dX2_readSteps_65 hl (k := 3) rfl rfl (by decide) rfl (fun ls hl => ?_)
                  refine lv_goto (tgt := 7) hx hb dX2_readSteps_68 (by decide) ?_
                  exact W.widen (by first | exact Nat.le_of_ble_eq_true rfl | (simp only [rm_X2_readSteps]; omega) | omega) (by first | exact Nat.le_of_ble_eq_true rfl | (simp only [rm_X2_readSteps]; omega) | omega) (ih .null (.ref b_54) (ii + 1) tn_56 fa_57 sg_58 (kc + n_51) _ _ _ _ _ (up_le (by decide) hm c_35) (Or.inl rfl) (Or.inr ⟨_, rfl, hT.at 0 rfl⟩) hk_69 hk_70 hk_71 (by omega) (hrel_64) hP hD hS (hT.sub [2] rfl) hE hF (lv_sub hl [3, 1, 0, 4, 5] rfl))
      · have hT := hT.add hb9
        rcases hn_la with rfl | ⟨b_72, rfl, hb9⟩
        · have hl : lv_has ls 6 [(2, .ref b_1), (3, .null), (4, .int ii), (0, .ref h0), (1, .int dep)] := hl
          refine lv_iload hx hb dX2_readSteps_7 (lv_at hl 2 rfl) ?_
          refine lv_sipush (v := 300) hx hb dX2_readSteps_9 (by decide) ?_
          refine lv_icmp_gt (tgt := 71) hx hb dX2_readSteps_12 (by decide) (fun c_73 => ?_) (fun c_73 => ?_)
          · refine lv_aload_n hx hb dX2_readSteps_71 rfl (lv_at hl 0 rfl) ?_
            exact K_aZ hx hb hr (Or.inl ⟨_, rfl⟩) (Or.inr ⟨_, rfl⟩) hlocks hP hD hK hS hT hE ⟨⟨_, rfl, Or.inr ⟨_, rfl, hT.at 0 rfl⟩⟩, hF, _, _, _, hk_h0_2, hk_h0_3, hk_h0_5, trivial, trivial, hk5⟩ (⟨_, _, hk_h0_3, hk_h0_5, by omega⟩) (by first | exact Nat.le_of_ble_eq_true rfl | (simp only [rm_X2_readSteps]; omega) | omega) (by first | exact Nat.le_of_ble_eq_true rfl | (simp only [rm_X2_readSteps]; omega) | omega) (by first | exact Nat.le_of_ble_eq_true rfl | (simp only [rm_X2_readSteps]; omega) | omega) dX2_readSteps_72
          · refine lv_aload_n hx hb dX2_readSteps_15 rfl (lv_at hl 3 rfl) ?_
            refine T_get (ci := 2) (C := RX2) (T := TX2) (N := 6) (t := tI) hx hb hts inw_X2_readSteps_2 hown hK hP hT 1 rfl rfl 3 (by decide) (hts (.fieldLink RX2 28 "VatHouse$Reader" "fault" "I") (by decide +kernel)) (fun _ h9 => h9) rfl dX2_readSteps_16 (fun v_76 hv_74 hr_75 => ?_)
            obtain rfl : v_76 = .int k3 := hr_75.symm.trans hk_h0_3
            refine lv_if_ne (tgt := 71) hx hb dX2_readSteps_19 (by decide) (fun c_77 => ?_) (fun c_77 => ?_)
            · refine lv_aload_n hx hb dX2_readSteps_71 rfl (lv_at hl 0 rfl) ?_
              exact K_aZ hx hb hr (Or.inl ⟨_, rfl⟩) (Or.inr ⟨_, rfl⟩) hlocks hP hD hK hS hT hE ⟨⟨_, rfl, Or.inr ⟨_, rfl, hT.at 0 rfl⟩⟩, hF, _, _, _, hk_h0_2, hk_h0_3, hk_h0_5, trivial, trivial, hk5⟩ (⟨_, _, hk_h0_3, hk_h0_5, by omega⟩) (by first | exact Nat.le_of_ble_eq_true rfl | (simp only [rm_X2_readSteps]; omega) | omega) (by first | exact Nat.le_of_ble_eq_true rfl | (simp only [rm_X2_readSteps]; omega) | omega) (by first | exact Nat.le_of_ble_eq_true rfl | (simp only [rm_X2_readSteps]; omega) | omega) dX2_readSteps_72
            · refine lv_aload_n hx hb dX2_readSteps_22 rfl (lv_at hl 3 rfl) ?_
              refine T_get (ci := 2) (C := RX2) (T := TX2) (N := 6) (t := tI) hx hb hts inw_X2_readSteps_2 hown hK hP hT 1 rfl rfl 2 (by decide) (hts (.fieldLink RX2 44 "VatHouse$Reader" "token" "I") (by decide +kernel)) (fun _ h9 => h9) rfl dX2_readSteps_23 (fun v_80 hv_78 hr_79 => ?_)
              obtain rfl : v_80 = .int k2 := hr_79.symm.trans hk_h0_2
              refine lv_iconst (v := 1) hx hb dX2_readSteps_26 (by decide) ?_
              refine lv_icmp_lt (tgt := 71) hx hb dX2_readSteps_27 (by decide) (fun c_81 => ?_) (fun c_81 => ?_)
              · refine lv_aload_n hx hb dX2_readSteps_71 rfl (lv_at hl 0 rfl) ?_
                exact K_aZ hx hb hr (Or.inl ⟨_, rfl⟩) (Or.inr ⟨_, rfl⟩) hlocks hP hD hK hS hT hE ⟨⟨_, rfl, Or.inr ⟨_, rfl, hT.at 0 rfl⟩⟩, hF, _, _, _, hk_h0_2, hk_h0_3, hk_h0_5, trivial, trivial, hk5⟩ (⟨_, _, hk_h0_3, hk_h0_5, by omega⟩) (by first | exact Nat.le_of_ble_eq_true rfl | (simp only [rm_X2_readSteps]; omega) | omega) (by first | exact Nat.le_of_ble_eq_true rfl | (simp only [rm_X2_readSteps]; omega) | omega) (by first | exact Nat.le_of_ble_eq_true rfl | (simp only [rm_X2_readSteps]; omega) | omega) dX2_readSteps_72
              · refine lv_aload_n hx hb dX2_readSteps_30 rfl (lv_at hl 3 rfl) ?_
                refine T_get (ci := 2) (C := RX2) (T := TX2) (N := 6) (t := tI) hx hb hts inw_X2_readSteps_2 hown hK hP hT 1 rfl rfl 2 (by decide) (hts (.fieldLink RX2 44 "VatHouse$Reader" "token" "I") (by decide +kernel)) (fun _ h9 => h9) rfl dX2_readSteps_31 (fun v_84 hv_82 hr_83 => ?_)
                obtain rfl : v_84 = .int k2 := hr_83.symm.trans hk_h0_2
                refine lv_bipush (v := 12) hx hb dX2_readSteps_34 (by decide) ?_
                refine lv_icmp_gt (tgt := 71) hx hb dX2_readSteps_36 (by decide) (fun c_85 => ?_) (fun c_85 => ?_)
                · refine lv_aload_n hx hb dX2_readSteps_71 rfl (lv_at hl 0 rfl) ?_
                  exact K_aZ hx hb hr (Or.inl ⟨_, rfl⟩) (Or.inr ⟨_, rfl⟩) hlocks hP hD hK hS hT hE ⟨⟨_, rfl, Or.inr ⟨_, rfl, hT.at 0 rfl⟩⟩, hF, _, _, _, hk_h0_2, hk_h0_3, hk_h0_5, trivial, trivial, hk5⟩ (⟨_, _, hk_h0_3, hk_h0_5, by omega⟩) (by first | exact Nat.le_of_ble_eq_true rfl | (simp only [rm_X2_readSteps]; omega) | omega) (by first | exact Nat.le_of_ble_eq_true rfl | (simp only [rm_X2_readSteps]; omega) | omega) (by first | exact Nat.le_of_ble_eq_true rfl | (simp only [rm_X2_readSteps]; omega) | omega) dX2_readSteps_72
                · refine lv_aload_n hx hb dX2_readSteps_39 rfl (lv_at hl 3 rfl) ?_
                  refine lv_iload_n hx hb dX2_readSteps_40 rfl (lv_at hl 4 rfl) ?_
                  have hTo := hT
                  refine K_VZ ⟨hx, hb, hml, hown, hts⟩ (t_X2_readStep l dC dI sa hlt g _ _ j d (pot k3 k5) h0 dep k2 k3 k5 _ (hT.sub [1] rfl)  hk_h0_2 hk_h0_3 hk_h0_5 hd hdj rfl hk5 IHR c_77) (cwV 1 hts gX2_readSteps_X2_readStep rfl rfl rfl (by decide +kernel) ⟨(by first | exact Nat.le_of_ble_eq_true rfl | (simp only [rm_X2_readStep, rm_X2_readSteps]; omega)), (by first | exact Nat.le_of_ble_eq_true rfl | (simp only [rm_X2_readStep, rm_X2_readSteps]; omega))⟩) hP hD hK hS hA hev hT 1 2 rfl rfl rfl rfl hl.1 rfl (Nat.le_of_ble_eq_true rfl) dX2_readSteps_41 ⟨(by first | exact Nat.le_of_ble_eq_true rfl | (simp only [rm_X2_readSteps]; omega) | omega), (by first | exact Nat.le_of_ble_eq_true rfl | (simp only [rm_X2_readSteps]; omega) | omega)⟩ (fun r L_86 f_87 n_89 H locs hw_88 hn_90 hP hD hS hT hE1 => ?_)
                  have hF := Fr.call hF hE hw_88.2.1 (by decide)
                  have hE := hE.tr hE1
                  obtain ⟨⟨v_91, rfl, hv9⟩, hw_88⟩ := hw_88
                  obtain ⟨b_92, rfl, hb9⟩ := hv9
                  have hT := hT.add hb9
                  obtain ⟨hfr_93, tn_94, fa_95, sg_96, hk_97, hk_98, hk_99, hrel_100, hrel_101, hrel_102⟩ := hw_88
                  have hq_104 : n_89 + pot fa_95 sg_96 ≤ pot k3 k5 := by
                    obtain ⟨a9, b9, g1, g2, g3⟩ := hn_90
                    cases g1.symm.trans hk_98
                    cases g2.symm.trans hk_99
                    exact g3
                  refine W.eq (g2 := F0 m 44 ls [.ref b_92]) rfl ?_
                  refine lv_astore (lv' := [(5, .ref b_92), (2, .ref b_1), (3, .null), (4, .int ii), (0, .ref h0), (1, .int dep)]) hx hb dX2_readSteps_44 hl (by decide) rfl (fun ls hl => ?_)
                  refine lv_aload_nN hx hb dX2_readSteps_46 rfl (lv_at hl 2 rfl) ?_
                  refine lv_ifnonnullN hx hb dX2_readSteps_47 ?_
                  refine lv_aload hx hb dX2_readSteps_50 (lv_at hl 0 rfl) ?_
                  refine lv_astore_n (lv' := [(2, .ref b_92), (5, .ref b_92), (3, .null), (4, .int ii), (0, .ref h0), (1, .int dep)]) hx hb dX2_readSteps_52 rfl hl (by decide) rfl (fun ls hl => ?_)
                  refine lv_goto (tgt := 62) hx hb dX2_readSteps_53 (by decide) ?_
                  refine lv_aload hx hb dX2_readSteps_62 (lv_at hl 1 rfl) ?_
                  refine lv_astore_n (lv' := [(3, .ref b_92), (2, .ref b_92), (5, .ref b_92), (4, .int ii), (0, .ref h0), (1, .int dep)]) hx hb dX2_readSteps_64 rfl hl (by decide) rfl (fun ls hl => ?_)
                  refine lv_iinc (v := (ii + 1)) (lv' := [(4, .int (ii + 1)), (3, .ref b_92), (2, .ref b_92), (5, .ref b_92), (0, .ref h0), (1, .int dep)]) hx hb dX2_readSteps_65 hl (k := 3) rfl rfl (by decide) rfl (fun ls hl => ?_)
                  refine lv_goto (tgt := 7) hx hb dX2_readSteps_68 (by decide) ?_
                  exact W.widen (by first | exact Nat.le_of_ble_eq_true rfl | (simp only [rm_X2_readSteps]; omega) | omega) (by first | exact Nat.le_of_ble_eq_true rfl | (simp only [rm_X2_readSteps]; omega) | omega) (ih (.ref b_92) (.ref b_92) (ii + 1) tn_94 fa_95 sg_96 (kc + n_89) _ _ _ _ _ (up_le (by decide) hm c_73) (Or.inr ⟨_, rfl, hT.at 0 rfl⟩) (Or.inr ⟨_, rfl, hT.at 0 rfl⟩) hk_97 hk_98 hk_99 (by omega) (hrel_102) hP hD hS (hT.sub [2] rfl) hE hF (lv_sub hl [2, 1, 0, 4, 5] rfl))
        · have hT := hT.add hb9
          have hl : lv_has ls 6 [(2, .ref b_1), (3, .ref b_72), (4, .int ii), (0, .ref h0), (1, .int dep)] := hl
          refine lv_iload hx hb dX2_readSteps_7 (lv_at hl 2 rfl) ?_
          refine lv_sipush (v := 300) hx hb dX2_readSteps_9 (by decide) ?_
          refine lv_icmp_gt (tgt := 71) hx hb dX2_readSteps_12 (by decide) (fun c_105 => ?_) (fun c_105 => ?_)
          · refine lv_aload_n hx hb dX2_readSteps_71 rfl (lv_at hl 0 rfl) ?_
            exact K_aZ hx hb hr (Or.inl ⟨_, rfl⟩) (Or.inr ⟨_, rfl⟩) hlocks hP hD hK hS hT hE ⟨⟨_, rfl, Or.inr ⟨_, rfl, hT.at 1 rfl⟩⟩, hF, _, _, _, hk_h0_2, hk_h0_3, hk_h0_5, trivial, trivial, hk5⟩ (⟨_, _, hk_h0_3, hk_h0_5, by omega⟩) (by first | exact Nat.le_of_ble_eq_true rfl | (simp only [rm_X2_readSteps]; omega) | omega) (by first | exact Nat.le_of_ble_eq_true rfl | (simp only [rm_X2_readSteps]; omega) | omega) (by first | exact Nat.le_of_ble_eq_true rfl | (simp only [rm_X2_readSteps]; omega) | omega) dX2_readSteps_72
          · refine lv_aload_n hx hb dX2_readSteps_15 rfl (lv_at hl 3 rfl) ?_
            refine T_get (ci := 2) (C := RX2) (T := TX2) (N := 6) (t := tI) hx hb hts inw_X2_readSteps_2 hown hK hP hT 2 rfl rfl 3 (by decide) (hts (.fieldLink RX2 28 "VatHouse$Reader" "fault" "I") (by decide +kernel)) (fun _ h9 => h9) rfl dX2_readSteps_16 (fun v_108 hv_106 hr_107 => ?_)
            obtain rfl : v_108 = .int k3 := hr_107.symm.trans hk_h0_3
            refine lv_if_ne (tgt := 71) hx hb dX2_readSteps_19 (by decide) (fun c_109 => ?_) (fun c_109 => ?_)
            · refine lv_aload_n hx hb dX2_readSteps_71 rfl (lv_at hl 0 rfl) ?_
              exact K_aZ hx hb hr (Or.inl ⟨_, rfl⟩) (Or.inr ⟨_, rfl⟩) hlocks hP hD hK hS hT hE ⟨⟨_, rfl, Or.inr ⟨_, rfl, hT.at 1 rfl⟩⟩, hF, _, _, _, hk_h0_2, hk_h0_3, hk_h0_5, trivial, trivial, hk5⟩ (⟨_, _, hk_h0_3, hk_h0_5, by omega⟩) (by first | exact Nat.le_of_ble_eq_true rfl | (simp only [rm_X2_readSteps]; omega) | omega) (by first | exact Nat.le_of_ble_eq_true rfl | (simp only [rm_X2_readSteps]; omega) | omega) (by first | exact Nat.le_of_ble_eq_true rfl | (simp only [rm_X2_readSteps]; omega) | omega) dX2_readSteps_72
            · refine lv_aload_n hx hb dX2_readSteps_22 rfl (lv_at hl 3 rfl) ?_
              refine T_get (ci := 2) (C := RX2) (T := TX2) (N := 6) (t := tI) hx hb hts inw_X2_readSteps_2 hown hK hP hT 2 rfl rfl 2 (by decide) (hts (.fieldLink RX2 44 "VatHouse$Reader" "token" "I") (by decide +kernel)) (fun _ h9 => h9) rfl dX2_readSteps_23 (fun v_112 hv_110 hr_111 => ?_)
              obtain rfl : v_112 = .int k2 := hr_111.symm.trans hk_h0_2
              refine lv_iconst (v := 1) hx hb dX2_readSteps_26 (by decide) ?_
              refine lv_icmp_lt (tgt := 71) hx hb dX2_readSteps_27 (by decide) (fun c_113 => ?_) (fun c_113 => ?_)
              · refine lv_aload_n hx hb dX2_readSteps_71 rfl (lv_at hl 0 rfl) ?_
                exact K_aZ hx hb hr (Or.inl ⟨_, rfl⟩) (Or.inr ⟨_, rfl⟩) hlocks hP hD hK hS hT hE ⟨⟨_, rfl, Or.inr ⟨_, rfl, hT.at 1 rfl⟩⟩, hF, _, _, _, hk_h0_2, hk_h0_3, hk_h0_5, trivial, trivial, hk5⟩ (⟨_, _, hk_h0_3, hk_h0_5, by omega⟩) (by first | exact Nat.le_of_ble_eq_true rfl | (simp only [rm_X2_readSteps]; omega) | omega) (by first | exact Nat.le_of_ble_eq_true rfl | (simp only [rm_X2_readSteps]; omega) | omega) (by first | exact Nat.le_of_ble_eq_true rfl | (simp only [rm_X2_readSteps]; omega) | omega) dX2_readSteps_72
              · refine lv_aload_n hx hb dX2_readSteps_30 rfl (lv_at hl 3 rfl) ?_
                refine T_get (ci := 2) (C := RX2) (T := TX2) (N := 6) (t := tI) hx hb hts inw_X2_readSteps_2 hown hK hP hT 2 rfl rfl 2 (by decide) (hts (.fieldLink RX2 44 "VatHouse$Reader" "token" "I") (by decide +kernel)) (fun _ h9 => h9) rfl dX2_readSteps_31 (fun v_116 hv_114 hr_115 => ?_)
                obtain rfl : v_116 = .int k2 := hr_115.symm.trans hk_h0_2
                refine lv_bipush (v := 12) hx hb dX2_readSteps_34 (by decide) ?_
                refine lv_icmp_gt (tgt := 71) hx hb dX2_readSteps_36 (by decide) (fun c_117 => ?_) (fun c_117 => ?_)
                · refine lv_aload_n hx hb dX2_readSteps_71 rfl (lv_at hl 0 rfl) ?_
                  exact K_aZ hx hb hr (Or.inl ⟨_, rfl⟩) (Or.inr ⟨_, rfl⟩) hlocks hP hD hK hS hT hE ⟨⟨_, rfl, Or.inr ⟨_, rfl, hT.at 1 rfl⟩⟩, hF, _, _, _, hk_h0_2, hk_h0_3, hk_h0_5, trivial, trivial, hk5⟩ (⟨_, _, hk_h0_3, hk_h0_5, by omega⟩) (by first | exact Nat.le_of_ble_eq_true rfl | (simp only [rm_X2_readSteps]; omega) | omega) (by first | exact Nat.le_of_ble_eq_true rfl | (simp only [rm_X2_readSteps]; omega) | omega) (by first | exact Nat.le_of_ble_eq_true rfl | (simp only [rm_X2_readSteps]; omega) | omega) dX2_readSteps_72
                · refine lv_aload_n hx hb dX2_readSteps_39 rfl (lv_at hl 3 rfl) ?_
                  refine lv_iload_n hx hb dX2_readSteps_40 rfl (lv_at hl 4 rfl) ?_
                  have hTo := hT
                  refine K_VZ ⟨hx, hb, hml, hown, hts⟩ (t_X2_readStep l dC dI sa hlt g _ _ j d (pot k3 k5) h0 dep k2 k3 k5 _ (hT.sub [2] rfl)  hk_h0_2 hk_h0_3 hk_h0_5 hd hdj rfl hk5 IHR c_109) (cwV 1 hts gX2_readSteps_X2_readStep rfl rfl rfl (by decide +kernel) ⟨(by first | exact Nat.le_of_ble_eq_true rfl | (simp only [rm_X2_readStep, rm_X2_readSteps]; omega)), (by first | exact Nat.le_of_ble_eq_true rfl | (simp only [rm_X2_readStep, rm_X2_readSteps]; omega))⟩) hP hD hK hS hA hev hT 2 2 rfl rfl rfl rfl hl.1 rfl (Nat.le_of_ble_eq_true rfl) dX2_readSteps_41 ⟨(by first | exact Nat.le_of_ble_eq_true rfl | (simp only [rm_X2_readSteps]; omega) | omega), (by first | exact Nat.le_of_ble_eq_true rfl | (simp only [rm_X2_readSteps]; omega) | omega)⟩ (fun r L_118 f_119 n_121 H locs hw_120 hn_122 hP hD hS hT hE1 => ?_)
                  have hF := Fr.call hF hE hw_120.2.1 (by decide)
                  have hE := hE.tr hE1
                  obtain ⟨⟨v_123, rfl, hv9⟩, hw_120⟩ := hw_120
                  obtain ⟨b_124, rfl, hb9⟩ := hv9
                  have hT := hT.add hb9
                  obtain ⟨hfr_125, tn_126, fa_127, sg_128, hk_129, hk_130, hk_131, hrel_132, hrel_133, hrel_134⟩ := hw_120
                  have hq_136 : n_121 + pot fa_127 sg_128 ≤ pot k3 k5 := by
                    obtain ⟨a9, b9, g1, g2, g3⟩ := hn_122
                    cases g1.symm.trans hk_130
                    cases g2.symm.trans hk_131
                    exact g3
                  refine W.eq (g2 := F0 m 44 ls [.ref b_124]) rfl ?_
                  refine lv_astore (lv' := [(5, .ref b_124), (2, .ref b_1), (3, .ref b_72), (4, .int ii), (0, .ref h0), (1, .int dep)]) hx hb dX2_readSteps_44 hl (by decide) rfl (fun ls hl => ?_)
                  refine lv_aload_n hx hb dX2_readSteps_46 rfl (lv_at hl 2 rfl) ?_
                  refine lv_ifnonnull (tgt := 56) hx hb dX2_readSteps_47 (by decide) ?_
                  refine lv_aload_n hx hb dX2_readSteps_56 rfl (lv_at hl 2 rfl) ?_
                  refine lv_aload hx hb dX2_readSteps_57 (lv_at hl 0 rfl) ?_
                  have hTo := hT
                  refine T_put (ci := 5) (v := .ref b_124) (ty := .object "VatHouse$Step") (t := (2, 0, 5, 0)) (C := RX5) (T := TX5) (N := 8) hx hb hts inw_X2_readSteps_5 tyX5 tyX5_ok nmX5 hown hK hP hD hS hT 1 rfl rfl 7 (by decide) (hts (.fieldLink RX2 50 "VatHouse$Step" "next" "LVatHouse$Step;") (by decide +kernel)) (fun _ h9 => h9) rfl (by decide +kernel) rfl rfl rfl (Or.inr ⟨_, rfl, hT.at 0 rfl⟩) dX2_readSteps_59 (fun f_137 H locs hP hD hS hT hE1 hrd_138 => ?_)
                  have hF := Fr.put (a := b_72) (ci := 5) hF hE ((hE1 b_72 (hT.at 1 rfl).1).2.symm.trans (hT.at 1 rfl).2) (by decide) hrd_138
                  have hE := hE.tr hE1
                  have hk_139 : rd f_137 h0 2 = .int tn_126 := ((Fr.put (cs := [(5, 7)]) (a := b_72) (ci := 5) Fr.rf Ext.rf (hTo.at 1 rfl).2 (by decide) hrd_138) h0 (hTo.at 3 rfl).1 2 (hTo.at 3 rfl).2 2 (by decide)).trans hk_129
                  have hk_140 : rd f_137 h0 3 = .int fa_127 := ((Fr.put (cs := [(5, 7)]) (a := b_72) (ci := 5) Fr.rf Ext.rf (hTo.at 1 rfl).2 (by decide) hrd_138) h0 (hTo.at 3 rfl).1 2 (hTo.at 3 rfl).2 3 (by decide)).trans hk_130
                  have hk_141 : rd f_137 h0 5 = .int sg_128 := ((Fr.put (cs := [(5, 7)]) (a := b_72) (ci := 5) Fr.rf Ext.rf (hTo.at 1 rfl).2 (by decide) hrd_138) h0 (hTo.at 3 rfl).1 2 (hTo.at 3 rfl).2 5 (by decide)).trans hk_131
                  refine lv_aload hx hb dX2_readSteps_62 (lv_at hl 0 rfl) ?_
                  refine lv_astore_n (lv' := [(3, .ref b_124), (5, .ref b_124), (2, .ref b_1), (4, .int ii), (0, .ref h0), (1, .int dep)]) hx hb dX2_readSteps_64 rfl hl (by decide) rfl (fun ls hl => ?_)
                  refine lv_iinc (v := (ii + 1)) (lv' := [(4, .int (ii + 1)), (3, .ref b_124), (5, .ref b_124), (2, .ref b_1), (0, .ref h0), (1, .int dep)]) hx hb dX2_readSteps_65 hl (k := 3) rfl rfl (by decide) rfl (fun ls hl => ?_)
                  refine lv_goto (tgt := 7) hx hb dX2_readSteps_68 (by decide) ?_
                  exact W.widen (by first | exact Nat.le_of_ble_eq_true rfl | (simp only [rm_X2_readSteps]; omega) | omega) (by first | exact Nat.le_of_ble_eq_true rfl | (simp only [rm_X2_readSteps]; omega) | omega) (ih (.ref b_1) (.ref b_124) (ii + 1) tn_126 fa_127 sg_128 (kc + n_121) _ _ _ _ _ (up_le (by decide) hm c_105) (Or.inr ⟨_, rfl, hT.at 2 rfl⟩) (Or.inr ⟨_, rfl, hT.at 0 rfl⟩) hk_139 hk_140 hk_141 (by omega) (hrel_134) hP hD hS (hT.sub [3] rfl) hE hF (lv_sub hl [3, 1, 0, 4, 5] rfl))
  exact W.widen (by first | exact Nat.le_of_ble_eq_true rfl | (simp only [rm_X2_readSteps]; omega) | omega) (by first | exact Nat.le_of_ble_eq_true rfl | (simp only [rm_X2_readSteps]; omega) | omega) (lp 302 .null .null 0 tn fa sg (0) _ _ _ _ _ (⟨0, nI_0.symm, by omega, by omega⟩) (Or.inl rfl) (Or.inl rfl) hm_tn hm_fa hm_sg (by omega) (hs3) hP hD hS (hT.sub [0] rfl) hE hF (lv_sub hl [2, 1, 0, 3, 4] rfl))

theorem X2_readSteps_all (l : Launch) (dC : Nat → ClassId) (dI : Nat → Nat → Nat) (sa : Nat → Nat) (hlt : l.stackTraces = false) (g : Nat → Nat) : ∀ (j d : Nat), d + j = 8 → ∀ (L : List Nat) (f : Nat → va_E) (P : Nat) (h0 : Nat) (dep : Int32) (tn : Int32) (fa : Int32) (sg : Int32) (sz : Nat) (hT : TP g L f [(h0, (0, 2, 0))]) (hm_tn : rd f h0 2 = .int tn) (hm_fa : rd f h0 3 = .int fa) (hm_sg : rd f h0 5 = .int sg) (hd : dep = nI d) (hP0 : pot fa sg = P) (hs3 : sg.toInt ≤ 300), KZ l dC dI sa g yX2_readSteps wsX2_readSteps (rm_X2_readSteps j d P) [.ref h0, .int dep] L f sz (fun r L' f' => (∃ v : Value, r = some v ∧ okv L' f' (2, 0, 5, 0) v) ∧ Fr [(2, 1), (2, 2), (2, 3), (2, 4), (5, 0), (5, 1), (5, 2), (5, 3), (5, 4), (5, 5), (5, 6), (5, 7), (2, 5)] L f f' ∧ (∃ tn' : Int32, ∃ fa' : Int32, ∃ sg' : Int32, rd f' h0 2 = .int tn' ∧ rd f' h0 3 = .int fa' ∧ rd f' h0 5 = .int sg' ∧ (True) ∧ (True) ∧ (sg'.toInt ≤ 300))) (fun n f' => ∃ a b : Int32, rd f' h0 3 = .int a ∧ rd f' h0 5 = .int b ∧ n + pot a b ≤ P) P (8 * P) := by
  intro j
  induction j with
  | zero => exact fun d hdj L f P h0 dep tn fa sg sz hT hm1 hm2 hm3 hd hP0 hs3 => t_X2_readSteps l dC dI sa hlt g L f 0 d P h0 dep tn fa sg sz hT hm1 hm2 hm3 hd hdj hP0 hs3 (fun j' d' _ h => absurd h (by omega))
  | succ j ih =>
    exact fun d hdj L f P h0 dep tn fa sg sz hT hm1 hm2 hm3 hd hP0 hs3 => t_X2_readSteps l dC dI sa hlt g L f (j + 1) d P h0 dep tn fa sg sz hT hm1 hm2 hm3 hd hdj hP0 hs3 (fun j' d' hdj' hj => by
      obtain rfl : j = j' := by omega
      exact ih d' hdj')

abbrev rm_X2_readRecipe : Room := { frames := 80, cells := 301, slots := 2408, locals := 2400 }
theorem inw_X2_readRecipe_2 : ∀ w ∈ wsX20, w ∈ wsX2_readRecipe := by decide +kernel
set_option maxHeartbeats 800000 in
set_option maxRecDepth 100000 in
theorem t_X2_readRecipe (l : Launch) (dC : Nat → ClassId) (dI : Nat → Nat → Nat) (sa : Nat → Nat) (hlt : l.stackTraces = false) (g : Nat → Nat) (L : List Nat) (f : Nat → va_E) (h0 : Nat) (nn : Int32) (sz : Nat) (hT : TP g L f [(h0, (0, 2, 0))]) : KC l dC dI sa g yX2_readRecipe wsX2_readRecipe (rm_X2_readRecipe ) [.ref h0, .int nn] L f sz (fun r L' f' => (∃ v : Value, r = some v ∧ okv L' f' (2, 0, 5, 0) v) ∧ Fr [(2, 0), (2, 1), (2, 2), (2, 3), (2, 4), (2, 5), (5, 0), (5, 1), (5, 2), (5, 3), (5, 4), (5, 5), (5, 6), (5, 7), (6, 0), (6, 1), (6, 2), (6, 3), (6, 4), (6, 5), (6, 6)] L f f') 301 2408 := by
  refine CT.start (cc := cX2_readRecipe) (maxL := 3) (ret := (some (.object "VatHouse$Step"))) (by decide) rfl (Nat.le_of_ble_eq_true rfl) ?_
  intro p e s m below meth c ls hst hP hK hD hev hS hl
  obtain ⟨hx, hb, hr, hml, hts, hown, hlocks, hin⟩ := hst
  have hown : s.vm.findClass RX2 = some m.cls := hown
  have hin : meth.name = yX2_readRecipe.name := hin
  have hA : ∀ q : Nat, s.heap.size ≤ q → va_A (va_pl L f) s.heap.size q := fun _ h => Or.inr h
  have hE : Ext L f L f := Ext.rf
  have hF : Fr [(2, 0), (2, 1), (2, 2), (2, 3), (2, 4), (2, 5), (5, 0), (5, 1), (5, 2), (5, 3), (5, 4), (5, 5), (5, 6), (5, 7), (6, 0), (6, 1), (6, 2), (6, 3), (6, 4), (6, 5), (6, 6)] L f f := Fr.rf
  have hl : lv_has ls 3 [(0, .ref h0), (1, .int nn)] := hl
  have hp00 : pot 0 0 = 301 := by decide
  refine lv_aload_n hx hb dX2_readRecipe_0 rfl (lv_at hl 0 rfl) ?_
  refine T_get (ci := 2) (C := RX2) (T := TX2) (N := 6) (t := (1, 0, 6, 0)) hx hb hts inw_X2_readRecipe_2 hown hK hP hT 0 rfl rfl 0 (by decide) (hts (.fieldLink RX2 20 "VatHouse$Reader" "tokens" "LVatHouse$Tokens;") (by decide +kernel)) (fun _ h9 => h9) rfl dX2_readRecipe_1 (fun v_3 hv_1 hr_2 => ?_)
  obtain ⟨b_4, rfl, hb9⟩ := hv_1
  have hT := hT.add hb9
  refine lv_iload_n hx hb dX2_readRecipe_4 rfl (lv_at hl 1 rfl) ?_
  refine K_V ⟨hx, hb, hml, hown, hts⟩ (t_X6_split l dC dI sa hlt g _ _ b_4 nn _ (hT.sub [0] rfl)  ) (cwV 1 hts gX2_readRecipe_X6_split rfl rfl rfl (by decide +kernel) ⟨(by first | exact Nat.le_of_ble_eq_true rfl | (simp only [rm_X6_split, rm_X2_readRecipe]; omega)), (by first | exact Nat.le_of_ble_eq_true rfl | (simp only [rm_X6_split, rm_X2_readRecipe]; omega))⟩) hP hD hK hS hA hev hT 0 6 rfl rfl rfl rfl hl.1 rfl (Nat.le_of_ble_eq_true rfl) dX2_readRecipe_5 ⟨(by first | exact Nat.le_of_ble_eq_true rfl | (simp only [rm_X2_readRecipe]; omega) | omega), (by first | exact Nat.le_of_ble_eq_true rfl | (simp only [rm_X2_readRecipe]; omega) | omega)⟩ (fun r L_5 f_6 H locs hw_7 hP hD hS hT hE1 => ?_)
  have hF := Fr.call hF hE hw_7.2 (by decide)
  have hE := hE.tr hE1
  obtain ⟨rfl, hw_7⟩ := hw_7
  refine W.eq (g2 := F0 m 8 ls []) rfl ?_
  refine lv_aload_n hx hb dX2_readRecipe_8 rfl (lv_at hl 0 rfl) ?_
  refine lv_iconst (v := 0) hx hb dX2_readRecipe_9 (by decide) ?_
  refine T_put (ci := 2) (v := .int 0) (ty := .int) (t := tI) (C := RX2) (T := TX2) (N := 6) hx hb hts inw_X2_readRecipe_2 tyX2 tyX2_ok nmX2 hown hK hP hD hS hT 1 rfl rfl 3 (by decide) (hts (.fieldLink RX2 28 "VatHouse$Reader" "fault" "I") (by decide +kernel)) (fun _ h9 => h9) rfl (by decide +kernel) rfl rfl rfl ⟨_, rfl⟩ dX2_readRecipe_10 (fun f_8 H locs hP hD hS hT hE1 hrd_9 => ?_)
  have hF := Fr.put (a := h0) (ci := 2) hF hE ((hE1 h0 (hT.at 1 rfl).1).2.symm.trans (hT.at 1 rfl).2) (by decide) hrd_9
  have hE := hE.tr hE1
  have hk_10 : rd f_8 h0 3 = .int 0 := (hrd_9 h0 3).trans (if_pos ⟨rfl, rfl⟩)
  refine lv_aload_n hx hb dX2_readRecipe_13 rfl (lv_at hl 0 rfl) ?_
  refine lv_iconst (v := (-1)) hx hb dX2_readRecipe_14 (by decide) ?_
  have hTo := hT
  refine T_put (ci := 2) (v := .int (-1)) (ty := .int) (t := tI) (C := RX2) (T := TX2) (N := 6) hx hb hts inw_X2_readRecipe_2 tyX2 tyX2_ok nmX2 hown hK hP hD hS hT 1 rfl rfl 4 (by decide) (hts (.fieldLink RX2 9 "VatHouse$Reader" "place" "I") (by decide +kernel)) (fun _ h9 => h9) rfl (by decide +kernel) rfl rfl rfl ⟨_, rfl⟩ dX2_readRecipe_15 (fun f_11 H locs hP hD hS hT hE1 hrd_12 => ?_)
  have hF := Fr.put (a := h0) (ci := 2) hF hE ((hE1 h0 (hT.at 1 rfl).1).2.symm.trans (hT.at 1 rfl).2) (by decide) hrd_12
  have hE := hE.tr hE1
  have hk_13 : rd f_11 h0 3 = .int 0 := ((Fr.put (cs := [(2, 4)]) (a := h0) (ci := 2) Fr.rf Ext.rf (hTo.at 1 rfl).2 (by decide) hrd_12) h0 (hTo.at 1 rfl).1 2 (hTo.at 1 rfl).2 3 (by decide)).trans hk_10
  refine lv_aload_n hx hb dX2_readRecipe_18 rfl (lv_at hl 0 rfl) ?_
  refine lv_iconst (v := 0) hx hb dX2_readRecipe_19 (by decide) ?_
  have hTo := hT
  refine T_put (ci := 2) (v := .int 0) (ty := .int) (t := tI) (C := RX2) (T := TX2) (N := 6) hx hb hts inw_X2_readRecipe_2 tyX2 tyX2_ok nmX2 hown hK hP hD hS hT 1 rfl rfl 5 (by decide) (hts (.fieldLink RX2 31 "VatHouse$Reader" "steps" "I") (by decide +kernel)) (fun _ h9 => h9) rfl (by decide +kernel) rfl rfl rfl ⟨_, rfl⟩ dX2_readRecipe_20 (fun f_14 H locs hP hD hS hT hE1 hrd_15 => ?_)
  have hF := Fr.put (a := h0) (ci := 2) hF hE ((hE1 h0 (hT.at 1 rfl).1).2.symm.trans (hT.at 1 rfl).2) (by decide) hrd_15
  have hE := hE.tr hE1
  have hk_16 : rd f_14 h0 3 = .int 0 := ((Fr.put (cs := [(2, 5)]) (a := h0) (ci := 2) Fr.rf Ext.rf (hTo.at 1 rfl).2 (by decide) hrd_15) h0 (hTo.at 1 rfl).1 2 (hTo.at 1 rfl).2 3 (by decide)).trans hk_13
  have hk_17 : rd f_14 h0 5 = .int 0 := (hrd_15 h0 5).trans (if_pos ⟨rfl, rfl⟩)
  refine lv_aload_n hx hb dX2_readRecipe_23 rfl (lv_at hl 0 rfl) ?_
  refine lv_iconst (v := 0) hx hb dX2_readRecipe_24 (by decide) ?_
  have hTo := hT
  refine K_V ⟨hx, hb, hml, hown, hts⟩ (t_X2_moveTo l dC dI sa hlt g _ _ h0 0 _ (hT.sub [1] rfl)  ) (cwV 1 hts gX2_readRecipe_X2_moveTo rfl rfl rfl (by decide +kernel) ⟨(by first | exact Nat.le_of_ble_eq_true rfl | (simp only [rm_X2_moveTo, rm_X2_readRecipe]; omega)), (by first | exact Nat.le_of_ble_eq_true rfl | (simp only [rm_X2_moveTo, rm_X2_readRecipe]; omega))⟩) hP hD hK hS hA hev hT 1 2 rfl rfl rfl rfl hl.1 rfl (Nat.le_of_ble_eq_true rfl) dX2_readRecipe_25 ⟨(by first | exact Nat.le_of_ble_eq_true rfl | (simp only [rm_X2_readRecipe]; omega) | omega), (by first | exact Nat.le_of_ble_eq_true rfl | (simp only [rm_X2_readRecipe]; omega) | omega)⟩ (fun r L_18 f_19 H locs hw_20 hP hD hS hT hE1 => ?_)
  have hF := Fr.call hF hE hw_20.2.1 (by decide)
  have hE := hE.tr hE1
  obtain ⟨rfl, hw_20⟩ := hw_20
  obtain ⟨hfr_21, tn_22, hk_23, hrel_24⟩ := hw_20
  have hk_26 : rd f_19 h0 3 = .int 0 := (hfr_21 h0 (hTo.at 1 rfl).1 2 (hTo.at 1 rfl).2 3 (by decide)).trans hk_16
  have hk_27 : rd f_19 h0 5 = .int 0 := (hfr_21 h0 (hTo.at 1 rfl).1 2 (hTo.at 1 rfl).2 5 (by decide)).trans hk_17
  refine W.eq (g2 := F0 m 28 ls []) rfl ?_
  refine lv_aload_n hx hb dX2_readRecipe_28 rfl (lv_at hl 0 rfl) ?_
  refine lv_iconst (v := 0) hx hb dX2_readRecipe_29 (by decide) ?_
  have hTo := hT
  refine K_VZ ⟨hx, hb, hml, hown, hts⟩ (X2_readSteps_all l dC dI sa hlt g 8 0 rfl _ _ (pot 0 0) h0 0 tn_22 0 0 _ (hT.sub [1] rfl)  hk_23 hk_26 hk_27 nI_0.symm rfl (by decide)) (cwV 1 hts gX2_readRecipe_X2_readSteps rfl rfl rfl (by decide +kernel) ⟨(by first | exact Nat.le_of_ble_eq_true rfl | (simp only [rm_X2_readSteps, rm_X2_readRecipe]; omega)), (by first | exact Nat.le_of_ble_eq_true rfl | (simp only [rm_X2_readSteps, rm_X2_readRecipe]; omega))⟩) hP hD hK hS hA hev hT 1 2 rfl rfl rfl rfl hl.1 rfl (Nat.le_of_ble_eq_true rfl) dX2_readRecipe_30 ⟨(by first | exact Nat.le_of_ble_eq_true rfl | (simp only [rm_X2_readRecipe]; omega) | omega), (by first | exact Nat.le_of_ble_eq_true rfl | (simp only [rm_X2_readRecipe]; omega) | omega)⟩ (fun r L_28 f_29 n_31 H locs hw_30 hn_32 hP hD hS hT hE1 => ?_)
  have hF := Fr.call hF hE hw_30.2.1 (by decide)
  have hE := hE.tr hE1
  obtain ⟨⟨v_33, rfl, hv9⟩, hw_30⟩ := hw_30
  rcases hv9 with rfl | ⟨b_34, rfl, hb9⟩
  · obtain ⟨hfr_35, tn_36, fa_37, sg_38, hk_39, hk_40, hk_41, hrel_42, hrel_43, hrel_44⟩ := hw_30
    have hq_46 : n_31 + pot fa_37 sg_38 ≤ pot 0 0 := by
      obtain ⟨a9, b9, g1, g2, g3⟩ := hn_32
      cases g1.symm.trans hk_40
      cases g2.symm.trans hk_41
      exact g3
    refine W.eq (g2 := F0 m 33 ls [.null]) rfl ?_
    refine lv_astore_nN (lv' := [(2, .null), (0, .ref h0), (1, .int nn)]) hx hb dX2_readRecipe_33 rfl hl (by decide) rfl (fun ls hl => ?_)
    refine lv_aload_n hx hb dX2_readRecipe_34 rfl (lv_at hl 1 rfl) ?_
    refine lv_iconst (v := 0) hx hb dX2_readRecipe_35 (by decide) ?_
    have hTo := hT
    refine K_V ⟨hx, hb, hml, hown, hts⟩ (t_X2_pass l dC dI sa hlt g _ _ h0 0 tn_36 fa_37 _ (hT.sub [1] rfl)  hk_39 hk_40 ) (cwV 1 hts gX2_readRecipe_X2_pass rfl rfl rfl (by decide +kernel) ⟨(by first | exact Nat.le_of_ble_eq_true rfl | (simp only [rm_X2_pass, rm_X2_readRecipe]; omega)), (by first | exact Nat.le_of_ble_eq_true rfl | (simp only [rm_X2_pass, rm_X2_readRecipe]; omega))⟩) hP hD hK hS hA hev hT 1 2 rfl rfl rfl rfl hl.1 rfl (Nat.le_of_ble_eq_true rfl) dX2_readRecipe_36 ⟨(by first | exact Nat.le_of_ble_eq_true rfl | (simp only [rm_X2_readRecipe]; omega) | omega), (by first | exact Nat.le_of_ble_eq_true rfl | (simp only [rm_X2_readRecipe]; omega) | omega)⟩ (fun r L_47 f_48 H locs hw_49 hP hD hS hT hE1 => ?_)
    have hF := Fr.call hF hE hw_49.2.1 (by decide)
    have hE := hE.tr hE1
    obtain ⟨rfl, hw_49⟩ := hw_49
    obtain ⟨hfr_50, tn_51, fa_52, hk_53, hk_54, hrel_55, hrel_56⟩ := hw_49
    have hk_58 : rd f_48 h0 5 = .int sg_38 := (hfr_50 h0 (hTo.at 1 rfl).1 2 (hTo.at 1 rfl).2 5 (by decide)).trans hk_41
    have hq_59 : pot fa_52 sg_38 ≤ pot fa_37 sg_38 := pot_le (fun h9 => (hrel_56 h9).1)
    refine W.eq (g2 := F0 m 39 ls []) rfl ?_
    refine lv_aload_nN hx hb dX2_readRecipe_39 rfl (lv_at hl 0 rfl) ?_
    exact K_a hx hb hr (Or.inl ⟨_, rfl⟩) (Or.inl rfl) hlocks hP hD hK hS hT hE ⟨⟨_, rfl, Or.inl rfl⟩, hF⟩ (by first | exact Nat.le_of_ble_eq_true rfl | (simp only [rm_X2_readRecipe]; omega) | omega) (by first | exact Nat.le_of_ble_eq_true rfl | (simp only [rm_X2_readRecipe]; omega) | omega) dX2_readRecipe_40
  · have hT := hT.add hb9
    obtain ⟨hfr_60, tn_61, fa_62, sg_63, hk_64, hk_65, hk_66, hrel_67, hrel_68, hrel_69⟩ := hw_30
    have hq_71 : n_31 + pot fa_62 sg_63 ≤ pot 0 0 := by
      obtain ⟨a9, b9, g1, g2, g3⟩ := hn_32
      cases g1.symm.trans hk_65
      cases g2.symm.trans hk_66
      exact g3
    refine W.eq (g2 := F0 m 33 ls [.ref b_34]) rfl ?_
    refine lv_astore_n (lv' := [(2, .ref b_34), (0, .ref h0), (1, .int nn)]) hx hb dX2_readRecipe_33 rfl hl (by decide) rfl (fun ls hl => ?_)
    refine lv_aload_n hx hb dX2_readRecipe_34 rfl (lv_at hl 1 rfl) ?_
    refine lv_iconst (v := 0) hx hb dX2_readRecipe_35 (by decide) ?_
    have hTo := hT
    refine K_V ⟨hx, hb, hml, hown, hts⟩ (t_X2_pass l dC dI sa hlt g _ _ h0 0 tn_61 fa_62 _ (hT.sub [2] rfl)  hk_64 hk_65 ) (cwV 1 hts gX2_readRecipe_X2_pass rfl rfl rfl (by decide +kernel) ⟨(by first | exact Nat.le_of_ble_eq_true rfl | (simp only [rm_X2_pass, rm_X2_readRecipe]; omega)), (by first | exact Nat.le_of_ble_eq_true rfl | (simp only [rm_X2_pass, rm_X2_readRecipe]; omega))⟩) hP hD hK hS hA hev hT 2 2 rfl rfl rfl rfl hl.1 rfl (Nat.le_of_ble_eq_true rfl) dX2_readRecipe_36 ⟨(by first | exact Nat.le_of_ble_eq_true rfl | (simp only [rm_X2_readRecipe]; omega) | omega), (by first | exact Nat.le_of_ble_eq_true rfl | (simp only [rm_X2_readRecipe]; omega) | omega)⟩ (fun r L_72 f_73 H locs hw_74 hP hD hS hT hE1 => ?_)
    have hF := Fr.call hF hE hw_74.2.1 (by decide)
    have hE := hE.tr hE1
    obtain ⟨rfl, hw_74⟩ := hw_74
    obtain ⟨hfr_75, tn_76, fa_77, hk_78, hk_79, hrel_80, hrel_81⟩ := hw_74
    have hk_83 : rd f_73 h0 5 = .int sg_63 := (hfr_75 h0 (hTo.at 2 rfl).1 2 (hTo.at 2 rfl).2 5 (by decide)).trans hk_66
    have hq_84 : pot fa_77 sg_63 ≤ pot fa_62 sg_63 := pot_le (fun h9 => (hrel_81 h9).1)
    refine W.eq (g2 := F0 m 39 ls []) rfl ?_
    refine lv_aload_n hx hb dX2_readRecipe_39 rfl (lv_at hl 0 rfl) ?_
    exact K_a hx hb hr (Or.inl ⟨_, rfl⟩) (Or.inr ⟨_, rfl⟩) hlocks hP hD hK hS hT hE ⟨⟨_, rfl, Or.inr ⟨_, rfl, hT.at 0 rfl⟩⟩, hF⟩ (by first | exact Nat.le_of_ble_eq_true rfl | (simp only [rm_X2_readRecipe]; omega) | omega) (by first | exact Nat.le_of_ble_eq_true rfl | (simp only [rm_X2_readRecipe]; omega) | omega) dX2_readRecipe_40

abbrev rm_X9_demandB : Room := { frames := 6, cells := 1, slots := 6, locals := 82 }
set_option maxHeartbeats 800000 in
set_option maxRecDepth 100000 in
theorem t_X9_demandB (l : Launch) (dC : Nat → ClassId) (dI : Nat → Nat → Nat) (sa : Nat → Nat) (hlt : l.stackTraces = false) (g : Nat → Nat) (L : List Nat) (f : Nat → va_E) (b : Int32) (sz : Nat) (hT : TP g L f []) : KX l dC dI sa g yX9_demand wsX9_demand rm_X9_demandB [.int b] L f sz (fun r L' f' => (r = none) ∧ Fr [] L f f' ∧ (¬ b = 0)) (fun E L' f' => (E = IAE) ∧ Fr [] L f f') 1 6 := by
  refine KX.start (cc := cX9_demand) (maxL := 1) (ret := none) (by decide) rfl (Nat.le_of_ble_eq_true rfl) ?_
  intro p e s m below meth c ls hst hno hP hK hD hev hS hl
  obtain ⟨hx, hb, hr, hml, hts, hown, hlocks, hin⟩ := hst
  have hown : s.vm.findClass RX9 = some m.cls := hown
  have hin : meth.name = yX9_demand.name := hin
  have hA : ∀ q : Nat, s.heap.size ≤ q → va_A (va_pl L f) s.heap.size q := fun _ h => Or.inr h
  have hE : Ext L f L f := Ext.rf
  have hF : Fr [] L f f := Fr.rf
  have hl : lv_has ls 1 [(0, .int b)] := hl
  refine lv_iload_n hx hb dX9_demand_0 rfl (lv_at hl 0 rfl) ?_
  refine lv_if_ne (tgt := 14) hx hb dX9_demand_1 (by decide) (fun c_1 => ?_) (fun c_1 => ?_)
  · refine vx_ret ?_
    exact K_v hx hb hr hlocks hP hD hK hS hT hE ⟨rfl, hF, c_1⟩ (Nat.le_of_ble_eq_true rfl) (Nat.le_of_ble_eq_true rfl) dX9_demand_14
  · exact K_x (cls := IAE) hno hx hb hlt hlocks hown hts Bundle.six_0 Bundle.six_1 Bundle.six_2 Bundle.six_5 (by decide +kernel) (hts (.classLink RX9 252 IAE) (by decide +kernel)) (hts (.initialized IAE) (by decide +kernel)) hev.2.1.2.1 (inx_X9_demand_i) xb_i hev.2.2.1.2.1 xo_i hev (hl.1.trans hml.symm) dX9_demand_4 dX9_demand_7 dX9_demand_8 dX9_demand_10 dX9_demand_13 (Nat.le_of_ble_eq_true rfl) (Nat.le_of_ble_eq_true rfl) (Nat.le_of_ble_eq_true rfl) (Nat.le_of_ble_eq_true rfl) ⟨rfl, hF⟩ hP hD hK hS hT hE (Nat.le_of_ble_eq_true rfl) (Nat.le_of_ble_eq_true rfl)

abbrev rm_X9_recipe : Room := { frames := 81, cells := 303, slots := 2415, locals := 2422 }
theorem inw_X9_recipe_2 : ∀ w ∈ wsX20, w ∈ wsX9_recipe := by decide +kernel
theorem inw_X9_recipe_3 : ∀ w ∈ wsX30, w ∈ wsX9_recipe := by decide +kernel
theorem inw_X9_recipe_9 : ∀ w ∈ wsX90, w ∈ wsX9_recipe := by decide +kernel
set_option maxHeartbeats 800000 in
set_option maxRecDepth 100000 in
theorem t_X9_recipe (l : Launch) (dC : Nat → ClassId) (dI : Nat → Nat → Nat) (sa : Nat → Nat) (hlt : l.stackTraces = false) (g : Nat → Nat) (L : List Nat) (f : Nat → va_E) (h0 : Nat) (a : Int32) (b : Int32) (sz : Nat) (hT : TP g L f [(h0, (0, 9, 0))]) : KX l dC dI sa g yX9_recipe wsX9_recipe rm_X9_recipe [.ref h0, .int a, .int b] L f sz (fun r L' f' => (∃ z : Int32, r = some (.int z)) ∧ Fr [(2, 0), (2, 1), (2, 2), (2, 3), (2, 4), (2, 5), (3, 0), (5, 0), (5, 1), (5, 2), (5, 3), (5, 4), (5, 5), (5, 6), (5, 7), (6, 0), (6, 1), (6, 2), (6, 3), (6, 4), (6, 5), (6, 6), (9, 5), (9, 8)] L f f') (fun E L' f' => (E = IAE) ∧ Fr [(2, 0), (2, 1), (2, 2), (2, 3), (2, 4), (2, 5), (3, 0), (5, 0), (5, 1), (5, 2), (5, 3), (5, 4), (5, 5), (5, 6), (5, 7), (6, 0), (6, 1), (6, 2), (6, 3), (6, 4), (6, 5), (6, 6), (9, 5), (9, 8)] L f f') 303 2415 := by
  refine KX.start (cc := cX9_recipe) (maxL := 4) (ret := (some .int)) (by decide) rfl (Nat.le_of_ble_eq_true rfl) ?_
  intro p e s m below meth c ls hst hno hP hK hD hev hS hl
  obtain ⟨hx, hb, hr, hml, hts, hown, hlocks, hin⟩ := hst
  have hown : s.vm.findClass RX9 = some m.cls := hown
  have hin : meth.name = yX9_recipe.name := hin
  have hA : ∀ q : Nat, s.heap.size ≤ q → va_A (va_pl L f) s.heap.size q := fun _ h => Or.inr h
  have hE : Ext L f L f := Ext.rf
  have hF : Fr [(2, 0), (2, 1), (2, 2), (2, 3), (2, 4), (2, 5), (3, 0), (5, 0), (5, 1), (5, 2), (5, 3), (5, 4), (5, 5), (5, 6), (5, 7), (6, 0), (6, 1), (6, 2), (6, 3), (6, 4), (6, 5), (6, 6), (9, 5), (9, 8)] L f f := Fr.rf
  have hl : lv_has ls 4 [(0, .ref h0), (1, .int a), (2, .int b)] := hl
  refine lv_iload_n hx hb dX9_recipe_0 rfl (lv_at hl 1 rfl) ?_
  refine lv_if_lt (tgt := 29) hx hb dX9_recipe_1 (by decide) (fun c_1 => ?_) (fun c_1 => ?_)
  · refine lv_iconst (v := 0) hx hb dX9_recipe_29 (by decide) ?_
    refine K_SX ⟨hx, hb, hml, hown, hts⟩ (t_X9_demandB l dC dI sa hlt g _ _ 0 _ (hT.sub [] rfl)  ) (va_cwS 1 hts gX9_recipe_X9_demand rfl rfl rfl (by decide +kernel) ⟨Nat.le_of_ble_eq_true rfl, Nat.le_of_ble_eq_true rfl⟩) hP hD hK hS hA hev hT rfl hl.1 rfl (Nat.le_of_ble_eq_true rfl) dX9_recipe_30 ⟨Nat.le_of_ble_eq_true rfl, Nat.le_of_ble_eq_true rfl⟩ (fun E ce q9 L9 f9 H locs hpx hP hD hS hT hE1 hce hcv hcl => ?_) (fun r L_2 f_3 H locs hw_4 hP hD hS hT hE1 => ?_)
    · have hF := Fr.call hF hE hpx.2 (by decide)
      have hE := hE.tr hE1
      exact K_out hno hlocks ⟨hpx.1, hF⟩ hP hD hK hS hT hE hce hcv hcl (Nat.le_of_ble_eq_true rfl) (Nat.le_of_ble_eq_true rfl)
    have hF := Fr.call hF hE hw_4.2.1 (by decide)
    have hE := hE.tr hE1
    obtain ⟨rfl, hw_4⟩ := hw_4
    obtain ⟨hfr_5, hex_6⟩ := hw_4
    refine W.eq (g2 := F0 m 33 ls []) rfl ?_
    exact absurd rfl hex_6
  · refine lv_iload_n hx hb dX9_recipe_4 rfl (lv_at hl 1 rfl) ?_
    refine lv_aload_n hx hb dX9_recipe_5 rfl (lv_at hl 0 rfl) ?_
    refine T_get (ci := 9) (C := RX9) (T := TX9) (N := 11) (t := (1, 2, g 4, 8)) hx hb hts inw_X9_recipe_9 hown hK hP hT 0 rfl rfl 7 (by decide) (hts (.fieldLink RX9 37 "VatHouse" "recipes" "[LVatHouse$Recipe;") (by decide +kernel)) (fun _ h9 => h9) rfl dX9_recipe_6 (fun v_9 hv_7 hr_8 => ?_)
    obtain ⟨b_10, rfl, hb9⟩ := hv_7
    have hT := hT.add hb9
    refine T_alen hx hb hK hP hT 0 4 rfl rfl (v := 8) rfl dX9_recipe_9 ?_
    refine lv_icmp_ge (tgt := 29) hx hb dX9_recipe_10 (by decide) (fun c_11 => ?_) (fun c_11 => ?_)
    · refine lv_iconst (v := 0) hx hb dX9_recipe_29 (by decide) ?_
      refine K_SX ⟨hx, hb, hml, hown, hts⟩ (t_X9_demandB l dC dI sa hlt g _ _ 0 _ (hT.sub [] rfl)  ) (va_cwS 1 hts gX9_recipe_X9_demand rfl rfl rfl (by decide +kernel) ⟨Nat.le_of_ble_eq_true rfl, Nat.le_of_ble_eq_true rfl⟩) hP hD hK hS hA hev hT rfl hl.1 rfl (Nat.le_of_ble_eq_true rfl) dX9_recipe_30 ⟨Nat.le_of_ble_eq_true rfl, Nat.le_of_ble_eq_true rfl⟩ (fun E ce q9 L9 f9 H locs hpx hP hD hS hT hE1 hce hcv hcl => ?_) (fun r L_12 f_13 H locs hw_14 hP hD hS hT hE1 => ?_)
      · have hF := Fr.call hF hE hpx.2 (by decide)
        have hE := hE.tr hE1
        exact K_out hno hlocks ⟨hpx.1, hF⟩ hP hD hK hS hT hE hce hcv hcl (Nat.le_of_ble_eq_true rfl) (Nat.le_of_ble_eq_true rfl)
      have hF := Fr.call hF hE hw_14.2.1 (by decide)
      have hE := hE.tr hE1
      obtain ⟨rfl, hw_14⟩ := hw_14
      obtain ⟨hfr_15, hex_16⟩ := hw_14
      refine W.eq (g2 := F0 m 33 ls []) rfl ?_
      exact absurd rfl hex_16
    · refine lv_iload_n hx hb dX9_recipe_13 rfl (lv_at hl 2 rfl) ?_
      refine lv_if_lt (tgt := 29) hx hb dX9_recipe_14 (by decide) (fun c_17 => ?_) (fun c_17 => ?_)
      · refine lv_iconst (v := 0) hx hb dX9_recipe_29 (by decide) ?_
        refine K_SX ⟨hx, hb, hml, hown, hts⟩ (t_X9_demandB l dC dI sa hlt g _ _ 0 _ (hT.sub [] rfl)  ) (va_cwS 1 hts gX9_recipe_X9_demand rfl rfl rfl (by decide +kernel) ⟨Nat.le_of_ble_eq_true rfl, Nat.le_of_ble_eq_true rfl⟩) hP hD hK hS hA hev hT rfl hl.1 rfl (Nat.le_of_ble_eq_true rfl) dX9_recipe_30 ⟨Nat.le_of_ble_eq_true rfl, Nat.le_of_ble_eq_true rfl⟩ (fun E ce q9 L9 f9 H locs hpx hP hD hS hT hE1 hce hcv hcl => ?_) (fun r L_18 f_19 H locs hw_20 hP hD hS hT hE1 => ?_)
        · have hF := Fr.call hF hE hpx.2 (by decide)
          have hE := hE.tr hE1
          exact K_out hno hlocks ⟨hpx.1, hF⟩ hP hD hK hS hT hE hce hcv hcl (Nat.le_of_ble_eq_true rfl) (Nat.le_of_ble_eq_true rfl)
        have hF := Fr.call hF hE hw_20.2.1 (by decide)
        have hE := hE.tr hE1
        obtain ⟨rfl, hw_20⟩ := hw_20
        obtain ⟨hfr_21, hex_22⟩ := hw_20
        refine W.eq (g2 := F0 m 33 ls []) rfl ?_
        exact absurd rfl hex_22
      · refine lv_iload_n hx hb dX9_recipe_17 rfl (lv_at hl 2 rfl) ?_
        refine lv_aload_n hx hb dX9_recipe_18 rfl (lv_at hl 0 rfl) ?_
        refine T_get (ci := 9) (C := RX9) (T := TX9) (N := 11) (t := tI) hx hb hts inw_X9_recipe_9 hown hK hP hT 1 rfl rfl 5 (by decide) (hts (.fieldLink RX9 124 "VatHouse" "tapeLength" "I") (by decide +kernel)) (fun _ h9 => h9) rfl dX9_recipe_19 (fun v_25 hv_23 hr_24 => ?_)
        obtain ⟨z_26, rfl⟩ := hv_23
        refine lv_icmp_gt (tgt := 29) hx hb dX9_recipe_22 (by decide) (fun c_27 => ?_) (fun c_27 => ?_)
        · refine lv_iconst (v := 0) hx hb dX9_recipe_29 (by decide) ?_
          refine K_SX ⟨hx, hb, hml, hown, hts⟩ (t_X9_demandB l dC dI sa hlt g _ _ 0 _ (hT.sub [] rfl)  ) (va_cwS 1 hts gX9_recipe_X9_demand rfl rfl rfl (by decide +kernel) ⟨Nat.le_of_ble_eq_true rfl, Nat.le_of_ble_eq_true rfl⟩) hP hD hK hS hA hev hT rfl hl.1 rfl (Nat.le_of_ble_eq_true rfl) dX9_recipe_30 ⟨Nat.le_of_ble_eq_true rfl, Nat.le_of_ble_eq_true rfl⟩ (fun E ce q9 L9 f9 H locs hpx hP hD hS hT hE1 hce hcv hcl => ?_) (fun r L_28 f_29 H locs hw_30 hP hD hS hT hE1 => ?_)
          · have hF := Fr.call hF hE hpx.2 (by decide)
            have hE := hE.tr hE1
            exact K_out hno hlocks ⟨hpx.1, hF⟩ hP hD hK hS hT hE hce hcv hcl (Nat.le_of_ble_eq_true rfl) (Nat.le_of_ble_eq_true rfl)
          have hF := Fr.call hF hE hw_30.2.1 (by decide)
          have hE := hE.tr hE1
          obtain ⟨rfl, hw_30⟩ := hw_30
          obtain ⟨hfr_31, hex_32⟩ := hw_30
          refine W.eq (g2 := F0 m 33 ls []) rfl ?_
          exact absurd rfl hex_32
        · refine lv_iconst (v := 1) hx hb dX9_recipe_25 (by decide) ?_
          refine lv_goto (tgt := 30) hx hb dX9_recipe_26 (by decide) ?_
          refine K_SX ⟨hx, hb, hml, hown, hts⟩ (t_X9_demandB l dC dI sa hlt g _ _ 1 _ (hT.sub [] rfl)  ) (va_cwS 1 hts gX9_recipe_X9_demand rfl rfl rfl (by decide +kernel) ⟨Nat.le_of_ble_eq_true rfl, Nat.le_of_ble_eq_true rfl⟩) hP hD hK hS hA hev hT rfl hl.1 rfl (Nat.le_of_ble_eq_true rfl) dX9_recipe_30 ⟨Nat.le_of_ble_eq_true rfl, Nat.le_of_ble_eq_true rfl⟩ (fun E ce q9 L9 f9 H locs hpx hP hD hS hT hE1 hce hcv hcl => ?_) (fun r L_33 f_34 H locs hw_35 hP hD hS hT hE1 => ?_)
          · have hF := Fr.call hF hE hpx.2 (by decide)
            have hE := hE.tr hE1
            exact K_out hno hlocks ⟨hpx.1, hF⟩ hP hD hK hS hT hE hce hcv hcl (Nat.le_of_ble_eq_true rfl) (Nat.le_of_ble_eq_true rfl)
          have hF := Fr.call hF hE hw_35.2.1 (by decide)
          have hE := hE.tr hE1
          obtain ⟨rfl, hw_35⟩ := hw_35
          obtain ⟨hfr_36, hex_37⟩ := hw_35
          refine W.eq (g2 := F0 m 33 ls []) rfl ?_
          refine lv_aload_n hx hb dX9_recipe_33 rfl (lv_at hl 0 rfl) ?_
          refine T_get (ci := 9) (C := RX9) (T := TX9) (N := 11) (t := (1, 0, 2, 0)) hx hb hts inw_X9_recipe_9 hown hK hP hT 1 rfl rfl 6 (by decide) (hts (.fieldLink RX9 31 "VatHouse" "reader" "LVatHouse$Reader;") (by decide +kernel)) (fun _ h9 => h9) rfl dX9_recipe_34 (fun v_40 hv_38 hr_39 => ?_)
          obtain ⟨b_41, rfl, hb9⟩ := hv_38
          have hT := hT.add hb9
          refine lv_iload_n hx hb dX9_recipe_37 rfl (lv_at hl 2 rfl) ?_
          refine K_V ⟨hx, hb, hml, hown, hts⟩ (t_X2_readRecipe l dC dI sa hlt g _ _ b_41 b _ (hT.sub [0] rfl)  ) (cwV 1 hts gX9_recipe_X2_readRecipe rfl rfl rfl (by decide +kernel) ⟨Nat.le_of_ble_eq_true rfl, Nat.le_of_ble_eq_true rfl⟩) hP hD hK hS hA hev hT 0 2 rfl rfl rfl rfl hl.1 rfl (Nat.le_of_ble_eq_true rfl) dX9_recipe_38 ⟨Nat.le_of_ble_eq_true rfl, Nat.le_of_ble_eq_true rfl⟩ (fun r L_42 f_43 H locs hw_44 hP hD hS hT hE1 => ?_)
          have hF := Fr.call hF hE hw_44.2 (by decide)
          have hE := hE.tr hE1
          obtain ⟨⟨v_45, rfl, hv9⟩, hw_44⟩ := hw_44
          rcases hv9 with rfl | ⟨b_46, rfl, hb9⟩
          · refine W.eq (g2 := F0 m 41 ls [.null]) rfl ?_
            refine lv_astore_nN (lv' := [(3, .null), (0, .ref h0), (1, .int a), (2, .int b)]) hx hb dX9_recipe_41 rfl hl (by decide) rfl (fun ls hl => ?_)
            refine lv_aload_n hx hb dX9_recipe_42 rfl (lv_at hl 1 rfl) ?_
            refine lv_iconst (v := 0) hx hb dX9_recipe_43 (by decide) ?_
            refine T_put (ci := 9) (v := .int 0) (ty := .int) (t := tI) (C := RX9) (T := TX9) (N := 11) hx hb hts inw_X9_recipe_9 tyX9 tyX9_ok nmX9 hown hK hP hD hS hT 2 rfl rfl 5 (by decide) (hts (.fieldLink RX9 124 "VatHouse" "tapeLength" "I") (by decide +kernel)) (fun _ h9 => h9) rfl (by decide +kernel) rfl rfl rfl ⟨_, rfl⟩ dX9_recipe_44 (fun f_47 H locs hP hD hS hT hE1 hrd_48 => ?_)
            have hF := Fr.put (a := h0) (ci := 9) hF hE ((hE1 h0 (hT.at 2 rfl).1).2.symm.trans (hT.at 2 rfl).2) (by decide) hrd_48
            have hE := hE.tr hE1
            refine lv_aload_n hx hb dX9_recipe_47 rfl (lv_at hl 1 rfl) ?_
            refine T_get (ci := 9) (C := RX9) (T := TX9) (N := 11) (t := (1, 0, 2, 0)) hx hb hts inw_X9_recipe_9 hown hK hP hT 2 rfl rfl 6 (by decide) (hts (.fieldLink RX9 31 "VatHouse" "reader" "LVatHouse$Reader;") (by decide +kernel)) (fun _ h9 => h9) rfl dX9_recipe_48 (fun v_51 hv_49 hr_50 => ?_)
            obtain ⟨b_52, rfl, hb9⟩ := hv_49
            have hT := hT.add hb9
            refine T_get (ci := 2) (C := RX2) (T := TX2) (N := 6) (t := tI) hx hb hts inw_X9_recipe_2 hown hK hP hT 0 rfl rfl 3 (by decide) (hts (.fieldLink RX9 134 "VatHouse$Reader" "fault" "I") (by decide +kernel)) (fun _ h9 => h9) rfl dX9_recipe_51 (fun v_55 hv_53 hr_54 => ?_)
            obtain ⟨z_56, rfl⟩ := hv_53
            refine lv_if_ne (tgt := 82) hx hb dX9_recipe_54 (by decide) (fun c_57 => ?_) (fun c_57 => ?_)
            · refine lv_aload_n hx hb dX9_recipe_82 rfl (lv_at hl 1 rfl) ?_
              refine T_get (ci := 9) (C := RX9) (T := TX9) (N := 11) (t := (1, 0, 2, 0)) hx hb hts inw_X9_recipe_9 hown hK hP hT 3 rfl rfl 6 (by decide) (hts (.fieldLink RX9 31 "VatHouse" "reader" "LVatHouse$Reader;") (by decide +kernel)) (fun _ h9 => h9) rfl dX9_recipe_83 (fun v_60 hv_58 hr_59 => ?_)
              obtain rfl : v_60 = .ref b_52 := hr_59.symm.trans hr_50
              refine T_get (ci := 2) (C := RX2) (T := TX2) (N := 6) (t := tI) hx hb hts inw_X9_recipe_2 hown hK hP hT 0 rfl rfl 3 (by decide) (hts (.fieldLink RX9 134 "VatHouse$Reader" "fault" "I") (by decide +kernel)) (fun _ h9 => h9) rfl dX9_recipe_86 (fun v_63 hv_61 hr_62 => ?_)
              obtain rfl : v_63 = .int z_56 := hr_62.symm.trans hr_54
              refine vx_ret ?_
              exact K_i hx hb hr hlocks hP hD hK hS hT hE ⟨⟨_, rfl⟩, hF⟩ (Nat.le_of_ble_eq_true rfl) (Nat.le_of_ble_eq_true rfl) dX9_recipe_89
            · refine lv_aload_n hx hb dX9_recipe_57 rfl (lv_at hl 1 rfl) ?_
              refine T_get (ci := 9) (C := RX9) (T := TX9) (N := 11) (t := (1, 2, g 4, 8)) hx hb hts inw_X9_recipe_9 hown hK hP hT 3 rfl rfl 7 (by decide) (hts (.fieldLink RX9 37 "VatHouse" "recipes" "[LVatHouse$Recipe;") (by decide +kernel)) (fun _ h9 => h9) rfl dX9_recipe_58 (fun v_66 hv_64 hr_65 => ?_)
              obtain ⟨b_67, rfl, hb9⟩ := hv_64
              have hT := hT.add hb9
              refine lv_iload_n hx hb dX9_recipe_61 rfl (lv_at hl 2 rfl) ?_
              refine T_new (ci := 3) (fs := [.null]) (C := RX3) (T := TX3) (N := 1) hx hb hts inw_X9_recipe_3 tyX3 tyX3_ok hown (hts (.classLink RX9 35 RX3) (by decide +kernel)) (hts (.instantiable RX3 1) (by decide +kernel)) (hts (.initialized RX3) (by decide +kernel)) hK hP hD hS hA hT rfl nfX3 (okn_3 g) (Nat.le_of_ble_eq_true rfl) (Nat.le_of_ble_eq_true rfl) dX9_recipe_62 (fun q_68 L_69 f_70 H hq_71 hL_72 hP hD hS hT hE1 hrd_73 hrq_74 => ?_)
              have hF := Fr.new hF hE hq_71 hrd_73
              have hE := hE.tr hE1
              refine lv_dup hx hb dX9_recipe_65 rfl ?_
              refine lv_aload_nN hx hb dX9_recipe_66 rfl (lv_at hl 0 rfl) ?_
              refine K_I ⟨hx, hb, hml, hown, hts⟩ (t_X3_init l dC dI sa hlt g _ _ q_68 .null _ (hT.sub [0] rfl) (Or.inl rfl) ) (cwI 1 hts gX9_recipe_X3_init rfl rfl rfl (hts (.initialized RX3) (by decide +kernel)) (hts (.methodLink RX9 137 yX3_init) (by decide +kernel)) (hts (.instanceMethod yX3_init) (by decide +kernel)) rfl (by decide +kernel) ⟨Nat.le_of_ble_eq_true rfl, Nat.le_of_ble_eq_true rfl⟩) hP hD hK hS hA hev hT rfl hl.1 rfl (Nat.le_of_ble_eq_true rfl) dX9_recipe_67 ⟨Nat.le_of_ble_eq_true rfl, Nat.le_of_ble_eq_true rfl⟩ (fun r L_75 f_76 H locs hw_77 hP hD hS hT hE1 => ?_)
              have hF := Fr.call hF hE hw_77.2 (by decide)
              have hE := hE.tr hE1
              obtain ⟨rfl, hw_77⟩ := hw_77
              refine W.eq (g2 := F0 m 70 ls [.ref q_68, .int a, .ref b_67]) rfl ?_
              refine T_rast hx hb hK hP hD hS hT 1 4 0 rfl rfl rfl rfl (vin 8 (by decide) rfl (by assumption) (by assumption)) dX9_recipe_70 (fun f_78 H locs hP hD hS hT hE1 hrd_79 => ?_)
              have hF := hF.arr hrd_79
              have hE := hE.tr hE1
              refine lv_aload_n hx hb dX9_recipe_71 rfl (lv_at hl 1 rfl) ?_
              refine lv_aload_n hx hb dX9_recipe_72 rfl (lv_at hl 1 rfl) ?_
              refine T_get (ci := 9) (C := RX9) (T := TX9) (N := 11) (t := (1, 0, 2, 0)) hx hb hts inw_X9_recipe_9 hown hK hP hT 5 rfl rfl 6 (by decide) (hts (.fieldLink RX9 31 "VatHouse" "reader" "LVatHouse$Reader;") (by decide +kernel)) (fun _ h9 => h9) rfl dX9_recipe_73 (fun v_82 hv_80 hr_81 => ?_)
              obtain ⟨b_83, rfl, hb9⟩ := hv_80
              have hT := hT.add hb9
              refine T_get (ci := 2) (C := RX2) (T := TX2) (N := 6) (t := tI) hx hb hts inw_X9_recipe_2 hown hK hP hT 0 rfl rfl 5 (by decide) (hts (.fieldLink RX9 140 "VatHouse$Reader" "steps" "I") (by decide +kernel)) (fun _ h9 => h9) rfl dX9_recipe_76 (fun v_86 hv_84 hr_85 => ?_)
              obtain ⟨z_87, rfl⟩ := hv_84
              refine T_put (ci := 9) (v := .int z_87) (ty := .int) (t := tI) (C := RX9) (T := TX9) (N := 11) hx hb hts inw_X9_recipe_9 tyX9 tyX9_ok nmX9 hown hK hP hD hS hT 6 rfl rfl 8 (by decide) (hts (.fieldLink RX9 143 "VatHouse" "stepsRead" "I") (by decide +kernel)) (fun _ h9 => h9) rfl (by decide +kernel) rfl rfl rfl ⟨_, rfl⟩ dX9_recipe_79 (fun f_88 H locs hP hD hS hT hE1 hrd_89 => ?_)
              have hF := Fr.put (a := h0) (ci := 9) hF hE ((hE1 h0 (hT.at 6 rfl).1).2.symm.trans (hT.at 6 rfl).2) (by decide) hrd_89
              have hE := hE.tr hE1
              refine lv_aload_n hx hb dX9_recipe_82 rfl (lv_at hl 1 rfl) ?_
              refine T_get (ci := 9) (C := RX9) (T := TX9) (N := 11) (t := (1, 0, 2, 0)) hx hb hts inw_X9_recipe_9 hown hK hP hT 6 rfl rfl 6 (by decide) (hts (.fieldLink RX9 31 "VatHouse" "reader" "LVatHouse$Reader;") (by decide +kernel)) (fun _ h9 => h9) rfl dX9_recipe_83 (fun v_92 hv_90 hr_91 => ?_)
              obtain ⟨b_93, rfl, hb9⟩ := hv_90
              have hT := hT.add hb9
              refine T_get (ci := 2) (C := RX2) (T := TX2) (N := 6) (t := tI) hx hb hts inw_X9_recipe_2 hown hK hP hT 0 rfl rfl 3 (by decide) (hts (.fieldLink RX9 134 "VatHouse$Reader" "fault" "I") (by decide +kernel)) (fun _ h9 => h9) rfl dX9_recipe_86 (fun v_96 hv_94 hr_95 => ?_)
              obtain ⟨z_97, rfl⟩ := hv_94
              refine vx_ret ?_
              exact K_i hx hb hr hlocks hP hD hK hS hT hE ⟨⟨_, rfl⟩, hF⟩ (Nat.le_of_ble_eq_true rfl) (Nat.le_of_ble_eq_true rfl) dX9_recipe_89
          · have hT := hT.add hb9
            refine W.eq (g2 := F0 m 41 ls [.ref b_46]) rfl ?_
            refine lv_astore_n (lv' := [(3, .ref b_46), (0, .ref h0), (1, .int a), (2, .int b)]) hx hb dX9_recipe_41 rfl hl (by decide) rfl (fun ls hl => ?_)
            refine lv_aload_n hx hb dX9_recipe_42 rfl (lv_at hl 1 rfl) ?_
            refine lv_iconst (v := 0) hx hb dX9_recipe_43 (by decide) ?_
            refine T_put (ci := 9) (v := .int 0) (ty := .int) (t := tI) (C := RX9) (T := TX9) (N := 11) hx hb hts inw_X9_recipe_9 tyX9 tyX9_ok nmX9 hown hK hP hD hS hT 3 rfl rfl 5 (by decide) (hts (.fieldLink RX9 124 "VatHouse" "tapeLength" "I") (by decide +kernel)) (fun _ h9 => h9) rfl (by decide +kernel) rfl rfl rfl ⟨_, rfl⟩ dX9_recipe_44 (fun f_98 H locs hP hD hS hT hE1 hrd_99 => ?_)
            have hF := Fr.put (a := h0) (ci := 9) hF hE ((hE1 h0 (hT.at 3 rfl).1).2.symm.trans (hT.at 3 rfl).2) (by decide) hrd_99
            have hE := hE.tr hE1
            refine lv_aload_n hx hb dX9_recipe_47 rfl (lv_at hl 1 rfl) ?_
            refine T_get (ci := 9) (C := RX9) (T := TX9) (N := 11) (t := (1, 0, 2, 0)) hx hb hts inw_X9_recipe_9 hown hK hP hT 3 rfl rfl 6 (by decide) (hts (.fieldLink RX9 31 "VatHouse" "reader" "LVatHouse$Reader;") (by decide +kernel)) (fun _ h9 => h9) rfl dX9_recipe_48 (fun v_102 hv_100 hr_101 => ?_)
            obtain ⟨b_103, rfl, hb9⟩ := hv_100
            have hT := hT.add hb9
            refine T_get (ci := 2) (C := RX2) (T := TX2) (N := 6) (t := tI) hx hb hts inw_X9_recipe_2 hown hK hP hT 0 rfl rfl 3 (by decide) (hts (.fieldLink RX9 134 "VatHouse$Reader" "fault" "I") (by decide +kernel)) (fun _ h9 => h9) rfl dX9_recipe_51 (fun v_106 hv_104 hr_105 => ?_)
            obtain ⟨z_107, rfl⟩ := hv_104
            refine lv_if_ne (tgt := 82) hx hb dX9_recipe_54 (by decide) (fun c_108 => ?_) (fun c_108 => ?_)
            · refine lv_aload_n hx hb dX9_recipe_82 rfl (lv_at hl 1 rfl) ?_
              refine T_get (ci := 9) (C := RX9) (T := TX9) (N := 11) (t := (1, 0, 2, 0)) hx hb hts inw_X9_recipe_9 hown hK hP hT 4 rfl rfl 6 (by decide) (hts (.fieldLink RX9 31 "VatHouse" "reader" "LVatHouse$Reader;") (by decide +kernel)) (fun _ h9 => h9) rfl dX9_recipe_83 (fun v_111 hv_109 hr_110 => ?_)
              obtain rfl : v_111 = .ref b_103 := hr_110.symm.trans hr_101
              refine T_get (ci := 2) (C := RX2) (T := TX2) (N := 6) (t := tI) hx hb hts inw_X9_recipe_2 hown hK hP hT 0 rfl rfl 3 (by decide) (hts (.fieldLink RX9 134 "VatHouse$Reader" "fault" "I") (by decide +kernel)) (fun _ h9 => h9) rfl dX9_recipe_86 (fun v_114 hv_112 hr_113 => ?_)
              obtain rfl : v_114 = .int z_107 := hr_113.symm.trans hr_105
              refine vx_ret ?_
              exact K_i hx hb hr hlocks hP hD hK hS hT hE ⟨⟨_, rfl⟩, hF⟩ (Nat.le_of_ble_eq_true rfl) (Nat.le_of_ble_eq_true rfl) dX9_recipe_89
            · refine lv_aload_n hx hb dX9_recipe_57 rfl (lv_at hl 1 rfl) ?_
              refine T_get (ci := 9) (C := RX9) (T := TX9) (N := 11) (t := (1, 2, g 4, 8)) hx hb hts inw_X9_recipe_9 hown hK hP hT 4 rfl rfl 7 (by decide) (hts (.fieldLink RX9 37 "VatHouse" "recipes" "[LVatHouse$Recipe;") (by decide +kernel)) (fun _ h9 => h9) rfl dX9_recipe_58 (fun v_117 hv_115 hr_116 => ?_)
              obtain ⟨b_118, rfl, hb9⟩ := hv_115
              have hT := hT.add hb9
              refine lv_iload_n hx hb dX9_recipe_61 rfl (lv_at hl 2 rfl) ?_
              refine T_new (ci := 3) (fs := [.null]) (C := RX3) (T := TX3) (N := 1) hx hb hts inw_X9_recipe_3 tyX3 tyX3_ok hown (hts (.classLink RX9 35 RX3) (by decide +kernel)) (hts (.instantiable RX3 1) (by decide +kernel)) (hts (.initialized RX3) (by decide +kernel)) hK hP hD hS hA hT rfl nfX3 (okn_3 g) (Nat.le_of_ble_eq_true rfl) (Nat.le_of_ble_eq_true rfl) dX9_recipe_62 (fun q_119 L_120 f_121 H hq_122 hL_123 hP hD hS hT hE1 hrd_124 hrq_125 => ?_)
              have hF := Fr.new hF hE hq_122 hrd_124
              have hE := hE.tr hE1
              refine lv_dup hx hb dX9_recipe_65 rfl ?_
              refine lv_aload_n hx hb dX9_recipe_66 rfl (lv_at hl 0 rfl) ?_
              refine K_I ⟨hx, hb, hml, hown, hts⟩ (t_X3_init l dC dI sa hlt g _ _ q_119 (.ref b_46) _ (hT.sub [0] rfl) (Or.inr ⟨_, rfl, hT.at 3 rfl⟩) ) (cwI 1 hts gX9_recipe_X3_init rfl rfl rfl (hts (.initialized RX3) (by decide +kernel)) (hts (.methodLink RX9 137 yX3_init) (by decide +kernel)) (hts (.instanceMethod yX3_init) (by decide +kernel)) rfl (by decide +kernel) ⟨Nat.le_of_ble_eq_true rfl, Nat.le_of_ble_eq_true rfl⟩) hP hD hK hS hA hev hT rfl hl.1 rfl (Nat.le_of_ble_eq_true rfl) dX9_recipe_67 ⟨Nat.le_of_ble_eq_true rfl, Nat.le_of_ble_eq_true rfl⟩ (fun r L_126 f_127 H locs hw_128 hP hD hS hT hE1 => ?_)
              have hF := Fr.call hF hE hw_128.2 (by decide)
              have hE := hE.tr hE1
              obtain ⟨rfl, hw_128⟩ := hw_128
              refine W.eq (g2 := F0 m 70 ls [.ref q_119, .int a, .ref b_118]) rfl ?_
              refine T_rast hx hb hK hP hD hS hT 1 4 0 rfl rfl rfl rfl (vin 8 (by decide) rfl (by assumption) (by assumption)) dX9_recipe_70 (fun f_129 H locs hP hD hS hT hE1 hrd_130 => ?_)
              have hF := hF.arr hrd_130
              have hE := hE.tr hE1
              refine lv_aload_n hx hb dX9_recipe_71 rfl (lv_at hl 1 rfl) ?_
              refine lv_aload_n hx hb dX9_recipe_72 rfl (lv_at hl 1 rfl) ?_
              refine T_get (ci := 9) (C := RX9) (T := TX9) (N := 11) (t := (1, 0, 2, 0)) hx hb hts inw_X9_recipe_9 hown hK hP hT 6 rfl rfl 6 (by decide) (hts (.fieldLink RX9 31 "VatHouse" "reader" "LVatHouse$Reader;") (by decide +kernel)) (fun _ h9 => h9) rfl dX9_recipe_73 (fun v_133 hv_131 hr_132 => ?_)
              obtain ⟨b_134, rfl, hb9⟩ := hv_131
              have hT := hT.add hb9
              refine T_get (ci := 2) (C := RX2) (T := TX2) (N := 6) (t := tI) hx hb hts inw_X9_recipe_2 hown hK hP hT 0 rfl rfl 5 (by decide) (hts (.fieldLink RX9 140 "VatHouse$Reader" "steps" "I") (by decide +kernel)) (fun _ h9 => h9) rfl dX9_recipe_76 (fun v_137 hv_135 hr_136 => ?_)
              obtain ⟨z_138, rfl⟩ := hv_135
              refine T_put (ci := 9) (v := .int z_138) (ty := .int) (t := tI) (C := RX9) (T := TX9) (N := 11) hx hb hts inw_X9_recipe_9 tyX9 tyX9_ok nmX9 hown hK hP hD hS hT 7 rfl rfl 8 (by decide) (hts (.fieldLink RX9 143 "VatHouse" "stepsRead" "I") (by decide +kernel)) (fun _ h9 => h9) rfl (by decide +kernel) rfl rfl rfl ⟨_, rfl⟩ dX9_recipe_79 (fun f_139 H locs hP hD hS hT hE1 hrd_140 => ?_)
              have hF := Fr.put (a := h0) (ci := 9) hF hE ((hE1 h0 (hT.at 7 rfl).1).2.symm.trans (hT.at 7 rfl).2) (by decide) hrd_140
              have hE := hE.tr hE1
              refine lv_aload_n hx hb dX9_recipe_82 rfl (lv_at hl 1 rfl) ?_
              refine T_get (ci := 9) (C := RX9) (T := TX9) (N := 11) (t := (1, 0, 2, 0)) hx hb hts inw_X9_recipe_9 hown hK hP hT 7 rfl rfl 6 (by decide) (hts (.fieldLink RX9 31 "VatHouse" "reader" "LVatHouse$Reader;") (by decide +kernel)) (fun _ h9 => h9) rfl dX9_recipe_83 (fun v_143 hv_141 hr_142 => ?_)
              obtain ⟨b_144, rfl, hb9⟩ := hv_141
              have hT := hT.add hb9
              refine T_get (ci := 2) (C := RX2) (T := TX2) (N := 6) (t := tI) hx hb hts inw_X9_recipe_2 hown hK hP hT 0 rfl rfl 3 (by decide) (hts (.fieldLink RX9 134 "VatHouse$Reader" "fault" "I") (by decide +kernel)) (fun _ h9 => h9) rfl dX9_recipe_86 (fun v_147 hv_145 hr_146 => ?_)
              obtain ⟨z_148, rfl⟩ := hv_145
              refine vx_ret ?_
              exact K_i hx hb hr hlocks hP hD hK hS hT hE ⟨⟨_, rfl⟩, hF⟩ (Nat.le_of_ble_eq_true rfl) (Nat.le_of_ble_eq_true rfl) dX9_recipe_89
