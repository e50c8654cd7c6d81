abbrev rm_X10_right9 : Room := { frames := 0, cells := 0, slots := 0, locals := 0 }
set_option maxHeartbeats 1000000 in
set_option maxRecDepth 100000 in
theorem m_X10_right9 (l : Launch) (dC : Nat → ClassId) (dI : Nat → Nat → Nat) (sa : Nat → Nat) (g : Nat → Nat) (h0 : Nat) (b : Nat → Nat) (i : Nat → Int32) (a : Nat → Nat → Int32) (iz : Int32) (wh : Int32) (sz : Nat) (hwh : ¬ wh = 0) : CT l dC dI sa yX10_right wsX10_right rm_X10_right9 [.ref h0, .int iz, .int wh] (mw g h0 b i a) (tyM g) sz (fun (r : Option Value) (x0 : Int32) => ((r = some (.int 0) ∧ (iz = 0 ∨ ¬ (i 0) = 0)) ∨ (r = some (.int 1) ∧ (¬ iz = 0))) ∧ (True)) (fun (x0 : Int32) => mw g h0 b (va_up i 0 x0) a) (fun _ => []) 0 0 := by
  refine CT.start (cc := cX10_right) (maxL := 3) (ret := (some .boolean)) (by decide) rfl (Nat.le_of_ble_eq_true rfl) ?_
  intro p e s m below meth c ls hst hP hK hD hev hS hl
  obtain ⟨hx, hb, hr, hml, hts, hown, hlocks, hin⟩ := hst
  have hown : s.vm.findClass RX10 = some m.cls := hown
  have hA : ∀ q : Nat, s.heap.size ≤ q → va_A (mw g h0 b i a) s.heap.size q := fun _ h => Or.inr h
  have hl : lv_has ls 3 [(0, .ref h0), (1, .int iz), (2, .int wh)] := hl
  refine lv_aload_n hx hb dX10_right_0 rfl (lv_at hl 0 rfl) ?_
  refine va_get (D := (dC, dI)) (ci := 10) (v := .int (i 0)) (C := RX10) (T := TX10) (N := 51) hx hb hts inw_X10_right_10 hown hK hP 0 rfl rfl 0 (by decide) (hts (.fieldLink RX10 105 "VatHouseModel" "thrown" "I") (by decide +kernel)) (fun _ h9 => h9) rfl dX10_right_1 ?_
  refine lv_if_ne (tgt := 16) hx hb dX10_right_4 (by decide) (fun c_1 => ?_) (fun c_1 => ?_)
  · have nc_1 := ne_i c_1
    have lc_1 : (0 : Int32).toInt = 0 := by decide
    refine lv_aload_n hx hb dX10_right_16 rfl (lv_at hl 0 rfl) ?_
    refine va_get (D := (dC, dI)) (ci := 10) (v := .int (i 0)) (C := RX10) (T := TX10) (N := 51) hx hb hts inw_X10_right_10 hown hK hP 0 rfl rfl 0 (by decide) (hts (.fieldLink RX10 105 "VatHouseModel" "thrown" "I") (by decide +kernel)) (fun _ h9 => h9) rfl dX10_right_17 ?_
    refine lv_if_ne (tgt := 27) hx hb dX10_right_20 (by decide) (fun c_2 => ?_) (fun c_2 => ?_)
    · have nc_2 := ne_i c_2
      have lc_2 : (0 : Int32).toInt = 0 := by decide
      refine lv_iconst (v := 0) hx hb dX10_right_27 (by decide) ?_
      exact M_z hx hb hr rfl hlocks ((i 0)) hP hD hK hS ⟨Or.inl ⟨rfl, Or.inr c_1⟩, trivial⟩ (Nat.le_of_ble_eq_true rfl) (Nat.le_of_ble_eq_true rfl) dX10_right_28
    · have nc_2 := eq_i c_2
      have lc_2 : (0 : Int32).toInt = 0 := by decide
      refine lv_iconst (v := 1) hx hb dX10_right_23 (by decide) ?_
      refine lv_goto (tgt := 28) hx hb dX10_right_24 (by decide) ?_
      exact M_z hx hb hr rfl hlocks ((i 0)) hP hD hK hS ⟨Or.inr ⟨rfl, absurd c_2 c_1⟩, trivial⟩ (Nat.le_of_ble_eq_true rfl) (Nat.le_of_ble_eq_true rfl) dX10_right_28
  · have nc_1 := eq_i c_1
    have lc_1 : (0 : Int32).toInt = 0 := by decide
    refine lv_iload_n hx hb dX10_right_7 rfl (lv_at hl 1 rfl) ?_
    refine lv_if_ne (tgt := 16) hx hb dX10_right_8 (by decide) (fun c_3 => ?_) (fun c_3 => ?_)
    · have nc_3 := ne_i c_3
      have lc_3 : (0 : Int32).toInt = 0 := by decide
      refine lv_aload_n hx hb dX10_right_16 rfl (lv_at hl 0 rfl) ?_
      refine va_get (D := (dC, dI)) (ci := 10) (v := .int (i 0)) (C := RX10) (T := TX10) (N := 51) hx hb hts inw_X10_right_10 hown hK hP 0 rfl rfl 0 (by decide) (hts (.fieldLink RX10 105 "VatHouseModel" "thrown" "I") (by decide +kernel)) (fun _ h9 => h9) rfl dX10_right_17 ?_
      refine lv_if_ne (tgt := 27) hx hb dX10_right_20 (by decide) (fun c_4 => ?_) (fun c_4 => ?_)
      · have nc_4 := ne_i c_4
        have lc_4 : (0 : Int32).toInt = 0 := by decide
        refine lv_iconst (v := 0) hx hb dX10_right_27 (by decide) ?_
        exact M_z hx hb hr rfl hlocks ((i 0)) hP hD hK hS ⟨Or.inl ⟨rfl, Or.inr c_4⟩, trivial⟩ (Nat.le_of_ble_eq_true rfl) (Nat.le_of_ble_eq_true rfl) dX10_right_28
      · have nc_4 := eq_i c_4
        have lc_4 : (0 : Int32).toInt = 0 := by decide
        refine lv_iconst (v := 1) hx hb dX10_right_23 (by decide) ?_
        refine lv_goto (tgt := 28) hx hb dX10_right_24 (by decide) ?_
        exact M_z hx hb hr rfl hlocks ((i 0)) hP hD hK hS ⟨Or.inr ⟨rfl, c_3⟩, trivial⟩ (Nat.le_of_ble_eq_true rfl) (Nat.le_of_ble_eq_true rfl) dX10_right_28
    · have nc_3 := eq_i c_3
      have lc_3 : (0 : Int32).toInt = 0 := by decide
      refine lv_aload_n hx hb dX10_right_11 rfl (lv_at hl 0 rfl) ?_
      refine lv_iload_n hx hb dX10_right_12 rfl (lv_at hl 2 rfl) ?_
      refine va_put (D := (dC, dI)) (ci := 10) (v := .int wh) (ty := .int) (C := RX10) (T := TX10) (N := 51) hx hb hts inw_X10_right_10 tyX10 tyX10_ok nmX10 hown hK hP hD hS 0 rfl rfl 0 (by decide) (hts (.fieldLink RX10 105 "VatHouseModel" "thrown" "I") (by decide +kernel)) (fun _ h9 => h9) rfl (by decide +kernel) rfl rfl (Nat.le_of_ble_eq_true rfl) dX10_right_13 (fun H locs hP hD hS => ?_)
      have hP : va_P (dC, dI) vwCl (mw g h0 b (va_up i 0 wh) a) _ := hP
      have hD : va_D _ (mw g h0 b (va_up i 0 wh) a) := hD
      refine lv_aload_n hx hb dX10_right_16 rfl (lv_at hl 0 rfl) ?_
      refine va_get (D := (dC, dI)) (ci := 10) (v := .int wh) (C := RX10) (T := TX10) (N := 51) hx hb hts inw_X10_right_10 hown hK hP 0 rfl rfl 0 (by decide) (hts (.fieldLink RX10 105 "VatHouseModel" "thrown" "I") (by decide +kernel)) (fun _ h9 => h9) rfl dX10_right_17 ?_
      refine lv_if_ne (tgt := 27) hx hb dX10_right_20 (by decide) (fun c_5 => ?_) (fun c_5 => ?_)
      · have nc_5 := ne_i c_5
        have lc_5 : (0 : Int32).toInt = 0 := by decide
        refine lv_iconst (v := 0) hx hb dX10_right_27 (by decide) ?_
        exact M_z hx hb hr rfl hlocks (wh) hP hD hK hS ⟨Or.inl ⟨rfl, Or.inl c_3⟩, trivial⟩ (Nat.le_of_ble_eq_true rfl) (Nat.le_of_ble_eq_true rfl) dX10_right_28
      · have nc_5 := eq_i c_5
        have lc_5 : (0 : Int32).toInt = 0 := by decide
        refine lv_iconst (v := 1) hx hb dX10_right_23 (by decide) ?_
        refine lv_goto (tgt := 28) hx hb dX10_right_24 (by decide) ?_
        exact M_z hx hb hr rfl hlocks (wh) hP hD hK hS ⟨Or.inr ⟨rfl, absurd c_5 hwh⟩, trivial⟩ (Nat.le_of_ble_eq_true rfl) (Nat.le_of_ble_eq_true rfl) dX10_right_28

abbrev rm_X10_recipe9 : Room := { frames := 96, cells := 0, slots := 0, locals := 2744 }
set_option maxHeartbeats 4000000 in
set_option maxRecDepth 100000 in
theorem m_X10_recipe9 (l : Launch) (dC : Nat → ClassId) (dI : Nat → Nat → Nat) (sa : Nat → Nat) (g : Nat → Nat) (h0 : Nat) (b : Nat → Nat) (i : Nat → Int32) (a : Nat → Nat → Int32) (rr : Int32) (nn : Int32) (sz : Nat) (hT2 : 0 ≤ (i 20).toInt ∧ (i 20).toInt ≤ 1500) (hBI : BI (a 26) (a 27) (a 31) (a 32) (a 33) (a 34) (a 35)) : CT l dC dI sa yX10_recipe wsX10_recipe rm_X10_recipe9 [.ref h0, .int rr, .int nn] (mw g h0 b i a) (tyM g) sz (fun (r : Option Value) (u : Int32 × Int32 × Int32 × Int32 × Int32 × Int32 × Int32 × Int32 × Int32 × Int32 × (Nat → Int32) × (Nat → Int32) × (Nat → Int32) × (Nat → Int32) × (Nat → Int32) × (Nat → Int32) × (Nat → Int32) × (Nat → Int32) × (Nat → Int32) × (Nat → Int32)) => match u with | (x0, x20, x21, x22, x23, x24, x25, x36, x37, x38, y26, y27, y28, y29, y30, y31, y32, y33, y34, y35) => (∃ z : Int32, r = some (.int z)) ∧ (((0 ≤ x20.toInt ∧ x20.toInt ≤ 1500) ∧ BI y26 y27 y31 y32 y33 y34 y35) ∧ ((¬ Cq rr nn (i 20) ∧ x20 = (i 20)) ∨ (Cq rr nn (i 20) ∧ x20 = 0)))) (fun (u : Int32 × Int32 × Int32 × Int32 × Int32 × Int32 × Int32 × Int32 × Int32 × Int32 × (Nat → Int32) × (Nat → Int32) × (Nat → Int32) × (Nat → Int32) × (Nat → Int32) × (Nat → Int32) × (Nat → Int32) × (Nat → Int32) × (Nat → Int32) × (Nat → Int32)) => match u with | (x0, x20, x21, x22, x23, x24, x25, x36, x37, x38, y26, y27, y28, y29, y30, y31, y32, y33, y34, y35) => mw g h0 b (va_up (va_up (va_up (va_up (va_up (va_up (va_up (va_up (va_up (va_up i 0 x0) 20 x20) 21 x21) 22 x22) 23 x23) 24 x24) 25 x25) 36 x36) 37 x37) 38 x38) (va_up (va_up (va_up (va_up (va_up (va_up (va_up (va_up (va_up (va_up a 26 y26) 27 y27) 28 y28) 29 y29) 30 y30) 31 y31) 32 y32) 33 y33) 34 y34) 35 y35)) (fun _ => []) 0 0 := by
  refine CT.start (cc := cX10_recipe) (maxL := 6) (ret := (some .int)) (by decide) rfl (Nat.le_of_ble_eq_true rfl) ?_
  intro p e s m below meth c ls hst hP hK hD hev hS hl
  obtain ⟨hx, hb, hr, hml, hts, hown, hlocks, hin⟩ := hst
  have hown : s.vm.findClass RX10 = some m.cls := hown
  have hA : ∀ q : Nat, s.heap.size ≤ q → va_A (mw g h0 b i a) s.heap.size q := fun _ h => Or.inr h
  have hl : lv_has ls 6 [(0, .ref h0), (1, .int rr), (2, .int nn)] := hl
  refine lv_aload_n hx hb dX10_recipe_0 rfl (lv_at hl 0 rfl) ?_
  refine lv_iconst (v := 0) hx hb dX10_recipe_1 (by decide) ?_
  refine va_put (D := (dC, dI)) (ci := 10) (v := .int 0) (ty := .int) (C := RX10) (T := TX10) (N := 51) hx hb hts inw_X10_recipe_10 tyX10 tyX10_ok nmX10 hown hK hP hD hS 0 rfl rfl 0 (by decide) (hts (.fieldLink RX10 105 "VatHouseModel" "thrown" "I") (by decide +kernel)) (fun _ h9 => h9) rfl (by decide +kernel) rfl rfl (Nat.le_of_ble_eq_true rfl) dX10_recipe_2 (fun H locs hP hD hS => ?_)
  have hP : va_P (dC, dI) vwCl (mw g h0 b (va_up i 0 (0 : Int32)) a) _ := hP
  have hD : va_D _ (mw g h0 b (va_up i 0 (0 : Int32)) a) := hD
  refine lv_aload_n hx hb dX10_recipe_5 rfl (lv_at hl 0 rfl) ?_
  refine lv_iload_n hx hb dX10_recipe_6 rfl (lv_at hl 1 rfl) ?_
  refine lv_if_lt (tgt := 32) hx hb dX10_recipe_7 (by decide) (fun c_1 => ?_) (fun c_1 => ?_)
  · have nc_1 := lt_i c_1
    have lc_1 : (0 : Int32).toInt = 0 := by decide
    refine lv_iconst (v := 0) hx hb dX10_recipe_32 (by decide) ?_
    refine lv_iconst (v := 1) hx hb dX10_recipe_33 (by decide) ?_
    refine M_V ⟨hx, hb, hml, hown, hts⟩ (m_X10_right9 l dC dI sa g h0 b (va_up i 0 (0 : Int32)) a (0 : Int32) (1 : Int32) _ (by decide)) (cwV 2 hts gX10_recipe_X10_right rfl rfl rfl (by decide +kernel) ⟨Nat.le_of_ble_eq_true rfl, Nat.le_of_ble_eq_true rfl⟩) hP hD hK hS hA hev rfl rfl rfl rfl hl.1 rfl (Nat.le_of_ble_eq_true rfl) dX10_recipe_34 ⟨(Nat.le_of_ble_eq_true rfl), (Nat.le_of_ble_eq_true rfl)⟩ (fun r u H locs hw hP hD hS => ?_)
    obtain ⟨x0_2, rfl⟩ : ∃ z, z = u := ⟨_, rfl⟩
    have hw : ((r = some (.int 0) ∧ ((0 : Int32) = 0 ∨ ¬ (0 : Int32) = 0)) ∨ (r = some (.int 1) ∧ (¬ (0 : Int32) = 0))) ∧ (True) := hw
    obtain ⟨⟨rfl, hz2_4⟩ | ⟨rfl, hz2_4⟩, hw_3⟩ := hw
    · have hP : va_P (dC, dI) vwCl (mw g h0 b (va_up i 0 x0_2) a) _ := hP
      have hD : va_D _ (mw g h0 b (va_up i 0 x0_2) a) := hD
      refine W.eq (g2 := F0 m 37 ls [.int 0]) rfl ?_
      refine lv_if_ne (tgt := 42) hx hb dX10_recipe_37 (by decide) (fun c_5 => absurd c_5 (by decide)) (fun _ => ?_)
      refine lv_iconst (v := 0) hx hb dX10_recipe_40 (by decide) ?_
      exact M_i hx hb hr hlocks (x0_2, (i 20), (i 21), (i 22), (i 23), (i 24), (i 25), (i 36), (i 37), (i 38), (a 26), (a 27), (a 28), (a 29), (a 30), (a 31), (a 32), (a 33), (a 34), (a 35)) hP hD hK hS ⟨⟨_, rfl⟩, ⟨⟨hT2, hBI⟩, Or.inl ⟨fun h9 => h9.1 c_1, rfl⟩⟩⟩ (Nat.le_of_ble_eq_true rfl) (Nat.le_of_ble_eq_true rfl) dX10_recipe_41
    · have hP : va_P (dC, dI) vwCl (mw g h0 b (va_up i 0 x0_2) a) _ := hP
      have hD : va_D _ (mw g h0 b (va_up i 0 x0_2) a) := hD
      refine W.eq (g2 := F0 m 37 ls [.int 1]) rfl ?_
      exact absurd rfl hz2_4
  · have nc_1 := nlt_i c_1
    have lc_1 : (0 : Int32).toInt = 0 := by decide
    refine lv_iload_n hx hb dX10_recipe_10 rfl (lv_at hl 1 rfl) ?_
    refine lv_bipush (v := 8) hx hb dX10_recipe_11 (by decide) ?_
    refine lv_icmp_ge (tgt := 32) hx hb dX10_recipe_13 (by decide) (fun c_6 => ?_) (fun c_6 => ?_)
    · have nc_6 := le_i c_6
      have lc_6 : (8 : Int32).toInt = 8 := by decide
      refine lv_iconst (v := 0) hx hb dX10_recipe_32 (by decide) ?_
      refine lv_iconst (v := 1) hx hb dX10_recipe_33 (by decide) ?_
      refine M_V ⟨hx, hb, hml, hown, hts⟩ (m_X10_right9 l dC dI sa g h0 b (va_up i 0 (0 : Int32)) a (0 : Int32) (1 : Int32) _ (by decide)) (cwV 2 hts gX10_recipe_X10_right rfl rfl rfl (by decide +kernel) ⟨Nat.le_of_ble_eq_true rfl, Nat.le_of_ble_eq_true rfl⟩) hP hD hK hS hA hev rfl rfl rfl rfl hl.1 rfl (Nat.le_of_ble_eq_true rfl) dX10_recipe_34 ⟨(Nat.le_of_ble_eq_true rfl), (Nat.le_of_ble_eq_true rfl)⟩ (fun r u H locs hw hP hD hS => ?_)
      obtain ⟨x0_7, rfl⟩ : ∃ z, z = u := ⟨_, rfl⟩
      have hw : ((r = some (.int 0) ∧ ((0 : Int32) = 0 ∨ ¬ (0 : Int32) = 0)) ∨ (r = some (.int 1) ∧ (¬ (0 : Int32) = 0))) ∧ (True) := hw
      obtain ⟨⟨rfl, hz2_9⟩ | ⟨rfl, hz2_9⟩, hw_8⟩ := hw
      · have hP : va_P (dC, dI) vwCl (mw g h0 b (va_up i 0 x0_7) a) _ := hP
        have hD : va_D _ (mw g h0 b (va_up i 0 x0_7) a) := hD
        refine W.eq (g2 := F0 m 37 ls [.int 0]) rfl ?_
        refine lv_if_ne (tgt := 42) hx hb dX10_recipe_37 (by decide) (fun c_10 => absurd c_10 (by decide)) (fun _ => ?_)
        refine lv_iconst (v := 0) hx hb dX10_recipe_40 (by decide) ?_
        exact M_i hx hb hr hlocks (x0_7, (i 20), (i 21), (i 22), (i 23), (i 24), (i 25), (i 36), (i 37), (i 38), (a 26), (a 27), (a 28), (a 29), (a 30), (a 31), (a 32), (a 33), (a 34), (a 35)) hP hD hK hS ⟨⟨_, rfl⟩, ⟨⟨hT2, hBI⟩, Or.inl ⟨fun h9 => h9.2.1 c_6, rfl⟩⟩⟩ (Nat.le_of_ble_eq_true rfl) (Nat.le_of_ble_eq_true rfl) dX10_recipe_41
      · have hP : va_P (dC, dI) vwCl (mw g h0 b (va_up i 0 x0_7) a) _ := hP
        have hD : va_D _ (mw g h0 b (va_up i 0 x0_7) a) := hD
        refine W.eq (g2 := F0 m 37 ls [.int 1]) rfl ?_
        exact absurd rfl hz2_9
    · have nc_6 := nle_i c_6
      have lc_6 : (8 : Int32).toInt = 8 := by decide
      refine lv_iload_n hx hb dX10_recipe_16 rfl (lv_at hl 2 rfl) ?_
      refine lv_if_lt (tgt := 32) hx hb dX10_recipe_17 (by decide) (fun c_11 => ?_) (fun c_11 => ?_)
      · have nc_11 := lt_i c_11
        have lc_11 : (0 : Int32).toInt = 0 := by decide
        refine lv_iconst (v := 0) hx hb dX10_recipe_32 (by decide) ?_
        refine lv_iconst (v := 1) hx hb dX10_recipe_33 (by decide) ?_
        refine M_V ⟨hx, hb, hml, hown, hts⟩ (m_X10_right9 l dC dI sa g h0 b (va_up i 0 (0 : Int32)) a (0 : Int32) (1 : Int32) _ (by decide)) (cwV 2 hts gX10_recipe_X10_right rfl rfl rfl (by decide +kernel) ⟨Nat.le_of_ble_eq_true rfl, Nat.le_of_ble_eq_true rfl⟩) hP hD hK hS hA hev rfl rfl rfl rfl hl.1 rfl (Nat.le_of_ble_eq_true rfl) dX10_recipe_34 ⟨(Nat.le_of_ble_eq_true rfl), (Nat.le_of_ble_eq_true rfl)⟩ (fun r u H locs hw hP hD hS => ?_)
        obtain ⟨x0_12, rfl⟩ : ∃ z, z = u := ⟨_, rfl⟩
        have hw : ((r = some (.int 0) ∧ ((0 : Int32) = 0 ∨ ¬ (0 : Int32) = 0)) ∨ (r = some (.int 1) ∧ (¬ (0 : Int32) = 0))) ∧ (True) := hw
        obtain ⟨⟨rfl, hz2_14⟩ | ⟨rfl, hz2_14⟩, hw_13⟩ := hw
        · have hP : va_P (dC, dI) vwCl (mw g h0 b (va_up i 0 x0_12) a) _ := hP
          have hD : va_D _ (mw g h0 b (va_up i 0 x0_12) a) := hD
          refine W.eq (g2 := F0 m 37 ls [.int 0]) rfl ?_
          refine lv_if_ne (tgt := 42) hx hb dX10_recipe_37 (by decide) (fun c_15 => absurd c_15 (by decide)) (fun _ => ?_)
          refine lv_iconst (v := 0) hx hb dX10_recipe_40 (by decide) ?_
          exact M_i hx hb hr hlocks (x0_12, (i 20), (i 21), (i 22), (i 23), (i 24), (i 25), (i 36), (i 37), (i 38), (a 26), (a 27), (a 28), (a 29), (a 30), (a 31), (a 32), (a 33), (a 34), (a 35)) hP hD hK hS ⟨⟨_, rfl⟩, ⟨⟨hT2, hBI⟩, Or.inl ⟨fun h9 => h9.2.2.1 c_11, rfl⟩⟩⟩ (Nat.le_of_ble_eq_true rfl) (Nat.le_of_ble_eq_true rfl) dX10_recipe_41
        · have hP : va_P (dC, dI) vwCl (mw g h0 b (va_up i 0 x0_12) a) _ := hP
          have hD : va_D _ (mw g h0 b (va_up i 0 x0_12) a) := hD
          refine W.eq (g2 := F0 m 37 ls [.int 1]) rfl ?_
          exact absurd rfl hz2_14
      · have nc_11 := nlt_i c_11
        have lc_11 : (0 : Int32).toInt = 0 := by decide
        refine lv_iload_n hx hb dX10_recipe_20 rfl (lv_at hl 2 rfl) ?_
        refine lv_aload_n hx hb dX10_recipe_21 rfl (lv_at hl 0 rfl) ?_
        refine va_get (D := (dC, dI)) (ci := 10) (v := .int (i 20)) (C := RX10) (T := TX10) (N := 51) hx hb hts inw_X10_recipe_10 hown hK hP 0 rfl rfl 20 (by decide) (hts (.fieldLink RX10 159 "VatHouseModel" "taped" "I") (by decide +kernel)) (fun _ h9 => h9) rfl dX10_recipe_22 ?_
        refine lv_icmp_gt (tgt := 32) hx hb dX10_recipe_25 (by decide) (fun c_16 => ?_) (fun c_16 => ?_)
        · have nc_16 := lt_i c_16
          refine lv_iconst (v := 0) hx hb dX10_recipe_32 (by decide) ?_
          refine lv_iconst (v := 1) hx hb dX10_recipe_33 (by decide) ?_
          refine M_V ⟨hx, hb, hml, hown, hts⟩ (m_X10_right9 l dC dI sa g h0 b (va_up i 0 (0 : Int32)) a (0 : Int32) (1 : Int32) _ (by decide)) (cwV 2 hts gX10_recipe_X10_right rfl rfl rfl (by decide +kernel) ⟨Nat.le_of_ble_eq_true rfl, Nat.le_of_ble_eq_true rfl⟩) hP hD hK hS hA hev rfl rfl rfl rfl hl.1 rfl (Nat.le_of_ble_eq_true rfl) dX10_recipe_34 ⟨(Nat.le_of_ble_eq_true rfl), (Nat.le_of_ble_eq_true rfl)⟩ (fun r u H locs hw hP hD hS => ?_)
          obtain ⟨x0_17, rfl⟩ : ∃ z, z = u := ⟨_, rfl⟩
          have hw : ((r = some (.int 0) ∧ ((0 : Int32) = 0 ∨ ¬ (0 : Int32) = 0)) ∨ (r = some (.int 1) ∧ (¬ (0 : Int32) = 0))) ∧ (True) := hw
          obtain ⟨⟨rfl, hz2_19⟩ | ⟨rfl, hz2_19⟩, hw_18⟩ := hw
          · have hP : va_P (dC, dI) vwCl (mw g h0 b (va_up i 0 x0_17) a) _ := hP
            have hD : va_D _ (mw g h0 b (va_up i 0 x0_17) a) := hD
            refine W.eq (g2 := F0 m 37 ls [.int 0]) rfl ?_
            refine lv_if_ne (tgt := 42) hx hb dX10_recipe_37 (by decide) (fun c_20 => absurd c_20 (by decide)) (fun _ => ?_)
            refine lv_iconst (v := 0) hx hb dX10_recipe_40 (by decide) ?_
            exact M_i hx hb hr hlocks (x0_17, (i 20), (i 21), (i 22), (i 23), (i 24), (i 25), (i 36), (i 37), (i 38), (a 26), (a 27), (a 28), (a 29), (a 30), (a 31), (a 32), (a 33), (a 34), (a 35)) hP hD hK hS ⟨⟨_, rfl⟩, ⟨⟨hT2, hBI⟩, Or.inl ⟨fun h9 => h9.2.2.2 c_16, rfl⟩⟩⟩ (Nat.le_of_ble_eq_true rfl) (Nat.le_of_ble_eq_true rfl) dX10_recipe_41
          · have hP : va_P (dC, dI) vwCl (mw g h0 b (va_up i 0 x0_17) a) _ := hP
            have hD : va_D _ (mw g h0 b (va_up i 0 x0_17) a) := hD
            refine W.eq (g2 := F0 m 37 ls [.int 1]) rfl ?_
            exact absurd rfl hz2_19
        · have nc_16 := nlt_i c_16
          refine lv_iconst (v := 1) hx hb dX10_recipe_28 (by decide) ?_
          refine lv_goto (tgt := 33) hx hb dX10_recipe_29 (by decide) ?_
          refine lv_iconst (v := 1) hx hb dX10_recipe_33 (by decide) ?_
          refine M_V ⟨hx, hb, hml, hown, hts⟩ (m_X10_right9 l dC dI sa g h0 b (va_up i 0 (0 : Int32)) a (1 : Int32) (1 : Int32) _ (by decide)) (cwV 2 hts gX10_recipe_X10_right rfl rfl rfl (by decide +kernel) ⟨Nat.le_of_ble_eq_true rfl, Nat.le_of_ble_eq_true rfl⟩) hP hD hK hS hA hev rfl rfl rfl rfl hl.1 rfl (Nat.le_of_ble_eq_true rfl) dX10_recipe_34 ⟨(Nat.le_of_ble_eq_true rfl), (Nat.le_of_ble_eq_true rfl)⟩ (fun r u H locs hw hP hD hS => ?_)
          obtain ⟨x0_21, rfl⟩ : ∃ z, z = u := ⟨_, rfl⟩
          have hw : ((r = some (.int 0) ∧ ((1 : Int32) = 0 ∨ ¬ (0 : Int32) = 0)) ∨ (r = some (.int 1) ∧ (¬ (1 : Int32) = 0))) ∧ (True) := hw
          obtain ⟨⟨rfl, hz2_23⟩ | ⟨rfl, hz2_23⟩, hw_22⟩ := hw
          · have hP : va_P (dC, dI) vwCl (mw g h0 b (va_up i 0 x0_21) a) _ := hP
            have hD : va_D _ (mw g h0 b (va_up i 0 x0_21) a) := hD
            refine W.eq (g2 := F0 m 37 ls [.int 0]) rfl ?_
            exact absurd hz2_23 (by decide)
          · have hP : va_P (dC, dI) vwCl (mw g h0 b (va_up i 0 x0_21) a) _ := hP
            have hD : va_D _ (mw g h0 b (va_up i 0 x0_21) a) := hD
            refine W.eq (g2 := F0 m 37 ls [.int 1]) rfl ?_
            refine lv_if_ne (tgt := 42) hx hb dX10_recipe_37 (by decide) (fun _ => ?_) (fun c_24 => absurd c_24 (by decide))
            refine lv_aload_n hx hb dX10_recipe_42 rfl (lv_at hl 0 rfl) ?_
            refine lv_iload_n hx hb dX10_recipe_43 rfl (lv_at hl 2 rfl) ?_
            refine va_put (D := (dC, dI)) (ci := 10) (v := .int nn) (ty := .int) (C := RX10) (T := TX10) (N := 51) hx hb hts inw_X10_recipe_10 tyX10 tyX10_ok nmX10 hown hK hP hD hS 0 rfl rfl 21 (by decide) (hts (.fieldLink RX10 171 "VatHouseModel" "size" "I") (by decide +kernel)) (fun _ h9 => h9) rfl (by decide +kernel) rfl rfl (Nat.le_of_ble_eq_true rfl) dX10_recipe_44 (fun H locs hP hD hS => ?_)
            have hP : va_P (dC, dI) vwCl (mw g h0 b (va_up (va_up i 0 x0_21) 21 nn) a) _ := hP
            have hD : va_D _ (mw g h0 b (va_up (va_up i 0 x0_21) 21 nn) a) := hD
            refine lv_aload_n hx hb dX10_recipe_47 rfl (lv_at hl 0 rfl) ?_
            refine lv_iconst (v := 0) hx hb dX10_recipe_48 (by decide) ?_
            refine va_put (D := (dC, dI)) (ci := 10) (v := .int 0) (ty := .int) (C := RX10) (T := TX10) (N := 51) hx hb hts inw_X10_recipe_10 tyX10 tyX10_ok nmX10 hown hK hP hD hS 0 rfl rfl 22 (by decide) (hts (.fieldLink RX10 168 "VatHouseModel" "at" "I") (by decide +kernel)) (fun _ h9 => h9) rfl (by decide +kernel) rfl rfl (Nat.le_of_ble_eq_true rfl) dX10_recipe_49 (fun H locs hP hD hS => ?_)
            have hP : va_P (dC, dI) vwCl (mw g h0 b (va_up (va_up (va_up i 0 x0_21) 21 nn) 22 (0 : Int32)) a) _ := hP
            have hD : va_D _ (mw g h0 b (va_up (va_up (va_up i 0 x0_21) 21 nn) 22 (0 : Int32)) a) := hD
            refine lv_aload_n hx hb dX10_recipe_52 rfl (lv_at hl 0 rfl) ?_
            refine lv_iconst (v := 0) hx hb dX10_recipe_53 (by decide) ?_
            refine va_put (D := (dC, dI)) (ci := 10) (v := .int 0) (ty := .int) (C := RX10) (T := TX10) (N := 51) hx hb hts inw_X10_recipe_10 tyX10 tyX10_ok nmX10 hown hK hP hD hS 0 rfl rfl 20 (by decide) (hts (.fieldLink RX10 159 "VatHouseModel" "taped" "I") (by decide +kernel)) (fun _ h9 => h9) rfl (by decide +kernel) rfl rfl (Nat.le_of_ble_eq_true rfl) dX10_recipe_54 (fun H locs hP hD hS => ?_)
            have hP : va_P (dC, dI) vwCl (mw g h0 b (va_up (va_up (va_up (va_up i 0 x0_21) 20 (0 : Int32)) 21 nn) 22 (0 : Int32)) a) _ := hP
            have hD : va_D _ (mw g h0 b (va_up (va_up (va_up (va_up i 0 x0_21) 20 (0 : Int32)) 21 nn) 22 (0 : Int32)) a) := hD
            refine lv_aload_n hx hb dX10_recipe_57 rfl (lv_at hl 0 rfl) ?_
            refine lv_iconst (v := 0) hx hb dX10_recipe_58 (by decide) ?_
            refine va_put (D := (dC, dI)) (ci := 10) (v := .int 0) (ty := .int) (C := RX10) (T := TX10) (N := 51) hx hb hts inw_X10_recipe_10 tyX10 tyX10_ok nmX10 hown hK hP hD hS 0 rfl rfl 23 (by decide) (hts (.fieldLink RX10 165 "VatHouseModel" "faultKind" "I") (by decide +kernel)) (fun _ h9 => h9) rfl (by decide +kernel) rfl rfl (Nat.le_of_ble_eq_true rfl) dX10_recipe_59 (fun H locs hP hD hS => ?_)
            have hP : va_P (dC, dI) vwCl (mw g h0 b (va_up (va_up (va_up (va_up (va_up i 0 x0_21) 20 (0 : Int32)) 21 nn) 22 (0 : Int32)) 23 (0 : Int32)) a) _ := hP
            have hD : va_D _ (mw g h0 b (va_up (va_up (va_up (va_up (va_up i 0 x0_21) 20 (0 : Int32)) 21 nn) 22 (0 : Int32)) 23 (0 : Int32)) a) := hD
            refine lv_aload_n hx hb dX10_recipe_62 rfl (lv_at hl 0 rfl) ?_
            refine lv_iconst (v := (-1)) hx hb dX10_recipe_63 (by decide) ?_
            refine va_put (D := (dC, dI)) (ci := 10) (v := .int (-1)) (ty := .int) (C := RX10) (T := TX10) (N := 51) hx hb hts inw_X10_recipe_10 tyX10 tyX10_ok nmX10 hown hK hP hD hS 0 rfl rfl 24 (by decide) (hts (.fieldLink RX10 56 "VatHouseModel" "faultPlace" "I") (by decide +kernel)) (fun _ h9 => h9) rfl (by decide +kernel) rfl rfl (Nat.le_of_ble_eq_true rfl) dX10_recipe_64 (fun H locs hP hD hS => ?_)
            have hP : va_P (dC, dI) vwCl (mw g h0 b (va_up (va_up (va_up (va_up (va_up (va_up i 0 x0_21) 20 (0 : Int32)) 21 nn) 22 (0 : Int32)) 23 (0 : Int32)) 24 ((-1) : Int32)) a) _ := hP
            have hD : va_D _ (mw g h0 b (va_up (va_up (va_up (va_up (va_up (va_up i 0 x0_21) 20 (0 : Int32)) 21 nn) 22 (0 : Int32)) 23 (0 : Int32)) 24 ((-1) : Int32)) a) := hD
            refine lv_aload_n hx hb dX10_recipe_67 rfl (lv_at hl 0 rfl) ?_
            refine lv_iconst (v := 0) hx hb dX10_recipe_68 (by decide) ?_
            refine va_put (D := (dC, dI)) (ci := 10) (v := .int 0) (ty := .int) (C := RX10) (T := TX10) (N := 51) hx hb hts inw_X10_recipe_10 tyX10 tyX10_ok nmX10 hown hK hP hD hS 0 rfl rfl 36 (by decide) (hts (.fieldLink RX10 249 "VatHouseModel" "nodes" "I") (by decide +kernel)) (fun _ h9 => h9) rfl (by decide +kernel) rfl rfl (Nat.le_of_ble_eq_true rfl) dX10_recipe_69 (fun H locs hP hD hS => ?_)
            have hP : va_P (dC, dI) vwCl (mw g h0 b (va_up (va_up (va_up (va_up (va_up (va_up (va_up i 0 x0_21) 20 (0 : Int32)) 21 nn) 22 (0 : Int32)) 23 (0 : Int32)) 24 ((-1) : Int32)) 36 (0 : Int32)) a) _ := hP
            have hD : va_D _ (mw g h0 b (va_up (va_up (va_up (va_up (va_up (va_up (va_up i 0 x0_21) 20 (0 : Int32)) 21 nn) 22 (0 : Int32)) 23 (0 : Int32)) 24 ((-1) : Int32)) 36 (0 : Int32)) a) := hD
            refine lv_aload_n hx hb dX10_recipe_72 rfl (lv_at hl 0 rfl) ?_
            refine lv_iconst (v := 0) hx hb dX10_recipe_73 (by decide) ?_
            refine va_put (D := (dC, dI)) (ci := 10) (v := .int 0) (ty := .int) (C := RX10) (T := TX10) (N := 51) hx hb hts inw_X10_recipe_10 tyX10 tyX10_ok nmX10 hown hK hP hD hS 0 rfl rfl 38 (by decide) (hts (.fieldLink RX10 277 "VatHouseModel" "blocks" "I") (by decide +kernel)) (fun _ h9 => h9) rfl (by decide +kernel) rfl rfl (Nat.le_of_ble_eq_true rfl) dX10_recipe_74 (fun H locs hP hD hS => ?_)
            have hP : va_P (dC, dI) vwCl (mw g h0 b (va_up (va_up (va_up (va_up (va_up (va_up (va_up (va_up i 0 x0_21) 20 (0 : Int32)) 21 nn) 22 (0 : Int32)) 23 (0 : Int32)) 24 ((-1) : Int32)) 36 (0 : Int32)) 38 (0 : Int32)) a) _ := hP
            have hD : va_D _ (mw g h0 b (va_up (va_up (va_up (va_up (va_up (va_up (va_up (va_up i 0 x0_21) 20 (0 : Int32)) 21 nn) 22 (0 : Int32)) 23 (0 : Int32)) 24 ((-1) : Int32)) 36 (0 : Int32)) 38 (0 : Int32)) a) := hD
            refine lv_aload_n hx hb dX10_recipe_77 rfl (lv_at hl 0 rfl) ?_
            refine lv_iconst (v := 0) hx hb dX10_recipe_78 (by decide) ?_
            have h00 : (0 : Int32).toInt = 0 := by decide
            refine M_V ⟨hx, hb, hml, hown, hts⟩ (X10_steps_all l dC dI sa g h0 b 8 0 rfl (fun _ => 0) (va_up (va_up (va_up (va_up (va_up (va_up (va_up (va_up i 0 x0_21) 20 (0 : Int32)) 21 nn) 22 (0 : Int32)) 23 (0 : Int32)) 24 ((-1) : Int32)) 36 (0 : Int32)) 38 (0 : Int32)) a (0 : Int32) _ (show 0 ≤ (0 : Int32).toInt ∧ (0 : Int32).toInt ≤ nn.toInt ∧ nn.toInt ≤ 1500 from by omega) (show 0 ≤ (0 : Int32).toInt from by omega) PN_zero nI_0.symm) (cwV 1 hts gX10_recipe_X10_steps rfl rfl rfl (by decide +kernel) ⟨Nat.le_of_ble_eq_true rfl, Nat.le_of_ble_eq_true rfl⟩) hP hD hK hS hA hev rfl rfl rfl rfl hl.1 rfl (Nat.le_of_ble_eq_true rfl) dX10_recipe_79 ⟨(Nat.le_of_ble_eq_true rfl), (Nat.le_of_ble_eq_true rfl)⟩ (fun r u H locs hw hP hD hS => ?_)
            obtain ⟨x22_25, x23_26, x24_27, x25_28, x36_29, y26_30, y27_31, y28_32, y29_33, y30_34, y31_35, y32_36, y33_37⟩ := u
            have hw : (∃ z : Int32, r = some (.int z)) ∧ ((((0 : Int32).toInt ≤ x22_25.toInt ∧ x22_25.toInt ≤ nn.toInt) ∧ 0 ≤ x23_26.toInt ∧ (0 < (0 : Int32).toInt → 0 < x23_26.toInt)) ∧ ∃ dpN : Nat → Nat, PR (0 : Int32) x36_29 (fun _ => 0) dpN (a 26) (a 27) (a 31) (a 32) (a 33) y26_30 y27_31 y31_35 y32_36 y33_37 ∧ (∀ z : Int32, r = some (.int z) → (z = -2 ∧ 0 < x23_26.toInt) ∨ lk (PV x36_29) dpN 0 z)) := hw
            obtain ⟨⟨z_39, rfl⟩, hw_38⟩ := hw
            have hP : va_P (dC, dI) vwCl (mw g h0 b (va_up (va_up (va_up (va_up (va_up (va_up (va_up (va_up (va_up i 0 x0_21) 20 (0 : Int32)) 21 nn) 22 x22_25) 23 x23_26) 24 x24_27) 25 x25_28) 36 x36_29) 38 (0 : Int32)) (va_up (va_up (va_up (va_up (va_up (va_up (va_up (va_up a 26 y26_30) 27 y27_31) 28 y28_32) 29 y29_33) 30 y30_34) 31 y31_35) 32 y32_36) 33 y33_37)) _ := hP
            have hD : va_D _ (mw g h0 b (va_up (va_up (va_up (va_up (va_up (va_up (va_up (va_up (va_up i 0 x0_21) 20 (0 : Int32)) 21 nn) 22 x22_25) 23 x23_26) 24 x24_27) 25 x25_28) 36 x36_29) 38 (0 : Int32)) (va_up (va_up (va_up (va_up (va_up (va_up (va_up (va_up a 26 y26_30) 27 y27_31) 28 y28_32) 29 y29_33) 30 y30_34) 31 y31_35) 32 y32_36) 33 y33_37)) := hD
            refine W.eq (g2 := F0 m 82 ls [.int z_39]) rfl ?_
            obtain ⟨hatq_43, dp_41, hPR_40, hres_42⟩ := hw_38
            have hres_42 := hres_42 _ rfl
            refine lv_istore_n (lv' := [(3, .int z_39), (0, .ref h0), (1, .int rr), (2, .int nn)]) hx hb dX10_recipe_82 rfl hl (by decide) rfl (fun ls hl => ?_)
            refine lv_aload_n hx hb dX10_recipe_83 rfl (lv_at hl 1 rfl) ?_
            refine va_get (D := (dC, dI)) (ci := 10) (v := .int x23_26) (C := RX10) (T := TX10) (N := 51) hx hb hts inw_X10_recipe_10 hown hK hP 0 rfl rfl 23 (by decide) (hts (.fieldLink RX10 165 "VatHouseModel" "faultKind" "I") (by decide +kernel)) (fun _ h9 => h9) rfl dX10_recipe_84 ?_
            refine lv_if_le (tgt := 95) hx hb dX10_recipe_87 (by decide) (fun c_44 => ?_) (fun c_44 => ?_)
            · have nc_44 := le_i c_44
              have lc_44 : (0 : Int32).toInt = 0 := by decide
              refine lv_sipush (v := 300) hx hb dX10_recipe_95 (by decide) ?_
              refine lv_iload_n hx hb dX10_recipe_98 rfl (lv_at hl 2 rfl) ?_
              refine lv_imul hx hb dX10_recipe_99 ?_
              refine lv_topi (fun z_45 ez_45 => ?_)
              refine lv_sipush (v := 2400) hx hb dX10_recipe_100 (by decide) ?_
              refine lv_isub hx hb dX10_recipe_103 ?_
              refine lv_topi (fun z_46 ez_46 => ?_)
              refine lv_istore (lv' := [(4, .int z_46), (3, .int z_39), (0, .ref h0), (1, .int rr), (2, .int nn)]) hx hb dX10_recipe_104 hl (by decide) rfl (fun ls hl => ?_)
              obtain ⟨r, hr8, hrr⟩ : ∃ r : Nat, r < 8 ∧ rr.toInt = (r : Int) := ⟨rr.toInt.toNat, by omega, by omega⟩
              have hrc : rr.toNatClampNeg = r := by have h9 := clamp_i (x := rr) (by omega); omega
              have t300 : (300 : Int32).toInt = 300 := by decide
              have tz_45 := mulc_i ez_45 (by decide : (300 : Int32).toInt = 300) (by omega) (by omega)
              have t2400 : (2400 : Int32).toInt = 2400 := by decide
              have tz_46 := sub_i ez_46 (by omega) (by omega)
              have hby : z_46.toInt = 300 * (r : Int) - 2400 := by omega
              have hlkz := hres_42.resolve_left (fun h9 => by have h8 := h9.2; omega)
              have hN3 := hPR_40.2.1.2.1
              have hN0 := hPR_40.2.1.1
              refine lv_sipush (v := 2400) hx hb dX10_recipe_106 (by decide) ?_
              refine lv_istore (lv' := [(5, .int 2400), (4, .int z_46), (3, .int z_39), (0, .ref h0), (1, .int rr), (2, .int nn)]) hx hb dX10_recipe_109 hl (by decide) rfl (fun ls hl => ?_)
              have lp : ∀ (n : Nat) (kx : Int32) (l26 : Nat → Int32) (l27 : Nat → Int32) (l28 : Nat → Int32) (l29 : Nat → Int32) (l30 : Nat → Int32) (l31 : Nat → Int32) (l32 : Nat → Int32) (l33 : Nat → Int32) (H : Heap) (locs : List Loc) (ls : Array Slot), ((2400 + x36_29.toInt - kx.toInt).toNat < n) → (∃ d : Nat, kx = nI (2400 + d) ∧ (d : Int) ≤ x36_29.toInt ∧ CP r d z_46 y26_30 y27_31 y31_35 y32_36 y33_37 l26 l27 l31 l32 l33) → va_P (dC, dI) vwCl (mw g h0 b (va_up (va_up (va_up (va_up (va_up (va_up (va_up (va_up (va_up i 0 x0_21) 20 (0 : Int32)) 21 nn) 22 x22_25) 23 x23_26) 24 x24_27) 25 x25_28) 36 x36_29) 38 (0 : Int32)) (va_up (va_up (va_up (va_up (va_up (va_up (va_up (va_up a 26 l26) 27 l27) 28 l28) 29 l29) 30 l30) 31 l31) 32 l32) 33 l33)) H → va_D (va_A (mw g h0 b i a) s.heap.size) (mw g h0 b (va_up (va_up (va_up (va_up (va_up (va_up (va_up (va_up (va_up i 0 x0_21) 20 (0 : Int32)) 21 nn) 22 x22_25) 23 x23_26) 24 x24_27) 25 x25_28) 36 x36_29) 38 (0 : Int32)) (va_up (va_up (va_up (va_up (va_up (va_up (va_up (va_up a 26 l26) 27 l27) 28 l28) 29 l29) 30 l30) 31 l31) 32 l32) 33 l33)) → va_S (va_A (mw g h0 b i a) s.heap.size) s.heap H locs → lv_has ls 6 [(5, .int kx), (4, .int z_46), (3, .int z_39), (0, .ref h0), (1, .int rr), (2, .int nn)] → W p l e rm_X10_recipe9 s m [.ref h0, .int rr, .int nn].toArray below meth c H locs 0 0 (MQ below (Qg (fun (r : Option Value) (u : Int32 × Int32 × Int32 × Int32 × Int32 × Int32 × Int32 × Int32 × Int32 × Int32 × (Nat → Int32) × (Nat → Int32) × (Nat → Int32) × (Nat → Int32) × (Nat → Int32) × (Nat → Int32) × (Nat → Int32) × (Nat → Int32) × (Nat → Int32) × (Nat → Int32)) => match u with | (x0, x20, x21, x22, x23, x24, x25, x36, x37, x38, y26, y27, y28, y29, y30, y31, y32, y33, y34, y35) => (∃ z : Int32, r = some (.int z)) ∧ (((0 ≤ x20.toInt ∧ x20.toInt ≤ 1500) ∧ BI y26 y27 y31 y32 y33 y34 y35) ∧ ((¬ Cq rr nn (i 20) ∧ x20 = (i 20)) ∨ (Cq rr nn (i 20) ∧ x20 = 0)))) (fun u t => QW dC dI (va_A (mw g h0 b i a) s.heap.size) ((fun (u : Int32 × Int32 × Int32 × Int32 × Int32 × Int32 × Int32 × Int32 × Int32 × Int32 × (Nat → Int32) × (Nat → Int32) × (Nat → Int32) × (Nat → Int32) × (Nat → Int32) × (Nat → Int32) × (Nat → Int32) × (Nat → Int32) × (Nat → Int32) × (Nat → Int32)) => match u with | (x0, x20, x21, x22, x23, x24, x25, x36, x37, x38, y26, y27, y28, y29, y30, y31, y32, y33, y34, y35) => mw g h0 b (va_up (va_up (va_up (va_up (va_up (va_up (va_up (va_up (va_up (va_up i 0 x0) 20 x20) 21 x21) 22 x22) 23 x23) 24 x24) 25 x25) 36 x36) 37 x37) 38 x38) (va_up (va_up (va_up (va_up (va_up (va_up (va_up (va_up (va_up (va_up a 26 y26) 27 y27) 28 y28) 29 y29) 30 y30) 31 y31) 32 y32) 33 y33) 34 y34) 35 y35)) u) [] t) (va_A (mw g h0 b i a) s.heap.size)) [.ref h0, .int rr, .int nn].toArray s 0 0 (va_A (mw g h0 b i a) s.heap.size)) (F0 m 111 ls []) := by
                intro n
                induction n with
                | zero => intro kx l26 l27 l28 l29 l30 l31 l32 l33 H locs ls hm hcE hP hD hS hl; exact absurd hm (by omega)
                | succ n ih =>
                  intro kx l26 l27 l28 l29 l30 l31 l32 l33 H locs ls hm hcE hP hD hS hl
                  refine lv_iload hx hb dX10_recipe_111 (lv_at hl 0 rfl) ?_
                  refine lv_sipush (v := 2400) hx hb dX10_recipe_113 (by decide) ?_
                  refine lv_aload_n hx hb dX10_recipe_116 rfl (lv_at hl 3 rfl) ?_
                  refine va_get (D := (dC, dI)) (ci := 10) (v := .int x36_29) (C := RX10) (T := TX10) (N := 51) hx hb hts inw_X10_recipe_10 hown hK hP 0 rfl rfl 36 (by decide) (hts (.fieldLink RX10 249 "VatHouseModel" "nodes" "I") (by decide +kernel)) (fun _ h9 => h9) rfl dX10_recipe_117 ?_
                  refine lv_iadd hx hb dX10_recipe_120 ?_
                  refine lv_topi (fun z_47 ez_47 => ?_)
                  obtain ⟨d, hd1, hd2, hcp⟩ := hcE
                  have hkxI : kx.toInt = 2400 + (d : Int) := by rw [hd1, nI_toInt (by omega)]; omega
                  have t2400 : (2400 : Int32).toInt = 2400 := by decide
                  have tz_47 := add_i ez_47 (by omega) (by omega)
                  refine lv_icmp_ge (tgt := 320) hx hb dX10_recipe_121 (by decide) (fun c_48 => ?_) (fun c_48 => ?_)
                  · have nc_48 := le_i c_48
                    have hdN : d = x36_29.toInt.toNat := by omega
                    rw [hdN] at hcp
                    refine lv_aload_n hx hb dX10_recipe_320 rfl (lv_at hl 3 rfl) ?_
                    refine va_get (D := (dC, dI)) (ci := 10) (v := .ref (b 34)) (C := RX10) (T := TX10) (N := 51) hx hb hts inw_X10_recipe_10 hown hK hP 0 rfl rfl 34 (by decide) (hts (.fieldLink RX10 84 "VatHouseModel" "first" "[I") (by decide +kernel)) (fun _ h9 => h9) rfl dX10_recipe_321 ?_
                    refine lv_iload_n hx hb dX10_recipe_324 rfl (lv_at hl 4 rfl) ?_
                    refine lv_iload_n hx hb dX10_recipe_325 rfl (lv_at hl 2 rfl) ?_
                    refine lv_iconst (v := (-1)) hx hb dX10_recipe_326 (by decide) ?_
                    refine lv_icmp_ne (tgt := 335) hx hb dX10_recipe_327 (by decide) (fun c_49 => ?_) (fun c_49 => ?_)
                    · have nc_49 := ne_i c_49
                      have lc_49 : ((-1) : Int32).toInt = -1 := by decide
                      refine lv_iload_n hx hb dX10_recipe_335 rfl (lv_at hl 2 rfl) ?_
                      refine lv_iload hx hb dX10_recipe_336 (lv_at hl 1 rfl) ?_
                      refine lv_iadd hx hb dX10_recipe_338 ?_
                      refine lv_topi (fun z_50 ez_50 => ?_)
                      refine va_iast hx hb hK hP hD hS 24 23 rfl rfl (in_i (by omega) (by omega)) dX10_recipe_339 (fun H locs hP hD hS => ?_)
                      have hP : va_P (dC, dI) vwCl (mw g h0 b (va_up (va_up (va_up (va_up (va_up (va_up (va_up (va_up (va_up i 0 x0_21) 20 (0 : Int32)) 21 nn) 22 x22_25) 23 x23_26) 24 x24_27) 25 x25_28) 36 x36_29) 38 (0 : Int32)) (va_up (va_up (va_up (va_up (va_up (va_up (va_up (va_up (va_up a 26 l26) 27 l27) 28 l28) 29 l29) 30 l30) 31 l31) 32 l32) 33 l33) 34 (upd (a 34) rr.toNatClampNeg z_50))) _ := hP
                      have hD : va_D _ (mw g h0 b (va_up (va_up (va_up (va_up (va_up (va_up (va_up (va_up (va_up i 0 x0_21) 20 (0 : Int32)) 21 nn) 22 x22_25) 23 x23_26) 24 x24_27) 25 x25_28) 36 x36_29) 38 (0 : Int32)) (va_up (va_up (va_up (va_up (va_up (va_up (va_up (va_up (va_up a 26 l26) 27 l27) 28 l28) 29 l29) 30 l30) 31 l31) 32 l32) 33 l33) 34 (upd (a 34) rr.toNatClampNeg z_50))) := hD
                      obtain ⟨f_51, ef_51⟩ : ∃ z, z = (upd (a 34) rr.toNatClampNeg z_50) := ⟨_, rfl⟩
                      rw [← ef_51] at hP hD
                      refine lv_aload_n hx hb dX10_recipe_340 rfl (lv_at hl 3 rfl) ?_
                      refine va_get (D := (dC, dI)) (ci := 10) (v := .ref (b 35)) (C := RX10) (T := TX10) (N := 51) hx hb hts inw_X10_recipe_10 hown hK hP 0 rfl rfl 35 (by decide) (hts (.fieldLink RX10 87 "VatHouseModel" "many" "[I") (by decide +kernel)) (fun _ h9 => h9) rfl dX10_recipe_341 ?_
                      refine lv_iload_n hx hb dX10_recipe_344 rfl (lv_at hl 4 rfl) ?_
                      refine lv_aload_n hx hb dX10_recipe_345 rfl (lv_at hl 3 rfl) ?_
                      refine va_get (D := (dC, dI)) (ci := 10) (v := .int x36_29) (C := RX10) (T := TX10) (N := 51) hx hb hts inw_X10_recipe_10 hown hK hP 0 rfl rfl 36 (by decide) (hts (.fieldLink RX10 249 "VatHouseModel" "nodes" "I") (by decide +kernel)) (fun _ h9 => h9) rfl dX10_recipe_346 ?_
                      refine va_iast hx hb hK hP hD hS 25 24 rfl rfl (in_i (by omega) (by omega)) dX10_recipe_349 (fun H locs hP hD hS => ?_)
                      have hP : va_P (dC, dI) vwCl (mw g h0 b (va_up (va_up (va_up (va_up (va_up (va_up (va_up (va_up (va_up i 0 x0_21) 20 (0 : Int32)) 21 nn) 22 x22_25) 23 x23_26) 24 x24_27) 25 x25_28) 36 x36_29) 38 (0 : Int32)) (va_up (va_up (va_up (va_up (va_up (va_up (va_up (va_up (va_up (va_up a 26 l26) 27 l27) 28 l28) 29 l29) 30 l30) 31 l31) 32 l32) 33 l33) 34 f_51) 35 (upd (a 35) rr.toNatClampNeg x36_29))) _ := hP
                      have hD : va_D _ (mw g h0 b (va_up (va_up (va_up (va_up (va_up (va_up (va_up (va_up (va_up i 0 x0_21) 20 (0 : Int32)) 21 nn) 22 x22_25) 23 x23_26) 24 x24_27) 25 x25_28) 36 x36_29) 38 (0 : Int32)) (va_up (va_up (va_up (va_up (va_up (va_up (va_up (va_up (va_up (va_up a 26 l26) 27 l27) 28 l28) 29 l29) 30 l30) 31 l31) 32 l32) 33 l33) 34 f_51) 35 (upd (a 35) rr.toNatClampNeg x36_29))) := hD
                      obtain ⟨f_52, ef_52⟩ : ∃ z, z = (upd (a 35) rr.toNatClampNeg x36_29) := ⟨_, rfl⟩
                      rw [← ef_52] at hP hD
                      refine lv_aload_n hx hb dX10_recipe_350 rfl (lv_at hl 3 rfl) ?_
                      refine lv_aload_n hx hb dX10_recipe_351 rfl (lv_at hl 3 rfl) ?_
                      refine va_get (D := (dC, dI)) (ci := 10) (v := .int x36_29) (C := RX10) (T := TX10) (N := 51) hx hb hts inw_X10_recipe_10 hown hK hP 0 rfl rfl 36 (by decide) (hts (.fieldLink RX10 249 "VatHouseModel" "nodes" "I") (by decide +kernel)) (fun _ h9 => h9) rfl dX10_recipe_352 ?_
                      refine va_put (D := (dC, dI)) (ci := 10) (v := .int x36_29) (ty := .int) (C := RX10) (T := TX10) (N := 51) hx hb hts inw_X10_recipe_10 tyX10 tyX10_ok nmX10 hown hK hP hD hS 0 rfl rfl 37 (by decide) (hts (.fieldLink RX10 284 "VatHouseModel" "latest" "I") (by decide +kernel)) (fun _ h9 => h9) rfl (by decide +kernel) rfl rfl (Nat.le_of_ble_eq_true rfl) dX10_recipe_355 (fun H locs hP hD hS => ?_)
                      have hP : va_P (dC, dI) vwCl (mw g h0 b (va_up (va_up (va_up (va_up (va_up (va_up (va_up (va_up (va_up (va_up i 0 x0_21) 20 (0 : Int32)) 21 nn) 22 x22_25) 23 x23_26) 24 x24_27) 25 x25_28) 36 x36_29) 37 x36_29) 38 (0 : Int32)) (va_up (va_up (va_up (va_up (va_up (va_up (va_up (va_up (va_up (va_up a 26 l26) 27 l27) 28 l28) 29 l29) 30 l30) 31 l31) 32 l32) 33 l33) 34 f_51) 35 f_52)) _ := hP
                      have hD : va_D _ (mw g h0 b (va_up (va_up (va_up (va_up (va_up (va_up (va_up (va_up (va_up (va_up i 0 x0_21) 20 (0 : Int32)) 21 nn) 22 x22_25) 23 x23_26) 24 x24_27) 25 x25_28) 36 x36_29) 37 x36_29) 38 (0 : Int32)) (va_up (va_up (va_up (va_up (va_up (va_up (va_up (va_up (va_up (va_up a 26 l26) 27 l27) 28 l28) 29 l29) 30 l30) 31 l31) 32 l32) 33 l33) 34 f_51) 35 f_52)) := hD
                      refine lv_iconst (v := 0) hx hb dX10_recipe_358 (by decide) ?_
                      exact M_i hx hb hr hlocks (x0_21, (0 : Int32), nn, x22_25, x23_26, x24_27, x25_28, x36_29, x36_29, (0 : Int32), l26, l27, l28, l29, l30, l31, l32, l33, f_51, f_52) hP hD hK hS ⟨⟨_, rfl⟩, ⟨⟨by decide, by rw [ef_51, ef_52]; exact BI.put hr8 hBI hPR_40.2.2.1 hPR_40.2.1 hcp hby hlkz (by rw [if_neg c_49]; exact ez_50) hrc⟩, Or.inr ⟨⟨c_1, c_6, c_11, c_16⟩, rfl⟩⟩⟩ (Nat.le_of_ble_eq_true rfl) (Nat.le_of_ble_eq_true rfl) dX10_recipe_359
                    · have nc_49 := eq_i c_49
                      have lc_49 : ((-1) : Int32).toInt = -1 := by decide
                      refine lv_bipush (v := (-2)) hx hb dX10_recipe_330 (by decide) ?_
                      refine lv_goto (tgt := 339) hx hb dX10_recipe_332 (by decide) ?_
                      refine va_iast hx hb hK hP hD hS 24 23 rfl rfl (in_i (by omega) (by omega)) dX10_recipe_339 (fun H locs hP hD hS => ?_)
                      have hP : va_P (dC, dI) vwCl (mw g h0 b (va_up (va_up (va_up (va_up (va_up (va_up (va_up (va_up (va_up i 0 x0_21) 20 (0 : Int32)) 21 nn) 22 x22_25) 23 x23_26) 24 x24_27) 25 x25_28) 36 x36_29) 38 (0 : Int32)) (va_up (va_up (va_up (va_up (va_up (va_up (va_up (va_up (va_up a 26 l26) 27 l27) 28 l28) 29 l29) 30 l30) 31 l31) 32 l32) 33 l33) 34 (upd (a 34) rr.toNatClampNeg ((-2) : Int32)))) _ := hP
                      have hD : va_D _ (mw g h0 b (va_up (va_up (va_up (va_up (va_up (va_up (va_up (va_up (va_up i 0 x0_21) 20 (0 : Int32)) 21 nn) 22 x22_25) 23 x23_26) 24 x24_27) 25 x25_28) 36 x36_29) 38 (0 : Int32)) (va_up (va_up (va_up (va_up (va_up (va_up (va_up (va_up (va_up a 26 l26) 27 l27) 28 l28) 29 l29) 30 l30) 31 l31) 32 l32) 33 l33) 34 (upd (a 34) rr.toNatClampNeg ((-2) : Int32)))) := hD
                      obtain ⟨f_53, ef_53⟩ : ∃ z, z = (upd (a 34) rr.toNatClampNeg ((-2) : Int32)) := ⟨_, rfl⟩
                      rw [← ef_53] at hP hD
                      refine lv_aload_n hx hb dX10_recipe_340 rfl (lv_at hl 3 rfl) ?_
                      refine va_get (D := (dC, dI)) (ci := 10) (v := .ref (b 35)) (C := RX10) (T := TX10) (N := 51) hx hb hts inw_X10_recipe_10 hown hK hP 0 rfl rfl 35 (by decide) (hts (.fieldLink RX10 87 "VatHouseModel" "many" "[I") (by decide +kernel)) (fun _ h9 => h9) rfl dX10_recipe_341 ?_
                      refine lv_iload_n hx hb dX10_recipe_344 rfl (lv_at hl 4 rfl) ?_
                      refine lv_aload_n hx hb dX10_recipe_345 rfl (lv_at hl 3 rfl) ?_
                      refine va_get (D := (dC, dI)) (ci := 10) (v := .int x36_29) (C := RX10) (T := TX10) (N := 51) hx hb hts inw_X10_recipe_10 hown hK hP 0 rfl rfl 36 (by decide) (hts (.fieldLink RX10 249 "VatHouseModel" "nodes" "I") (by decide +kernel)) (fun _ h9 => h9) rfl dX10_recipe_346 ?_
                      refine va_iast hx hb hK hP hD hS 25 24 rfl rfl (in_i (by omega) (by omega)) dX10_recipe_349 (fun H locs hP hD hS => ?_)
                      have hP : va_P (dC, dI) vwCl (mw g h0 b (va_up (va_up (va_up (va_up (va_up (va_up (va_up (va_up (va_up i 0 x0_21) 20 (0 : Int32)) 21 nn) 22 x22_25) 23 x23_26) 24 x24_27) 25 x25_28) 36 x36_29) 38 (0 : Int32)) (va_up (va_up (va_up (va_up (va_up (va_up (va_up (va_up (va_up (va_up a 26 l26) 27 l27) 28 l28) 29 l29) 30 l30) 31 l31) 32 l32) 33 l33) 34 f_53) 35 (upd (a 35) rr.toNatClampNeg x36_29))) _ := hP
                      have hD : va_D _ (mw g h0 b (va_up (va_up (va_up (va_up (va_up (va_up (va_up (va_up (va_up i 0 x0_21) 20 (0 : Int32)) 21 nn) 22 x22_25) 23 x23_26) 24 x24_27) 25 x25_28) 36 x36_29) 38 (0 : Int32)) (va_up (va_up (va_up (va_up (va_up (va_up (va_up (va_up (va_up (va_up a 26 l26) 27 l27) 28 l28) 29 l29) 30 l30) 31 l31) 32 l32) 33 l33) 34 f_53) 35 (upd (a 35) rr.toNatClampNeg x36_29))) := hD
                      obtain ⟨f_54, ef_54⟩ : ∃ z, z = (upd (a 35) rr.toNatClampNeg x36_29) := ⟨_, rfl⟩
                      rw [← ef_54] at hP hD
                      refine lv_aload_n hx hb dX10_recipe_350 rfl (lv_at hl 3 rfl) ?_
                      refine lv_aload_n hx hb dX10_recipe_351 rfl (lv_at hl 3 rfl) ?_
                      refine va_get (D := (dC, dI)) (ci := 10) (v := .int x36_29) (C := RX10) (T := TX10) (N := 51) hx hb hts inw_X10_recipe_10 hown hK hP 0 rfl rfl 36 (by decide) (hts (.fieldLink RX10 249 "VatHouseModel" "nodes" "I") (by decide +kernel)) (fun _ h9 => h9) rfl dX10_recipe_352 ?_
                      refine va_put (D := (dC, dI)) (ci := 10) (v := .int x36_29) (ty := .int) (C := RX10) (T := TX10) (N := 51) hx hb hts inw_X10_recipe_10 tyX10 tyX10_ok nmX10 hown hK hP hD hS 0 rfl rfl 37 (by decide) (hts (.fieldLink RX10 284 "VatHouseModel" "latest" "I") (by decide +kernel)) (fun _ h9 => h9) rfl (by decide +kernel) rfl rfl (Nat.le_of_ble_eq_true rfl) dX10_recipe_355 (fun H locs hP hD hS => ?_)
                      have hP : va_P (dC, dI) vwCl (mw g h0 b (va_up (va_up (va_up (va_up (va_up (va_up (va_up (va_up (va_up (va_up i 0 x0_21) 20 (0 : Int32)) 21 nn) 22 x22_25) 23 x23_26) 24 x24_27) 25 x25_28) 36 x36_29) 37 x36_29) 38 (0 : Int32)) (va_up (va_up (va_up (va_up (va_up (va_up (va_up (va_up (va_up (va_up a 26 l26) 27 l27) 28 l28) 29 l29) 30 l30) 31 l31) 32 l32) 33 l33) 34 f_53) 35 f_54)) _ := hP
                      have hD : va_D _ (mw g h0 b (va_up (va_up (va_up (va_up (va_up (va_up (va_up (va_up (va_up (va_up i 0 x0_21) 20 (0 : Int32)) 21 nn) 22 x22_25) 23 x23_26) 24 x24_27) 25 x25_28) 36 x36_29) 37 x36_29) 38 (0 : Int32)) (va_up (va_up (va_up (va_up (va_up (va_up (va_up (va_up (va_up (va_up a 26 l26) 27 l27) 28 l28) 29 l29) 30 l30) 31 l31) 32 l32) 33 l33) 34 f_53) 35 f_54)) := hD
                      refine lv_iconst (v := 0) hx hb dX10_recipe_358 (by decide) ?_
                      exact M_i hx hb hr hlocks (x0_21, (0 : Int32), nn, x22_25, x23_26, x24_27, x25_28, x36_29, x36_29, (0 : Int32), l26, l27, l28, l29, l30, l31, l32, l33, f_53, f_54) hP hD hK hS ⟨⟨_, rfl⟩, ⟨⟨by decide, by rw [ef_53, ef_54]; exact BI.put hr8 hBI hPR_40.2.2.1 hPR_40.2.1 hcp hby hlkz (by rw [if_pos c_49]) hrc⟩, Or.inr ⟨⟨c_1, c_6, c_11, c_16⟩, rfl⟩⟩⟩ (Nat.le_of_ble_eq_true rfl) (Nat.le_of_ble_eq_true rfl) dX10_recipe_359
                  · have nc_48 := nle_i c_48
                    have hd3 : (d : Int) < x36_29.toInt := by omega
                    have hkxc : kx.toNatClampNeg = 2400 + d := by have h9 := clamp_i (x := kx) (by omega); omega
                    have hd300 : d < 300 := by omega
                    have hkxv : vp_in kx 2700 := in_i (by omega) (by omega)
                    refine lv_aload_n hx hb dX10_recipe_124 rfl (lv_at hl 3 rfl) ?_
                    refine va_get (D := (dC, dI)) (ci := 10) (v := .ref (b 26)) (C := RX10) (T := TX10) (N := 51) hx hb hts inw_X10_recipe_10 hown hK hP 0 rfl rfl 26 (by decide) (hts (.fieldLink RX10 60 "VatHouseModel" "kind" "[I") (by decide +kernel)) (fun _ h9 => h9) rfl dX10_recipe_125 ?_
                    refine lv_iload hx hb dX10_recipe_128 (lv_at hl 0 rfl) ?_
                    refine lv_iload hx hb dX10_recipe_130 (lv_at hl 1 rfl) ?_
                    refine lv_iadd hx hb dX10_recipe_132 ?_
                    refine lv_topi (fun z_55 ez_55 => ?_)
                    refine lv_aload_n hx hb dX10_recipe_133 rfl (lv_at hl 3 rfl) ?_
                    refine va_get (D := (dC, dI)) (ci := 10) (v := .ref (b 26)) (C := RX10) (T := TX10) (N := 51) hx hb hts inw_X10_recipe_10 hown hK hP 0 rfl rfl 26 (by decide) (hts (.fieldLink RX10 60 "VatHouseModel" "kind" "[I") (by decide +kernel)) (fun _ h9 => h9) rfl dX10_recipe_134 ?_
                    refine lv_iload hx hb dX10_recipe_137 (lv_at hl 0 rfl) ?_
                    refine va_iald hx hb hK hP 16 15 rfl rfl hkxv dX10_recipe_139 ?_
                    refine lv_topi (fun z_56 ez_56 => ?_)
                    have ez_56 : z_56 = l26 kx.toNatClampNeg := ez_56
                    refine va_iast hx hb hK hP hD hS 16 15 rfl rfl (rc_in ez_55 hkxI hby hr8 hd300).2.2 dX10_recipe_140 (fun H locs hP hD hS => ?_)
                    have hP : va_P (dC, dI) vwCl (mw g h0 b (va_up (va_up (va_up (va_up (va_up (va_up (va_up (va_up (va_up i 0 x0_21) 20 (0 : Int32)) 21 nn) 22 x22_25) 23 x23_26) 24 x24_27) 25 x25_28) 36 x36_29) 38 (0 : Int32)) (va_up (va_up (va_up (va_up (va_up (va_up (va_up (va_up a 26 (upd l26 z_55.toNatClampNeg z_56)) 27 l27) 28 l28) 29 l29) 30 l30) 31 l31) 32 l32) 33 l33)) _ := hP
                    have hD : va_D _ (mw g h0 b (va_up (va_up (va_up (va_up (va_up (va_up (va_up (va_up (va_up i 0 x0_21) 20 (0 : Int32)) 21 nn) 22 x22_25) 23 x23_26) 24 x24_27) 25 x25_28) 36 x36_29) 38 (0 : Int32)) (va_up (va_up (va_up (va_up (va_up (va_up (va_up (va_up a 26 (upd l26 z_55.toNatClampNeg z_56)) 27 l27) 28 l28) 29 l29) 30 l30) 31 l31) 32 l32) 33 l33)) := hD
                    obtain ⟨f_57, ef_57⟩ : ∃ z, z = (upd l26 z_55.toNatClampNeg z_56) := ⟨_, rfl⟩
                    rw [← ef_57] at hP hD
                    refine lv_aload_n hx hb dX10_recipe_141 rfl (lv_at hl 3 rfl) ?_
                    refine va_get (D := (dC, dI)) (ci := 10) (v := .ref (b 27)) (C := RX10) (T := TX10) (N := 51) hx hb hts inw_X10_recipe_10 hown hK hP 0 rfl rfl 27 (by decide) (hts (.fieldLink RX10 63 "VatHouseModel" "one" "[I") (by decide +kernel)) (fun _ h9 => h9) rfl dX10_recipe_142 ?_
                    refine lv_iload hx hb dX10_recipe_145 (lv_at hl 0 rfl) ?_
                    refine lv_iload hx hb dX10_recipe_147 (lv_at hl 1 rfl) ?_
                    refine lv_iadd hx hb dX10_recipe_149 ?_
                    refine lv_topi (fun z_58 ez_58 => ?_)
                    refine lv_aload_n hx hb dX10_recipe_150 rfl (lv_at hl 3 rfl) ?_
                    refine va_get (D := (dC, dI)) (ci := 10) (v := .ref (b 27)) (C := RX10) (T := TX10) (N := 51) hx hb hts inw_X10_recipe_10 hown hK hP 0 rfl rfl 27 (by decide) (hts (.fieldLink RX10 63 "VatHouseModel" "one" "[I") (by decide +kernel)) (fun _ h9 => h9) rfl dX10_recipe_151 ?_
                    refine lv_iload hx hb dX10_recipe_154 (lv_at hl 0 rfl) ?_
                    refine va_iald hx hb hK hP 17 16 rfl rfl hkxv dX10_recipe_156 ?_
                    refine lv_topi (fun z_59 ez_59 => ?_)
                    have ez_59 : z_59 = l27 kx.toNatClampNeg := ez_59
                    refine va_iast hx hb hK hP hD hS 17 16 rfl rfl (rc_in ez_58 hkxI hby hr8 hd300).2.2 dX10_recipe_157 (fun H locs hP hD hS => ?_)
                    have hP : va_P (dC, dI) vwCl (mw g h0 b (va_up (va_up (va_up (va_up (va_up (va_up (va_up (va_up (va_up i 0 x0_21) 20 (0 : Int32)) 21 nn) 22 x22_25) 23 x23_26) 24 x24_27) 25 x25_28) 36 x36_29) 38 (0 : Int32)) (va_up (va_up (va_up (va_up (va_up (va_up (va_up (va_up a 26 f_57) 27 (upd l27 z_58.toNatClampNeg z_59)) 28 l28) 29 l29) 30 l30) 31 l31) 32 l32) 33 l33)) _ := hP
                    have hD : va_D _ (mw g h0 b (va_up (va_up (va_up (va_up (va_up (va_up (va_up (va_up (va_up i 0 x0_21) 20 (0 : Int32)) 21 nn) 22 x22_25) 23 x23_26) 24 x24_27) 25 x25_28) 36 x36_29) 38 (0 : Int32)) (va_up (va_up (va_up (va_up (va_up (va_up (va_up (va_up a 26 f_57) 27 (upd l27 z_58.toNatClampNeg z_59)) 28 l28) 29 l29) 30 l30) 31 l31) 32 l32) 33 l33)) := hD
                    obtain ⟨f_60, ef_60⟩ : ∃ z, z = (upd l27 z_58.toNatClampNeg z_59) := ⟨_, rfl⟩
                    rw [← ef_60] at hP hD
                    refine lv_aload_n hx hb dX10_recipe_158 rfl (lv_at hl 3 rfl) ?_
                    refine va_get (D := (dC, dI)) (ci := 10) (v := .ref (b 28)) (C := RX10) (T := TX10) (N := 51) hx hb hts inw_X10_recipe_10 hown hK hP 0 rfl rfl 28 (by decide) (hts (.fieldLink RX10 66 "VatHouseModel" "two" "[I") (by decide +kernel)) (fun _ h9 => h9) rfl dX10_recipe_159 ?_
                    refine lv_iload hx hb dX10_recipe_162 (lv_at hl 0 rfl) ?_
                    refine lv_iload hx hb dX10_recipe_164 (lv_at hl 1 rfl) ?_
                    refine lv_iadd hx hb dX10_recipe_166 ?_
                    refine lv_topi (fun z_61 ez_61 => ?_)
                    refine lv_aload_n hx hb dX10_recipe_167 rfl (lv_at hl 3 rfl) ?_
                    refine va_get (D := (dC, dI)) (ci := 10) (v := .ref (b 28)) (C := RX10) (T := TX10) (N := 51) hx hb hts inw_X10_recipe_10 hown hK hP 0 rfl rfl 28 (by decide) (hts (.fieldLink RX10 66 "VatHouseModel" "two" "[I") (by decide +kernel)) (fun _ h9 => h9) rfl dX10_recipe_168 ?_
                    refine lv_iload hx hb dX10_recipe_171 (lv_at hl 0 rfl) ?_
                    refine va_iald hx hb hK hP 18 17 rfl rfl hkxv dX10_recipe_173 ?_
                    refine lv_topi (fun z_62 ez_62 => ?_)
                    have ez_62 : z_62 = l28 kx.toNatClampNeg := ez_62
                    refine va_iast hx hb hK hP hD hS 18 17 rfl rfl (rc_in ez_61 hkxI hby hr8 hd300).2.2 dX10_recipe_174 (fun H locs hP hD hS => ?_)
                    have hP : va_P (dC, dI) vwCl (mw g h0 b (va_up (va_up (va_up (va_up (va_up (va_up (va_up (va_up (va_up i 0 x0_21) 20 (0 : Int32)) 21 nn) 22 x22_25) 23 x23_26) 24 x24_27) 25 x25_28) 36 x36_29) 38 (0 : Int32)) (va_up (va_up (va_up (va_up (va_up (va_up (va_up (va_up a 26 f_57) 27 f_60) 28 (upd l28 z_61.toNatClampNeg z_62)) 29 l29) 30 l30) 31 l31) 32 l32) 33 l33)) _ := hP
                    have hD : va_D _ (mw g h0 b (va_up (va_up (va_up (va_up (va_up (va_up (va_up (va_up (va_up i 0 x0_21) 20 (0 : Int32)) 21 nn) 22 x22_25) 23 x23_26) 24 x24_27) 25 x25_28) 36 x36_29) 38 (0 : Int32)) (va_up (va_up (va_up (va_up (va_up (va_up (va_up (va_up a 26 f_57) 27 f_60) 28 (upd l28 z_61.toNatClampNeg z_62)) 29 l29) 30 l30) 31 l31) 32 l32) 33 l33)) := hD
                    obtain ⟨f_63, ef_63⟩ : ∃ z, z = (upd l28 z_61.toNatClampNeg z_62) := ⟨_, rfl⟩
                    rw [← ef_63] at hP hD
                    refine lv_aload_n hx hb dX10_recipe_175 rfl (lv_at hl 3 rfl) ?_
                    refine va_get (D := (dC, dI)) (ci := 10) (v := .ref (b 29)) (C := RX10) (T := TX10) (N := 51) hx hb hts inw_X10_recipe_10 hown hK hP 0 rfl rfl 29 (by decide) (hts (.fieldLink RX10 69 "VatHouseModel" "look" "[I") (by decide +kernel)) (fun _ h9 => h9) rfl dX10_recipe_176 ?_
                    refine lv_iload hx hb dX10_recipe_179 (lv_at hl 0 rfl) ?_
                    refine lv_iload hx hb dX10_recipe_181 (lv_at hl 1 rfl) ?_
                    refine lv_iadd hx hb dX10_recipe_183 ?_
                    refine lv_topi (fun z_64 ez_64 => ?_)
                    refine lv_aload_n hx hb dX10_recipe_184 rfl (lv_at hl 3 rfl) ?_
                    refine va_get (D := (dC, dI)) (ci := 10) (v := .ref (b 29)) (C := RX10) (T := TX10) (N := 51) hx hb hts inw_X10_recipe_10 hown hK hP 0 rfl rfl 29 (by decide) (hts (.fieldLink RX10 69 "VatHouseModel" "look" "[I") (by decide +kernel)) (fun _ h9 => h9) rfl dX10_recipe_185 ?_
                    refine lv_iload hx hb dX10_recipe_188 (lv_at hl 0 rfl) ?_
                    refine va_iald hx hb hK hP 19 18 rfl rfl hkxv dX10_recipe_190 ?_
                    refine lv_topi (fun z_65 ez_65 => ?_)
                    have ez_65 : z_65 = l29 kx.toNatClampNeg := ez_65
                    refine va_iast hx hb hK hP hD hS 19 18 rfl rfl (rc_in ez_64 hkxI hby hr8 hd300).2.2 dX10_recipe_191 (fun H locs hP hD hS => ?_)
                    have hP : va_P (dC, dI) vwCl (mw g h0 b (va_up (va_up (va_up (va_up (va_up (va_up (va_up (va_up (va_up i 0 x0_21) 20 (0 : Int32)) 21 nn) 22 x22_25) 23 x23_26) 24 x24_27) 25 x25_28) 36 x36_29) 38 (0 : Int32)) (va_up (va_up (va_up (va_up (va_up (va_up (va_up (va_up a 26 f_57) 27 f_60) 28 f_63) 29 (upd l29 z_64.toNatClampNeg z_65)) 30 l30) 31 l31) 32 l32) 33 l33)) _ := hP
                    have hD : va_D _ (mw g h0 b (va_up (va_up (va_up (va_up (va_up (va_up (va_up (va_up (va_up i 0 x0_21) 20 (0 : Int32)) 21 nn) 22 x22_25) 23 x23_26) 24 x24_27) 25 x25_28) 36 x36_29) 38 (0 : Int32)) (va_up (va_up (va_up (va_up (va_up (va_up (va_up (va_up a 26 f_57) 27 f_60) 28 f_63) 29 (upd l29 z_64.toNatClampNeg z_65)) 30 l30) 31 l31) 32 l32) 33 l33)) := hD
                    obtain ⟨f_66, ef_66⟩ : ∃ z, z = (upd l29 z_64.toNatClampNeg z_65) := ⟨_, rfl⟩
                    rw [← ef_66] at hP hD
                    refine lv_aload_n hx hb dX10_recipe_192 rfl (lv_at hl 3 rfl) ?_
                    refine va_get (D := (dC, dI)) (ci := 10) (v := .ref (b 30)) (C := RX10) (T := TX10) (N := 51) hx hb hts inw_X10_recipe_10 hown hK hP 0 rfl rfl 30 (by decide) (hts (.fieldLink RX10 72 "VatHouseModel" "sign" "[I") (by decide +kernel)) (fun _ h9 => h9) rfl dX10_recipe_193 ?_
                    refine lv_iload hx hb dX10_recipe_196 (lv_at hl 0 rfl) ?_
                    refine lv_iload hx hb dX10_recipe_198 (lv_at hl 1 rfl) ?_
                    refine lv_iadd hx hb dX10_recipe_200 ?_
                    refine lv_topi (fun z_67 ez_67 => ?_)
                    refine lv_aload_n hx hb dX10_recipe_201 rfl (lv_at hl 3 rfl) ?_
                    refine va_get (D := (dC, dI)) (ci := 10) (v := .ref (b 30)) (C := RX10) (T := TX10) (N := 51) hx hb hts inw_X10_recipe_10 hown hK hP 0 rfl rfl 30 (by decide) (hts (.fieldLink RX10 72 "VatHouseModel" "sign" "[I") (by decide +kernel)) (fun _ h9 => h9) rfl dX10_recipe_202 ?_
                    refine lv_iload hx hb dX10_recipe_205 (lv_at hl 0 rfl) ?_
                    refine va_iald hx hb hK hP 20 19 rfl rfl hkxv dX10_recipe_207 ?_
                    refine lv_topi (fun z_68 ez_68 => ?_)
                    have ez_68 : z_68 = l30 kx.toNatClampNeg := ez_68
                    refine va_iast hx hb hK hP hD hS 20 19 rfl rfl (rc_in ez_67 hkxI hby hr8 hd300).2.2 dX10_recipe_208 (fun H locs hP hD hS => ?_)
                    have hP : va_P (dC, dI) vwCl (mw g h0 b (va_up (va_up (va_up (va_up (va_up (va_up (va_up (va_up (va_up i 0 x0_21) 20 (0 : Int32)) 21 nn) 22 x22_25) 23 x23_26) 24 x24_27) 25 x25_28) 36 x36_29) 38 (0 : Int32)) (va_up (va_up (va_up (va_up (va_up (va_up (va_up (va_up a 26 f_57) 27 f_60) 28 f_63) 29 f_66) 30 (upd l30 z_67.toNatClampNeg z_68)) 31 l31) 32 l32) 33 l33)) _ := hP
                    have hD : va_D _ (mw g h0 b (va_up (va_up (va_up (va_up (va_up (va_up (va_up (va_up (va_up i 0 x0_21) 20 (0 : Int32)) 21 nn) 22 x22_25) 23 x23_26) 24 x24_27) 25 x25_28) 36 x36_29) 38 (0 : Int32)) (va_up (va_up (va_up (va_up (va_up (va_up (va_up (va_up a 26 f_57) 27 f_60) 28 f_63) 29 f_66) 30 (upd l30 z_67.toNatClampNeg z_68)) 31 l31) 32 l32) 33 l33)) := hD
                    obtain ⟨f_69, ef_69⟩ : ∃ z, z = (upd l30 z_67.toNatClampNeg z_68) := ⟨_, rfl⟩
                    rw [← ef_69] at hP hD
                    refine lv_aload_n hx hb dX10_recipe_209 rfl (lv_at hl 3 rfl) ?_
                    refine va_get (D := (dC, dI)) (ci := 10) (v := .ref (b 31)) (C := RX10) (T := TX10) (N := 51) hx hb hts inw_X10_recipe_10 hown hK hP 0 rfl rfl 31 (by decide) (hts (.fieldLink RX10 75 "VatHouseModel" "inner" "[I") (by decide +kernel)) (fun _ h9 => h9) rfl dX10_recipe_210 ?_
                    refine lv_iload hx hb dX10_recipe_213 (lv_at hl 0 rfl) ?_
                    refine lv_iload hx hb dX10_recipe_215 (lv_at hl 1 rfl) ?_
                    refine lv_iadd hx hb dX10_recipe_217 ?_
                    refine lv_topi (fun z_70 ez_70 => ?_)
                    refine lv_aload_n hx hb dX10_recipe_218 rfl (lv_at hl 3 rfl) ?_
                    refine va_get (D := (dC, dI)) (ci := 10) (v := .ref (b 31)) (C := RX10) (T := TX10) (N := 51) hx hb hts inw_X10_recipe_10 hown hK hP 0 rfl rfl 31 (by decide) (hts (.fieldLink RX10 75 "VatHouseModel" "inner" "[I") (by decide +kernel)) (fun _ h9 => h9) rfl dX10_recipe_219 ?_
                    refine lv_iload hx hb dX10_recipe_222 (lv_at hl 0 rfl) ?_
                    refine va_iald hx hb hK hP 21 20 rfl rfl hkxv dX10_recipe_224 ?_
                    refine lv_topi (fun z_71 ez_71 => ?_)
                    have ez_71 : z_71 = l31 kx.toNatClampNeg := ez_71
                    refine lv_iconst (v := (-1)) hx hb dX10_recipe_225 (by decide) ?_
                    refine lv_icmp_ne (tgt := 233) hx hb dX10_recipe_226 (by decide) (fun c_72 => ?_) (fun c_72 => ?_)
                    · have nc_72 := ne_i c_72
                      have lc_72 : ((-1) : Int32).toInt = -1 := by decide
                      refine lv_aload_n hx hb dX10_recipe_233 rfl (lv_at hl 3 rfl) ?_
                      refine va_get (D := (dC, dI)) (ci := 10) (v := .ref (b 31)) (C := RX10) (T := TX10) (N := 51) hx hb hts inw_X10_recipe_10 hown hK hP 0 rfl rfl 31 (by decide) (hts (.fieldLink RX10 75 "VatHouseModel" "inner" "[I") (by decide +kernel)) (fun _ h9 => h9) rfl dX10_recipe_234 ?_
                      refine lv_iload hx hb dX10_recipe_237 (lv_at hl 0 rfl) ?_
                      refine va_iald hx hb hK hP 21 20 rfl rfl hkxv dX10_recipe_239 ?_
                      refine lv_topi (fun z_73 ez_73 => ?_)
                      have ez_73 : z_73 = l31 kx.toNatClampNeg := ez_73
                      refine lv_iload hx hb dX10_recipe_240 (lv_at hl 1 rfl) ?_
                      refine lv_iadd hx hb dX10_recipe_242 ?_
                      refine lv_topi (fun z_74 ez_74 => ?_)
                      refine va_iast hx hb hK hP hD hS 21 20 rfl rfl (rc_in ez_70 hkxI hby hr8 hd300).2.2 dX10_recipe_243 (fun H locs hP hD hS => ?_)
                      have hP : va_P (dC, dI) vwCl (mw g h0 b (va_up (va_up (va_up (va_up (va_up (va_up (va_up (va_up (va_up i 0 x0_21) 20 (0 : Int32)) 21 nn) 22 x22_25) 23 x23_26) 24 x24_27) 25 x25_28) 36 x36_29) 38 (0 : Int32)) (va_up (va_up (va_up (va_up (va_up (va_up (va_up (va_up a 26 f_57) 27 f_60) 28 f_63) 29 f_66) 30 f_69) 31 (upd l31 z_70.toNatClampNeg z_74)) 32 l32) 33 l33)) _ := hP
                      have hD : va_D _ (mw g h0 b (va_up (va_up (va_up (va_up (va_up (va_up (va_up (va_up (va_up i 0 x0_21) 20 (0 : Int32)) 21 nn) 22 x22_25) 23 x23_26) 24 x24_27) 25 x25_28) 36 x36_29) 38 (0 : Int32)) (va_up (va_up (va_up (va_up (va_up (va_up (va_up (va_up a 26 f_57) 27 f_60) 28 f_63) 29 f_66) 30 f_69) 31 (upd l31 z_70.toNatClampNeg z_74)) 32 l32) 33 l33)) := hD
                      obtain ⟨f_75, ef_75⟩ : ∃ z, z = (upd l31 z_70.toNatClampNeg z_74) := ⟨_, rfl⟩
                      rw [← ef_75] at hP hD
                      refine lv_aload_n hx hb dX10_recipe_244 rfl (lv_at hl 3 rfl) ?_
                      refine va_get (D := (dC, dI)) (ci := 10) (v := .ref (b 32)) (C := RX10) (T := TX10) (N := 51) hx hb hts inw_X10_recipe_10 hown hK hP 0 rfl rfl 32 (by decide) (hts (.fieldLink RX10 78 "VatHouseModel" "other" "[I") (by decide +kernel)) (fun _ h9 => h9) rfl dX10_recipe_245 ?_
                      refine lv_iload hx hb dX10_recipe_248 (lv_at hl 0 rfl) ?_
                      refine lv_iload hx hb dX10_recipe_250 (lv_at hl 1 rfl) ?_
                      refine lv_iadd hx hb dX10_recipe_252 ?_
                      refine lv_topi (fun z_76 ez_76 => ?_)
                      refine lv_aload_n hx hb dX10_recipe_253 rfl (lv_at hl 3 rfl) ?_
                      refine va_get (D := (dC, dI)) (ci := 10) (v := .ref (b 32)) (C := RX10) (T := TX10) (N := 51) hx hb hts inw_X10_recipe_10 hown hK hP 0 rfl rfl 32 (by decide) (hts (.fieldLink RX10 78 "VatHouseModel" "other" "[I") (by decide +kernel)) (fun _ h9 => h9) rfl dX10_recipe_254 ?_
                      refine lv_iload hx hb dX10_recipe_257 (lv_at hl 0 rfl) ?_
                      refine va_iald hx hb hK hP 22 21 rfl rfl hkxv dX10_recipe_259 ?_
                      refine lv_topi (fun z_77 ez_77 => ?_)
                      have ez_77 : z_77 = l32 kx.toNatClampNeg := ez_77
                      refine lv_iconst (v := (-1)) hx hb dX10_recipe_260 (by decide) ?_
                      refine lv_icmp_ne (tgt := 268) hx hb dX10_recipe_261 (by decide) (fun c_78 => ?_) (fun c_78 => ?_)
                      · have nc_78 := ne_i c_78
                        have lc_78 : ((-1) : Int32).toInt = -1 := by decide
                        refine lv_aload_n hx hb dX10_recipe_268 rfl (lv_at hl 3 rfl) ?_
                        refine va_get (D := (dC, dI)) (ci := 10) (v := .ref (b 32)) (C := RX10) (T := TX10) (N := 51) hx hb hts inw_X10_recipe_10 hown hK hP 0 rfl rfl 32 (by decide) (hts (.fieldLink RX10 78 "VatHouseModel" "other" "[I") (by decide +kernel)) (fun _ h9 => h9) rfl dX10_recipe_269 ?_
                        refine lv_iload hx hb dX10_recipe_272 (lv_at hl 0 rfl) ?_
                        refine va_iald hx hb hK hP 22 21 rfl rfl hkxv dX10_recipe_274 ?_
                        refine lv_topi (fun z_79 ez_79 => ?_)
                        have ez_79 : z_79 = l32 kx.toNatClampNeg := ez_79
                        refine lv_iload hx hb dX10_recipe_275 (lv_at hl 1 rfl) ?_
                        refine lv_iadd hx hb dX10_recipe_277 ?_
                        refine lv_topi (fun z_80 ez_80 => ?_)
                        refine va_iast hx hb hK hP hD hS 22 21 rfl rfl (rc_in ez_76 hkxI hby hr8 hd300).2.2 dX10_recipe_278 (fun H locs hP hD hS => ?_)
                        have hP : va_P (dC, dI) vwCl (mw g h0 b (va_up (va_up (va_up (va_up (va_up (va_up (va_up (va_up (va_up i 0 x0_21) 20 (0 : Int32)) 21 nn) 22 x22_25) 23 x23_26) 24 x24_27) 25 x25_28) 36 x36_29) 38 (0 : Int32)) (va_up (va_up (va_up (va_up (va_up (va_up (va_up (va_up a 26 f_57) 27 f_60) 28 f_63) 29 f_66) 30 f_69) 31 f_75) 32 (upd l32 z_76.toNatClampNeg z_80)) 33 l33)) _ := hP
                        have hD : va_D _ (mw g h0 b (va_up (va_up (va_up (va_up (va_up (va_up (va_up (va_up (va_up i 0 x0_21) 20 (0 : Int32)) 21 nn) 22 x22_25) 23 x23_26) 24 x24_27) 25 x25_28) 36 x36_29) 38 (0 : Int32)) (va_up (va_up (va_up (va_up (va_up (va_up (va_up (va_up a 26 f_57) 27 f_60) 28 f_63) 29 f_66) 30 f_69) 31 f_75) 32 (upd l32 z_76.toNatClampNeg z_80)) 33 l33)) := hD
                        obtain ⟨f_81, ef_81⟩ : ∃ z, z = (upd l32 z_76.toNatClampNeg z_80) := ⟨_, rfl⟩
                        rw [← ef_81] at hP hD
                        refine lv_aload_n hx hb dX10_recipe_279 rfl (lv_at hl 3 rfl) ?_
                        refine va_get (D := (dC, dI)) (ci := 10) (v := .ref (b 33)) (C := RX10) (T := TX10) (N := 51) hx hb hts inw_X10_recipe_10 hown hK hP 0 rfl rfl 33 (by decide) (hts (.fieldLink RX10 81 "VatHouseModel" "next" "[I") (by decide +kernel)) (fun _ h9 => h9) rfl dX10_recipe_280 ?_
                        refine lv_iload hx hb dX10_recipe_283 (lv_at hl 0 rfl) ?_
                        refine lv_iload hx hb dX10_recipe_285 (lv_at hl 1 rfl) ?_
                        refine lv_iadd hx hb dX10_recipe_287 ?_
                        refine lv_topi (fun z_82 ez_82 => ?_)
                        refine lv_aload_n hx hb dX10_recipe_288 rfl (lv_at hl 3 rfl) ?_
                        refine va_get (D := (dC, dI)) (ci := 10) (v := .ref (b 33)) (C := RX10) (T := TX10) (N := 51) hx hb hts inw_X10_recipe_10 hown hK hP 0 rfl rfl 33 (by decide) (hts (.fieldLink RX10 81 "VatHouseModel" "next" "[I") (by decide +kernel)) (fun _ h9 => h9) rfl dX10_recipe_289 ?_
                        refine lv_iload hx hb dX10_recipe_292 (lv_at hl 0 rfl) ?_
                        refine va_iald hx hb hK hP 23 22 rfl rfl hkxv dX10_recipe_294 ?_
                        refine lv_topi (fun z_83 ez_83 => ?_)
                        have ez_83 : z_83 = l33 kx.toNatClampNeg := ez_83
                        refine lv_iconst (v := (-1)) hx hb dX10_recipe_295 (by decide) ?_
                        refine lv_icmp_ne (tgt := 303) hx hb dX10_recipe_296 (by decide) (fun c_84 => ?_) (fun c_84 => ?_)
                        · have nc_84 := ne_i c_84
                          have lc_84 : ((-1) : Int32).toInt = -1 := by decide
                          refine lv_aload_n hx hb dX10_recipe_303 rfl (lv_at hl 3 rfl) ?_
                          refine va_get (D := (dC, dI)) (ci := 10) (v := .ref (b 33)) (C := RX10) (T := TX10) (N := 51) hx hb hts inw_X10_recipe_10 hown hK hP 0 rfl rfl 33 (by decide) (hts (.fieldLink RX10 81 "VatHouseModel" "next" "[I") (by decide +kernel)) (fun _ h9 => h9) rfl dX10_recipe_304 ?_
                          refine lv_iload hx hb dX10_recipe_307 (lv_at hl 0 rfl) ?_
                          refine va_iald hx hb hK hP 23 22 rfl rfl hkxv dX10_recipe_309 ?_
                          refine lv_topi (fun z_85 ez_85 => ?_)
                          have ez_85 : z_85 = l33 kx.toNatClampNeg := ez_85
                          refine lv_iload hx hb dX10_recipe_310 (lv_at hl 1 rfl) ?_
                          refine lv_iadd hx hb dX10_recipe_312 ?_
                          refine lv_topi (fun z_86 ez_86 => ?_)
                          refine va_iast hx hb hK hP hD hS 23 22 rfl rfl (rc_in ez_82 hkxI hby hr8 hd300).2.2 dX10_recipe_313 (fun H locs hP hD hS => ?_)
                          have hP : va_P (dC, dI) vwCl (mw g h0 b (va_up (va_up (va_up (va_up (va_up (va_up (va_up (va_up (va_up i 0 x0_21) 20 (0 : Int32)) 21 nn) 22 x22_25) 23 x23_26) 24 x24_27) 25 x25_28) 36 x36_29) 38 (0 : Int32)) (va_up (va_up (va_up (va_up (va_up (va_up (va_up (va_up a 26 f_57) 27 f_60) 28 f_63) 29 f_66) 30 f_69) 31 f_75) 32 f_81) 33 (upd l33 z_82.toNatClampNeg z_86))) _ := hP
                          have hD : va_D _ (mw g h0 b (va_up (va_up (va_up (va_up (va_up (va_up (va_up (va_up (va_up i 0 x0_21) 20 (0 : Int32)) 21 nn) 22 x22_25) 23 x23_26) 24 x24_27) 25 x25_28) 36 x36_29) 38 (0 : Int32)) (va_up (va_up (va_up (va_up (va_up (va_up (va_up (va_up a 26 f_57) 27 f_60) 28 f_63) 29 f_66) 30 f_69) 31 f_75) 32 f_81) 33 (upd l33 z_82.toNatClampNeg z_86))) := hD
                          obtain ⟨f_87, ef_87⟩ : ∃ z, z = (upd l33 z_82.toNatClampNeg z_86) := ⟨_, rfl⟩
                          rw [← ef_87] at hP hD
                          refine lv_iinc (v := (kx + 1)) (lv' := [(5, .int (kx + 1)), (4, .int z_46), (3, .int z_39), (0, .ref h0), (1, .int rr), (2, .int nn)]) hx hb dX10_recipe_314 hl (k := 0) rfl rfl (by decide) rfl (fun ls hl => ?_)
                          refine lv_goto (tgt := 111) hx hb dX10_recipe_317 (by decide) ?_
                          exact ih (kx + 1) f_57 f_60 f_63 f_66 f_69 f_75 f_81 f_87 _ _ _ (rc_nx hm hkxI hd3) (⟨d + 1, by rw [hd1]; exact nI_1 (2400 + d), by omega, by rw [ef_57, ef_60, ef_75, ef_81, ef_87]; exact CP.step hcp hr8 (rc_in ez_55 hkxI hby hr8 hd300).2.1 (rc_in ez_58 hkxI hby hr8 hd300).2.1 (rc_in ez_70 hkxI hby hr8 hd300).2.1 (rc_in ez_76 hkxI hby hr8 hd300).2.1 (rc_in ez_82 hkxI hby hr8 hd300).2.1 (by rw [ez_56, hkxc]) (by rw [ez_59, hkxc]) (by rw [shf, if_neg (by rw [← hkxc, ← ez_71]; exact c_72), ez_74, ez_73, hkxc]) (by rw [shf, if_neg (by rw [← hkxc, ← ez_77]; exact c_78), ez_80, ez_79, hkxc]) (by rw [shf, if_neg (by rw [← hkxc, ← ez_83]; exact c_84), ez_86, ez_85, hkxc])⟩) hP hD hS (lv_sub hl [0, 1, 2, 3, 4, 5] rfl)
                        · have nc_84 := eq_i c_84
                          have lc_84 : ((-1) : Int32).toInt = -1 := by decide
                          refine lv_iconst (v := (-1)) hx hb dX10_recipe_299 (by decide) ?_
                          refine lv_goto (tgt := 313) hx hb dX10_recipe_300 (by decide) ?_
                          refine va_iast hx hb hK hP hD hS 23 22 rfl rfl (rc_in ez_82 hkxI hby hr8 hd300).2.2 dX10_recipe_313 (fun H locs hP hD hS => ?_)
                          have hP : va_P (dC, dI) vwCl (mw g h0 b (va_up (va_up (va_up (va_up (va_up (va_up (va_up (va_up (va_up i 0 x0_21) 20 (0 : Int32)) 21 nn) 22 x22_25) 23 x23_26) 24 x24_27) 25 x25_28) 36 x36_29) 38 (0 : Int32)) (va_up (va_up (va_up (va_up (va_up (va_up (va_up (va_up a 26 f_57) 27 f_60) 28 f_63) 29 f_66) 30 f_69) 31 f_75) 32 f_81) 33 (upd l33 z_82.toNatClampNeg ((-1) : Int32)))) _ := hP
                          have hD : va_D _ (mw g h0 b (va_up (va_up (va_up (va_up (va_up (va_up (va_up (va_up (va_up i 0 x0_21) 20 (0 : Int32)) 21 nn) 22 x22_25) 23 x23_26) 24 x24_27) 25 x25_28) 36 x36_29) 38 (0 : Int32)) (va_up (va_up (va_up (va_up (va_up (va_up (va_up (va_up a 26 f_57) 27 f_60) 28 f_63) 29 f_66) 30 f_69) 31 f_75) 32 f_81) 33 (upd l33 z_82.toNatClampNeg ((-1) : Int32)))) := hD
                          obtain ⟨f_88, ef_88⟩ : ∃ z, z = (upd l33 z_82.toNatClampNeg ((-1) : Int32)) := ⟨_, rfl⟩
                          rw [← ef_88] at hP hD
                          refine lv_iinc (v := (kx + 1)) (lv' := [(5, .int (kx + 1)), (4, .int z_46), (3, .int z_39), (0, .ref h0), (1, .int rr), (2, .int nn)]) hx hb dX10_recipe_314 hl (k := 0) rfl rfl (by decide) rfl (fun ls hl => ?_)
                          refine lv_goto (tgt := 111) hx hb dX10_recipe_317 (by decide) ?_
                          exact ih (kx + 1) f_57 f_60 f_63 f_66 f_69 f_75 f_81 f_88 _ _ _ (rc_nx hm hkxI hd3) (⟨d + 1, by rw [hd1]; exact nI_1 (2400 + d), by omega, by rw [ef_57, ef_60, ef_75, ef_81, ef_88]; exact CP.step hcp hr8 (rc_in ez_55 hkxI hby hr8 hd300).2.1 (rc_in ez_58 hkxI hby hr8 hd300).2.1 (rc_in ez_70 hkxI hby hr8 hd300).2.1 (rc_in ez_76 hkxI hby hr8 hd300).2.1 (rc_in ez_82 hkxI hby hr8 hd300).2.1 (by rw [ez_56, hkxc]) (by rw [ez_59, hkxc]) (by rw [shf, if_neg (by rw [← hkxc, ← ez_71]; exact c_72), ez_74, ez_73, hkxc]) (by rw [shf, if_neg (by rw [← hkxc, ← ez_77]; exact c_78), ez_80, ez_79, hkxc]) (by rw [shf, if_pos (by rw [← hkxc, ← ez_83]; exact c_84)])⟩) hP hD hS (lv_sub hl [0, 1, 2, 3, 4, 5] rfl)
                      · have nc_78 := eq_i c_78
                        have lc_78 : ((-1) : Int32).toInt = -1 := by decide
                        refine lv_iconst (v := (-1)) hx hb dX10_recipe_264 (by decide) ?_
                        refine lv_goto (tgt := 278) hx hb dX10_recipe_265 (by decide) ?_
                        refine va_iast hx hb hK hP hD hS 22 21 rfl rfl (rc_in ez_76 hkxI hby hr8 hd300).2.2 dX10_recipe_278 (fun H locs hP hD hS => ?_)
                        have hP : va_P (dC, dI) vwCl (mw g h0 b (va_up (va_up (va_up (va_up (va_up (va_up (va_up (va_up (va_up i 0 x0_21) 20 (0 : Int32)) 21 nn) 22 x22_25) 23 x23_26) 24 x24_27) 25 x25_28) 36 x36_29) 38 (0 : Int32)) (va_up (va_up (va_up (va_up (va_up (va_up (va_up (va_up a 26 f_57) 27 f_60) 28 f_63) 29 f_66) 30 f_69) 31 f_75) 32 (upd l32 z_76.toNatClampNeg ((-1) : Int32))) 33 l33)) _ := hP
                        have hD : va_D _ (mw g h0 b (va_up (va_up (va_up (va_up (va_up (va_up (va_up (va_up (va_up i 0 x0_21) 20 (0 : Int32)) 21 nn) 22 x22_25) 23 x23_26) 24 x24_27) 25 x25_28) 36 x36_29) 38 (0 : Int32)) (va_up (va_up (va_up (va_up (va_up (va_up (va_up (va_up a 26 f_57) 27 f_60) 28 f_63) 29 f_66) 30 f_69) 31 f_75) 32 (upd l32 z_76.toNatClampNeg ((-1) : Int32))) 33 l33)) := hD
                        obtain ⟨f_89, ef_89⟩ : ∃ z, z = (upd l32 z_76.toNatClampNeg ((-1) : Int32)) := ⟨_, rfl⟩
                        rw [← ef_89] at hP hD
                        refine lv_aload_n hx hb dX10_recipe_279 rfl (lv_at hl 3 rfl) ?_
                        refine va_get (D := (dC, dI)) (ci := 10) (v := .ref (b 33)) (C := RX10) (T := TX10) (N := 51) hx hb hts inw_X10_recipe_10 hown hK hP 0 rfl rfl 33 (by decide) (hts (.fieldLink RX10 81 "VatHouseModel" "next" "[I") (by decide +kernel)) (fun _ h9 => h9) rfl dX10_recipe_280 ?_
                        refine lv_iload hx hb dX10_recipe_283 (lv_at hl 0 rfl) ?_
                        refine lv_iload hx hb dX10_recipe_285 (lv_at hl 1 rfl) ?_
                        refine lv_iadd hx hb dX10_recipe_287 ?_
                        refine lv_topi (fun z_90 ez_90 => ?_)
                        refine lv_aload_n hx hb dX10_recipe_288 rfl (lv_at hl 3 rfl) ?_
                        refine va_get (D := (dC, dI)) (ci := 10) (v := .ref (b 33)) (C := RX10) (T := TX10) (N := 51) hx hb hts inw_X10_recipe_10 hown hK hP 0 rfl rfl 33 (by decide) (hts (.fieldLink RX10 81 "VatHouseModel" "next" "[I") (by decide +kernel)) (fun _ h9 => h9) rfl dX10_recipe_289 ?_
                        refine lv_iload hx hb dX10_recipe_292 (lv_at hl 0 rfl) ?_
                        refine va_iald hx hb hK hP 23 22 rfl rfl hkxv dX10_recipe_294 ?_
                        refine lv_topi (fun z_91 ez_91 => ?_)
                        have ez_91 : z_91 = l33 kx.toNatClampNeg := ez_91
                        refine lv_iconst (v := (-1)) hx hb dX10_recipe_295 (by decide) ?_
                        refine lv_icmp_ne (tgt := 303) hx hb dX10_recipe_296 (by decide) (fun c_92 => ?_) (fun c_92 => ?_)
                        · have nc_92 := ne_i c_92
                          have lc_92 : ((-1) : Int32).toInt = -1 := by decide
                          refine lv_aload_n hx hb dX10_recipe_303 rfl (lv_at hl 3 rfl) ?_
                          refine va_get (D := (dC, dI)) (ci := 10) (v := .ref (b 33)) (C := RX10) (T := TX10) (N := 51) hx hb hts inw_X10_recipe_10 hown hK hP 0 rfl rfl 33 (by decide) (hts (.fieldLink RX10 81 "VatHouseModel" "next" "[I") (by decide +kernel)) (fun _ h9 => h9) rfl dX10_recipe_304 ?_
                          refine lv_iload hx hb dX10_recipe_307 (lv_at hl 0 rfl) ?_
                          refine va_iald hx hb hK hP 23 22 rfl rfl hkxv dX10_recipe_309 ?_
                          refine lv_topi (fun z_93 ez_93 => ?_)
                          have ez_93 : z_93 = l33 kx.toNatClampNeg := ez_93
                          refine lv_iload hx hb dX10_recipe_310 (lv_at hl 1 rfl) ?_
                          refine lv_iadd hx hb dX10_recipe_312 ?_
                          refine lv_topi (fun z_94 ez_94 => ?_)
                          refine va_iast hx hb hK hP hD hS 23 22 rfl rfl (rc_in ez_90 hkxI hby hr8 hd300).2.2 dX10_recipe_313 (fun H locs hP hD hS => ?_)
                          have hP : va_P (dC, dI) vwCl (mw g h0 b (va_up (va_up (va_up (va_up (va_up (va_up (va_up (va_up (va_up i 0 x0_21) 20 (0 : Int32)) 21 nn) 22 x22_25) 23 x23_26) 24 x24_27) 25 x25_28) 36 x36_29) 38 (0 : Int32)) (va_up (va_up (va_up (va_up (va_up (va_up (va_up (va_up a 26 f_57) 27 f_60) 28 f_63) 29 f_66) 30 f_69) 31 f_75) 32 f_89) 33 (upd l33 z_90.toNatClampNeg z_94))) _ := hP
                          have hD : va_D _ (mw g h0 b (va_up (va_up (va_up (va_up (va_up (va_up (va_up (va_up (va_up i 0 x0_21) 20 (0 : Int32)) 21 nn) 22 x22_25) 23 x23_26) 24 x24_27) 25 x25_28) 36 x36_29) 38 (0 : Int32)) (va_up (va_up (va_up (va_up (va_up (va_up (va_up (va_up a 26 f_57) 27 f_60) 28 f_63) 29 f_66) 30 f_69) 31 f_75) 32 f_89) 33 (upd l33 z_90.toNatClampNeg z_94))) := hD
                          obtain ⟨f_95, ef_95⟩ : ∃ z, z = (upd l33 z_90.toNatClampNeg z_94) := ⟨_, rfl⟩
                          rw [← ef_95] at hP hD
                          refine lv_iinc (v := (kx + 1)) (lv' := [(5, .int (kx + 1)), (4, .int z_46), (3, .int z_39), (0, .ref h0), (1, .int rr), (2, .int nn)]) hx hb dX10_recipe_314 hl (k := 0) rfl rfl (by decide) rfl (fun ls hl => ?_)
                          refine lv_goto (tgt := 111) hx hb dX10_recipe_317 (by decide) ?_
                          exact ih (kx + 1) f_57 f_60 f_63 f_66 f_69 f_75 f_89 f_95 _ _ _ (rc_nx hm hkxI hd3) (⟨d + 1, by rw [hd1]; exact nI_1 (2400 + d), by omega, by rw [ef_57, ef_60, ef_75, ef_89, ef_95]; exact CP.step hcp hr8 (rc_in ez_55 hkxI hby hr8 hd300).2.1 (rc_in ez_58 hkxI hby hr8 hd300).2.1 (rc_in ez_70 hkxI hby hr8 hd300).2.1 (rc_in ez_76 hkxI hby hr8 hd300).2.1 (rc_in ez_90 hkxI hby hr8 hd300).2.1 (by rw [ez_56, hkxc]) (by rw [ez_59, hkxc]) (by rw [shf, if_neg (by rw [← hkxc, ← ez_71]; exact c_72), ez_74, ez_73, hkxc]) (by rw [shf, if_pos (by rw [← hkxc, ← ez_77]; exact c_78)]) (by rw [shf, if_neg (by rw [← hkxc, ← ez_91]; exact c_92), ez_94, ez_93, hkxc])⟩) hP hD hS (lv_sub hl [0, 1, 2, 3, 4, 5] rfl)
                        · have nc_92 := eq_i c_92
                          have lc_92 : ((-1) : Int32).toInt = -1 := by decide
                          refine lv_iconst (v := (-1)) hx hb dX10_recipe_299 (by decide) ?_
                          refine lv_goto (tgt := 313) hx hb dX10_recipe_300 (by decide) ?_
                          refine va_iast hx hb hK hP hD hS 23 22 rfl rfl (rc_in ez_90 hkxI hby hr8 hd300).2.2 dX10_recipe_313 (fun H locs hP hD hS => ?_)
                          have hP : va_P (dC, dI) vwCl (mw g h0 b (va_up (va_up (va_up (va_up (va_up (va_up (va_up (va_up (va_up i 0 x0_21) 20 (0 : Int32)) 21 nn) 22 x22_25) 23 x23_26) 24 x24_27) 25 x25_28) 36 x36_29) 38 (0 : Int32)) (va_up (va_up (va_up (va_up (va_up (va_up (va_up (va_up a 26 f_57) 27 f_60) 28 f_63) 29 f_66) 30 f_69) 31 f_75) 32 f_89) 33 (upd l33 z_90.toNatClampNeg ((-1) : Int32)))) _ := hP
                          have hD : va_D _ (mw g h0 b (va_up (va_up (va_up (va_up (va_up (va_up (va_up (va_up (va_up i 0 x0_21) 20 (0 : Int32)) 21 nn) 22 x22_25) 23 x23_26) 24 x24_27) 25 x25_28) 36 x36_29) 38 (0 : Int32)) (va_up (va_up (va_up (va_up (va_up (va_up (va_up (va_up a 26 f_57) 27 f_60) 28 f_63) 29 f_66) 30 f_69) 31 f_75) 32 f_89) 33 (upd l33 z_90.toNatClampNeg ((-1) : Int32)))) := hD
                          obtain ⟨f_96, ef_96⟩ : ∃ z, z = (upd l33 z_90.toNatClampNeg ((-1) : Int32)) := ⟨_, rfl⟩
                          rw [← ef_96] at hP hD
                          refine lv_iinc (v := (kx + 1)) (lv' := [(5, .int (kx + 1)), (4, .int z_46), (3, .int z_39), (0, .ref h0), (1, .int rr), (2, .int nn)]) hx hb dX10_recipe_314 hl (k := 0) rfl rfl (by decide) rfl (fun ls hl => ?_)
                          refine lv_goto (tgt := 111) hx hb dX10_recipe_317 (by decide) ?_
                          exact ih (kx + 1) f_57 f_60 f_63 f_66 f_69 f_75 f_89 f_96 _ _ _ (rc_nx hm hkxI hd3) (⟨d + 1, by rw [hd1]; exact nI_1 (2400 + d), by omega, by rw [ef_57, ef_60, ef_75, ef_89, ef_96]; exact CP.step hcp hr8 (rc_in ez_55 hkxI hby hr8 hd300).2.1 (rc_in ez_58 hkxI hby hr8 hd300).2.1 (rc_in ez_70 hkxI hby hr8 hd300).2.1 (rc_in ez_76 hkxI hby hr8 hd300).2.1 (rc_in ez_90 hkxI hby hr8 hd300).2.1 (by rw [ez_56, hkxc]) (by rw [ez_59, hkxc]) (by rw [shf, if_neg (by rw [← hkxc, ← ez_71]; exact c_72), ez_74, ez_73, hkxc]) (by rw [shf, if_pos (by rw [← hkxc, ← ez_77]; exact c_78)]) (by rw [shf, if_pos (by rw [← hkxc, ← ez_91]; exact c_92)])⟩) hP hD hS (lv_sub hl [0, 1, 2, 3, 4, 5] rfl)
                    · have nc_72 := eq_i c_72
                      have lc_72 : ((-1) : Int32).toInt = -1 := by decide
                      refine lv_iconst (v := (-1)) hx hb dX10_recipe_229 (by decide) ?_
                      refine lv_goto (tgt := 243) hx hb dX10_recipe_230 (by decide) ?_
                      refine va_iast hx hb hK hP hD hS 21 20 rfl rfl (rc_in ez_70 hkxI hby hr8 hd300).2.2 dX10_recipe_243 (fun H locs hP hD hS => ?_)
                      have hP : va_P (dC, dI) vwCl (mw g h0 b (va_up (va_up (va_up (va_up (va_up (va_up (va_up (va_up (va_up i 0 x0_21) 20 (0 : Int32)) 21 nn) 22 x22_25) 23 x23_26) 24 x24_27) 25 x25_28) 36 x36_29) 38 (0 : Int32)) (va_up (va_up (va_up (va_up (va_up (va_up (va_up (va_up a 26 f_57) 27 f_60) 28 f_63) 29 f_66) 30 f_69) 31 (upd l31 z_70.toNatClampNeg ((-1) : Int32))) 32 l32) 33 l33)) _ := hP
                      have hD : va_D _ (mw g h0 b (va_up (va_up (va_up (va_up (va_up (va_up (va_up (va_up (va_up i 0 x0_21) 20 (0 : Int32)) 21 nn) 22 x22_25) 23 x23_26) 24 x24_27) 25 x25_28) 36 x36_29) 38 (0 : Int32)) (va_up (va_up (va_up (va_up (va_up (va_up (va_up (va_up a 26 f_57) 27 f_60) 28 f_63) 29 f_66) 30 f_69) 31 (upd l31 z_70.toNatClampNeg ((-1) : Int32))) 32 l32) 33 l33)) := hD
                      obtain ⟨f_97, ef_97⟩ : ∃ z, z = (upd l31 z_70.toNatClampNeg ((-1) : Int32)) := ⟨_, rfl⟩
                      rw [← ef_97] at hP hD
                      refine lv_aload_n hx hb dX10_recipe_244 rfl (lv_at hl 3 rfl) ?_
                      refine va_get (D := (dC, dI)) (ci := 10) (v := .ref (b 32)) (C := RX10) (T := TX10) (N := 51) hx hb hts inw_X10_recipe_10 hown hK hP 0 rfl rfl 32 (by decide) (hts (.fieldLink RX10 78 "VatHouseModel" "other" "[I") (by decide +kernel)) (fun _ h9 => h9) rfl dX10_recipe_245 ?_
                      refine lv_iload hx hb dX10_recipe_248 (lv_at hl 0 rfl) ?_
                      refine lv_iload hx hb dX10_recipe_250 (lv_at hl 1 rfl) ?_
                      refine lv_iadd hx hb dX10_recipe_252 ?_
                      refine lv_topi (fun z_98 ez_98 => ?_)
                      refine lv_aload_n hx hb dX10_recipe_253 rfl (lv_at hl 3 rfl) ?_
                      refine va_get (D := (dC, dI)) (ci := 10) (v := .ref (b 32)) (C := RX10) (T := TX10) (N := 51) hx hb hts inw_X10_recipe_10 hown hK hP 0 rfl rfl 32 (by decide) (hts (.fieldLink RX10 78 "VatHouseModel" "other" "[I") (by decide +kernel)) (fun _ h9 => h9) rfl dX10_recipe_254 ?_
                      refine lv_iload hx hb dX10_recipe_257 (lv_at hl 0 rfl) ?_
                      refine va_iald hx hb hK hP 22 21 rfl rfl hkxv dX10_recipe_259 ?_
                      refine lv_topi (fun z_99 ez_99 => ?_)
                      have ez_99 : z_99 = l32 kx.toNatClampNeg := ez_99
                      refine lv_iconst (v := (-1)) hx hb dX10_recipe_260 (by decide) ?_
                      refine lv_icmp_ne (tgt := 268) hx hb dX10_recipe_261 (by decide) (fun c_100 => ?_) (fun c_100 => ?_)
                      · have nc_100 := ne_i c_100
                        have lc_100 : ((-1) : Int32).toInt = -1 := by decide
                        refine lv_aload_n hx hb dX10_recipe_268 rfl (lv_at hl 3 rfl) ?_
                        refine va_get (D := (dC, dI)) (ci := 10) (v := .ref (b 32)) (C := RX10) (T := TX10) (N := 51) hx hb hts inw_X10_recipe_10 hown hK hP 0 rfl rfl 32 (by decide) (hts (.fieldLink RX10 78 "VatHouseModel" "other" "[I") (by decide +kernel)) (fun _ h9 => h9) rfl dX10_recipe_269 ?_
                        refine lv_iload hx hb dX10_recipe_272 (lv_at hl 0 rfl) ?_
                        refine va_iald hx hb hK hP 22 21 rfl rfl hkxv dX10_recipe_274 ?_
                        refine lv_topi (fun z_101 ez_101 => ?_)
                        have ez_101 : z_101 = l32 kx.toNatClampNeg := ez_101
                        refine lv_iload hx hb dX10_recipe_275 (lv_at hl 1 rfl) ?_
                        refine lv_iadd hx hb dX10_recipe_277 ?_
                        refine lv_topi (fun z_102 ez_102 => ?_)
                        refine va_iast hx hb hK hP hD hS 22 21 rfl rfl (rc_in ez_98 hkxI hby hr8 hd300).2.2 dX10_recipe_278 (fun H locs hP hD hS => ?_)
                        have hP : va_P (dC, dI) vwCl (mw g h0 b (va_up (va_up (va_up (va_up (va_up (va_up (va_up (va_up (va_up i 0 x0_21) 20 (0 : Int32)) 21 nn) 22 x22_25) 23 x23_26) 24 x24_27) 25 x25_28) 36 x36_29) 38 (0 : Int32)) (va_up (va_up (va_up (va_up (va_up (va_up (va_up (va_up a 26 f_57) 27 f_60) 28 f_63) 29 f_66) 30 f_69) 31 f_97) 32 (upd l32 z_98.toNatClampNeg z_102)) 33 l33)) _ := hP
                        have hD : va_D _ (mw g h0 b (va_up (va_up (va_up (va_up (va_up (va_up (va_up (va_up (va_up i 0 x0_21) 20 (0 : Int32)) 21 nn) 22 x22_25) 23 x23_26) 24 x24_27) 25 x25_28) 36 x36_29) 38 (0 : Int32)) (va_up (va_up (va_up (va_up (va_up (va_up (va_up (va_up a 26 f_57) 27 f_60) 28 f_63) 29 f_66) 30 f_69) 31 f_97) 32 (upd l32 z_98.toNatClampNeg z_102)) 33 l33)) := hD
                        obtain ⟨f_103, ef_103⟩ : ∃ z, z = (upd l32 z_98.toNatClampNeg z_102) := ⟨_, rfl⟩
                        rw [← ef_103] at hP hD
                        refine lv_aload_n hx hb dX10_recipe_279 rfl (lv_at hl 3 rfl) ?_
                        refine va_get (D := (dC, dI)) (ci := 10) (v := .ref (b 33)) (C := RX10) (T := TX10) (N := 51) hx hb hts inw_X10_recipe_10 hown hK hP 0 rfl rfl 33 (by decide) (hts (.fieldLink RX10 81 "VatHouseModel" "next" "[I") (by decide +kernel)) (fun _ h9 => h9) rfl dX10_recipe_280 ?_
                        refine lv_iload hx hb dX10_recipe_283 (lv_at hl 0 rfl) ?_
                        refine lv_iload hx hb dX10_recipe_285 (lv_at hl 1 rfl) ?_
                        refine lv_iadd hx hb dX10_recipe_287 ?_
                        refine lv_topi (fun z_104 ez_104 => ?_)
                        refine lv_aload_n hx hb dX10_recipe_288 rfl (lv_at hl 3 rfl) ?_
                        refine va_get (D := (dC, dI)) (ci := 10) (v := .ref (b 33)) (C := RX10) (T := TX10) (N := 51) hx hb hts inw_X10_recipe_10 hown hK hP 0 rfl rfl 33 (by decide) (hts (.fieldLink RX10 81 "VatHouseModel" "next" "[I") (by decide +kernel)) (fun _ h9 => h9) rfl dX10_recipe_289 ?_
                        refine lv_iload hx hb dX10_recipe_292 (lv_at hl 0 rfl) ?_
                        refine va_iald hx hb hK hP 23 22 rfl rfl hkxv dX10_recipe_294 ?_
                        refine lv_topi (fun z_105 ez_105 => ?_)
                        have ez_105 : z_105 = l33 kx.toNatClampNeg := ez_105
                        refine lv_iconst (v := (-1)) hx hb dX10_recipe_295 (by decide) ?_
                        refine lv_icmp_ne (tgt := 303) hx hb dX10_recipe_296 (by decide) (fun c_106 => ?_) (fun c_106 => ?_)
                        · have nc_106 := ne_i c_106
                          have lc_106 : ((-1) : Int32).toInt = -1 := by decide
                          refine lv_aload_n hx hb dX10_recipe_303 rfl (lv_at hl 3 rfl) ?_
                          refine va_get (D := (dC, dI)) (ci := 10) (v := .ref (b 33)) (C := RX10) (T := TX10) (N := 51) hx hb hts inw_X10_recipe_10 hown hK hP 0 rfl rfl 33 (by decide) (hts (.fieldLink RX10 81 "VatHouseModel" "next" "[I") (by decide +kernel)) (fun _ h9 => h9) rfl dX10_recipe_304 ?_
                          refine lv_iload hx hb dX10_recipe_307 (lv_at hl 0 rfl) ?_
                          refine va_iald hx hb hK hP 23 22 rfl rfl hkxv dX10_recipe_309 ?_
                          refine lv_topi (fun z_107 ez_107 => ?_)
                          have ez_107 : z_107 = l33 kx.toNatClampNeg := ez_107
                          refine lv_iload hx hb dX10_recipe_310 (lv_at hl 1 rfl) ?_
                          refine lv_iadd hx hb dX10_recipe_312 ?_
                          refine lv_topi (fun z_108 ez_108 => ?_)
                          refine va_iast hx hb hK hP hD hS 23 22 rfl rfl (rc_in ez_104 hkxI hby hr8 hd300).2.2 dX10_recipe_313 (fun H locs hP hD hS => ?_)
                          have hP : va_P (dC, dI) vwCl (mw g h0 b (va_up (va_up (va_up (va_up (va_up (va_up (va_up (va_up (va_up i 0 x0_21) 20 (0 : Int32)) 21 nn) 22 x22_25) 23 x23_26) 24 x24_27) 25 x25_28) 36 x36_29) 38 (0 : Int32)) (va_up (va_up (va_up (va_up (va_up (va_up (va_up (va_up a 26 f_57) 27 f_60) 28 f_63) 29 f_66) 30 f_69) 31 f_97) 32 f_103) 33 (upd l33 z_104.toNatClampNeg z_108))) _ := hP
                          have hD : va_D _ (mw g h0 b (va_up (va_up (va_up (va_up (va_up (va_up (va_up (va_up (va_up i 0 x0_21) 20 (0 : Int32)) 21 nn) 22 x22_25) 23 x23_26) 24 x24_27) 25 x25_28) 36 x36_29) 38 (0 : Int32)) (va_up (va_up (va_up (va_up (va_up (va_up (va_up (va_up a 26 f_57) 27 f_60) 28 f_63) 29 f_66) 30 f_69) 31 f_97) 32 f_103) 33 (upd l33 z_104.toNatClampNeg z_108))) := hD
                          obtain ⟨f_109, ef_109⟩ : ∃ z, z = (upd l33 z_104.toNatClampNeg z_108) := ⟨_, rfl⟩
                          rw [← ef_109] at hP hD
                          refine lv_iinc (v := (kx + 1)) (lv' := [(5, .int (kx + 1)), (4, .int z_46), (3, .int z_39), (0, .ref h0), (1, .int rr), (2, .int nn)]) hx hb dX10_recipe_314 hl (k := 0) rfl rfl (by decide) rfl (fun ls hl => ?_)
                          refine lv_goto (tgt := 111) hx hb dX10_recipe_317 (by decide) ?_
                          exact ih (kx + 1) f_57 f_60 f_63 f_66 f_69 f_97 f_103 f_109 _ _ _ (rc_nx hm hkxI hd3) (⟨d + 1, by rw [hd1]; exact nI_1 (2400 + d), by omega, by rw [ef_57, ef_60, ef_97, ef_103, ef_109]; exact CP.step hcp hr8 (rc_in ez_55 hkxI hby hr8 hd300).2.1 (rc_in ez_58 hkxI hby hr8 hd300).2.1 (rc_in ez_70 hkxI hby hr8 hd300).2.1 (rc_in ez_98 hkxI hby hr8 hd300).2.1 (rc_in ez_104 hkxI hby hr8 hd300).2.1 (by rw [ez_56, hkxc]) (by rw [ez_59, hkxc]) (by rw [shf, if_pos (by rw [← hkxc, ← ez_71]; exact c_72)]) (by rw [shf, if_neg (by rw [← hkxc, ← ez_99]; exact c_100), ez_102, ez_101, hkxc]) (by rw [shf, if_neg (by rw [← hkxc, ← ez_105]; exact c_106), ez_108, ez_107, hkxc])⟩) hP hD hS (lv_sub hl [0, 1, 2, 3, 4, 5] rfl)
                        · have nc_106 := eq_i c_106
                          have lc_106 : ((-1) : Int32).toInt = -1 := by decide
                          refine lv_iconst (v := (-1)) hx hb dX10_recipe_299 (by decide) ?_
                          refine lv_goto (tgt := 313) hx hb dX10_recipe_300 (by decide) ?_
                          refine va_iast hx hb hK hP hD hS 23 22 rfl rfl (rc_in ez_104 hkxI hby hr8 hd300).2.2 dX10_recipe_313 (fun H locs hP hD hS => ?_)
                          have hP : va_P (dC, dI) vwCl (mw g h0 b (va_up (va_up (va_up (va_up (va_up (va_up (va_up (va_up (va_up i 0 x0_21) 20 (0 : Int32)) 21 nn) 22 x22_25) 23 x23_26) 24 x24_27) 25 x25_28) 36 x36_29) 38 (0 : Int32)) (va_up (va_up (va_up (va_up (va_up (va_up (va_up (va_up a 26 f_57) 27 f_60) 28 f_63) 29 f_66) 30 f_69) 31 f_97) 32 f_103) 33 (upd l33 z_104.toNatClampNeg ((-1) : Int32)))) _ := hP
                          have hD : va_D _ (mw g h0 b (va_up (va_up (va_up (va_up (va_up (va_up (va_up (va_up (va_up i 0 x0_21) 20 (0 : Int32)) 21 nn) 22 x22_25) 23 x23_26) 24 x24_27) 25 x25_28) 36 x36_29) 38 (0 : Int32)) (va_up (va_up (va_up (va_up (va_up (va_up (va_up (va_up a 26 f_57) 27 f_60) 28 f_63) 29 f_66) 30 f_69) 31 f_97) 32 f_103) 33 (upd l33 z_104.toNatClampNeg ((-1) : Int32)))) := hD
                          obtain ⟨f_110, ef_110⟩ : ∃ z, z = (upd l33 z_104.toNatClampNeg ((-1) : Int32)) := ⟨_, rfl⟩
                          rw [← ef_110] at hP hD
                          refine lv_iinc (v := (kx + 1)) (lv' := [(5, .int (kx + 1)), (4, .int z_46), (3, .int z_39), (0, .ref h0), (1, .int rr), (2, .int nn)]) hx hb dX10_recipe_314 hl (k := 0) rfl rfl (by decide) rfl (fun ls hl => ?_)
                          refine lv_goto (tgt := 111) hx hb dX10_recipe_317 (by decide) ?_
                          exact ih (kx + 1) f_57 f_60 f_63 f_66 f_69 f_97 f_103 f_110 _ _ _ (rc_nx hm hkxI hd3) (⟨d + 1, by rw [hd1]; exact nI_1 (2400 + d), by omega, by rw [ef_57, ef_60, ef_97, ef_103, ef_110]; exact CP.step hcp hr8 (rc_in ez_55 hkxI hby hr8 hd300).2.1 (rc_in ez_58 hkxI hby hr8 hd300).2.1 (rc_in ez_70 hkxI hby hr8 hd300).2.1 (rc_in ez_98 hkxI hby hr8 hd300).2.1 (rc_in ez_104 hkxI hby hr8 hd300).2.1 (by rw [ez_56, hkxc]) (by rw [ez_59, hkxc]) (by rw [shf, if_pos (by rw [← hkxc, ← ez_71]; exact c_72)]) (by rw [shf, if_neg (by rw [← hkxc, ← ez_99]; exact c_100), ez_102, ez_101, hkxc]) (by rw [shf, if_pos (by rw [← hkxc, ← ez_105]; exact c_106)])⟩) hP hD hS (lv_sub hl [0, 1, 2, 3, 4, 5] rfl)
                      · have nc_100 := eq_i c_100
                        have lc_100 : ((-1) : Int32).toInt = -1 := by decide
                        refine lv_iconst (v := (-1)) hx hb dX10_recipe_264 (by decide) ?_
                        refine lv_goto (tgt := 278) hx hb dX10_recipe_265 (by decide) ?_
                        refine va_iast hx hb hK hP hD hS 22 21 rfl rfl (rc_in ez_98 hkxI hby hr8 hd300).2.2 dX10_recipe_278 (fun H locs hP hD hS => ?_)
                        have hP : va_P (dC, dI) vwCl (mw g h0 b (va_up (va_up (va_up (va_up (va_up (va_up (va_up (va_up (va_up i 0 x0_21) 20 (0 : Int32)) 21 nn) 22 x22_25) 23 x23_26) 24 x24_27) 25 x25_28) 36 x36_29) 38 (0 : Int32)) (va_up (va_up (va_up (va_up (va_up (va_up (va_up (va_up a 26 f_57) 27 f_60) 28 f_63) 29 f_66) 30 f_69) 31 f_97) 32 (upd l32 z_98.toNatClampNeg ((-1) : Int32))) 33 l33)) _ := hP
                        have hD : va_D _ (mw g h0 b (va_up (va_up (va_up (va_up (va_up (va_up (va_up (va_up (va_up i 0 x0_21) 20 (0 : Int32)) 21 nn) 22 x22_25) 23 x23_26) 24 x24_27) 25 x25_28) 36 x36_29) 38 (0 : Int32)) (va_up (va_up (va_up (va_up (va_up (va_up (va_up (va_up a 26 f_57) 27 f_60) 28 f_63) 29 f_66) 30 f_69) 31 f_97) 32 (upd l32 z_98.toNatClampNeg ((-1) : Int32))) 33 l33)) := hD
                        obtain ⟨f_111, ef_111⟩ : ∃ z, z = (upd l32 z_98.toNatClampNeg ((-1) : Int32)) := ⟨_, rfl⟩
                        rw [← ef_111] at hP hD
                        refine lv_aload_n hx hb dX10_recipe_279 rfl (lv_at hl 3 rfl) ?_
                        refine va_get (D := (dC, dI)) (ci := 10) (v := .ref (b 33)) (C := RX10) (T := TX10) (N := 51) hx hb hts inw_X10_recipe_10 hown hK hP 0 rfl rfl 33 (by decide) (hts (.fieldLink RX10 81 "VatHouseModel" "next" "[I") (by decide +kernel)) (fun _ h9 => h9) rfl dX10_recipe_280 ?_
                        refine lv_iload hx hb dX10_recipe_283 (lv_at hl 0 rfl) ?_
                        refine lv_iload hx hb dX10_recipe_285 (lv_at hl 1 rfl) ?_
                        refine lv_iadd hx hb dX10_recipe_287 ?_
                        refine lv_topi (fun z_112 ez_112 => ?_)
                        refine lv_aload_n hx hb dX10_recipe_288 rfl (lv_at hl 3 rfl) ?_
                        refine va_get (D := (dC, dI)) (ci := 10) (v := .ref (b 33)) (C := RX10) (T := TX10) (N := 51) hx hb hts inw_X10_recipe_10 hown hK hP 0 rfl rfl 33 (by decide) (hts (.fieldLink RX10 81 "VatHouseModel" "next" "[I") (by decide +kernel)) (fun _ h9 => h9) rfl dX10_recipe_289 ?_
                        refine lv_iload hx hb dX10_recipe_292 (lv_at hl 0 rfl) ?_
                        refine va_iald hx hb hK hP 23 22 rfl rfl hkxv dX10_recipe_294 ?_
                        refine lv_topi (fun z_113 ez_113 => ?_)
                        have ez_113 : z_113 = l33 kx.toNatClampNeg := ez_113
                        refine lv_iconst (v := (-1)) hx hb dX10_recipe_295 (by decide) ?_
                        refine lv_icmp_ne (tgt := 303) hx hb dX10_recipe_296 (by decide) (fun c_114 => ?_) (fun c_114 => ?_)
                        · have nc_114 := ne_i c_114
                          have lc_114 : ((-1) : Int32).toInt = -1 := by decide
                          refine lv_aload_n hx hb dX10_recipe_303 rfl (lv_at hl 3 rfl) ?_
                          refine va_get (D := (dC, dI)) (ci := 10) (v := .ref (b 33)) (C := RX10) (T := TX10) (N := 51) hx hb hts inw_X10_recipe_10 hown hK hP 0 rfl rfl 33 (by decide) (hts (.fieldLink RX10 81 "VatHouseModel" "next" "[I") (by decide +kernel)) (fun _ h9 => h9) rfl dX10_recipe_304 ?_
                          refine lv_iload hx hb dX10_recipe_307 (lv_at hl 0 rfl) ?_
                          refine va_iald hx hb hK hP 23 22 rfl rfl hkxv dX10_recipe_309 ?_
                          refine lv_topi (fun z_115 ez_115 => ?_)
                          have ez_115 : z_115 = l33 kx.toNatClampNeg := ez_115
                          refine lv_iload hx hb dX10_recipe_310 (lv_at hl 1 rfl) ?_
                          refine lv_iadd hx hb dX10_recipe_312 ?_
                          refine lv_topi (fun z_116 ez_116 => ?_)
                          refine va_iast hx hb hK hP hD hS 23 22 rfl rfl (rc_in ez_112 hkxI hby hr8 hd300).2.2 dX10_recipe_313 (fun H locs hP hD hS => ?_)
                          have hP : va_P (dC, dI) vwCl (mw g h0 b (va_up (va_up (va_up (va_up (va_up (va_up (va_up (va_up (va_up i 0 x0_21) 20 (0 : Int32)) 21 nn) 22 x22_25) 23 x23_26) 24 x24_27) 25 x25_28) 36 x36_29) 38 (0 : Int32)) (va_up (va_up (va_up (va_up (va_up (va_up (va_up (va_up a 26 f_57) 27 f_60) 28 f_63) 29 f_66) 30 f_69) 31 f_97) 32 f_111) 33 (upd l33 z_112.toNatClampNeg z_116))) _ := hP
                          have hD : va_D _ (mw g h0 b (va_up (va_up (va_up (va_up (va_up (va_up (va_up (va_up (va_up i 0 x0_21) 20 (0 : Int32)) 21 nn) 22 x22_25) 23 x23_26) 24 x24_27) 25 x25_28) 36 x36_29) 38 (0 : Int32)) (va_up (va_up (va_up (va_up (va_up (va_up (va_up (va_up a 26 f_57) 27 f_60) 28 f_63) 29 f_66) 30 f_69) 31 f_97) 32 f_111) 33 (upd l33 z_112.toNatClampNeg z_116))) := hD
                          obtain ⟨f_117, ef_117⟩ : ∃ z, z = (upd l33 z_112.toNatClampNeg z_116) := ⟨_, rfl⟩
                          rw [← ef_117] at hP hD
                          refine lv_iinc (v := (kx + 1)) (lv' := [(5, .int (kx + 1)), (4, .int z_46), (3, .int z_39), (0, .ref h0), (1, .int rr), (2, .int nn)]) hx hb dX10_recipe_314 hl (k := 0) rfl rfl (by decide) rfl (fun ls hl => ?_)
                          refine lv_goto (tgt := 111) hx hb dX10_recipe_317 (by decide) ?_
                          exact ih (kx + 1) f_57 f_60 f_63 f_66 f_69 f_97 f_111 f_117 _ _ _ (rc_nx hm hkxI hd3) (⟨d + 1, by rw [hd1]; exact nI_1 (2400 + d), by omega, by rw [ef_57, ef_60, ef_97, ef_111, ef_117]; exact CP.step hcp hr8 (rc_in ez_55 hkxI hby hr8 hd300).2.1 (rc_in ez_58 hkxI hby hr8 hd300).2.1 (rc_in ez_70 hkxI hby hr8 hd300).2.1 (rc_in ez_98 hkxI hby hr8 hd300).2.1 (rc_in ez_112 hkxI hby hr8 hd300).2.1 (by rw [ez_56, hkxc]) (by rw [ez_59, hkxc]) (by rw [shf, if_pos (by rw [← hkxc, ← ez_71]; exact c_72)]) (by rw [shf, if_pos (by rw [← hkxc, ← ez_99]; exact c_100)]) (by rw [shf, if_neg (by rw [← hkxc, ← ez_113]; exact c_114), ez_116, ez_115, hkxc])⟩) hP hD hS (lv_sub hl [0, 1, 2, 3, 4, 5] rfl)
                        · have nc_114 := eq_i c_114
                          have lc_114 : ((-1) : Int32).toInt = -1 := by decide
                          refine lv_iconst (v := (-1)) hx hb dX10_recipe_299 (by decide) ?_
                          refine lv_goto (tgt := 313) hx hb dX10_recipe_300 (by decide) ?_
                          refine va_iast hx hb hK hP hD hS 23 22 rfl rfl (rc_in ez_112 hkxI hby hr8 hd300).2.2 dX10_recipe_313 (fun H locs hP hD hS => ?_)
                          have hP : va_P (dC, dI) vwCl (mw g h0 b (va_up (va_up (va_up (va_up (va_up (va_up (va_up (va_up (va_up i 0 x0_21) 20 (0 : Int32)) 21 nn) 22 x22_25) 23 x23_26) 24 x24_27) 25 x25_28) 36 x36_29) 38 (0 : Int32)) (va_up (va_up (va_up (va_up (va_up (va_up (va_up (va_up a 26 f_57) 27 f_60) 28 f_63) 29 f_66) 30 f_69) 31 f_97) 32 f_111) 33 (upd l33 z_112.toNatClampNeg ((-1) : Int32)))) _ := hP
                          have hD : va_D _ (mw g h0 b (va_up (va_up (va_up (va_up (va_up (va_up (va_up (va_up (va_up i 0 x0_21) 20 (0 : Int32)) 21 nn) 22 x22_25) 23 x23_26) 24 x24_27) 25 x25_28) 36 x36_29) 38 (0 : Int32)) (va_up (va_up (va_up (va_up (va_up (va_up (va_up (va_up a 26 f_57) 27 f_60) 28 f_63) 29 f_66) 30 f_69) 31 f_97) 32 f_111) 33 (upd l33 z_112.toNatClampNeg ((-1) : Int32)))) := hD
                          obtain ⟨f_118, ef_118⟩ : ∃ z, z = (upd l33 z_112.toNatClampNeg ((-1) : Int32)) := ⟨_, rfl⟩
                          rw [← ef_118] at hP hD
                          refine lv_iinc (v := (kx + 1)) (lv' := [(5, .int (kx + 1)), (4, .int z_46), (3, .int z_39), (0, .ref h0), (1, .int rr), (2, .int nn)]) hx hb dX10_recipe_314 hl (k := 0) rfl rfl (by decide) rfl (fun ls hl => ?_)
                          refine lv_goto (tgt := 111) hx hb dX10_recipe_317 (by decide) ?_
                          exact ih (kx + 1) f_57 f_60 f_63 f_66 f_69 f_97 f_111 f_118 _ _ _ (rc_nx hm hkxI hd3) (⟨d + 1, by rw [hd1]; exact nI_1 (2400 + d), by omega, by rw [ef_57, ef_60, ef_97, ef_111, ef_118]; exact CP.step hcp hr8 (rc_in ez_55 hkxI hby hr8 hd300).2.1 (rc_in ez_58 hkxI hby hr8 hd300).2.1 (rc_in ez_70 hkxI hby hr8 hd300).2.1 (rc_in ez_98 hkxI hby hr8 hd300).2.1 (rc_in ez_112 hkxI hby hr8 hd300).2.1 (by rw [ez_56, hkxc]) (by rw [ez_59, hkxc]) (by rw [shf, if_pos (by rw [← hkxc, ← ez_71]; exact c_72)]) (by rw [shf, if_pos (by rw [← hkxc, ← ez_99]; exact c_100)]) (by rw [shf, if_pos (by rw [← hkxc, ← ez_113]; exact c_114)])⟩) hP hD hS (lv_sub hl [0, 1, 2, 3, 4, 5] rfl)
              exact lp ((2400 + x36_29.toInt - (2400 : Int32).toInt).toNat + 1) (2400 : Int32) y26_30 y27_31 y28_32 y29_33 y30_34 y31_35 y32_36 y33_37 _ _ _ (by omega) (⟨0, by decide, by omega, CP.z⟩) hP hD hS (lv_sub hl [0, 1, 2, 3, 4, 5] rfl)
            · have nc_44 := nle_i c_44
              have lc_44 : (0 : Int32).toInt = 0 := by decide
              refine lv_aload_n hx hb dX10_recipe_90 rfl (lv_at hl 1 rfl) ?_
              refine va_get (D := (dC, dI)) (ci := 10) (v := .int x23_26) (C := RX10) (T := TX10) (N := 51) hx hb hts inw_X10_recipe_10 hown hK hP 0 rfl rfl 23 (by decide) (hts (.fieldLink RX10 165 "VatHouseModel" "faultKind" "I") (by decide +kernel)) (fun _ h9 => h9) rfl dX10_recipe_91 ?_
              exact M_i hx hb hr hlocks (x0_21, (0 : Int32), nn, x22_25, x23_26, x24_27, x25_28, x36_29, (i 37), (0 : Int32), y26_30, y27_31, y28_32, y29_33, y30_34, y31_35, y32_36, y33_37, (a 34), (a 35)) hP hD hK hS ⟨⟨_, rfl⟩, ⟨⟨by decide, BI.lf hBI hPR_40.2.2.1⟩, Or.inr ⟨⟨c_1, c_6, c_11, c_16⟩, rfl⟩⟩⟩ (Nat.le_of_ble_eq_true rfl) (Nat.le_of_ble_eq_true rfl) dX10_recipe_94
