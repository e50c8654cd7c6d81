noncomputable abbrev rm_X10_planE : Room := { frames := 40, cells := 0, slots := 0, locals := 900 }
set_option maxHeartbeats 2000000 in
set_option maxRecDepth 100000 in
theorem m_X10_planE (l : Launch) (dC : Nat → ClassId) (dI : Nat → Nat → Nat) (sa : Nat → Nat) (g : Nat → Nat) (h0 : Nat) (b : Nat → Nat) (i : Nat → Int32) (a : Nat → Nat → Int32) (ck : Int32) (lw : Int32) (hg : Int32) (mo : Int32) (sz : Nat) (hRC : RC (i, a)) (hkp : (i 46).toInt ≤ 3) : CT l dC dI sa yX10_plan wsX10_plan (rm_X10_planE ) [.ref h0, .int ck, .int lw, .int hg, .int mo] (mw g h0 b i a) (tyM g) sz (fun (r : Option Value) (u : Int32 × Int32 × (Nat → Int32) × (Nat → Int32) × (Nat → Int32) × (Nat → Int32) × (Nat → Int32) × (Nat → Int32) × (Nat → Int32) × (Nat → Int32) × (Nat → Int32) × (Nat → Int32)) => match u with | (x0, x46, y4, y5, y6, y7, y14, y15, y47, y48, y49, y50) => (∃ z : Int32, r = some (.int z)) ∧ (y4 = (a 4) ∧ y5 = (a 5) ∧ y6 = (a 6) ∧ y7 = (a 7) ∧ y14 = (a 14) ∧ y15 = (a 15) ∧ x46.toInt ≤ 3)) (fun (u : Int32 × Int32 × (Nat → Int32) × (Nat → Int32) × (Nat → Int32) × (Nat → Int32) × (Nat → Int32) × (Nat → Int32) × (Nat → Int32) × (Nat → Int32) × (Nat → Int32) × (Nat → Int32)) => match u with | (x0, x46, y4, y5, y6, y7, y14, y15, y47, y48, y49, y50) => mw g h0 b (va_up (va_up i 0 x0) 46 x46) (va_up (va_up (va_up (va_up (va_up (va_up (va_up (va_up (va_up (va_up a 4 y4) 5 y5) 6 y6) 7 y7) 14 y14) 15 y15) 47 y47) 48 y48) 49 y49) 50 y50)) (fun _ => []) 0 0 := by
  refine CT.start (cc := cX10_plan) (maxL := 6) (ret := (some .int)) (by decide) rfl (Nat.le_of_ble_eq_true rfl) ?_
  intro p e s m below meth c ls hst hP hK hD hev hS hl
  obtain ⟨hx, hb, hr, hml, hts, hown, hlocks, hin⟩ := hst
  have hown : s.vm.findClass RX10 = some m.cls := hown
  have hA : ∀ q : Nat, s.heap.size ≤ q → va_A (mw g h0 b i a) s.heap.size q := fun _ h => Or.inr h
  have hl : lv_has ls 6 [(0, .ref h0), (1, .int ck), (2, .int lw), (3, .int hg), (4, .int mo)] := hl
  refine lv_aload_n hx hb dX10_plan_0 rfl (lv_at hl 0 rfl) ?_
  refine lv_iload_n hx hb dX10_plan_1 rfl (lv_at hl 1 rfl) ?_
  refine M_V ⟨hx, hb, hml, hown, hts⟩ (m_X10_isClothE l dC dI sa g h0 b i a ck _ ) (cwV 1 hts gX10_plan_X10_isCloth rfl rfl rfl (by decide +kernel) ⟨(by first | exact Nat.le_of_ble_eq_true rfl | (simp only [rm_X10_isClothE, rm_X10_planE]; omega)), (by first | exact Nat.le_of_ble_eq_true rfl | (simp only [rm_X10_isClothE, rm_X10_planE]; omega))⟩) hP hD hK hS hA hev rfl rfl rfl rfl hl.1 rfl (Nat.le_of_ble_eq_true rfl) dX10_plan_2 ⟨(by first | exact Nat.le_of_ble_eq_true rfl | (simp only [rm_X10_planE]; omega)), (by first | exact Nat.le_of_ble_eq_true rfl | (simp only [rm_X10_planE]; omega))⟩ (fun r u H locs hw hP hD hS => ?_)
  obtain ⟨x0_1, rfl⟩ : ∃ z, z = u := ⟨_, rfl⟩
  have hw : ((r = some (.int 0) ∧ (¬ inC (i, a) ck ∧ x0_1 = 1)) ∨ (r = some (.int 1) ∧ (inC (i, a) ck ∧ x0_1 = 0))) ∧ (True) := hw
  obtain ⟨⟨rfl, hz2_3⟩ | ⟨rfl, hz2_3⟩, hw_2⟩ := hw
  · have hP : va_P (dC, dI) vwCl (mw g h0 b (va_up i 0 x0_1) a) _ := hP
    have hD : va_D _ (mw g h0 b (va_up i 0 x0_1) a) := hD
    refine W.eq (g2 := F0 m 5 ls [.int 0]) rfl ?_
    refine lv_if_eq (tgt := 41) hx hb dX10_plan_5 (by decide) (fun _ => ?_) (fun c_4 => absurd c_4 (by decide))
    refine lv_iconst (v := 0) hx hb dX10_plan_41 (by decide) ?_
    exact M_i hx hb hr hlocks (x0_1, (i 46), (a 4), (a 5), (a 6), (a 7), (a 14), (a 15), (a 47), (a 48), (a 49), (a 50)) hP hD hK hS ⟨⟨_, rfl⟩, ⟨rfl, rfl, rfl, rfl, rfl, rfl, hkp⟩⟩ (by first | exact Nat.le_of_ble_eq_true rfl | (simp only [rm_X10_planE]; omega)) (by first | exact Nat.le_of_ble_eq_true rfl | (simp only [rm_X10_planE]; omega)) dX10_plan_42
  · have hP : va_P (dC, dI) vwCl (mw g h0 b (va_up i 0 x0_1) a) _ := hP
    have hD : va_D _ (mw g h0 b (va_up i 0 x0_1) a) := hD
    refine W.eq (g2 := F0 m 5 ls [.int 1]) rfl ?_
    have hc30 := in_C hz2_3.1 hRC.1.2
    have hcc := inC_c hz2_3.1
    have hwt := (hRC.2 _ hcc.2).1
    refine lv_if_eq (tgt := 41) hx hb dX10_plan_5 (by decide) (fun c_5 => absurd c_5 (by decide)) (fun _ => ?_)
    refine lv_aload_n hx hb dX10_plan_8 rfl (lv_at hl 0 rfl) ?_
    refine lv_iload hx hb dX10_plan_9 (lv_at hl 4 rfl) ?_
    refine lv_if_lt (tgt := 33) hx hb dX10_plan_11 (by decide) (fun c_6 => ?_) (fun c_6 => ?_)
    · have nc_6 := lt_i c_6
      have lc_6 : (0 : Int32).toInt = 0 := by decide
      refine lv_iconst (v := 0) hx hb dX10_plan_33 (by decide) ?_
      refine lv_iconst (v := 2) hx hb dX10_plan_34 (by decide) ?_
      refine M_V ⟨hx, hb, hml, hown, hts⟩ (m_X10_rightX l dC dI sa g h0 b (va_up i 0 x0_1) a (0 : Int32) (2 : Int32) _ (by decide) hz2_3.2) (cwV 2 hts gX10_plan_X10_right rfl rfl rfl (by decide +kernel) ⟨(by first | exact Nat.le_of_ble_eq_true rfl | (simp only [rm_X10_rightX, rm_X10_planE]; omega)), (by first | exact Nat.le_of_ble_eq_true rfl | (simp only [rm_X10_rightX, rm_X10_planE]; omega))⟩) hP hD hK hS hA hev rfl rfl rfl rfl hl.1 rfl (Nat.le_of_ble_eq_true rfl) dX10_plan_35 ⟨(by first | exact Nat.le_of_ble_eq_true rfl | (simp only [rm_X10_planE]; omega)), (by first | exact Nat.le_of_ble_eq_true rfl | (simp only [rm_X10_planE]; omega))⟩ (fun r u H locs hw hP hD hS => ?_)
      obtain ⟨x0_7, rfl⟩ : ∃ z, z = u := ⟨_, rfl⟩
      have hw : ((r = some (.int 0) ∧ ((0 : Int32) = 0 ∧ x0_7 = (2 : Int32))) ∨ (r = some (.int 1) ∧ (¬ (0 : Int32) = 0 ∧ x0_7 = 0))) ∧ (True) := hw
      obtain ⟨⟨rfl, hz2_9⟩ | ⟨rfl, hz2_9⟩, hw_8⟩ := hw
      · have hP : va_P (dC, dI) vwCl (mw g h0 b (va_up i 0 x0_7) a) _ := hP
        have hD : va_D _ (mw g h0 b (va_up i 0 x0_7) a) := hD
        refine W.eq (g2 := F0 m 38 ls [.int 0]) rfl ?_
        refine lv_if_ne (tgt := 43) hx hb dX10_plan_38 (by decide) (fun c_10 => absurd c_10 (by decide)) (fun _ => ?_)
        refine lv_iconst (v := 0) hx hb dX10_plan_41 (by decide) ?_
        exact M_i hx hb hr hlocks (x0_7, (i 46), (a 4), (a 5), (a 6), (a 7), (a 14), (a 15), (a 47), (a 48), (a 49), (a 50)) hP hD hK hS ⟨⟨_, rfl⟩, ⟨rfl, rfl, rfl, rfl, rfl, rfl, hkp⟩⟩ (by first | exact Nat.le_of_ble_eq_true rfl | (simp only [rm_X10_planE]; omega)) (by first | exact Nat.le_of_ble_eq_true rfl | (simp only [rm_X10_planE]; omega)) dX10_plan_42
      · have hP : va_P (dC, dI) vwCl (mw g h0 b (va_up i 0 x0_7) a) _ := hP
        have hD : va_D _ (mw g h0 b (va_up i 0 x0_7) a) := hD
        refine W.eq (g2 := F0 m 38 ls [.int 1]) rfl ?_
        exact absurd rfl hz2_9.1
    · have nc_6 := nlt_i c_6
      have lc_6 : (0 : Int32).toInt = 0 := by decide
      refine lv_iload hx hb dX10_plan_14 (lv_at hl 4 rfl) ?_
      refine lv_iconst (v := 3) hx hb dX10_plan_16 (by decide) ?_
      refine lv_icmp_gt (tgt := 33) hx hb dX10_plan_17 (by decide) (fun c_11 => ?_) (fun c_11 => ?_)
      · have nc_11 := lt_i c_11
        have lc_11 : (3 : Int32).toInt = 3 := by decide
        refine lv_iconst (v := 0) hx hb dX10_plan_33 (by decide) ?_
        refine lv_iconst (v := 2) hx hb dX10_plan_34 (by decide) ?_
        refine M_V ⟨hx, hb, hml, hown, hts⟩ (m_X10_rightX l dC dI sa g h0 b (va_up i 0 x0_1) a (0 : Int32) (2 : Int32) _ (by decide) hz2_3.2) (cwV 2 hts gX10_plan_X10_right rfl rfl rfl (by decide +kernel) ⟨(by first | exact Nat.le_of_ble_eq_true rfl | (simp only [rm_X10_rightX, rm_X10_planE]; omega)), (by first | exact Nat.le_of_ble_eq_true rfl | (simp only [rm_X10_rightX, rm_X10_planE]; omega))⟩) hP hD hK hS hA hev rfl rfl rfl rfl hl.1 rfl (Nat.le_of_ble_eq_true rfl) dX10_plan_35 ⟨(by first | exact Nat.le_of_ble_eq_true rfl | (simp only [rm_X10_planE]; omega)), (by first | exact Nat.le_of_ble_eq_true rfl | (simp only [rm_X10_planE]; omega))⟩ (fun r u H locs hw hP hD hS => ?_)
        obtain ⟨x0_12, rfl⟩ : ∃ z, z = u := ⟨_, rfl⟩
        have hw : ((r = some (.int 0) ∧ ((0 : Int32) = 0 ∧ x0_12 = (2 : Int32))) ∨ (r = some (.int 1) ∧ (¬ (0 : Int32) = 0 ∧ x0_12 = 0))) ∧ (True) := hw
        obtain ⟨⟨rfl, hz2_14⟩ | ⟨rfl, hz2_14⟩, hw_13⟩ := hw
        · have hP : va_P (dC, dI) vwCl (mw g h0 b (va_up i 0 x0_12) a) _ := hP
          have hD : va_D _ (mw g h0 b (va_up i 0 x0_12) a) := hD
          refine W.eq (g2 := F0 m 38 ls [.int 0]) rfl ?_
          refine lv_if_ne (tgt := 43) hx hb dX10_plan_38 (by decide) (fun c_15 => absurd c_15 (by decide)) (fun _ => ?_)
          refine lv_iconst (v := 0) hx hb dX10_plan_41 (by decide) ?_
          exact M_i hx hb hr hlocks (x0_12, (i 46), (a 4), (a 5), (a 6), (a 7), (a 14), (a 15), (a 47), (a 48), (a 49), (a 50)) hP hD hK hS ⟨⟨_, rfl⟩, ⟨rfl, rfl, rfl, rfl, rfl, rfl, hkp⟩⟩ (by first | exact Nat.le_of_ble_eq_true rfl | (simp only [rm_X10_planE]; omega)) (by first | exact Nat.le_of_ble_eq_true rfl | (simp only [rm_X10_planE]; omega)) dX10_plan_42
        · have hP : va_P (dC, dI) vwCl (mw g h0 b (va_up i 0 x0_12) a) _ := hP
          have hD : va_D _ (mw g h0 b (va_up i 0 x0_12) a) := hD
          refine W.eq (g2 := F0 m 38 ls [.int 1]) rfl ?_
          exact absurd rfl hz2_14.1
      · have nc_11 := nlt_i c_11
        have lc_11 : (3 : Int32).toInt = 3 := by decide
        refine lv_iload_n hx hb dX10_plan_20 rfl (lv_at hl 2 rfl) ?_
        refine lv_if_lt (tgt := 33) hx hb dX10_plan_21 (by decide) (fun c_16 => ?_) (fun c_16 => ?_)
        · have nc_16 := lt_i c_16
          have lc_16 : (0 : Int32).toInt = 0 := by decide
          refine lv_iconst (v := 0) hx hb dX10_plan_33 (by decide) ?_
          refine lv_iconst (v := 2) hx hb dX10_plan_34 (by decide) ?_
          refine M_V ⟨hx, hb, hml, hown, hts⟩ (m_X10_rightX l dC dI sa g h0 b (va_up i 0 x0_1) a (0 : Int32) (2 : Int32) _ (by decide) hz2_3.2) (cwV 2 hts gX10_plan_X10_right rfl rfl rfl (by decide +kernel) ⟨(by first | exact Nat.le_of_ble_eq_true rfl | (simp only [rm_X10_rightX, rm_X10_planE]; omega)), (by first | exact Nat.le_of_ble_eq_true rfl | (simp only [rm_X10_rightX, rm_X10_planE]; omega))⟩) hP hD hK hS hA hev rfl rfl rfl rfl hl.1 rfl (Nat.le_of_ble_eq_true rfl) dX10_plan_35 ⟨(by first | exact Nat.le_of_ble_eq_true rfl | (simp only [rm_X10_planE]; omega)), (by first | exact Nat.le_of_ble_eq_true rfl | (simp only [rm_X10_planE]; omega))⟩ (fun r u H locs hw hP hD hS => ?_)
          obtain ⟨x0_17, rfl⟩ : ∃ z, z = u := ⟨_, rfl⟩
          have hw : ((r = some (.int 0) ∧ ((0 : Int32) = 0 ∧ x0_17 = (2 : Int32))) ∨ (r = some (.int 1) ∧ (¬ (0 : Int32) = 0 ∧ x0_17 = 0))) ∧ (True) := hw
          obtain ⟨⟨rfl, hz2_19⟩ | ⟨rfl, hz2_19⟩, hw_18⟩ := hw
          · have hP : va_P (dC, dI) vwCl (mw g h0 b (va_up i 0 x0_17) a) _ := hP
            have hD : va_D _ (mw g h0 b (va_up i 0 x0_17) a) := hD
            refine W.eq (g2 := F0 m 38 ls [.int 0]) rfl ?_
            refine lv_if_ne (tgt := 43) hx hb dX10_plan_38 (by decide) (fun c_20 => absurd c_20 (by decide)) (fun _ => ?_)
            refine lv_iconst (v := 0) hx hb dX10_plan_41 (by decide) ?_
            exact M_i hx hb hr hlocks (x0_17, (i 46), (a 4), (a 5), (a 6), (a 7), (a 14), (a 15), (a 47), (a 48), (a 49), (a 50)) hP hD hK hS ⟨⟨_, rfl⟩, ⟨rfl, rfl, rfl, rfl, rfl, rfl, hkp⟩⟩ (by first | exact Nat.le_of_ble_eq_true rfl | (simp only [rm_X10_planE]; omega)) (by first | exact Nat.le_of_ble_eq_true rfl | (simp only [rm_X10_planE]; omega)) dX10_plan_42
          · have hP : va_P (dC, dI) vwCl (mw g h0 b (va_up i 0 x0_17) a) _ := hP
            have hD : va_D _ (mw g h0 b (va_up i 0 x0_17) a) := hD
            refine W.eq (g2 := F0 m 38 ls [.int 1]) rfl ?_
            exact absurd rfl hz2_19.1
        · have nc_16 := nlt_i c_16
          have lc_16 : (0 : Int32).toInt = 0 := by decide
          refine lv_iload_n hx hb dX10_plan_24 rfl (lv_at hl 2 rfl) ?_
          refine lv_iload_n hx hb dX10_plan_25 rfl (lv_at hl 3 rfl) ?_
          refine lv_icmp_gt (tgt := 33) hx hb dX10_plan_26 (by decide) (fun c_21 => ?_) (fun c_21 => ?_)
          · have nc_21 := lt_i c_21
            refine lv_iconst (v := 0) hx hb dX10_plan_33 (by decide) ?_
            refine lv_iconst (v := 2) hx hb dX10_plan_34 (by decide) ?_
            refine M_V ⟨hx, hb, hml, hown, hts⟩ (m_X10_rightX l dC dI sa g h0 b (va_up i 0 x0_1) a (0 : Int32) (2 : Int32) _ (by decide) hz2_3.2) (cwV 2 hts gX10_plan_X10_right rfl rfl rfl (by decide +kernel) ⟨(by first | exact Nat.le_of_ble_eq_true rfl | (simp only [rm_X10_rightX, rm_X10_planE]; omega)), (by first | exact Nat.le_of_ble_eq_true rfl | (simp only [rm_X10_rightX, rm_X10_planE]; omega))⟩) hP hD hK hS hA hev rfl rfl rfl rfl hl.1 rfl (Nat.le_of_ble_eq_true rfl) dX10_plan_35 ⟨(by first | exact Nat.le_of_ble_eq_true rfl | (simp only [rm_X10_planE]; omega)), (by first | exact Nat.le_of_ble_eq_true rfl | (simp only [rm_X10_planE]; omega))⟩ (fun r u H locs hw hP hD hS => ?_)
            obtain ⟨x0_22, rfl⟩ : ∃ z, z = u := ⟨_, rfl⟩
            have hw : ((r = some (.int 0) ∧ ((0 : Int32) = 0 ∧ x0_22 = (2 : Int32))) ∨ (r = some (.int 1) ∧ (¬ (0 : Int32) = 0 ∧ x0_22 = 0))) ∧ (True) := hw
            obtain ⟨⟨rfl, hz2_24⟩ | ⟨rfl, hz2_24⟩, hw_23⟩ := hw
            · have hP : va_P (dC, dI) vwCl (mw g h0 b (va_up i 0 x0_22) a) _ := hP
              have hD : va_D _ (mw g h0 b (va_up i 0 x0_22) a) := hD
              refine W.eq (g2 := F0 m 38 ls [.int 0]) rfl ?_
              refine lv_if_ne (tgt := 43) hx hb dX10_plan_38 (by decide) (fun c_25 => absurd c_25 (by decide)) (fun _ => ?_)
              refine lv_iconst (v := 0) hx hb dX10_plan_41 (by decide) ?_
              exact M_i hx hb hr hlocks (x0_22, (i 46), (a 4), (a 5), (a 6), (a 7), (a 14), (a 15), (a 47), (a 48), (a 49), (a 50)) hP hD hK hS ⟨⟨_, rfl⟩, ⟨rfl, rfl, rfl, rfl, rfl, rfl, hkp⟩⟩ (by first | exact Nat.le_of_ble_eq_true rfl | (simp only [rm_X10_planE]; omega)) (by first | exact Nat.le_of_ble_eq_true rfl | (simp only [rm_X10_planE]; omega)) dX10_plan_42
            · have hP : va_P (dC, dI) vwCl (mw g h0 b (va_up i 0 x0_22) a) _ := hP
              have hD : va_D _ (mw g h0 b (va_up i 0 x0_22) a) := hD
              refine W.eq (g2 := F0 m 38 ls [.int 1]) rfl ?_
              exact absurd rfl hz2_24.1
          · have nc_21 := nlt_i c_21
            refine lv_iconst (v := 1) hx hb dX10_plan_29 (by decide) ?_
            refine lv_goto (tgt := 34) hx hb dX10_plan_30 (by decide) ?_
            refine lv_iconst (v := 2) hx hb dX10_plan_34 (by decide) ?_
            refine M_V ⟨hx, hb, hml, hown, hts⟩ (m_X10_rightX l dC dI sa g h0 b (va_up i 0 x0_1) a (1 : Int32) (2 : Int32) _ (by decide) hz2_3.2) (cwV 2 hts gX10_plan_X10_right rfl rfl rfl (by decide +kernel) ⟨(by first | exact Nat.le_of_ble_eq_true rfl | (simp only [rm_X10_rightX, rm_X10_planE]; omega)), (by first | exact Nat.le_of_ble_eq_true rfl | (simp only [rm_X10_rightX, rm_X10_planE]; omega))⟩) hP hD hK hS hA hev rfl rfl rfl rfl hl.1 rfl (Nat.le_of_ble_eq_true rfl) dX10_plan_35 ⟨(by first | exact Nat.le_of_ble_eq_true rfl | (simp only [rm_X10_planE]; omega)), (by first | exact Nat.le_of_ble_eq_true rfl | (simp only [rm_X10_planE]; omega))⟩ (fun r u H locs hw hP hD hS => ?_)
            obtain ⟨x0_26, rfl⟩ : ∃ z, z = u := ⟨_, rfl⟩
            have hw : ((r = some (.int 0) ∧ ((1 : Int32) = 0 ∧ x0_26 = (2 : Int32))) ∨ (r = some (.int 1) ∧ (¬ (1 : Int32) = 0 ∧ x0_26 = 0))) ∧ (True) := hw
            obtain ⟨⟨rfl, hz2_28⟩ | ⟨rfl, hz2_28⟩, hw_27⟩ := hw
            · have hP : va_P (dC, dI) vwCl (mw g h0 b (va_up i 0 x0_26) a) _ := hP
              have hD : va_D _ (mw g h0 b (va_up i 0 x0_26) a) := hD
              refine W.eq (g2 := F0 m 38 ls [.int 0]) rfl ?_
              exact absurd hz2_28.1 (by decide)
            · have hP : va_P (dC, dI) vwCl (mw g h0 b (va_up i 0 x0_26) a) _ := hP
              have hD : va_D _ (mw g h0 b (va_up i 0 x0_26) a) := hD
              refine W.eq (g2 := F0 m 38 ls [.int 1]) rfl ?_
              refine lv_if_ne (tgt := 43) hx hb dX10_plan_38 (by decide) (fun _ => ?_) (fun c_29 => absurd c_29 (by decide))
              refine lv_aload_n hx hb dX10_plan_43 rfl (lv_at hl 0 rfl) ?_
              refine lv_iconst (v := 0) hx hb dX10_plan_44 (by decide) ?_
              refine va_put (D := (dC, dI)) (ci := 10) (v := .int 0) (ty := .int) (C := RX10) (T := TX10) (N := 51) hx hb hts inw_X10_plan_10 tyX10 tyX10_ok nmX10 hown hK hP hD hS 0 rfl rfl 46 (by decide) (hts (.fieldLink RX10 346 "VatHouseModel" "kept" "I") (List.mem_of_getElem? (i := 1) (by exact rfl))) (fun _ h9 => h9) rfl (tyX10_ok 46 (by decide)) rfl rfl (Nat.le_of_ble_eq_true rfl) dX10_plan_45 (fun H locs hP hD hS => ?_)
              have hP : va_P (dC, dI) vwCl (mw g h0 b (va_up (va_up i 0 x0_26) 46 (0 : Int32)) a) _ := hP
              have hD : va_D _ (mw g h0 b (va_up (va_up i 0 x0_26) 46 (0 : Int32)) a) := hD
              refine lv_aload_n hx hb dX10_plan_48 rfl (lv_at hl 0 rfl) ?_
              refine lv_iload_n hx hb dX10_plan_49 rfl (lv_at hl 1 rfl) ?_
              refine M_V ⟨hx, hb, hml, hown, hts⟩ (m_X10_isDryE l dC dI sa g h0 b (va_up (va_up i 0 x0_26) 46 (0 : Int32)) a ck _ hc30) (cwV 1 hts gX10_plan_X10_isDry rfl rfl rfl (by decide +kernel) ⟨(by first | exact Nat.le_of_ble_eq_true rfl | (simp only [rm_X10_isDryE, rm_X10_planE]; omega)), (by first | exact Nat.le_of_ble_eq_true rfl | (simp only [rm_X10_isDryE, rm_X10_planE]; omega))⟩) hP hD hK hS hA hev rfl rfl rfl rfl hl.1 rfl (Nat.le_of_ble_eq_true rfl) dX10_plan_50 ⟨(by first | exact Nat.le_of_ble_eq_true rfl | (simp only [rm_X10_planE]; omega)), (by first | exact Nat.le_of_ble_eq_true rfl | (simp only [rm_X10_planE]; omega))⟩ (fun r u H locs hw hP hD hS => ?_)
              have hw : ((r = some (.int 0) ∧ (((a 16) ck.toNatClampNeg) = -1)) ∨ (r = some (.int 1) ∧ (¬ ((a 16) ck.toNatClampNeg) = -1))) ∧ (True) := hw
              obtain ⟨⟨rfl, hz2_31⟩ | ⟨rfl, hz2_31⟩, hw_30⟩ := hw
              · have hP : va_P (dC, dI) vwCl (mw g h0 b (va_up (va_up i 0 x0_26) 46 (0 : Int32)) a) _ := hP
                have hD : va_D _ (mw g h0 b (va_up (va_up i 0 x0_26) 46 (0 : Int32)) a) := hD
                refine W.eq (g2 := F0 m 53 ls [.int 0]) rfl ?_
                refine lv_if_eq (tgt := 58) hx hb dX10_plan_53 (by decide) (fun _ => ?_) (fun c_32 => absurd c_32 (by decide))
                refine lv_iconst (v := 0) hx hb dX10_plan_58 (by decide) ?_
                refine lv_istore (lv' := [(5, .int 0), (0, .ref h0), (1, .int ck), (2, .int lw), (3, .int hg), (4, .int mo)]) hx hb dX10_plan_59 hl (by decide) rfl (fun ls hl => ?_)
                have lp : ∀ (n : Nat) (ii : Int32) (l4 : Nat → Int32) (l5 : Nat → Int32) (l6 : Nat → Int32) (l7 : Nat → Int32) (l14 : Nat → Int32) (l15 : Nat → Int32) (l47 : Nat → Int32) (l48 : Nat → Int32) (l49 : Nat → Int32) (l50 : Nat → Int32) (H : Heap) (locs : List Loc) (ls : Array Slot), (∃ q : Nat, ii = nI q ∧ q ≤ 4 ∧ 4 < q + n) → (l4 = a 4 ∧ l5 = a 5 ∧ l6 = a 6 ∧ l7 = a 7 ∧ l14 = a 14 ∧ l15 = a 15) → va_P (dC, dI) vwCl (mw g h0 b (va_up (va_up i 0 x0_26) 46 (0 : Int32)) (va_up (va_up (va_up (va_up (va_up (va_up (va_up (va_up (va_up (va_up a 4 l4) 5 l5) 6 l6) 7 l7) 14 l14) 15 l15) 47 l47) 48 l48) 49 l49) 50 l50)) H → va_D (va_A (mw g h0 b i a) s.heap.size) (mw g h0 b (va_up (va_up i 0 x0_26) 46 (0 : Int32)) (va_up (va_up (va_up (va_up (va_up (va_up (va_up (va_up (va_up (va_up a 4 l4) 5 l5) 6 l6) 7 l7) 14 l14) 15 l15) 47 l47) 48 l48) 49 l49) 50 l50)) → va_S (va_A (mw g h0 b i a) s.heap.size) s.heap H locs → lv_has ls 6 [(5, .int ii), (0, .ref h0), (1, .int ck), (2, .int lw), (3, .int hg), (4, .int mo)] → W p l e (rm_X10_planE ) s m [.ref h0, .int ck, .int lw, .int hg, .int mo].toArray below meth c H locs 0 0 (MQ below (Qg (fun (r : Option Value) (u : Int32 × Int32 × (Nat → Int32) × (Nat → Int32) × (Nat → Int32) × (Nat → Int32) × (Nat → Int32) × (Nat → Int32) × (Nat → Int32) × (Nat → Int32) × (Nat → Int32) × (Nat → Int32)) => match u with | (x0, x46, y4, y5, y6, y7, y14, y15, y47, y48, y49, y50) => (∃ z : Int32, r = some (.int z)) ∧ (y4 = (a 4) ∧ y5 = (a 5) ∧ y6 = (a 6) ∧ y7 = (a 7) ∧ y14 = (a 14) ∧ y15 = (a 15) ∧ x46.toInt ≤ 3)) (fun u t => QW dC dI (va_A (mw g h0 b i a) s.heap.size) ((fun (u : Int32 × Int32 × (Nat → Int32) × (Nat → Int32) × (Nat → Int32) × (Nat → Int32) × (Nat → Int32) × (Nat → Int32) × (Nat → Int32) × (Nat → Int32) × (Nat → Int32) × (Nat → Int32)) => match u with | (x0, x46, y4, y5, y6, y7, y14, y15, y47, y48, y49, y50) => mw g h0 b (va_up (va_up i 0 x0) 46 x46) (va_up (va_up (va_up (va_up (va_up (va_up (va_up (va_up (va_up (va_up a 4 y4) 5 y5) 6 y6) 7 y7) 14 y14) 15 y15) 47 y47) 48 y48) 49 y49) 50 y50)) u) [] t) (va_A (mw g h0 b i a) s.heap.size)) [.ref h0, .int ck, .int lw, .int hg, .int mo].toArray s 0 0 (va_A (mw g h0 b i a) s.heap.size)) (F0 m 61 ls []) := by
                  intro n
                  induction n with
                  | zero => intro ii l4 l5 l6 l7 l14 l15 l47 l48 l49 l50 H locs ls hm hrP hP hD hS hl; exact absurd hm (by rintro ⟨q, -, h1, h2⟩; omega)
                  | succ n ih =>
                    intro ii l4 l5 l6 l7 l14 l15 l47 l48 l49 l50 H locs ls hm hrP hP hD hS hl
                    refine lv_iload hx hb dX10_plan_61 (lv_at hl 0 rfl) ?_
                    obtain ⟨hs4, hs5, hs6, hs7, hs14, hs15⟩ := hrP
                    subst hs4
                    subst hs5
                    subst hs6
                    subst hs7
                    subst hs14
                    subst hs15
                    have hP : va_P (dC, dI) vwCl (mw g h0 b (va_up (va_up i 0 x0_26) 46 (0 : Int32)) (va_up (va_up (va_up (va_up a 47 l47) 48 l48) 49 l49) 50 l50)) _ := hP
                    have hD : va_D _ (mw g h0 b (va_up (va_up i 0 x0_26) 46 (0 : Int32)) (va_up (va_up (va_up (va_up a 47 l47) 48 l48) 49 l49) 50 l50)) := hD
                    refine lv_iload hx hb dX10_plan_63 (lv_at hl 5 rfl) ?_
                    refine lv_icmp_gt (tgt := 99) hx hb dX10_plan_65 (by decide) (fun c_33 => ?_) (fun c_33 => ?_)
                    · have nc_33 := lt_i c_33
                      refine lv_iconst (v := (-1)) hx hb dX10_plan_99 (by decide) ?_
                      exact M_i hx hb hr hlocks (x0_26, (0 : Int32), (a 4), (a 5), (a 6), (a 7), (a 14), (a 15), l47, l48, l49, l50) hP hD hK hS ⟨⟨_, rfl⟩, ⟨rfl, rfl, rfl, rfl, rfl, rfl, (by decide)⟩⟩ (by first | exact Nat.le_of_ble_eq_true rfl | (simp only [rm_X10_planE]; omega)) (by first | exact Nat.le_of_ble_eq_true rfl | (simp only [rm_X10_planE]; omega)) dX10_plan_100
                    · have nc_33 := nlt_i c_33
                      refine lv_aload_n hx hb dX10_plan_68 rfl (lv_at hl 1 rfl) ?_
                      refine lv_iload_n hx hb dX10_plan_69 rfl (lv_at hl 2 rfl) ?_
                      refine lv_iconst (v := 0) hx hb dX10_plan_70 (by decide) ?_
                      refine lv_iload hx hb dX10_plan_71 (lv_at hl 0 rfl) ?_
                      refine lv_iload_n hx hb dX10_plan_73 rfl (lv_at hl 3 rfl) ?_
                      refine lv_iload_n hx hb dX10_plan_74 rfl (lv_at hl 4 rfl) ?_
                      obtain ⟨q, hq1, hq2⟩ := pl_q hm c_33 (by omega)
                      refine M_V ⟨hx, hb, hml, hown, hts⟩ (X10_leadsE_all l dC dI sa g h0 b q 0 (va_up (va_up i 0 x0_26) 46 (0 : Int32)) (va_up (va_up (va_up (va_up a 47 l47) 48 l48) 49 l49) 50 l50) ck (0 : Int32) ii lw hg _ nI_0.symm (by rw [hq1]; exact congrArg nI (by omega)) (by omega) hc30 hwt) (cwV 5 hts gX10_plan_X10_leads rfl rfl rfl (by decide +kernel) ⟨(by first | exact Nat.le_of_ble_eq_true rfl | (simp only [rm_X10_leadsE, rm_X10_planE]; omega)), (by first | exact Nat.le_of_ble_eq_true rfl | (simp only [rm_X10_leadsE, rm_X10_planE]; omega))⟩) hP hD hK hS hA hev rfl rfl rfl rfl hl.1 rfl (Nat.le_of_ble_eq_true rfl) dX10_plan_75 ⟨(by first | exact Nat.le_of_ble_eq_true rfl | (simp only [rm_X10_planE]; omega)), (by first | exact Nat.le_of_ble_eq_true rfl | (simp only [rm_X10_planE]; omega))⟩ (fun r u H locs hw hP hD hS => ?_)
                      obtain ⟨y4_34, y5_35, y6_36, y7_37, y14_38, y15_39, y47_40, y48_41, y49_42, y50_43⟩ := u
                      have hw : (∃ z : Int32, r = some (.int z) ∧ (z = 0 ∨ z = 1)) ∧ (y4_34 = (a 4) ∧ y5_35 = (a 5) ∧ y6_36 = (a 6) ∧ y7_37 = (a 7) ∧ y14_38 = (a 14) ∧ y15_39 = (a 15) ∧ ∀ x9 : Nat, x9 < 26 * 0 → y50_43 x9 = l50 x9) := hw
                      obtain ⟨⟨z_45, rfl, hz_z_45⟩, hw_44⟩ := hw
                      have hP : va_P (dC, dI) vwCl (mw g h0 b (va_up (va_up i 0 x0_26) 46 (0 : Int32)) (va_up (va_up (va_up (va_up (va_up (va_up (va_up (va_up (va_up (va_up a 4 y4_34) 5 y5_35) 6 y6_36) 7 y7_37) 14 y14_38) 15 y15_39) 47 y47_40) 48 y48_41) 49 y49_42) 50 y50_43)) _ := hP
                      have hD : va_D _ (mw g h0 b (va_up (va_up i 0 x0_26) 46 (0 : Int32)) (va_up (va_up (va_up (va_up (va_up (va_up (va_up (va_up (va_up (va_up a 4 y4_34) 5 y5_35) 6 y6_36) 7 y7_37) 14 y14_38) 15 y15_39) 47 y47_40) 48 y48_41) 49 y49_42) 50 y50_43)) := hD
                      refine W.eq (g2 := F0 m 78 ls [.int z_45]) rfl ?_
                      obtain ⟨hs4, hs5, hs6, hs7, hs14, hs15, -⟩ := hw_44
                      subst hs4
                      subst hs5
                      subst hs6
                      subst hs7
                      subst hs14
                      subst hs15
                      have hP : va_P (dC, dI) vwCl (mw g h0 b (va_up (va_up i 0 x0_26) 46 (0 : Int32)) (va_up (va_up (va_up (va_up a 47 y47_40) 48 y48_41) 49 y49_42) 50 y50_43)) _ := hP
                      have hD : va_D _ (mw g h0 b (va_up (va_up i 0 x0_26) 46 (0 : Int32)) (va_up (va_up (va_up (va_up a 47 y47_40) 48 y48_41) 49 y49_42) 50 y50_43)) := hD
                      refine lv_if_ne (tgt := 84) hx hb dX10_plan_78 (by decide) (fun c_46 => ?_) (fun c_46 => ?_)
                      · have nc_46 := ne_i c_46
                        have lc_46 : (0 : Int32).toInt = 0 := by decide
                        refine lv_aload_n hx hb dX10_plan_84 rfl (lv_at hl 1 rfl) ?_
                        refine lv_iload hx hb dX10_plan_85 (lv_at hl 0 rfl) ?_
                        refine va_put (D := (dC, dI)) (ci := 10) (v := .int ii) (ty := .int) (C := RX10) (T := TX10) (N := 51) hx hb hts inw_X10_plan_10 tyX10 tyX10_ok nmX10 hown hK hP hD hS 0 rfl rfl 46 (by decide) (hts (.fieldLink RX10 346 "VatHouseModel" "kept" "I") (List.mem_of_getElem? (i := 1) (by exact rfl))) (fun _ h9 => h9) rfl (tyX10_ok 46 (by decide)) rfl rfl (Nat.le_of_ble_eq_true rfl) dX10_plan_87 (fun H locs hP hD hS => ?_)
                        have hP : va_P (dC, dI) vwCl (mw g h0 b (va_up (va_up i 0 x0_26) 46 ii) (va_up (va_up (va_up (va_up a 47 y47_40) 48 y48_41) 49 y49_42) 50 y50_43)) _ := hP
                        have hD : va_D _ (mw g h0 b (va_up (va_up i 0 x0_26) 46 ii) (va_up (va_up (va_up (va_up a 47 y47_40) 48 y48_41) 49 y49_42) 50 y50_43)) := hD
                        refine lv_iload hx hb dX10_plan_90 (lv_at hl 0 rfl) ?_
                        exact M_i hx hb hr hlocks (x0_26, ii, (a 4), (a 5), (a 6), (a 7), (a 14), (a 15), y47_40, y48_41, y49_42, y50_43) hP hD hK hS ⟨⟨_, rfl⟩, ⟨rfl, rfl, rfl, rfl, rfl, rfl, (by rw [hq1, nI_toInt (by omega)]; omega)⟩⟩ (by first | exact Nat.le_of_ble_eq_true rfl | (simp only [rm_X10_planE]; omega)) (by first | exact Nat.le_of_ble_eq_true rfl | (simp only [rm_X10_planE]; omega)) dX10_plan_92
                      · have nc_46 := eq_i c_46
                        have lc_46 : (0 : Int32).toInt = 0 := by decide
                        refine lv_goto (tgt := 93) hx hb dX10_plan_81 (by decide) ?_
                        refine lv_iinc (v := (ii + 1)) (lv' := [(5, .int (ii + 1)), (0, .ref h0), (1, .int ck), (2, .int lw), (3, .int hg), (4, .int mo)]) hx hb dX10_plan_93 hl (k := 0) rfl rfl (by decide) rfl (fun ls hl => ?_)
                        refine lv_goto (tgt := 61) hx hb dX10_plan_96 (by decide) ?_
                        exact ih (ii + 1) (a 4) (a 5) (a 6) (a 7) (a 14) (a 15) y47_40 y48_41 y49_42 y50_43 _ _ _ (pl_nx hm c_33 (by omega)) (⟨rfl, rfl, rfl, rfl, rfl, rfl⟩) hP hD hS (lv_sub hl [0, 1, 2, 3, 4, 5] rfl)
                exact lp 5 (0 : Int32) (a 4) (a 5) (a 6) (a 7) (a 14) (a 15) (a 47) (a 48) (a 49) (a 50) _ _ _ (⟨0, nI_0.symm, by omega, by omega⟩) (⟨rfl, rfl, rfl, rfl, rfl, rfl⟩) hP hD hS (lv_sub hl [0, 1, 2, 3, 4, 5] rfl)
              · have hP : va_P (dC, dI) vwCl (mw g h0 b (va_up (va_up i 0 x0_26) 46 (0 : Int32)) a) _ := hP
                have hD : va_D _ (mw g h0 b (va_up (va_up i 0 x0_26) 46 (0 : Int32)) a) := hD
                refine W.eq (g2 := F0 m 53 ls [.int 1]) rfl ?_
                refine lv_if_eq (tgt := 58) hx hb dX10_plan_53 (by decide) (fun c_47 => absurd c_47 (by decide)) (fun _ => ?_)
                refine lv_iconst (v := (-1)) hx hb dX10_plan_56 (by decide) ?_
                exact M_i hx hb hr hlocks (x0_26, (0 : Int32), (a 4), (a 5), (a 6), (a 7), (a 14), (a 15), (a 47), (a 48), (a 49), (a 50)) hP hD hK hS ⟨⟨_, rfl⟩, ⟨rfl, rfl, rfl, rfl, rfl, rfl, (by decide)⟩⟩ (by first | exact Nat.le_of_ble_eq_true rfl | (simp only [rm_X10_planE]; omega)) (by first | exact Nat.le_of_ble_eq_true rfl | (simp only [rm_X10_planE]; omega)) dX10_plan_57
