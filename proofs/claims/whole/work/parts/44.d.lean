noncomputable abbrev rm_X10_planK : Room := { frames := 40, cells := 0, slots := 0, locals := 900 }
set_option maxHeartbeats 2000000 in
set_option maxRecDepth 100000 in
theorem m_X10_planK (l : Launch) (dC : Nat → ClassId) (dI : Nat → Nat → Nat) (sa : Nat → Nat) (g : Nat → Nat) (h0 : Nat) (b : Nat → Nat) (i : Nat → Int32) (a : Nat → Nat → Int32) (ck : Int32) (lw : Int32) (hg : Int32) (mo : Int32) (sz : Nat) (hRC : RC (i, a)) (hkp : (i 46).toInt ≤ 3) : CT l dC dI sa yX10_plan wsX10_plan (rm_X10_planK ) [.ref h0, .int ck, .int lw, .int hg, .int mo] (mw g h0 b i a) (tyM g) sz (fun (r : Option Value) (u : Int32 × Int32 × (Nat → Int32) × (Nat → Int32) × (Nat → Int32) × (Nat → Int32) × (Nat → Int32) × (Nat → Int32) × (Nat → Int32) × (Nat → Int32) × (Nat → Int32) × (Nat → Int32)) => match u with | (x0, x46, y4, y5, y6, y7, y14, y15, y47, y48, y49, y50) => (∃ z : Int32, r = some (.int z)) ∧ (∃ o9 : OP, plS ck lw hg mo (i, a) o9 ∧ x0 = o9.1 ∧ (o9.1 = 0 → r = some (.int o9.2.1)) ∧ y4 = (a 4) ∧ y5 = (a 5) ∧ y6 = (a 6) ∧ y7 = (a 7) ∧ y14 = (a 14) ∧ y15 = (a 15) ∧ x46.toInt ≤ 3 ∧ (r = some (.int (-1)) → x46 = 0))) (fun (u : Int32 × Int32 × (Nat → Int32) × (Nat → Int32) × (Nat → Int32) × (Nat → Int32) × (Nat → Int32) × (Nat → Int32) × (Nat → Int32) × (Nat → Int32) × (Nat → Int32) × (Nat → Int32)) => match u with | (x0, x46, y4, y5, y6, y7, y14, y15, y47, y48, y49, y50) => mw g h0 b (va_up (va_up i 0 x0) 46 x46) (va_up (va_up (va_up (va_up (va_up (va_up (va_up (va_up (va_up (va_up a 4 y4) 5 y5) 6 y6) 7 y7) 14 y14) 15 y15) 47 y47) 48 y48) 49 y49) 50 y50)) (fun _ => []) 0 0 := by
  refine CT.start (cc := cX10_plan) (maxL := 6) (ret := (some .int)) (by decide) rfl (Nat.le_of_ble_eq_true rfl) ?_
  intro p e s m below meth c ls hst hP hK hD hev hS hl
  obtain ⟨hx, hb, hr, hml, hts, hown, hlocks, hin⟩ := hst
  have hown : s.vm.findClass RX10 = some m.cls := hown
  have hA : ∀ q : Nat, s.heap.size ≤ q → va_A (mw g h0 b i a) s.heap.size q := fun _ h => Or.inr h
  have hl : lv_has ls 6 [(0, .ref h0), (1, .int ck), (2, .int lw), (3, .int hg), (4, .int mo)] := hl
  refine lv_aload_n hx hb dX10_plan_0 rfl (lv_at hl 0 rfl) ?_
  refine lv_iload_n hx hb dX10_plan_1 rfl (lv_at hl 1 rfl) ?_
  refine M_V ⟨hx, hb, hml, hown, hts⟩ (m_X10_isClothE l dC dI sa g h0 b i a ck _ ) (cwV 1 hts gX10_plan_X10_isCloth rfl rfl rfl (by decide +kernel) ⟨(by first | exact Nat.le_of_ble_eq_true rfl | (simp only [rm_X10_isClothE, rm_X10_planK]; omega)), (by first | exact Nat.le_of_ble_eq_true rfl | (simp only [rm_X10_isClothE, rm_X10_planK]; omega))⟩) hP hD hK hS hA hev rfl rfl rfl rfl hl.1 rfl (Nat.le_of_ble_eq_true rfl) dX10_plan_2 ⟨(by first | exact Nat.le_of_ble_eq_true rfl | (simp only [rm_X10_planK]; omega)), (by first | exact Nat.le_of_ble_eq_true rfl | (simp only [rm_X10_planK]; omega))⟩ (fun r u H locs hw hP hD hS => ?_)
  obtain ⟨x0_1, rfl⟩ : ∃ z, z = u := ⟨_, rfl⟩
  have hw : ((r = some (.int 0) ∧ (¬ inC (i, a) ck ∧ x0_1 = 1)) ∨ (r = some (.int 1) ∧ (inC (i, a) ck ∧ x0_1 = 0))) ∧ (True) := hw
  obtain ⟨⟨rfl, hz2_3⟩ | ⟨rfl, hz2_3⟩, hw_2⟩ := hw
  · have hP : va_P (dC, dI) vwCl (mw g h0 b (va_up i 0 x0_1) a) _ := hP
    have hD : va_D _ (mw g h0 b (va_up i 0 x0_1) a) := hD
    refine W.eq (g2 := F0 m 5 ls [.int 0]) rfl ?_
    refine lv_if_eq (tgt := 41) hx hb dX10_plan_5 (by decide) (fun _ => ?_) (fun c_4 => absurd c_4 (by decide))
    refine lv_iconst (v := 0) hx hb dX10_plan_41 (by decide) ?_
    exact M_i hx hb hr hlocks (x0_1, (i 46), (a 4), (a 5), (a 6), (a 7), (a 14), (a 15), (a 47), (a 48), (a 49), (a 50)) hP hD hK hS ⟨⟨_, rfl⟩, ⟨(1, 0, (i, a)), Or.inl ⟨hz2_3.1, rfl⟩, hz2_3.2, fun h9 => n1_0 h9, rfl, rfl, rfl, rfl, rfl, rfl, hkp, (fun h9 => by injection h9 with h9; injection h9 with h9; exact absurd h9 (by decide))⟩⟩ (by first | exact Nat.le_of_ble_eq_true rfl | (simp only [rm_X10_planK]; omega)) (by first | exact Nat.le_of_ble_eq_true rfl | (simp only [rm_X10_planK]; omega)) dX10_plan_42
  · have hP : va_P (dC, dI) vwCl (mw g h0 b (va_up i 0 x0_1) a) _ := hP
    have hD : va_D _ (mw g h0 b (va_up i 0 x0_1) a) := hD
    refine W.eq (g2 := F0 m 5 ls [.int 1]) rfl ?_
    have hc30 := in_C hz2_3.1 hRC.1.2
    have hcc := inC_c hz2_3.1
    have hwt := (hRC.2 _ hcc.2).1
    refine lv_if_eq (tgt := 41) hx hb dX10_plan_5 (by decide) (fun c_5 => absurd c_5 (by decide)) (fun _ => ?_)
    refine lv_aload_n hx hb dX10_plan_8 rfl (lv_at hl 0 rfl) ?_
    refine lv_iload hx hb dX10_plan_9 (lv_at hl 4 rfl) ?_
    refine lv_if_lt (tgt := 33) hx hb dX10_plan_11 (by decide) (fun c_6 => ?_) (fun c_6 => ?_)
    · have nc_6 := lt_i c_6
      have lc_6 : (0 : Int32).toInt = 0 := by decide
      refine lv_iconst (v := 0) hx hb dX10_plan_33 (by decide) ?_
      refine lv_iconst (v := 2) hx hb dX10_plan_34 (by decide) ?_
      refine M_V ⟨hx, hb, hml, hown, hts⟩ (m_X10_rightX l dC dI sa g h0 b (va_up i 0 x0_1) a (0 : Int32) (2 : Int32) _ (by decide) hz2_3.2) (cwV 2 hts gX10_plan_X10_right rfl rfl rfl (by decide +kernel) ⟨(by first | exact Nat.le_of_ble_eq_true rfl | (simp only [rm_X10_rightX, rm_X10_planK]; omega)), (by first | exact Nat.le_of_ble_eq_true rfl | (simp only [rm_X10_rightX, rm_X10_planK]; omega))⟩) hP hD hK hS hA hev rfl rfl rfl rfl hl.1 rfl (Nat.le_of_ble_eq_true rfl) dX10_plan_35 ⟨(by first | exact Nat.le_of_ble_eq_true rfl | (simp only [rm_X10_planK]; omega)), (by first | exact Nat.le_of_ble_eq_true rfl | (simp only [rm_X10_planK]; omega))⟩ (fun r u H locs hw hP hD hS => ?_)
      obtain ⟨x0_7, rfl⟩ : ∃ z, z = u := ⟨_, rfl⟩
      have hw : ((r = some (.int 0) ∧ ((0 : Int32) = 0 ∧ x0_7 = (2 : Int32))) ∨ (r = some (.int 1) ∧ (¬ (0 : Int32) = 0 ∧ x0_7 = 0))) ∧ (True) := hw
      obtain ⟨⟨rfl, hz2_9⟩ | ⟨rfl, hz2_9⟩, hw_8⟩ := hw
      · have hP : va_P (dC, dI) vwCl (mw g h0 b (va_up i 0 x0_7) a) _ := hP
        have hD : va_D _ (mw g h0 b (va_up i 0 x0_7) a) := hD
        refine W.eq (g2 := F0 m 38 ls [.int 0]) rfl ?_
        refine lv_if_ne (tgt := 43) hx hb dX10_plan_38 (by decide) (fun c_10 => absurd c_10 (by decide)) (fun _ => ?_)
        refine lv_iconst (v := 0) hx hb dX10_plan_41 (by decide) ?_
        exact M_i hx hb hr hlocks (x0_7, (i 46), (a 4), (a 5), (a 6), (a 7), (a 14), (a 15), (a 47), (a 48), (a 49), (a 50)) hP hD hK hS ⟨⟨_, rfl⟩, ⟨(2, 0, (i, a)), Or.inr ⟨hz2_3.1, Or.inl ⟨fun h8 => le_nlt h8.1 c_6, rfl⟩⟩, hz2_9.2, fun h9 => n2_0 h9, rfl, rfl, rfl, rfl, rfl, rfl, hkp, (fun h9 => by injection h9 with h9; injection h9 with h9; exact absurd h9 (by decide))⟩⟩ (by first | exact Nat.le_of_ble_eq_true rfl | (simp only [rm_X10_planK]; omega)) (by first | exact Nat.le_of_ble_eq_true rfl | (simp only [rm_X10_planK]; omega)) dX10_plan_42
      · have hP : va_P (dC, dI) vwCl (mw g h0 b (va_up i 0 x0_7) a) _ := hP
        have hD : va_D _ (mw g h0 b (va_up i 0 x0_7) a) := hD
        refine W.eq (g2 := F0 m 38 ls [.int 1]) rfl ?_
        exact absurd rfl hz2_9.1
    · have nc_6 := nlt_i c_6
      have lc_6 : (0 : Int32).toInt = 0 := by decide
      refine lv_iload hx hb dX10_plan_14 (lv_at hl 4 rfl) ?_
      refine lv_iconst (v := 3) hx hb dX10_plan_16 (by decide) ?_
      refine lv_icmp_gt (tgt := 33) hx hb dX10_plan_17 (by decide) (fun c_11 => ?_) (fun c_11 => ?_)
      · have nc_11 := lt_i c_11
        have lc_11 : (3 : Int32).toInt = 3 := by decide
        refine lv_iconst (v := 0) hx hb dX10_plan_33 (by decide) ?_
        refine lv_iconst (v := 2) hx hb dX10_plan_34 (by decide) ?_
        refine M_V ⟨hx, hb, hml, hown, hts⟩ (m_X10_rightX l dC dI sa g h0 b (va_up i 0 x0_1) a (0 : Int32) (2 : Int32) _ (by decide) hz2_3.2) (cwV 2 hts gX10_plan_X10_right rfl rfl rfl (by decide +kernel) ⟨(by first | exact Nat.le_of_ble_eq_true rfl | (simp only [rm_X10_rightX, rm_X10_planK]; omega)), (by first | exact Nat.le_of_ble_eq_true rfl | (simp only [rm_X10_rightX, rm_X10_planK]; omega))⟩) hP hD hK hS hA hev rfl rfl rfl rfl hl.1 rfl (Nat.le_of_ble_eq_true rfl) dX10_plan_35 ⟨(by first | exact Nat.le_of_ble_eq_true rfl | (simp only [rm_X10_planK]; omega)), (by first | exact Nat.le_of_ble_eq_true rfl | (simp only [rm_X10_planK]; omega))⟩ (fun r u H locs hw hP hD hS => ?_)
        obtain ⟨x0_12, rfl⟩ : ∃ z, z = u := ⟨_, rfl⟩
        have hw : ((r = some (.int 0) ∧ ((0 : Int32) = 0 ∧ x0_12 = (2 : Int32))) ∨ (r = some (.int 1) ∧ (¬ (0 : Int32) = 0 ∧ x0_12 = 0))) ∧ (True) := hw
        obtain ⟨⟨rfl, hz2_14⟩ | ⟨rfl, hz2_14⟩, hw_13⟩ := hw
        · have hP : va_P (dC, dI) vwCl (mw g h0 b (va_up i 0 x0_12) a) _ := hP
          have hD : va_D _ (mw g h0 b (va_up i 0 x0_12) a) := hD
          refine W.eq (g2 := F0 m 38 ls [.int 0]) rfl ?_
          refine lv_if_ne (tgt := 43) hx hb dX10_plan_38 (by decide) (fun c_15 => absurd c_15 (by decide)) (fun _ => ?_)
          refine lv_iconst (v := 0) hx hb dX10_plan_41 (by decide) ?_
          exact M_i hx hb hr hlocks (x0_12, (i 46), (a 4), (a 5), (a 6), (a 7), (a 14), (a 15), (a 47), (a 48), (a 49), (a 50)) hP hD hK hS ⟨⟨_, rfl⟩, ⟨(2, 0, (i, a)), Or.inr ⟨hz2_3.1, Or.inl ⟨fun h8 => le_nlt h8.2.1 c_11, rfl⟩⟩, hz2_14.2, fun h9 => n2_0 h9, rfl, rfl, rfl, rfl, rfl, rfl, hkp, (fun h9 => by injection h9 with h9; injection h9 with h9; exact absurd h9 (by decide))⟩⟩ (by first | exact Nat.le_of_ble_eq_true rfl | (simp only [rm_X10_planK]; omega)) (by first | exact Nat.le_of_ble_eq_true rfl | (simp only [rm_X10_planK]; omega)) dX10_plan_42
        · have hP : va_P (dC, dI) vwCl (mw g h0 b (va_up i 0 x0_12) a) _ := hP
          have hD : va_D _ (mw g h0 b (va_up i 0 x0_12) a) := hD
          refine W.eq (g2 := F0 m 38 ls [.int 1]) rfl ?_
          exact absurd rfl hz2_14.1
      · have nc_11 := nlt_i c_11
        have lc_11 : (3 : Int32).toInt = 3 := by decide
        refine lv_iload_n hx hb dX10_plan_20 rfl (lv_at hl 2 rfl) ?_
        refine lv_if_lt (tgt := 33) hx hb dX10_plan_21 (by decide) (fun c_16 => ?_) (fun c_16 => ?_)
        · have nc_16 := lt_i c_16
          have lc_16 : (0 : Int32).toInt = 0 := by decide
          refine lv_iconst (v := 0) hx hb dX10_plan_33 (by decide) ?_
          refine lv_iconst (v := 2) hx hb dX10_plan_34 (by decide) ?_
          refine M_V ⟨hx, hb, hml, hown, hts⟩ (m_X10_rightX l dC dI sa g h0 b (va_up i 0 x0_1) a (0 : Int32) (2 : Int32) _ (by decide) hz2_3.2) (cwV 2 hts gX10_plan_X10_right rfl rfl rfl (by decide +kernel) ⟨(by first | exact Nat.le_of_ble_eq_true rfl | (simp only [rm_X10_rightX, rm_X10_planK]; omega)), (by first | exact Nat.le_of_ble_eq_true rfl | (simp only [rm_X10_rightX, rm_X10_planK]; omega))⟩) hP hD hK hS hA hev rfl rfl rfl rfl hl.1 rfl (Nat.le_of_ble_eq_true rfl) dX10_plan_35 ⟨(by first | exact Nat.le_of_ble_eq_true rfl | (simp only [rm_X10_planK]; omega)), (by first | exact Nat.le_of_ble_eq_true rfl | (simp only [rm_X10_planK]; omega))⟩ (fun r u H locs hw hP hD hS => ?_)
          obtain ⟨x0_17, rfl⟩ : ∃ z, z = u := ⟨_, rfl⟩
          have hw : ((r = some (.int 0) ∧ ((0 : Int32) = 0 ∧ x0_17 = (2 : Int32))) ∨ (r = some (.int 1) ∧ (¬ (0 : Int32) = 0 ∧ x0_17 = 0))) ∧ (True) := hw
          obtain ⟨⟨rfl, hz2_19⟩ | ⟨rfl, hz2_19⟩, hw_18⟩ := hw
          · have hP : va_P (dC, dI) vwCl (mw g h0 b (va_up i 0 x0_17) a) _ := hP
            have hD : va_D _ (mw g h0 b (va_up i 0 x0_17) a) := hD
            refine W.eq (g2 := F0 m 38 ls [.int 0]) rfl ?_
            refine lv_if_ne (tgt := 43) hx hb dX10_plan_38 (by decide) (fun c_20 => absurd c_20 (by decide)) (fun _ => ?_)
            refine lv_iconst (v := 0) hx hb dX10_plan_41 (by decide) ?_
            exact M_i hx hb hr hlocks (x0_17, (i 46), (a 4), (a 5), (a 6), (a 7), (a 14), (a 15), (a 47), (a 48), (a 49), (a 50)) hP hD hK hS ⟨⟨_, rfl⟩, ⟨(2, 0, (i, a)), Or.inr ⟨hz2_3.1, Or.inl ⟨fun h8 => le_nlt h8.2.2.1 c_16, rfl⟩⟩, hz2_19.2, fun h9 => n2_0 h9, rfl, rfl, rfl, rfl, rfl, rfl, hkp, (fun h9 => by injection h9 with h9; injection h9 with h9; exact absurd h9 (by decide))⟩⟩ (by first | exact Nat.le_of_ble_eq_true rfl | (simp only [rm_X10_planK]; omega)) (by first | exact Nat.le_of_ble_eq_true rfl | (simp only [rm_X10_planK]; omega)) dX10_plan_42
          · have hP : va_P (dC, dI) vwCl (mw g h0 b (va_up i 0 x0_17) a) _ := hP
            have hD : va_D _ (mw g h0 b (va_up i 0 x0_17) a) := hD
            refine W.eq (g2 := F0 m 38 ls [.int 1]) rfl ?_
            exact absurd rfl hz2_19.1
        · have nc_16 := nlt_i c_16
          have lc_16 : (0 : Int32).toInt = 0 := by decide
          refine lv_iload_n hx hb dX10_plan_24 rfl (lv_at hl 2 rfl) ?_
          refine lv_iload_n hx hb dX10_plan_25 rfl (lv_at hl 3 rfl) ?_
          refine lv_icmp_gt (tgt := 33) hx hb dX10_plan_26 (by decide) (fun c_21 => ?_) (fun c_21 => ?_)
          · have nc_21 := lt_i c_21
            refine lv_iconst (v := 0) hx hb dX10_plan_33 (by decide) ?_
            refine lv_iconst (v := 2) hx hb dX10_plan_34 (by decide) ?_
            refine M_V ⟨hx, hb, hml, hown, hts⟩ (m_X10_rightX l dC dI sa g h0 b (va_up i 0 x0_1) a (0 : Int32) (2 : Int32) _ (by decide) hz2_3.2) (cwV 2 hts gX10_plan_X10_right rfl rfl rfl (by decide +kernel) ⟨(by first | exact Nat.le_of_ble_eq_true rfl | (simp only [rm_X10_rightX, rm_X10_planK]; omega)), (by first | exact Nat.le_of_ble_eq_true rfl | (simp only [rm_X10_rightX, rm_X10_planK]; omega))⟩) hP hD hK hS hA hev rfl rfl rfl rfl hl.1 rfl (Nat.le_of_ble_eq_true rfl) dX10_plan_35 ⟨(by first | exact Nat.le_of_ble_eq_true rfl | (simp only [rm_X10_planK]; omega)), (by first | exact Nat.le_of_ble_eq_true rfl | (simp only [rm_X10_planK]; omega))⟩ (fun r u H locs hw hP hD hS => ?_)
            obtain ⟨x0_22, rfl⟩ : ∃ z, z = u := ⟨_, rfl⟩
            have hw : ((r = some (.int 0) ∧ ((0 : Int32) = 0 ∧ x0_22 = (2 : Int32))) ∨ (r = some (.int 1) ∧ (¬ (0 : Int32) = 0 ∧ x0_22 = 0))) ∧ (True) := hw
            obtain ⟨⟨rfl, hz2_24⟩ | ⟨rfl, hz2_24⟩, hw_23⟩ := hw
            · have hP : va_P (dC, dI) vwCl (mw g h0 b (va_up i 0 x0_22) a) _ := hP
              have hD : va_D _ (mw g h0 b (va_up i 0 x0_22) a) := hD
              refine W.eq (g2 := F0 m 38 ls [.int 0]) rfl ?_
              refine lv_if_ne (tgt := 43) hx hb dX10_plan_38 (by decide) (fun c_25 => absurd c_25 (by decide)) (fun _ => ?_)
              refine lv_iconst (v := 0) hx hb dX10_plan_41 (by decide) ?_
              exact M_i hx hb hr hlocks (x0_22, (i 46), (a 4), (a 5), (a 6), (a 7), (a 14), (a 15), (a 47), (a 48), (a 49), (a 50)) hP hD hK hS ⟨⟨_, rfl⟩, ⟨(2, 0, (i, a)), Or.inr ⟨hz2_3.1, Or.inl ⟨fun h8 => le_nlt h8.2.2.2 c_21, rfl⟩⟩, hz2_24.2, fun h9 => n2_0 h9, rfl, rfl, rfl, rfl, rfl, rfl, hkp, (fun h9 => by injection h9 with h9; injection h9 with h9; exact absurd h9 (by decide))⟩⟩ (by first | exact Nat.le_of_ble_eq_true rfl | (simp only [rm_X10_planK]; omega)) (by first | exact Nat.le_of_ble_eq_true rfl | (simp only [rm_X10_planK]; omega)) dX10_plan_42
            · have hP : va_P (dC, dI) vwCl (mw g h0 b (va_up i 0 x0_22) a) _ := hP
              have hD : va_D _ (mw g h0 b (va_up i 0 x0_22) a) := hD
              refine W.eq (g2 := F0 m 38 ls [.int 1]) rfl ?_
              exact absurd rfl hz2_24.1
          · have nc_21 := nlt_i c_21
            refine lv_iconst (v := 1) hx hb dX10_plan_29 (by decide) ?_
            refine lv_goto (tgt := 34) hx hb dX10_plan_30 (by decide) ?_
            refine lv_iconst (v := 2) hx hb dX10_plan_34 (by decide) ?_
            refine M_V ⟨hx, hb, hml, hown, hts⟩ (m_X10_rightX l dC dI sa g h0 b (va_up i 0 x0_1) a (1 : Int32) (2 : Int32) _ (by decide) hz2_3.2) (cwV 2 hts gX10_plan_X10_right rfl rfl rfl (by decide +kernel) ⟨(by first | exact Nat.le_of_ble_eq_true rfl | (simp only [rm_X10_rightX, rm_X10_planK]; omega)), (by first | exact Nat.le_of_ble_eq_true rfl | (simp only [rm_X10_rightX, rm_X10_planK]; omega))⟩) hP hD hK hS hA hev rfl rfl rfl rfl hl.1 rfl (Nat.le_of_ble_eq_true rfl) dX10_plan_35 ⟨(by first | exact Nat.le_of_ble_eq_true rfl | (simp only [rm_X10_planK]; omega)), (by first | exact Nat.le_of_ble_eq_true rfl | (simp only [rm_X10_planK]; omega))⟩ (fun r u H locs hw hP hD hS => ?_)
            obtain ⟨x0_26, rfl⟩ : ∃ z, z = u := ⟨_, rfl⟩
            have hw : ((r = some (.int 0) ∧ ((1 : Int32) = 0 ∧ x0_26 = (2 : Int32))) ∨ (r = some (.int 1) ∧ (¬ (1 : Int32) = 0 ∧ x0_26 = 0))) ∧ (True) := hw
            obtain ⟨⟨rfl, hz2_28⟩ | ⟨rfl, hz2_28⟩, hw_27⟩ := hw
            · have hP : va_P (dC, dI) vwCl (mw g h0 b (va_up i 0 x0_26) a) _ := hP
              have hD : va_D _ (mw g h0 b (va_up i 0 x0_26) a) := hD
              refine W.eq (g2 := F0 m 38 ls [.int 0]) rfl ?_
              exact absurd hz2_28.1 (by decide)
            · have hP : va_P (dC, dI) vwCl (mw g h0 b (va_up i 0 x0_26) a) _ := hP
              have hD : va_D _ (mw g h0 b (va_up i 0 x0_26) a) := hD
              refine W.eq (g2 := F0 m 38 ls [.int 1]) rfl ?_
              refine lv_if_ne (tgt := 43) hx hb dX10_plan_38 (by decide) (fun _ => ?_) (fun c_29 => absurd c_29 (by decide))
              refine lv_aload_n hx hb dX10_plan_43 rfl (lv_at hl 0 rfl) ?_
              refine lv_iconst (v := 0) hx hb dX10_plan_44 (by decide) ?_
              refine va_put (D := (dC, dI)) (ci := 10) (v := .int 0) (ty := .int) (C := RX10) (T := TX10) (N := 51) hx hb hts inw_X10_plan_10 tyX10 tyX10_ok nmX10 hown hK hP hD hS 0 rfl rfl 46 (by decide) (hts (.fieldLink RX10 346 "VatHouseModel" "kept" "I") (List.mem_of_getElem? (i := 1) (by exact rfl))) (fun _ h9 => h9) rfl (tyX10_ok 46 (by decide)) rfl rfl (Nat.le_of_ble_eq_true rfl) dX10_plan_45 (fun H locs hP hD hS => ?_)
              have hP : va_P (dC, dI) vwCl (mw g h0 b (va_up (va_up i 0 x0_26) 46 (0 : Int32)) a) _ := hP
              have hD : va_D _ (mw g h0 b (va_up (va_up i 0 x0_26) 46 (0 : Int32)) a) := hD
              refine lv_aload_n hx hb dX10_plan_48 rfl (lv_at hl 0 rfl) ?_
              refine lv_iload_n hx hb dX10_plan_49 rfl (lv_at hl 1 rfl) ?_
              refine M_V ⟨hx, hb, hml, hown, hts⟩ (m_X10_isDryE l dC dI sa g h0 b (va_up (va_up i 0 x0_26) 46 (0 : Int32)) a ck _ hc30) (cwV 1 hts gX10_plan_X10_isDry rfl rfl rfl (by decide +kernel) ⟨(by first | exact Nat.le_of_ble_eq_true rfl | (simp only [rm_X10_isDryE, rm_X10_planK]; omega)), (by first | exact Nat.le_of_ble_eq_true rfl | (simp only [rm_X10_isDryE, rm_X10_planK]; omega))⟩) hP hD hK hS hA hev rfl rfl rfl rfl hl.1 rfl (Nat.le_of_ble_eq_true rfl) dX10_plan_50 ⟨(by first | exact Nat.le_of_ble_eq_true rfl | (simp only [rm_X10_planK]; omega)), (by first | exact Nat.le_of_ble_eq_true rfl | (simp only [rm_X10_planK]; omega))⟩ (fun r u H locs hw hP hD hS => ?_)
              have hw : ((r = some (.int 0) ∧ (((a 16) ck.toNatClampNeg) = -1)) ∨ (r = some (.int 1) ∧ (¬ ((a 16) ck.toNatClampNeg) = -1))) ∧ (True) := hw
              obtain ⟨⟨rfl, hz2_31⟩ | ⟨rfl, hz2_31⟩, hw_30⟩ := hw
              · have hP : va_P (dC, dI) vwCl (mw g h0 b (va_up (va_up i 0 x0_26) 46 (0 : Int32)) a) _ := hP
                have hD : va_D _ (mw g h0 b (va_up (va_up i 0 x0_26) 46 (0 : Int32)) a) := hD
                refine W.eq (g2 := F0 m 53 ls [.int 0]) rfl ?_
                refine lv_if_eq (tgt := 58) hx hb dX10_plan_53 (by decide) (fun _ => ?_) (fun c_32 => absurd c_32 (by decide))
                refine lv_iconst (v := 0) hx hb dX10_plan_58 (by decide) ?_
                refine lv_istore (lv' := [(5, .int 0), (0, .ref h0), (1, .int ck), (2, .int lw), (3, .int hg), (4, .int mo)]) hx hb dX10_plan_59 hl (by decide) rfl (fun ls hl => ?_)
                have lp : ∀ (n : Nat) (ii : Int32) (l4 : Nat → Int32) (l5 : Nat → Int32) (l6 : Nat → Int32) (l7 : Nat → Int32) (l14 : Nat → Int32) (l15 : Nat → Int32) (l47 : Nat → Int32) (l48 : Nat → Int32) (l49 : Nat → Int32) (l50 : Nat → Int32) (H : Heap) (locs : List Loc) (ls : Array Slot), (∃ q : Nat, ii = nI q ∧ q ≤ 4 ∧ 4 < q + n) → (l4 = a 4 ∧ l5 = a 5 ∧ l6 = a 6 ∧ l7 = a 7 ∧ l14 = a 14 ∧ l15 = a 15) → (∃ q : Nat, ii = nI q ∧ q ≤ 4 ∧ ∀ k : Nat, k < q → ¬ ldR k (a 4) (a 5) (a 6) (a 7) (a 13) (a 14) (a 15) ck.toNatClampNeg lw hg) → va_P (dC, dI) vwCl (mw g h0 b (va_up (va_up i 0 x0_26) 46 (0 : Int32)) (va_up (va_up (va_up (va_up (va_up (va_up (va_up (va_up (va_up (va_up a 4 l4) 5 l5) 6 l6) 7 l7) 14 l14) 15 l15) 47 l47) 48 l48) 49 l49) 50 l50)) H → va_D (va_A (mw g h0 b i a) s.heap.size) (mw g h0 b (va_up (va_up i 0 x0_26) 46 (0 : Int32)) (va_up (va_up (va_up (va_up (va_up (va_up (va_up (va_up (va_up (va_up a 4 l4) 5 l5) 6 l6) 7 l7) 14 l14) 15 l15) 47 l47) 48 l48) 49 l49) 50 l50)) → va_S (va_A (mw g h0 b i a) s.heap.size) s.heap H locs → lv_has ls 6 [(5, .int ii), (0, .ref h0), (1, .int ck), (2, .int lw), (3, .int hg), (4, .int mo)] → W p l e (rm_X10_planK ) s m [.ref h0, .int ck, .int lw, .int hg, .int mo].toArray below meth c H locs 0 0 (MQ below (Qg (fun (r : Option Value) (u : Int32 × Int32 × (Nat → Int32) × (Nat → Int32) × (Nat → Int32) × (Nat → Int32) × (Nat → Int32) × (Nat → Int32) × (Nat → Int32) × (Nat → Int32) × (Nat → Int32) × (Nat → Int32)) => match u with | (x0, x46, y4, y5, y6, y7, y14, y15, y47, y48, y49, y50) => (∃ z : Int32, r = some (.int z)) ∧ (∃ o9 : OP, plS ck lw hg mo (i, a) o9 ∧ x0 = o9.1 ∧ (o9.1 = 0 → r = some (.int o9.2.1)) ∧ y4 = (a 4) ∧ y5 = (a 5) ∧ y6 = (a 6) ∧ y7 = (a 7) ∧ y14 = (a 14) ∧ y15 = (a 15) ∧ x46.toInt ≤ 3 ∧ (r = some (.int (-1)) → x46 = 0))) (fun u t => QW dC dI (va_A (mw g h0 b i a) s.heap.size) ((fun (u : Int32 × Int32 × (Nat → Int32) × (Nat → Int32) × (Nat → Int32) × (Nat → Int32) × (Nat → Int32) × (Nat → Int32) × (Nat → Int32) × (Nat → Int32) × (Nat → Int32) × (Nat → Int32)) => match u with | (x0, x46, y4, y5, y6, y7, y14, y15, y47, y48, y49, y50) => mw g h0 b (va_up (va_up i 0 x0) 46 x46) (va_up (va_up (va_up (va_up (va_up (va_up (va_up (va_up (va_up (va_up a 4 y4) 5 y5) 6 y6) 7 y7) 14 y14) 15 y15) 47 y47) 48 y48) 49 y49) 50 y50)) u) [] t) (va_A (mw g h0 b i a) s.heap.size)) [.ref h0, .int ck, .int lw, .int hg, .int mo].toArray s 0 0 (va_A (mw g h0 b i a) s.heap.size)) (F0 m 61 ls []) := by
                  intro n
                  induction n with
                  | zero => intro ii l4 l5 l6 l7 l14 l15 l47 l48 l49 l50 H locs ls hm hrP hgP hP hD hS hl; exact absurd hm (by rintro ⟨q, -, h1, h2⟩; omega)
                  | succ n ih =>
                    intro ii l4 l5 l6 l7 l14 l15 l47 l48 l49 l50 H locs ls hm hrP hgP hP hD hS hl
                    refine lv_iload hx hb dX10_plan_61 (lv_at hl 0 rfl) ?_
                    obtain ⟨hs4, hs5, hs6, hs7, hs14, hs15⟩ := hrP
                    subst hs4
                    subst hs5
                    subst hs6
                    subst hs7
                    subst hs14
                    subst hs15
                    have hP : va_P (dC, dI) vwCl (mw g h0 b (va_up (va_up i 0 x0_26) 46 (0 : Int32)) (va_up (va_up (va_up (va_up a 47 l47) 48 l48) 49 l49) 50 l50)) _ := hP
                    have hD : va_D _ (mw g h0 b (va_up (va_up i 0 x0_26) 46 (0 : Int32)) (va_up (va_up (va_up (va_up a 47 l47) 48 l48) 49 l49) 50 l50)) := hD
                    refine lv_iload hx hb dX10_plan_63 (lv_at hl 5 rfl) ?_
                    refine lv_icmp_gt (tgt := 99) hx hb dX10_plan_65 (by decide) (fun c_33 => ?_) (fun c_33 => ?_)
                    · have nc_33 := lt_i c_33
                      refine lv_iconst (v := (-1)) hx hb dX10_plan_99 (by decide) ?_
                      exact M_i hx hb hr hlocks (x0_26, (0 : Int32), (a 4), (a 5), (a 6), (a 7), (a 14), (a 15), l47, l48, l49, l50) hP hD hK hS ⟨⟨_, rfl⟩, ⟨(0, -1, (i, a)), Or.inr ⟨hz2_3.1, Or.inr ⟨⟨nlt_le c_6, nlt_le c_11, nlt_le c_16, nlt_le c_21⟩, Or.inr ⟨hz2_31, Or.inr ⟨fun n9 h9 => (by obtain ⟨q9, h1, h2, h3⟩ := hgP; exact h3 n9 (by have h7 := lt_i c_33; rw [h1, nI_toInt (by omega)] at h7; omega)), rfl⟩⟩⟩⟩, hz2_28.2, fun _ => rfl, rfl, rfl, rfl, rfl, rfl, rfl, (by decide), (fun _ => rfl)⟩⟩ (by first | exact Nat.le_of_ble_eq_true rfl | (simp only [rm_X10_planK]; omega)) (by first | exact Nat.le_of_ble_eq_true rfl | (simp only [rm_X10_planK]; omega)) dX10_plan_100
                    · have nc_33 := nlt_i c_33
                      refine lv_aload_n hx hb dX10_plan_68 rfl (lv_at hl 1 rfl) ?_
                      refine lv_iload_n hx hb dX10_plan_69 rfl (lv_at hl 2 rfl) ?_
                      refine lv_iconst (v := 0) hx hb dX10_plan_70 (by decide) ?_
                      refine lv_iload hx hb dX10_plan_71 (lv_at hl 0 rfl) ?_
                      refine lv_iload_n hx hb dX10_plan_73 rfl (lv_at hl 3 rfl) ?_
                      refine lv_iload_n hx hb dX10_plan_74 rfl (lv_at hl 4 rfl) ?_
                      obtain ⟨q, hq1, hq2⟩ := pl_q hm c_33 (by omega)
                      refine M_V ⟨hx, hb, hml, hown, hts⟩ (X10_leadsX_all l dC dI sa g h0 b q 0 (va_up (va_up i 0 x0_26) 46 (0 : Int32)) (va_up (va_up (va_up (va_up a 47 l47) 48 l48) 49 l49) 50 l50) ck (0 : Int32) ii lw hg _ nI_0.symm (by rw [hq1]; exact congrArg nI (by omega)) (by omega) hc30 hwt) (cwV 5 hts gX10_plan_X10_leads rfl rfl rfl (by decide +kernel) ⟨(by first | exact Nat.le_of_ble_eq_true rfl | (simp only [rm_X10_leadsX, rm_X10_planK]; omega)), (by first | exact Nat.le_of_ble_eq_true rfl | (simp only [rm_X10_leadsX, rm_X10_planK]; omega))⟩) hP hD hK hS hA hev rfl rfl rfl rfl hl.1 rfl (Nat.le_of_ble_eq_true rfl) dX10_plan_75 ⟨(by first | exact Nat.le_of_ble_eq_true rfl | (simp only [rm_X10_planK]; omega)), (by first | exact Nat.le_of_ble_eq_true rfl | (simp only [rm_X10_planK]; omega))⟩ (fun r u H locs hw hP hD hS => ?_)
                      obtain ⟨y4_34, y5_35, y6_36, y7_37, y14_38, y15_39, y47_40, y48_41, y49_42, y50_43⟩ := u
                      have hw : ((r = some (.int 0) ∧ (¬ ldR q (a 4) (a 5) (a 6) (a 7) (a 13) (a 14) (a 15) ck.toNatClampNeg lw hg)) ∨ (r = some (.int 1) ∧ (ldR q (a 4) (a 5) (a 6) (a 7) (a 13) (a 14) (a 15) ck.toNatClampNeg lw hg))) ∧ (y4_34 = (a 4) ∧ y5_35 = (a 5) ∧ y6_36 = (a 6) ∧ y7_37 = (a 7) ∧ y14_38 = (a 14) ∧ y15_39 = (a 15) ∧ ∀ x9 : Nat, x9 < 26 * 0 → y50_43 x9 = l50 x9) := hw
                      obtain ⟨⟨rfl, hz2_45⟩ | ⟨rfl, hz2_45⟩, hw_44⟩ := hw
                      · have hP : va_P (dC, dI) vwCl (mw g h0 b (va_up (va_up i 0 x0_26) 46 (0 : Int32)) (va_up (va_up (va_up (va_up (va_up (va_up (va_up (va_up (va_up (va_up a 4 y4_34) 5 y5_35) 6 y6_36) 7 y7_37) 14 y14_38) 15 y15_39) 47 y47_40) 48 y48_41) 49 y49_42) 50 y50_43)) _ := hP
                        have hD : va_D _ (mw g h0 b (va_up (va_up i 0 x0_26) 46 (0 : Int32)) (va_up (va_up (va_up (va_up (va_up (va_up (va_up (va_up (va_up (va_up a 4 y4_34) 5 y5_35) 6 y6_36) 7 y7_37) 14 y14_38) 15 y15_39) 47 y47_40) 48 y48_41) 49 y49_42) 50 y50_43)) := hD
                        refine W.eq (g2 := F0 m 78 ls [.int 0]) rfl ?_
                        obtain ⟨hs4, hs5, hs6, hs7, hs14, hs15, -⟩ := hw_44
                        subst hs4
                        subst hs5
                        subst hs6
                        subst hs7
                        subst hs14
                        subst hs15
                        have hP : va_P (dC, dI) vwCl (mw g h0 b (va_up (va_up i 0 x0_26) 46 (0 : Int32)) (va_up (va_up (va_up (va_up a 47 y47_40) 48 y48_41) 49 y49_42) 50 y50_43)) _ := hP
                        have hD : va_D _ (mw g h0 b (va_up (va_up i 0 x0_26) 46 (0 : Int32)) (va_up (va_up (va_up (va_up a 47 y47_40) 48 y48_41) 49 y49_42) 50 y50_43)) := hD
                        refine lv_if_ne (tgt := 84) hx hb dX10_plan_78 (by decide) (fun c_46 => absurd c_46 (by decide)) (fun _ => ?_)
                        refine lv_goto (tgt := 93) hx hb dX10_plan_81 (by decide) ?_
                        refine lv_iinc (v := (ii + 1)) (lv' := [(5, .int (ii + 1)), (0, .ref h0), (1, .int ck), (2, .int lw), (3, .int hg), (4, .int mo)]) hx hb dX10_plan_93 hl (k := 0) rfl rfl (by decide) rfl (fun ls hl => ?_)
                        refine lv_goto (tgt := 61) hx hb dX10_plan_96 (by decide) ?_
                        exact ih (ii + 1) (a 4) (a 5) (a 6) (a 7) (a 14) (a 15) y47_40 y48_41 y49_42 y50_43 _ _ _ (pl_nx hm c_33 (by omega)) (⟨rfl, rfl, rfl, rfl, rfl, rfl⟩) (by obtain ⟨q9, h1, h2, h3⟩ := hgP; obtain rfl : q = q9 := (nI_eq (by omega) (by omega)).mp (hq1.symm.trans h1); exact ⟨q + 1, by rw [h1]; exact nI_1 q, by omega, fun k h9 => by rcases Nat.lt_succ_iff_lt_or_eq.mp h9 with h8 | h8; exact h3 k h8; rw [h8]; exact hz2_45⟩) hP hD hS (lv_sub hl [0, 1, 2, 3, 4, 5] rfl)
                      · have hP : va_P (dC, dI) vwCl (mw g h0 b (va_up (va_up i 0 x0_26) 46 (0 : Int32)) (va_up (va_up (va_up (va_up (va_up (va_up (va_up (va_up (va_up (va_up a 4 y4_34) 5 y5_35) 6 y6_36) 7 y7_37) 14 y14_38) 15 y15_39) 47 y47_40) 48 y48_41) 49 y49_42) 50 y50_43)) _ := hP
                        have hD : va_D _ (mw g h0 b (va_up (va_up i 0 x0_26) 46 (0 : Int32)) (va_up (va_up (va_up (va_up (va_up (va_up (va_up (va_up (va_up (va_up a 4 y4_34) 5 y5_35) 6 y6_36) 7 y7_37) 14 y14_38) 15 y15_39) 47 y47_40) 48 y48_41) 49 y49_42) 50 y50_43)) := hD
                        refine W.eq (g2 := F0 m 78 ls [.int 1]) rfl ?_
                        obtain ⟨hs4, hs5, hs6, hs7, hs14, hs15, -⟩ := hw_44
                        subst hs4
                        subst hs5
                        subst hs6
                        subst hs7
                        subst hs14
                        subst hs15
                        have hP : va_P (dC, dI) vwCl (mw g h0 b (va_up (va_up i 0 x0_26) 46 (0 : Int32)) (va_up (va_up (va_up (va_up a 47 y47_40) 48 y48_41) 49 y49_42) 50 y50_43)) _ := hP
                        have hD : va_D _ (mw g h0 b (va_up (va_up i 0 x0_26) 46 (0 : Int32)) (va_up (va_up (va_up (va_up a 47 y47_40) 48 y48_41) 49 y49_42) 50 y50_43)) := hD
                        refine lv_if_ne (tgt := 84) hx hb dX10_plan_78 (by decide) (fun _ => ?_) (fun c_47 => absurd c_47 (by decide))
                        refine lv_aload_n hx hb dX10_plan_84 rfl (lv_at hl 1 rfl) ?_
                        refine lv_iload hx hb dX10_plan_85 (lv_at hl 0 rfl) ?_
                        refine va_put (D := (dC, dI)) (ci := 10) (v := .int ii) (ty := .int) (C := RX10) (T := TX10) (N := 51) hx hb hts inw_X10_plan_10 tyX10 tyX10_ok nmX10 hown hK hP hD hS 0 rfl rfl 46 (by decide) (hts (.fieldLink RX10 346 "VatHouseModel" "kept" "I") (List.mem_of_getElem? (i := 1) (by exact rfl))) (fun _ h9 => h9) rfl (tyX10_ok 46 (by decide)) rfl rfl (Nat.le_of_ble_eq_true rfl) dX10_plan_87 (fun H locs hP hD hS => ?_)
                        have hP : va_P (dC, dI) vwCl (mw g h0 b (va_up (va_up i 0 x0_26) 46 ii) (va_up (va_up (va_up (va_up a 47 y47_40) 48 y48_41) 49 y49_42) 50 y50_43)) _ := hP
                        have hD : va_D _ (mw g h0 b (va_up (va_up i 0 x0_26) 46 ii) (va_up (va_up (va_up (va_up a 47 y47_40) 48 y48_41) 49 y49_42) 50 y50_43)) := hD
                        refine lv_iload hx hb dX10_plan_90 (lv_at hl 0 rfl) ?_
                        exact M_i hx hb hr hlocks (x0_26, ii, (a 4), (a 5), (a 6), (a 7), (a 14), (a 15), y47_40, y48_41, y49_42, y50_43) hP hD hK hS ⟨⟨_, rfl⟩, ⟨(0, nI q, (i, a)), Or.inr ⟨hz2_3.1, Or.inr ⟨⟨nlt_le c_6, nlt_le c_11, nlt_le c_16, nlt_le c_21⟩, Or.inr ⟨hz2_31, Or.inl ⟨q, (by have h7 := nlt_i c_33; rw [hq1, nI_toInt (by omega)] at h7; omega), hz2_45, (by obtain ⟨q9, h1, h2, h3⟩ := hgP; obtain rfl : q = q9 := (nI_eq (by omega) (by omega)).mp (hq1.symm.trans h1); exact h3), rfl⟩⟩⟩⟩, hz2_28.2, fun _ => by rw [hq1], rfl, rfl, rfl, rfl, rfl, rfl, (by rw [hq1, nI_toInt (by omega)]; omega), (fun h9 => by injection h9 with h9; injection h9 with h9; rw [hq1] at h9; exact absurd h9 (nI_m1 (by omega)))⟩⟩ (by first | exact Nat.le_of_ble_eq_true rfl | (simp only [rm_X10_planK]; omega)) (by first | exact Nat.le_of_ble_eq_true rfl | (simp only [rm_X10_planK]; omega)) dX10_plan_92
                exact lp 5 (0 : Int32) (a 4) (a 5) (a 6) (a 7) (a 14) (a 15) (a 47) (a 48) (a 49) (a 50) _ _ _ (⟨0, nI_0.symm, by omega, by omega⟩) (⟨rfl, rfl, rfl, rfl, rfl, rfl⟩) (⟨0, nI_0.symm, by omega, fun k h9 => absurd h9 (Nat.not_lt_zero _)⟩) hP hD hS (lv_sub hl [0, 1, 2, 3, 4, 5] rfl)
              · have hP : va_P (dC, dI) vwCl (mw g h0 b (va_up (va_up i 0 x0_26) 46 (0 : Int32)) a) _ := hP
                have hD : va_D _ (mw g h0 b (va_up (va_up i 0 x0_26) 46 (0 : Int32)) a) := hD
                refine W.eq (g2 := F0 m 53 ls [.int 1]) rfl ?_
                refine lv_if_eq (tgt := 58) hx hb dX10_plan_53 (by decide) (fun c_48 => absurd c_48 (by decide)) (fun _ => ?_)
                refine lv_iconst (v := (-1)) hx hb dX10_plan_56 (by decide) ?_
                exact M_i hx hb hr hlocks (x0_26, (0 : Int32), (a 4), (a 5), (a 6), (a 7), (a 14), (a 15), (a 47), (a 48), (a 49), (a 50)) hP hD hK hS ⟨⟨_, rfl⟩, ⟨(0, -1, (i, a)), Or.inr ⟨hz2_3.1, Or.inr ⟨⟨nlt_le c_6, nlt_le c_11, nlt_le c_16, nlt_le c_21⟩, Or.inl ⟨hz2_31, rfl⟩⟩⟩, hz2_28.2, fun _ => rfl, rfl, rfl, rfl, rfl, rfl, rfl, (by decide), (fun _ => rfl)⟩⟩ (by first | exact Nat.le_of_ble_eq_true rfl | (simp only [rm_X10_planK]; omega)) (by first | exact Nat.le_of_ble_eq_true rfl | (simp only [rm_X10_planK]; omega)) dX10_plan_57

noncomputable abbrev rm_X10_plannedK : Room := { frames := 1, cells := 0, slots := 0, locals := 22 }
set_option maxHeartbeats 1000000 in
set_option maxRecDepth 100000 in
theorem m_X10_plannedK (l : Launch) (dC : Nat → ClassId) (dI : Nat → Nat → Nat) (sa : Nat → Nat) (g : Nat → Nat) (h0 : Nat) (b : Nat → Nat) (i : Nat → Int32) (a : Nat → Nat → Int32) (ix : Int32) (wt : Int32) (sz : Nat) (hkp : (i 46).toInt ≤ 3) : CT l dC dI sa yX10_planned wsX10_planned rm_X10_plannedK [.ref h0, .int ix, .int wt] (mw g h0 b i a) (tyM g) sz (fun (r : Option Value) (x0 : Int32) => (∃ z : Int32, r = some (.int z)) ∧ ((i 46) = 0 → x0 = 1)) (fun (x0 : Int32) => mw g h0 b (va_up i 0 x0) a) (fun _ => []) 0 0 := by
  refine CT.start (cc := cX10_planned) (maxL := 3) (ret := (some .int)) (by decide) rfl (Nat.le_of_ble_eq_true rfl) ?_
  intro p e s m below meth c ls hst hP hK hD hev hS hl
  obtain ⟨hx, hb, hr, hml, hts, hown, hlocks, hin⟩ := hst
  have hown : s.vm.findClass RX10 = some m.cls := hown
  have hA : ∀ q : Nat, s.heap.size ≤ q → va_A (mw g h0 b i a) s.heap.size q := fun _ h => Or.inr h
  have hl : lv_has ls 3 [(0, .ref h0), (1, .int ix), (2, .int wt)] := hl
  refine lv_aload_n hx hb dX10_planned_0 rfl (lv_at hl 0 rfl) ?_
  refine lv_iconst (v := 0) hx hb dX10_planned_1 (by decide) ?_
  refine va_put (D := (dC, dI)) (ci := 10) (v := .int 0) (ty := .int) (C := RX10) (T := TX10) (N := 51) hx hb hts inw_X10_planned_10 tyX10 tyX10_ok nmX10 hown hK hP hD hS 0 rfl rfl 0 (by decide) (hts (.fieldLink RX10 105 "VatHouseModel" "thrown" "I") (List.mem_of_getElem? (i := 1) (by exact rfl))) (fun _ h9 => h9) rfl (tyX10_ok 0 (by decide)) rfl rfl (Nat.le_of_ble_eq_true rfl) dX10_planned_2 (fun H locs hP hD hS => ?_)
  have hP : va_P (dC, dI) vwCl (mw g h0 b (va_up i 0 (0 : Int32)) a) _ := hP
  have hD : va_D _ (mw g h0 b (va_up i 0 (0 : Int32)) a) := hD
  refine lv_aload_n hx hb dX10_planned_5 rfl (lv_at hl 0 rfl) ?_
  refine lv_iload_n hx hb dX10_planned_6 rfl (lv_at hl 1 rfl) ?_
  refine lv_if_lt (tgt := 31) hx hb dX10_planned_7 (by decide) (fun c_1 => ?_) (fun c_1 => ?_)
  · have nc_1 := lt_i c_1
    have lc_1 : (0 : Int32).toInt = 0 := by decide
    refine lv_iconst (v := 0) hx hb dX10_planned_31 (by decide) ?_
    refine lv_iconst (v := 1) hx hb dX10_planned_32 (by decide) ?_
    refine M_V ⟨hx, hb, hml, hown, hts⟩ (m_X10_rightX l dC dI sa g h0 b (va_up i 0 (0 : Int32)) a (0 : Int32) (1 : Int32) _ (by decide) rfl) (cwV 2 hts gX10_planned_X10_right rfl rfl rfl (by decide +kernel) ⟨Nat.le_of_ble_eq_true rfl, Nat.le_of_ble_eq_true rfl⟩) hP hD hK hS hA hev rfl rfl rfl rfl hl.1 rfl (Nat.le_of_ble_eq_true rfl) dX10_planned_33 ⟨(Nat.le_of_ble_eq_true rfl), (Nat.le_of_ble_eq_true rfl)⟩ (fun r u H locs hw hP hD hS => ?_)
    obtain ⟨x0_2, rfl⟩ : ∃ z, z = u := ⟨_, rfl⟩
    have hw : ((r = some (.int 0) ∧ ((0 : Int32) = 0 ∧ x0_2 = (1 : Int32))) ∨ (r = some (.int 1) ∧ (¬ (0 : Int32) = 0 ∧ x0_2 = 0))) ∧ (True) := hw
    obtain ⟨⟨rfl, hz2_4⟩ | ⟨rfl, hz2_4⟩, hw_3⟩ := hw
    · have hP : va_P (dC, dI) vwCl (mw g h0 b (va_up i 0 x0_2) a) _ := hP
      have hD : va_D _ (mw g h0 b (va_up i 0 x0_2) a) := hD
      refine W.eq (g2 := F0 m 36 ls [.int 0]) rfl ?_
      refine lv_if_ne (tgt := 41) hx hb dX10_planned_36 (by decide) (fun c_5 => absurd c_5 (by decide)) (fun _ => ?_)
      refine lv_iconst (v := 0) hx hb dX10_planned_39 (by decide) ?_
      exact M_i hx hb hr hlocks (x0_2) hP hD hK hS ⟨⟨_, rfl⟩, (fun _ => hz2_4.2)⟩ (Nat.le_of_ble_eq_true rfl) (Nat.le_of_ble_eq_true rfl) dX10_planned_40
    · have hP : va_P (dC, dI) vwCl (mw g h0 b (va_up i 0 x0_2) a) _ := hP
      have hD : va_D _ (mw g h0 b (va_up i 0 x0_2) a) := hD
      refine W.eq (g2 := F0 m 36 ls [.int 1]) rfl ?_
      exact absurd rfl hz2_4.1
  · have nc_1 := nlt_i c_1
    have lc_1 : (0 : Int32).toInt = 0 := by decide
    refine lv_iload_n hx hb dX10_planned_10 rfl (lv_at hl 1 rfl) ?_
    refine lv_aload_n hx hb dX10_planned_11 rfl (lv_at hl 0 rfl) ?_
    refine va_get (D := (dC, dI)) (ci := 10) (v := .int (i 46)) (C := RX10) (T := TX10) (N := 51) hx hb hts inw_X10_planned_10 hown hK hP 0 rfl rfl 46 (by decide) (hts (.fieldLink RX10 346 "VatHouseModel" "kept" "I") (List.mem_of_getElem? (i := 2) (by exact rfl))) (fun _ h9 => h9) rfl dX10_planned_12 ?_
    refine lv_icmp_ge (tgt := 31) hx hb dX10_planned_15 (by decide) (fun c_6 => ?_) (fun c_6 => ?_)
    · have nc_6 := le_i c_6
      refine lv_iconst (v := 0) hx hb dX10_planned_31 (by decide) ?_
      refine lv_iconst (v := 1) hx hb dX10_planned_32 (by decide) ?_
      refine M_V ⟨hx, hb, hml, hown, hts⟩ (m_X10_rightX l dC dI sa g h0 b (va_up i 0 (0 : Int32)) a (0 : Int32) (1 : Int32) _ (by decide) rfl) (cwV 2 hts gX10_planned_X10_right rfl rfl rfl (by decide +kernel) ⟨Nat.le_of_ble_eq_true rfl, Nat.le_of_ble_eq_true rfl⟩) hP hD hK hS hA hev rfl rfl rfl rfl hl.1 rfl (Nat.le_of_ble_eq_true rfl) dX10_planned_33 ⟨(Nat.le_of_ble_eq_true rfl), (Nat.le_of_ble_eq_true rfl)⟩ (fun r u H locs hw hP hD hS => ?_)
      obtain ⟨x0_7, rfl⟩ : ∃ z, z = u := ⟨_, rfl⟩
      have hw : ((r = some (.int 0) ∧ ((0 : Int32) = 0 ∧ x0_7 = (1 : Int32))) ∨ (r = some (.int 1) ∧ (¬ (0 : Int32) = 0 ∧ x0_7 = 0))) ∧ (True) := hw
      obtain ⟨⟨rfl, hz2_9⟩ | ⟨rfl, hz2_9⟩, hw_8⟩ := hw
      · have hP : va_P (dC, dI) vwCl (mw g h0 b (va_up i 0 x0_7) a) _ := hP
        have hD : va_D _ (mw g h0 b (va_up i 0 x0_7) a) := hD
        refine W.eq (g2 := F0 m 36 ls [.int 0]) rfl ?_
        refine lv_if_ne (tgt := 41) hx hb dX10_planned_36 (by decide) (fun c_10 => absurd c_10 (by decide)) (fun _ => ?_)
        refine lv_iconst (v := 0) hx hb dX10_planned_39 (by decide) ?_
        exact M_i hx hb hr hlocks (x0_7) hP hD hK hS ⟨⟨_, rfl⟩, (fun _ => hz2_9.2)⟩ (Nat.le_of_ble_eq_true rfl) (Nat.le_of_ble_eq_true rfl) dX10_planned_40
      · have hP : va_P (dC, dI) vwCl (mw g h0 b (va_up i 0 x0_7) a) _ := hP
        have hD : va_D _ (mw g h0 b (va_up i 0 x0_7) a) := hD
        refine W.eq (g2 := F0 m 36 ls [.int 1]) rfl ?_
        exact absurd rfl hz2_9.1
    · have nc_6 := nle_i c_6
      refine lv_iload_n hx hb dX10_planned_18 rfl (lv_at hl 2 rfl) ?_
      refine lv_if_lt (tgt := 31) hx hb dX10_planned_19 (by decide) (fun c_11 => ?_) (fun c_11 => ?_)
      · have nc_11 := lt_i c_11
        have lc_11 : (0 : Int32).toInt = 0 := by decide
        refine lv_iconst (v := 0) hx hb dX10_planned_31 (by decide) ?_
        refine lv_iconst (v := 1) hx hb dX10_planned_32 (by decide) ?_
        refine M_V ⟨hx, hb, hml, hown, hts⟩ (m_X10_rightX l dC dI sa g h0 b (va_up i 0 (0 : Int32)) a (0 : Int32) (1 : Int32) _ (by decide) rfl) (cwV 2 hts gX10_planned_X10_right rfl rfl rfl (by decide +kernel) ⟨Nat.le_of_ble_eq_true rfl, Nat.le_of_ble_eq_true rfl⟩) hP hD hK hS hA hev rfl rfl rfl rfl hl.1 rfl (Nat.le_of_ble_eq_true rfl) dX10_planned_33 ⟨(Nat.le_of_ble_eq_true rfl), (Nat.le_of_ble_eq_true rfl)⟩ (fun r u H locs hw hP hD hS => ?_)
        obtain ⟨x0_12, rfl⟩ : ∃ z, z = u := ⟨_, rfl⟩
        have hw : ((r = some (.int 0) ∧ ((0 : Int32) = 0 ∧ x0_12 = (1 : Int32))) ∨ (r = some (.int 1) ∧ (¬ (0 : Int32) = 0 ∧ x0_12 = 0))) ∧ (True) := hw
        obtain ⟨⟨rfl, hz2_14⟩ | ⟨rfl, hz2_14⟩, hw_13⟩ := hw
        · have hP : va_P (dC, dI) vwCl (mw g h0 b (va_up i 0 x0_12) a) _ := hP
          have hD : va_D _ (mw g h0 b (va_up i 0 x0_12) a) := hD
          refine W.eq (g2 := F0 m 36 ls [.int 0]) rfl ?_
          refine lv_if_ne (tgt := 41) hx hb dX10_planned_36 (by decide) (fun c_15 => absurd c_15 (by decide)) (fun _ => ?_)
          refine lv_iconst (v := 0) hx hb dX10_planned_39 (by decide) ?_
          exact M_i hx hb hr hlocks (x0_12) hP hD hK hS ⟨⟨_, rfl⟩, (fun _ => hz2_14.2)⟩ (Nat.le_of_ble_eq_true rfl) (Nat.le_of_ble_eq_true rfl) dX10_planned_40
        · have hP : va_P (dC, dI) vwCl (mw g h0 b (va_up i 0 x0_12) a) _ := hP
          have hD : va_D _ (mw g h0 b (va_up i 0 x0_12) a) := hD
          refine W.eq (g2 := F0 m 36 ls [.int 1]) rfl ?_
          exact absurd rfl hz2_14.1
      · have nc_11 := nlt_i c_11
        have lc_11 : (0 : Int32).toInt = 0 := by decide
        refine lv_iload_n hx hb dX10_planned_22 rfl (lv_at hl 2 rfl) ?_
        refine lv_iconst (v := 2) hx hb dX10_planned_23 (by decide) ?_
        refine lv_icmp_gt (tgt := 31) hx hb dX10_planned_24 (by decide) (fun c_16 => ?_) (fun c_16 => ?_)
        · have nc_16 := lt_i c_16
          have lc_16 : (2 : Int32).toInt = 2 := by decide
          refine lv_iconst (v := 0) hx hb dX10_planned_31 (by decide) ?_
          refine lv_iconst (v := 1) hx hb dX10_planned_32 (by decide) ?_
          refine M_V ⟨hx, hb, hml, hown, hts⟩ (m_X10_rightX l dC dI sa g h0 b (va_up i 0 (0 : Int32)) a (0 : Int32) (1 : Int32) _ (by decide) rfl) (cwV 2 hts gX10_planned_X10_right rfl rfl rfl (by decide +kernel) ⟨Nat.le_of_ble_eq_true rfl, Nat.le_of_ble_eq_true rfl⟩) hP hD hK hS hA hev rfl rfl rfl rfl hl.1 rfl (Nat.le_of_ble_eq_true rfl) dX10_planned_33 ⟨(Nat.le_of_ble_eq_true rfl), (Nat.le_of_ble_eq_true rfl)⟩ (fun r u H locs hw hP hD hS => ?_)
          obtain ⟨x0_17, rfl⟩ : ∃ z, z = u := ⟨_, rfl⟩
          have hw : ((r = some (.int 0) ∧ ((0 : Int32) = 0 ∧ x0_17 = (1 : Int32))) ∨ (r = some (.int 1) ∧ (¬ (0 : Int32) = 0 ∧ x0_17 = 0))) ∧ (True) := hw
          obtain ⟨⟨rfl, hz2_19⟩ | ⟨rfl, hz2_19⟩, hw_18⟩ := hw
          · have hP : va_P (dC, dI) vwCl (mw g h0 b (va_up i 0 x0_17) a) _ := hP
            have hD : va_D _ (mw g h0 b (va_up i 0 x0_17) a) := hD
            refine W.eq (g2 := F0 m 36 ls [.int 0]) rfl ?_
            refine lv_if_ne (tgt := 41) hx hb dX10_planned_36 (by decide) (fun c_20 => absurd c_20 (by decide)) (fun _ => ?_)
            refine lv_iconst (v := 0) hx hb dX10_planned_39 (by decide) ?_
            exact M_i hx hb hr hlocks (x0_17) hP hD hK hS ⟨⟨_, rfl⟩, (fun _ => hz2_19.2)⟩ (Nat.le_of_ble_eq_true rfl) (Nat.le_of_ble_eq_true rfl) dX10_planned_40
          · have hP : va_P (dC, dI) vwCl (mw g h0 b (va_up i 0 x0_17) a) _ := hP
            have hD : va_D _ (mw g h0 b (va_up i 0 x0_17) a) := hD
            refine W.eq (g2 := F0 m 36 ls [.int 1]) rfl ?_
            exact absurd rfl hz2_19.1
        · have nc_16 := nlt_i c_16
          have lc_16 : (2 : Int32).toInt = 2 := by decide
          refine lv_iconst (v := 1) hx hb dX10_planned_27 (by decide) ?_
          refine lv_goto (tgt := 32) hx hb dX10_planned_28 (by decide) ?_
          refine lv_iconst (v := 1) hx hb dX10_planned_32 (by decide) ?_
          refine M_V ⟨hx, hb, hml, hown, hts⟩ (m_X10_rightX l dC dI sa g h0 b (va_up i 0 (0 : Int32)) a (1 : Int32) (1 : Int32) _ (by decide) rfl) (cwV 2 hts gX10_planned_X10_right rfl rfl rfl (by decide +kernel) ⟨Nat.le_of_ble_eq_true rfl, Nat.le_of_ble_eq_true rfl⟩) hP hD hK hS hA hev rfl rfl rfl rfl hl.1 rfl (Nat.le_of_ble_eq_true rfl) dX10_planned_33 ⟨(Nat.le_of_ble_eq_true rfl), (Nat.le_of_ble_eq_true rfl)⟩ (fun r u H locs hw hP hD hS => ?_)
          obtain ⟨x0_21, rfl⟩ : ∃ z, z = u := ⟨_, rfl⟩
          have hw : ((r = some (.int 0) ∧ ((1 : Int32) = 0 ∧ x0_21 = (1 : Int32))) ∨ (r = some (.int 1) ∧ (¬ (1 : Int32) = 0 ∧ x0_21 = 0))) ∧ (True) := hw
          obtain ⟨⟨rfl, hz2_23⟩ | ⟨rfl, hz2_23⟩, hw_22⟩ := hw
          · have hP : va_P (dC, dI) vwCl (mw g h0 b (va_up i 0 x0_21) a) _ := hP
            have hD : va_D _ (mw g h0 b (va_up i 0 x0_21) a) := hD
            refine W.eq (g2 := F0 m 36 ls [.int 0]) rfl ?_
            exact absurd hz2_23.1 (by decide)
          · have hP : va_P (dC, dI) vwCl (mw g h0 b (va_up i 0 x0_21) a) _ := hP
            have hD : va_D _ (mw g h0 b (va_up i 0 x0_21) a) := hD
            refine W.eq (g2 := F0 m 36 ls [.int 1]) rfl ?_
            refine lv_if_ne (tgt := 41) hx hb dX10_planned_36 (by decide) (fun _ => ?_) (fun c_24 => absurd c_24 (by decide))
            refine lv_iload_n hx hb dX10_planned_41 rfl (lv_at hl 2 rfl) ?_
            refine lv_if_ne (tgt := 54) hx hb dX10_planned_42 (by decide) (fun c_25 => ?_) (fun c_25 => ?_)
            · have nc_25 := ne_i c_25
              have lc_25 : (0 : Int32).toInt = 0 := by decide
              refine lv_iload_n hx hb dX10_planned_54 rfl (lv_at hl 2 rfl) ?_
              refine lv_iconst (v := 1) hx hb dX10_planned_55 (by decide) ?_
              refine lv_icmp_ne (tgt := 68) hx hb dX10_planned_56 (by decide) (fun c_26 => ?_) (fun c_26 => ?_)
              · have nc_26 := ne_i c_26
                have lc_26 : (1 : Int32).toInt = 1 := by decide
                refine lv_aload_n hx hb dX10_planned_68 rfl (lv_at hl 0 rfl) ?_
                refine va_get (D := (dC, dI)) (ci := 10) (v := .ref (b 49)) (C := RX10) (T := TX10) (N := 51) hx hb hts inw_X10_planned_10 hown hK hP 0 rfl rfl 49 (by decide) (hts (.fieldLink RX10 99 "VatHouseModel" "keptShade" "[I") (List.mem_of_getElem? (i := 5) (by exact rfl))) (fun _ h9 => h9) rfl dX10_planned_69 ?_
                refine lv_iload_n hx hb dX10_planned_72 rfl (lv_at hl 1 rfl) ?_
                refine va_iald hx hb hK hP 28 27 rfl rfl (in_i (by omega) (by omega)) dX10_planned_73 ?_
                refine lv_topi (fun z_27 ez_27 => ?_)
                have ez_27 : z_27 = (a 49) ix.toNatClampNeg := ez_27
                exact M_i hx hb hr hlocks (x0_21) hP hD hK hS ⟨⟨_, rfl⟩, (fun h9 => by have h8 := nc_6; have h7 := nc_1; rw [h9] at h8; omega)⟩ (Nat.le_of_ble_eq_true rfl) (Nat.le_of_ble_eq_true rfl) dX10_planned_74
              · have nc_26 := eq_i c_26
                have lc_26 : (1 : Int32).toInt = 1 := by decide
                refine lv_aload_n hx hb dX10_planned_59 rfl (lv_at hl 0 rfl) ?_
                refine va_get (D := (dC, dI)) (ci := 10) (v := .ref (b 48)) (C := RX10) (T := TX10) (N := 51) hx hb hts inw_X10_planned_10 hown hK hP 0 rfl rfl 48 (by decide) (hts (.fieldLink RX10 96 "VatHouseModel" "keptMinutes" "[I") (List.mem_of_getElem? (i := 4) (by exact rfl))) (fun _ h9 => h9) rfl dX10_planned_60 ?_
                refine lv_iload_n hx hb dX10_planned_63 rfl (lv_at hl 1 rfl) ?_
                refine va_iald hx hb hK hP 27 26 rfl rfl (in_i (by omega) (by omega)) dX10_planned_64 ?_
                refine lv_topi (fun z_28 ez_28 => ?_)
                have ez_28 : z_28 = (a 48) ix.toNatClampNeg := ez_28
                refine lv_goto (tgt := 74) hx hb dX10_planned_65 (by decide) ?_
                exact M_i hx hb hr hlocks (x0_21) hP hD hK hS ⟨⟨_, rfl⟩, (fun h9 => by have h8 := nc_6; have h7 := nc_1; rw [h9] at h8; omega)⟩ (Nat.le_of_ble_eq_true rfl) (Nat.le_of_ble_eq_true rfl) dX10_planned_74
            · have nc_25 := eq_i c_25
              have lc_25 : (0 : Int32).toInt = 0 := by decide
              refine lv_aload_n hx hb dX10_planned_45 rfl (lv_at hl 0 rfl) ?_
              refine va_get (D := (dC, dI)) (ci := 10) (v := .ref (b 47)) (C := RX10) (T := TX10) (N := 51) hx hb hts inw_X10_planned_10 hown hK hP 0 rfl rfl 47 (by decide) (hts (.fieldLink RX10 93 "VatHouseModel" "keptVat" "[I") (List.mem_of_getElem? (i := 3) (by exact rfl))) (fun _ h9 => h9) rfl dX10_planned_46 ?_
              refine lv_iload_n hx hb dX10_planned_49 rfl (lv_at hl 1 rfl) ?_
              refine va_iald hx hb hK hP 26 25 rfl rfl (in_i (by omega) (by omega)) dX10_planned_50 ?_
              refine lv_topi (fun z_29 ez_29 => ?_)
              have ez_29 : z_29 = (a 47) ix.toNatClampNeg := ez_29
              refine lv_goto (tgt := 74) hx hb dX10_planned_51 (by decide) ?_
              exact M_i hx hb hr hlocks (x0_21) hP hD hK hS ⟨⟨_, rfl⟩, (fun h9 => by have h8 := nc_6; have h7 := nc_1; rw [h9] at h8; omega)⟩ (Nat.le_of_ble_eq_true rfl) (Nat.le_of_ble_eq_true rfl) dX10_planned_74
