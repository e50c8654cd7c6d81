theorem rc_endT {tt : Nat → Int32} {ln d : Nat} {q : SG} {T : TT} {P Q : Prop} {Z : SG → TT → Prop} {W : SG → TT → Prop} {x22 x23 x24 : Int32} (h : (P ∧ ∃ rn : SG, ST (Kp tt ln) (Vp tt ln) (nq tt ln) d (if (0 : Int32) = 0 then (0 : Int32) else 125) q rn ∧ MO rn x23 x24) ∨ (Q ∧ ∃ (r1 : SG) (TN : TT), EvT (Kp tt ln) (Vp tt ln) (nq tt ln) 0 d 0 (q, T) (r1, TN) ∧ Z r1 TN ∧ MI tt ln (gpa (Kp tt ln) (nq tt ln) (if (0 : Int32) = 0 then (0 : Int32) else 125) r1) x22 x23 x24 ∧ W r1 TN)) : ∃ (rn r1 : SG), Ev (Kp tt ln) (Vp tt ln) (nq tt ln) 0 d q r1 ∧ rn = gpa (Kp tt ln) (nq tt ln) 0 r1 ∧ x23 = rn.2.2.1 ∧ x24 = rn.2.2.2 := by
  rw [if_pos rfl] at h
  rcases h with ⟨-, rn, ⟨r1, h1, h2⟩, h3⟩ | ⟨-, r1, TN, h1, -, h3, -⟩
  · exact ⟨rn, r1, h1, h2, h3.1, h3.2.1⟩
  · exact ⟨_, r1, h1.ev, rfl, h3.1.trans h3.2.1.symm, h3.2.2.1⟩

noncomputable abbrev rm_X10_recipeT : Room := { frames := 96, cells := 0, slots := 0, locals := 2744 }
set_option maxHeartbeats 2000000 in
set_option maxRecDepth 100000 in
theorem m_X10_recipeT (l : Launch) (dC : Nat → ClassId) (dI : Nat → Nat → Nat) (sa : Nat → Nat) (g : Nat → Nat) (h0 : Nat) (b : Nat → Nat) (i : Nat → Int32) (a : Nat → Nat → Int32) (rr : Int32) (nn : Int32) (sz : Nat) (hT2 : 0 ≤ (i 20).toInt ∧ (i 20).toInt ≤ 1500) (hBI : BI (a 26) (a 27) (a 31) (a 32) (a 33) (a 34) (a 35)) : CT l dC dI sa yX10_recipe wsX10_recipe rm_X10_recipeT [.ref h0, .int rr, .int nn] (mw g h0 b i a) (tyM g) sz (fun (r : Option Value) (u : Int32 × Int32 × Int32 × Int32 × Int32 × Int32 × Int32 × Int32 × Int32 × Int32 × (Nat → Int32) × (Nat → Int32) × (Nat → Int32) × (Nat → Int32) × (Nat → Int32) × (Nat → Int32) × (Nat → Int32) × (Nat → Int32) × (Nat → Int32) × (Nat → Int32)) => match u with | (x0, x20, x21, x22, x23, x24, x25, x36, x37, x38, y26, y27, y28, y29, y30, y31, y32, y33, y34, y35) => (∃ z : Int32, r = some (.int z)) ∧ (((0 ≤ x20.toInt ∧ x20.toInt ≤ 1500) ∧ BI y26 y27 y31 y32 y33 y34 y35) ∧ ((¬ Cq rr nn (i 20) ∧ x0 = 1 ∧ x20 = (i 20) ∧ x23 = (i 23) ∧ x24 = (i 24) ∧ y34 = (a 34) ∧ y35 = (a 35) ∧ x37 = (i 37) ∧ y26 = (a 26) ∧ y27 = (a 27) ∧ y28 = (a 28) ∧ y29 = (a 29) ∧ y30 = (a 30) ∧ y31 = (a 31) ∧ y32 = (a 32) ∧ y33 = (a 33)) ∨ (Cq rr nn (i 20) ∧ x20 = 0 ∧ x0 = 0 ∧ ∃ (ln : Nat) (r1 : SG), nn = nI ln ∧ ln ≤ 1500 ∧ Ev (Kp (a 19) ln) (Vp (a 19) ln) (nq (a 19) ln) 0 0 (sk (a 19) ln 0, 0, 0, -1) r1 ∧ x23 = (gpa (Kp (a 19) ln) (nq (a 19) ln) 0 r1).2.2.1 ∧ x24 = (gpa (Kp (a 19) ln) (nq (a 19) ln) 0 r1).2.2.2 ∧ r = some (.int x23) ∧ ((¬ x23 = 0 ∧ y34 = (a 34) ∧ x37 = (i 37) ∧ BK8 (a 26) (a 27) (a 28) (a 29) (a 30) (a 31) (a 32) (a 33) y26 y27 y28 y29 y30 y31 y32 y33) ∨ (x23 = 0 ∧ ∃ TN : TT, EvT (Kp (a 19) ln) (Vp (a 19) ln) (nq (a 19) ln) 0 0 0 ((sk (a 19) ln 0, 0, 0, -1), (fun _ _ => 0)) (r1, TN) ∧ x37 = nI r1.2.1 ∧ y34 = upd (a 34) rr.toNatClampNeg (fiN rr.toNatClampNeg r1.2.1) ∧ TRr (Kp (a 19) ln) (Vp (a 19) ln) (nq (a 19) ln) TN (300 * rr.toNatClampNeg) r1.2.1 y26 y27 y28 y29 y30 y31 y32 y33 ∧ BKO rr.toNatClampNeg (a 26) (a 27) (a 28) (a 29) (a 30) (a 31) (a 32) (a 33) y26 y27 y28 y29 y30 y31 y32 y33)))))) (fun (u : Int32 × Int32 × Int32 × Int32 × Int32 × Int32 × Int32 × Int32 × Int32 × Int32 × (Nat → Int32) × (Nat → Int32) × (Nat → Int32) × (Nat → Int32) × (Nat → Int32) × (Nat → Int32) × (Nat → Int32) × (Nat → Int32) × (Nat → Int32) × (Nat → Int32)) => match u with | (x0, x20, x21, x22, x23, x24, x25, x36, x37, x38, y26, y27, y28, y29, y30, y31, y32, y33, y34, y35) => mw g h0 b (va_up (va_up (va_up (va_up (va_up (va_up (va_up (va_up (va_up (va_up i 0 x0) 20 x20) 21 x21) 22 x22) 23 x23) 24 x24) 25 x25) 36 x36) 37 x37) 38 x38) (va_up (va_up (va_up (va_up (va_up (va_up (va_up (va_up (va_up (va_up a 26 y26) 27 y27) 28 y28) 29 y29) 30 y30) 31 y31) 32 y32) 33 y33) 34 y34) 35 y35)) (fun _ => []) 0 0 := by
  refine CT.start (cc := cX10_recipe) (maxL := 6) (ret := (some .int)) (by decide) rfl (Nat.le_of_ble_eq_true rfl) ?_
  intro p e s m below meth c ls hst hP hK hD hev hS hl
  obtain ⟨hx, hb, hr, hml, hts, hown, hlocks, hin⟩ := hst
  have hown : s.vm.findClass RX10 = some m.cls := hown
  have hA : ∀ q : Nat, s.heap.size ≤ q → va_A (mw g h0 b i a) s.heap.size q := fun _ h => Or.inr h
  have hl : lv_has ls 6 [(0, .ref h0), (1, .int rr), (2, .int nn)] := hl
  refine lv_aload_n hx hb dX10_recipe_0 rfl (lv_at hl 0 rfl) ?_
  refine lv_iconst (v := 0) hx hb dX10_recipe_1 (by decide) ?_
  refine va_put (D := (dC, dI)) (ci := 10) (v := .int 0) (ty := .int) (C := RX10) (T := TX10) (N := 51) hx hb hts inw_X10_recipe_10 tyX10 tyX10_ok nmX10 hown hK hP hD hS 0 rfl rfl 0 (by decide) (hts (.fieldLink RX10 105 "VatHouseModel" "thrown" "I") (List.mem_of_getElem? (i := 1) (by exact rfl))) (fun _ h9 => h9) rfl (tyX10_ok 0 (by decide)) rfl rfl (Nat.le_of_ble_eq_true rfl) dX10_recipe_2 (fun H locs hP hD hS => ?_)
  have hP : va_P (dC, dI) vwCl (mw g h0 b (va_up i 0 (0 : Int32)) a) _ := hP
  have hD : va_D _ (mw g h0 b (va_up i 0 (0 : Int32)) a) := hD
  refine lv_aload_n hx hb dX10_recipe_5 rfl (lv_at hl 0 rfl) ?_
  refine lv_iload_n hx hb dX10_recipe_6 rfl (lv_at hl 1 rfl) ?_
  refine lv_if_lt (tgt := 32) hx hb dX10_recipe_7 (by decide) (fun c_1 => ?_) (fun c_1 => ?_)
  · have nc_1 := lt_i c_1
    have lc_1 : (0 : Int32).toInt = 0 := by decide
    refine lv_iconst (v := 0) hx hb dX10_recipe_32 (by decide) ?_
    refine lv_iconst (v := 1) hx hb dX10_recipe_33 (by decide) ?_
    refine M_V ⟨hx, hb, hml, hown, hts⟩ (m_X10_rightX l dC dI sa g h0 b (va_up i 0 (0 : Int32)) a (0 : Int32) (1 : Int32) _ (by decide) rfl) (cwV 2 hts gX10_recipe_X10_right rfl rfl rfl (by decide +kernel) ⟨Nat.le_of_ble_eq_true rfl, Nat.le_of_ble_eq_true rfl⟩) hP hD hK hS hA hev rfl rfl rfl rfl hl.1 rfl (Nat.le_of_ble_eq_true rfl) dX10_recipe_34 ⟨(Nat.le_of_ble_eq_true rfl), (Nat.le_of_ble_eq_true rfl)⟩ (fun r u H locs hw hP hD hS => ?_)
    obtain ⟨x0_2, rfl⟩ : ∃ z, z = u := ⟨_, rfl⟩
    have hw : ((r = some (.int 0) ∧ ((0 : Int32) = 0 ∧ x0_2 = (1 : Int32))) ∨ (r = some (.int 1) ∧ (¬ (0 : Int32) = 0 ∧ x0_2 = 0))) ∧ (True) := hw
    obtain ⟨⟨rfl, hz2_4⟩ | ⟨rfl, hz2_4⟩, hw_3⟩ := hw
    · have hP : va_P (dC, dI) vwCl (mw g h0 b (va_up i 0 x0_2) a) _ := hP
      have hD : va_D _ (mw g h0 b (va_up i 0 x0_2) a) := hD
      refine W.eq (g2 := F0 m 37 ls [.int 0]) rfl ?_
      refine lv_if_ne (tgt := 42) hx hb dX10_recipe_37 (by decide) (fun c_5 => absurd c_5 (by decide)) (fun _ => ?_)
      refine lv_iconst (v := 0) hx hb dX10_recipe_40 (by decide) ?_
      exact M_i hx hb hr hlocks (x0_2, (i 20), (i 21), (i 22), (i 23), (i 24), (i 25), (i 36), (i 37), (i 38), (a 26), (a 27), (a 28), (a 29), (a 30), (a 31), (a 32), (a 33), (a 34), (a 35)) hP hD hK hS ⟨⟨_, rfl⟩, ⟨⟨hT2, hBI⟩, Or.inl ⟨fun h9 => h9.1 c_1, hz2_4.2, rfl, rfl, rfl, rfl, rfl, rfl, rfl, rfl, rfl, rfl, rfl, rfl, rfl, rfl⟩⟩⟩ (Nat.le_of_ble_eq_true rfl) (Nat.le_of_ble_eq_true rfl) dX10_recipe_41
    · have hP : va_P (dC, dI) vwCl (mw g h0 b (va_up i 0 x0_2) a) _ := hP
      have hD : va_D _ (mw g h0 b (va_up i 0 x0_2) a) := hD
      refine W.eq (g2 := F0 m 37 ls [.int 1]) rfl ?_
      exact absurd rfl hz2_4.1
  · have nc_1 := nlt_i c_1
    have lc_1 : (0 : Int32).toInt = 0 := by decide
    refine lv_iload_n hx hb dX10_recipe_10 rfl (lv_at hl 1 rfl) ?_
    refine lv_bipush (v := 8) hx hb dX10_recipe_11 (by decide) ?_
    refine lv_icmp_ge (tgt := 32) hx hb dX10_recipe_13 (by decide) (fun c_6 => ?_) (fun c_6 => ?_)
    · have nc_6 := le_i c_6
      have lc_6 : (8 : Int32).toInt = 8 := by decide
      refine lv_iconst (v := 0) hx hb dX10_recipe_32 (by decide) ?_
      refine lv_iconst (v := 1) hx hb dX10_recipe_33 (by decide) ?_
      refine M_V ⟨hx, hb, hml, hown, hts⟩ (m_X10_rightX l dC dI sa g h0 b (va_up i 0 (0 : Int32)) a (0 : Int32) (1 : Int32) _ (by decide) rfl) (cwV 2 hts gX10_recipe_X10_right rfl rfl rfl (by decide +kernel) ⟨Nat.le_of_ble_eq_true rfl, Nat.le_of_ble_eq_true rfl⟩) hP hD hK hS hA hev rfl rfl rfl rfl hl.1 rfl (Nat.le_of_ble_eq_true rfl) dX10_recipe_34 ⟨(Nat.le_of_ble_eq_true rfl), (Nat.le_of_ble_eq_true rfl)⟩ (fun r u H locs hw hP hD hS => ?_)
      obtain ⟨x0_7, rfl⟩ : ∃ z, z = u := ⟨_, rfl⟩
      have hw : ((r = some (.int 0) ∧ ((0 : Int32) = 0 ∧ x0_7 = (1 : Int32))) ∨ (r = some (.int 1) ∧ (¬ (0 : Int32) = 0 ∧ x0_7 = 0))) ∧ (True) := hw
      obtain ⟨⟨rfl, hz2_9⟩ | ⟨rfl, hz2_9⟩, hw_8⟩ := hw
      · have hP : va_P (dC, dI) vwCl (mw g h0 b (va_up i 0 x0_7) a) _ := hP
        have hD : va_D _ (mw g h0 b (va_up i 0 x0_7) a) := hD
        refine W.eq (g2 := F0 m 37 ls [.int 0]) rfl ?_
        refine lv_if_ne (tgt := 42) hx hb dX10_recipe_37 (by decide) (fun c_10 => absurd c_10 (by decide)) (fun _ => ?_)
        refine lv_iconst (v := 0) hx hb dX10_recipe_40 (by decide) ?_
        exact M_i hx hb hr hlocks (x0_7, (i 20), (i 21), (i 22), (i 23), (i 24), (i 25), (i 36), (i 37), (i 38), (a 26), (a 27), (a 28), (a 29), (a 30), (a 31), (a 32), (a 33), (a 34), (a 35)) hP hD hK hS ⟨⟨_, rfl⟩, ⟨⟨hT2, hBI⟩, Or.inl ⟨fun h9 => h9.2.1 c_6, hz2_9.2, rfl, rfl, rfl, rfl, rfl, rfl, rfl, rfl, rfl, rfl, rfl, rfl, rfl, rfl⟩⟩⟩ (Nat.le_of_ble_eq_true rfl) (Nat.le_of_ble_eq_true rfl) dX10_recipe_41
      · have hP : va_P (dC, dI) vwCl (mw g h0 b (va_up i 0 x0_7) a) _ := hP
        have hD : va_D _ (mw g h0 b (va_up i 0 x0_7) a) := hD
        refine W.eq (g2 := F0 m 37 ls [.int 1]) rfl ?_
        exact absurd rfl hz2_9.1
    · have nc_6 := nle_i c_6
      have lc_6 : (8 : Int32).toInt = 8 := by decide
      refine lv_iload_n hx hb dX10_recipe_16 rfl (lv_at hl 2 rfl) ?_
      refine lv_if_lt (tgt := 32) hx hb dX10_recipe_17 (by decide) (fun c_11 => ?_) (fun c_11 => ?_)
      · have nc_11 := lt_i c_11
        have lc_11 : (0 : Int32).toInt = 0 := by decide
        refine lv_iconst (v := 0) hx hb dX10_recipe_32 (by decide) ?_
        refine lv_iconst (v := 1) hx hb dX10_recipe_33 (by decide) ?_
        refine M_V ⟨hx, hb, hml, hown, hts⟩ (m_X10_rightX l dC dI sa g h0 b (va_up i 0 (0 : Int32)) a (0 : Int32) (1 : Int32) _ (by decide) rfl) (cwV 2 hts gX10_recipe_X10_right rfl rfl rfl (by decide +kernel) ⟨Nat.le_of_ble_eq_true rfl, Nat.le_of_ble_eq_true rfl⟩) hP hD hK hS hA hev rfl rfl rfl rfl hl.1 rfl (Nat.le_of_ble_eq_true rfl) dX10_recipe_34 ⟨(Nat.le_of_ble_eq_true rfl), (Nat.le_of_ble_eq_true rfl)⟩ (fun r u H locs hw hP hD hS => ?_)
        obtain ⟨x0_12, rfl⟩ : ∃ z, z = u := ⟨_, rfl⟩
        have hw : ((r = some (.int 0) ∧ ((0 : Int32) = 0 ∧ x0_12 = (1 : Int32))) ∨ (r = some (.int 1) ∧ (¬ (0 : Int32) = 0 ∧ x0_12 = 0))) ∧ (True) := hw
        obtain ⟨⟨rfl, hz2_14⟩ | ⟨rfl, hz2_14⟩, hw_13⟩ := hw
        · have hP : va_P (dC, dI) vwCl (mw g h0 b (va_up i 0 x0_12) a) _ := hP
          have hD : va_D _ (mw g h0 b (va_up i 0 x0_12) a) := hD
          refine W.eq (g2 := F0 m 37 ls [.int 0]) rfl ?_
          refine lv_if_ne (tgt := 42) hx hb dX10_recipe_37 (by decide) (fun c_15 => absurd c_15 (by decide)) (fun _ => ?_)
          refine lv_iconst (v := 0) hx hb dX10_recipe_40 (by decide) ?_
          exact M_i hx hb hr hlocks (x0_12, (i 20), (i 21), (i 22), (i 23), (i 24), (i 25), (i 36), (i 37), (i 38), (a 26), (a 27), (a 28), (a 29), (a 30), (a 31), (a 32), (a 33), (a 34), (a 35)) hP hD hK hS ⟨⟨_, rfl⟩, ⟨⟨hT2, hBI⟩, Or.inl ⟨fun h9 => h9.2.2.1 c_11, hz2_14.2, rfl, rfl, rfl, rfl, rfl, rfl, rfl, rfl, rfl, rfl, rfl, rfl, rfl, rfl⟩⟩⟩ (Nat.le_of_ble_eq_true rfl) (Nat.le_of_ble_eq_true rfl) dX10_recipe_41
        · have hP : va_P (dC, dI) vwCl (mw g h0 b (va_up i 0 x0_12) a) _ := hP
          have hD : va_D _ (mw g h0 b (va_up i 0 x0_12) a) := hD
          refine W.eq (g2 := F0 m 37 ls [.int 1]) rfl ?_
          exact absurd rfl hz2_14.1
      · have nc_11 := nlt_i c_11
        have lc_11 : (0 : Int32).toInt = 0 := by decide
        refine lv_iload_n hx hb dX10_recipe_20 rfl (lv_at hl 2 rfl) ?_
        refine lv_aload_n hx hb dX10_recipe_21 rfl (lv_at hl 0 rfl) ?_
        refine va_get (D := (dC, dI)) (ci := 10) (v := .int (i 20)) (C := RX10) (T := TX10) (N := 51) hx hb hts inw_X10_recipe_10 hown hK hP 0 rfl rfl 20 (by decide) (hts (.fieldLink RX10 159 "VatHouseModel" "taped" "I") (List.mem_of_getElem? (i := 2) (by exact rfl))) (fun _ h9 => h9) rfl dX10_recipe_22 ?_
        refine lv_icmp_gt (tgt := 32) hx hb dX10_recipe_25 (by decide) (fun c_16 => ?_) (fun c_16 => ?_)
        · have nc_16 := lt_i c_16
          refine lv_iconst (v := 0) hx hb dX10_recipe_32 (by decide) ?_
          refine lv_iconst (v := 1) hx hb dX10_recipe_33 (by decide) ?_
          refine M_V ⟨hx, hb, hml, hown, hts⟩ (m_X10_rightX l dC dI sa g h0 b (va_up i 0 (0 : Int32)) a (0 : Int32) (1 : Int32) _ (by decide) rfl) (cwV 2 hts gX10_recipe_X10_right rfl rfl rfl (by decide +kernel) ⟨Nat.le_of_ble_eq_true rfl, Nat.le_of_ble_eq_true rfl⟩) hP hD hK hS hA hev rfl rfl rfl rfl hl.1 rfl (Nat.le_of_ble_eq_true rfl) dX10_recipe_34 ⟨(Nat.le_of_ble_eq_true rfl), (Nat.le_of_ble_eq_true rfl)⟩ (fun r u H locs hw hP hD hS => ?_)
          obtain ⟨x0_17, rfl⟩ : ∃ z, z = u := ⟨_, rfl⟩
          have hw : ((r = some (.int 0) ∧ ((0 : Int32) = 0 ∧ x0_17 = (1 : Int32))) ∨ (r = some (.int 1) ∧ (¬ (0 : Int32) = 0 ∧ x0_17 = 0))) ∧ (True) := hw
          obtain ⟨⟨rfl, hz2_19⟩ | ⟨rfl, hz2_19⟩, hw_18⟩ := hw
          · have hP : va_P (dC, dI) vwCl (mw g h0 b (va_up i 0 x0_17) a) _ := hP
            have hD : va_D _ (mw g h0 b (va_up i 0 x0_17) a) := hD
            refine W.eq (g2 := F0 m 37 ls [.int 0]) rfl ?_
            refine lv_if_ne (tgt := 42) hx hb dX10_recipe_37 (by decide) (fun c_20 => absurd c_20 (by decide)) (fun _ => ?_)
            refine lv_iconst (v := 0) hx hb dX10_recipe_40 (by decide) ?_
            exact M_i hx hb hr hlocks (x0_17, (i 20), (i 21), (i 22), (i 23), (i 24), (i 25), (i 36), (i 37), (i 38), (a 26), (a 27), (a 28), (a 29), (a 30), (a 31), (a 32), (a 33), (a 34), (a 35)) hP hD hK hS ⟨⟨_, rfl⟩, ⟨⟨hT2, hBI⟩, Or.inl ⟨fun h9 => h9.2.2.2 c_16, hz2_19.2, rfl, rfl, rfl, rfl, rfl, rfl, rfl, rfl, rfl, rfl, rfl, rfl, rfl, rfl⟩⟩⟩ (Nat.le_of_ble_eq_true rfl) (Nat.le_of_ble_eq_true rfl) dX10_recipe_41
          · have hP : va_P (dC, dI) vwCl (mw g h0 b (va_up i 0 x0_17) a) _ := hP
            have hD : va_D _ (mw g h0 b (va_up i 0 x0_17) a) := hD
            refine W.eq (g2 := F0 m 37 ls [.int 1]) rfl ?_
            exact absurd rfl hz2_19.1
        · have nc_16 := nlt_i c_16
          refine lv_iconst (v := 1) hx hb dX10_recipe_28 (by decide) ?_
          refine lv_goto (tgt := 33) hx hb dX10_recipe_29 (by decide) ?_
          refine lv_iconst (v := 1) hx hb dX10_recipe_33 (by decide) ?_
          refine M_V ⟨hx, hb, hml, hown, hts⟩ (m_X10_rightX l dC dI sa g h0 b (va_up i 0 (0 : Int32)) a (1 : Int32) (1 : Int32) _ (by decide) rfl) (cwV 2 hts gX10_recipe_X10_right rfl rfl rfl (by decide +kernel) ⟨Nat.le_of_ble_eq_true rfl, Nat.le_of_ble_eq_true rfl⟩) hP hD hK hS hA hev rfl rfl rfl rfl hl.1 rfl (Nat.le_of_ble_eq_true rfl) dX10_recipe_34 ⟨(Nat.le_of_ble_eq_true rfl), (Nat.le_of_ble_eq_true rfl)⟩ (fun r u H locs hw hP hD hS => ?_)
          obtain ⟨x0_21, rfl⟩ : ∃ z, z = u := ⟨_, rfl⟩
          have hw : ((r = some (.int 0) ∧ ((1 : Int32) = 0 ∧ x0_21 = (1 : Int32))) ∨ (r = some (.int 1) ∧ (¬ (1 : Int32) = 0 ∧ x0_21 = 0))) ∧ (True) := hw
          obtain ⟨⟨rfl, hz2_23⟩ | ⟨rfl, hz2_23⟩, hw_22⟩ := hw
          · have hP : va_P (dC, dI) vwCl (mw g h0 b (va_up i 0 x0_21) a) _ := hP
            have hD : va_D _ (mw g h0 b (va_up i 0 x0_21) a) := hD
            refine W.eq (g2 := F0 m 37 ls [.int 0]) rfl ?_
            exact absurd hz2_23.1 (by decide)
          · have hP : va_P (dC, dI) vwCl (mw g h0 b (va_up i 0 x0_21) a) _ := hP
            have hD : va_D _ (mw g h0 b (va_up i 0 x0_21) a) := hD
            refine W.eq (g2 := F0 m 37 ls [.int 1]) rfl ?_
            refine lv_if_ne (tgt := 42) hx hb dX10_recipe_37 (by decide) (fun _ => ?_) (fun c_24 => absurd c_24 (by decide))
            refine lv_aload_n hx hb dX10_recipe_42 rfl (lv_at hl 0 rfl) ?_
            refine lv_iload_n hx hb dX10_recipe_43 rfl (lv_at hl 2 rfl) ?_
            refine va_put (D := (dC, dI)) (ci := 10) (v := .int nn) (ty := .int) (C := RX10) (T := TX10) (N := 51) hx hb hts inw_X10_recipe_10 tyX10 tyX10_ok nmX10 hown hK hP hD hS 0 rfl rfl 21 (by decide) (hts (.fieldLink RX10 171 "VatHouseModel" "size" "I") (List.mem_of_getElem? (i := 3) (by exact rfl))) (fun _ h9 => h9) rfl (tyX10_ok 21 (by decide)) rfl rfl (Nat.le_of_ble_eq_true rfl) dX10_recipe_44 (fun H locs hP hD hS => ?_)
            have hP : va_P (dC, dI) vwCl (mw g h0 b (va_up (va_up i 0 x0_21) 21 nn) a) _ := hP
            have hD : va_D _ (mw g h0 b (va_up (va_up i 0 x0_21) 21 nn) a) := hD
            refine lv_aload_n hx hb dX10_recipe_47 rfl (lv_at hl 0 rfl) ?_
            refine lv_iconst (v := 0) hx hb dX10_recipe_48 (by decide) ?_
            refine va_put (D := (dC, dI)) (ci := 10) (v := .int 0) (ty := .int) (C := RX10) (T := TX10) (N := 51) hx hb hts inw_X10_recipe_10 tyX10 tyX10_ok nmX10 hown hK hP hD hS 0 rfl rfl 22 (by decide) (hts (.fieldLink RX10 168 "VatHouseModel" "at" "I") (List.mem_of_getElem? (i := 4) (by exact rfl))) (fun _ h9 => h9) rfl (tyX10_ok 22 (by decide)) rfl rfl (Nat.le_of_ble_eq_true rfl) dX10_recipe_49 (fun H locs hP hD hS => ?_)
            have hP : va_P (dC, dI) vwCl (mw g h0 b (va_up (va_up (va_up i 0 x0_21) 21 nn) 22 (0 : Int32)) a) _ := hP
            have hD : va_D _ (mw g h0 b (va_up (va_up (va_up i 0 x0_21) 21 nn) 22 (0 : Int32)) a) := hD
            refine lv_aload_n hx hb dX10_recipe_52 rfl (lv_at hl 0 rfl) ?_
            refine lv_iconst (v := 0) hx hb dX10_recipe_53 (by decide) ?_
            refine va_put (D := (dC, dI)) (ci := 10) (v := .int 0) (ty := .int) (C := RX10) (T := TX10) (N := 51) hx hb hts inw_X10_recipe_10 tyX10 tyX10_ok nmX10 hown hK hP hD hS 0 rfl rfl 20 (by decide) (hts (.fieldLink RX10 159 "VatHouseModel" "taped" "I") (List.mem_of_getElem? (i := 2) (by exact rfl))) (fun _ h9 => h9) rfl (tyX10_ok 20 (by decide)) rfl rfl (Nat.le_of_ble_eq_true rfl) dX10_recipe_54 (fun H locs hP hD hS => ?_)
            have hP : va_P (dC, dI) vwCl (mw g h0 b (va_up (va_up (va_up (va_up i 0 x0_21) 20 (0 : Int32)) 21 nn) 22 (0 : Int32)) a) _ := hP
            have hD : va_D _ (mw g h0 b (va_up (va_up (va_up (va_up i 0 x0_21) 20 (0 : Int32)) 21 nn) 22 (0 : Int32)) a) := hD
            refine lv_aload_n hx hb dX10_recipe_57 rfl (lv_at hl 0 rfl) ?_
            refine lv_iconst (v := 0) hx hb dX10_recipe_58 (by decide) ?_
            refine va_put (D := (dC, dI)) (ci := 10) (v := .int 0) (ty := .int) (C := RX10) (T := TX10) (N := 51) hx hb hts inw_X10_recipe_10 tyX10 tyX10_ok nmX10 hown hK hP hD hS 0 rfl rfl 23 (by decide) (hts (.fieldLink RX10 165 "VatHouseModel" "faultKind" "I") (List.mem_of_getElem? (i := 5) (by exact rfl))) (fun _ h9 => h9) rfl (tyX10_ok 23 (by decide)) rfl rfl (Nat.le_of_ble_eq_true rfl) dX10_recipe_59 (fun H locs hP hD hS => ?_)
            have hP : va_P (dC, dI) vwCl (mw g h0 b (va_up (va_up (va_up (va_up (va_up i 0 x0_21) 20 (0 : Int32)) 21 nn) 22 (0 : Int32)) 23 (0 : Int32)) a) _ := hP
            have hD : va_D _ (mw g h0 b (va_up (va_up (va_up (va_up (va_up i 0 x0_21) 20 (0 : Int32)) 21 nn) 22 (0 : Int32)) 23 (0 : Int32)) a) := hD
            refine lv_aload_n hx hb dX10_recipe_62 rfl (lv_at hl 0 rfl) ?_
            refine lv_iconst (v := (-1)) hx hb dX10_recipe_63 (by decide) ?_
            refine va_put (D := (dC, dI)) (ci := 10) (v := .int (-1)) (ty := .int) (C := RX10) (T := TX10) (N := 51) hx hb hts inw_X10_recipe_10 tyX10 tyX10_ok nmX10 hown hK hP hD hS 0 rfl rfl 24 (by decide) (hts (.fieldLink RX10 56 "VatHouseModel" "faultPlace" "I") (List.mem_of_getElem? (i := 6) (by exact rfl))) (fun _ h9 => h9) rfl (tyX10_ok 24 (by decide)) rfl rfl (Nat.le_of_ble_eq_true rfl) dX10_recipe_64 (fun H locs hP hD hS => ?_)
            have hP : va_P (dC, dI) vwCl (mw g h0 b (va_up (va_up (va_up (va_up (va_up (va_up i 0 x0_21) 20 (0 : Int32)) 21 nn) 22 (0 : Int32)) 23 (0 : Int32)) 24 ((-1) : Int32)) a) _ := hP
            have hD : va_D _ (mw g h0 b (va_up (va_up (va_up (va_up (va_up (va_up i 0 x0_21) 20 (0 : Int32)) 21 nn) 22 (0 : Int32)) 23 (0 : Int32)) 24 ((-1) : Int32)) a) := hD
            refine lv_aload_n hx hb dX10_recipe_67 rfl (lv_at hl 0 rfl) ?_
            refine lv_iconst (v := 0) hx hb dX10_recipe_68 (by decide) ?_
            refine va_put (D := (dC, dI)) (ci := 10) (v := .int 0) (ty := .int) (C := RX10) (T := TX10) (N := 51) hx hb hts inw_X10_recipe_10 tyX10 tyX10_ok nmX10 hown hK hP hD hS 0 rfl rfl 36 (by decide) (hts (.fieldLink RX10 249 "VatHouseModel" "nodes" "I") (List.mem_of_getElem? (i := 7) (by exact rfl))) (fun _ h9 => h9) rfl (tyX10_ok 36 (by decide)) rfl rfl (Nat.le_of_ble_eq_true rfl) dX10_recipe_69 (fun H locs hP hD hS => ?_)
            have hP : va_P (dC, dI) vwCl (mw g h0 b (va_up (va_up (va_up (va_up (va_up (va_up (va_up i 0 x0_21) 20 (0 : Int32)) 21 nn) 22 (0 : Int32)) 23 (0 : Int32)) 24 ((-1) : Int32)) 36 (0 : Int32)) a) _ := hP
            have hD : va_D _ (mw g h0 b (va_up (va_up (va_up (va_up (va_up (va_up (va_up i 0 x0_21) 20 (0 : Int32)) 21 nn) 22 (0 : Int32)) 23 (0 : Int32)) 24 ((-1) : Int32)) 36 (0 : Int32)) a) := hD
            refine lv_aload_n hx hb dX10_recipe_72 rfl (lv_at hl 0 rfl) ?_
            refine lv_iconst (v := 0) hx hb dX10_recipe_73 (by decide) ?_
            refine va_put (D := (dC, dI)) (ci := 10) (v := .int 0) (ty := .int) (C := RX10) (T := TX10) (N := 51) hx hb hts inw_X10_recipe_10 tyX10 tyX10_ok nmX10 hown hK hP hD hS 0 rfl rfl 38 (by decide) (hts (.fieldLink RX10 277 "VatHouseModel" "blocks" "I") (List.mem_of_getElem? (i := 8) (by exact rfl))) (fun _ h9 => h9) rfl (tyX10_ok 38 (by decide)) rfl rfl (Nat.le_of_ble_eq_true rfl) dX10_recipe_74 (fun H locs hP hD hS => ?_)
            have hP : va_P (dC, dI) vwCl (mw g h0 b (va_up (va_up (va_up (va_up (va_up (va_up (va_up (va_up i 0 x0_21) 20 (0 : Int32)) 21 nn) 22 (0 : Int32)) 23 (0 : Int32)) 24 ((-1) : Int32)) 36 (0 : Int32)) 38 (0 : Int32)) a) _ := hP
            have hD : va_D _ (mw g h0 b (va_up (va_up (va_up (va_up (va_up (va_up (va_up (va_up i 0 x0_21) 20 (0 : Int32)) 21 nn) 22 (0 : Int32)) 23 (0 : Int32)) 24 ((-1) : Int32)) 36 (0 : Int32)) 38 (0 : Int32)) a) := hD
            refine lv_aload_n hx hb dX10_recipe_77 rfl (lv_at hl 0 rfl) ?_
            refine lv_iconst (v := 0) hx hb dX10_recipe_78 (by decide) ?_
            obtain ⟨ln, hnl, hln⟩ := rc_ln c_11 c_16 hT2.2
            refine M_V ⟨hx, hb, hml, hown, hts⟩ (X10_stepsT_all l dC dI sa g h0 b 8 0 rfl (fun _ => 0) ln (sk (a 19) ln 0, 0, 0, -1) (fun _ _ => 0) (va_up (va_up (va_up (va_up (va_up (va_up (va_up (va_up i 0 x0_21) 20 (0 : Int32)) 21 nn) 22 (0 : Int32)) 23 (0 : Int32)) 24 ((-1) : Int32)) 36 (0 : Int32)) 38 (0 : Int32)) a (0 : Int32) _ (show nn = nI ln ∧ ln ≤ 1500 from ⟨hnl, hln⟩) (show MI (a 19) ln (sk (a 19) ln 0, 0, 0, -1) (0 : Int32) (0 : Int32) ((-1) : Int32) from ⟨rfl, rfl, rfl, 0, nI_0.symm, Nat.zero_le _, rfl⟩) (nI_0.symm) PN_zero (nI_0.symm) (Nat.zero_le _) (fun j9 hj9 => absurd hj9 (Nat.not_lt_zero _))) (cwV 1 hts gX10_recipe_X10_steps rfl rfl rfl (by decide +kernel) ⟨Nat.le_of_ble_eq_true rfl, Nat.le_of_ble_eq_true rfl⟩) hP hD hK hS hA hev rfl rfl rfl rfl hl.1 rfl (Nat.le_of_ble_eq_true rfl) dX10_recipe_79 ⟨(Nat.le_of_ble_eq_true rfl), (Nat.le_of_ble_eq_true rfl)⟩ (fun r u H locs hw hP hD hS => ?_)
            obtain ⟨x22_25, x23_26, x24_27, x25_28, x36_29, y26_30, y27_31, y28_32, y29_33, y30_34, y31_35, y32_36, y33_37⟩ := u
            have hw : (∃ z : Int32, r = some (.int z)) ∧ (∃ dpN : Nat → Nat, PR (0 : Int32) x36_29 (fun _ => 0) dpN (a 26) (a 27) (a 31) (a 32) (a 33) y26_30 y27_31 y31_35 y32_36 y33_37 ∧ KP3 (a 28) (a 29) (a 30) y28_32 y29_33 y30_34 ∧ (∀ z : Int32, r = some (.int z) → (z = -2 ∧ ∃ rn : SG, ST (Kp (a 19) ln) (Vp (a 19) ln) (nq (a 19) ln) 0 (if (0 : Int32) = 0 then (0 : Int32) else 125) (sk (a 19) ln 0, 0, 0, -1) rn ∧ MO rn x23_26 x24_27) ∨ (lk (PV x36_29) dpN 0 z ∧ ∃ (r1 : SG) (TN : TT), EvT (Kp (a 19) ln) (Vp (a 19) ln) (nq (a 19) ln) 0 0 0 ((sk (a 19) ln 0, 0, 0, -1), (fun _ _ => 0)) (r1, TN) ∧ z = lkm 2400 (thd (sk (a 19) ln 0, 0, 0, -1).2.1 r1.2.1) ∧ MI (a 19) ln (gpa (Kp (a 19) ln) (nq (a 19) ln) (if (0 : Int32) = 0 then (0 : Int32) else 125) r1) x22_25 x23_26 x24_27 ∧ x36_29 = nI r1.2.1 ∧ TQ (Kp (a 19) ln) (Vp (a 19) ln) (nq (a 19) ln) TN (sk (a 19) ln 0, 0, 0, -1).2.1 r1.2.1 (a 27) (a 28) (a 29) (a 30) y26_30 y27_31 y28_32 y29_33 y30_34 y31_35 y32_36 y33_37))) := hw
            obtain ⟨⟨z_39, rfl⟩, hw_38⟩ := hw
            have hP : va_P (dC, dI) vwCl (mw g h0 b (va_up (va_up (va_up (va_up (va_up (va_up (va_up (va_up (va_up i 0 x0_21) 20 (0 : Int32)) 21 nn) 22 x22_25) 23 x23_26) 24 x24_27) 25 x25_28) 36 x36_29) 38 (0 : Int32)) (va_up (va_up (va_up (va_up (va_up (va_up (va_up (va_up a 26 y26_30) 27 y27_31) 28 y28_32) 29 y29_33) 30 y30_34) 31 y31_35) 32 y32_36) 33 y33_37)) _ := hP
            have hD : va_D _ (mw g h0 b (va_up (va_up (va_up (va_up (va_up (va_up (va_up (va_up (va_up i 0 x0_21) 20 (0 : Int32)) 21 nn) 22 x22_25) 23 x23_26) 24 x24_27) 25 x25_28) 36 x36_29) 38 (0 : Int32)) (va_up (va_up (va_up (va_up (va_up (va_up (va_up (va_up a 26 y26_30) 27 y27_31) 28 y28_32) 29 y29_33) 30 y30_34) 31 y31_35) 32 y32_36) 33 y33_37)) := hD
            refine W.eq (g2 := F0 m 82 ls [.int z_39]) rfl ?_
            obtain ⟨dp_41, hPR_40, hk3, hres_42⟩ := hw_38
            have hres_42 := hres_42 _ rfl
            obtain ⟨rn, r1, hev1, hrn, h23, h24⟩ := rc_endT (Z := fun r9 _ => z_39 = lkm 2400 (thd 0 r9.2.1)) (W := fun r9 T9 => x36_29 = nI r9.2.1 ∧ TQ (Kp (a 19) ln) (Vp (a 19) ln) (nq (a 19) ln) T9 0 r9.2.1 (a 27) (a 28) (a 29) (a 30) y26_30 y27_31 y28_32 y29_33 y30_34 y31_35 y32_36 y33_37) hres_42
            refine lv_istore_n (lv' := [(3, .int z_39), (0, .ref h0), (1, .int rr), (2, .int nn)]) hx hb dX10_recipe_82 rfl hl (by decide) rfl (fun ls hl => ?_)
            refine lv_aload_n hx hb dX10_recipe_83 rfl (lv_at hl 1 rfl) ?_
            refine va_get (D := (dC, dI)) (ci := 10) (v := .int x23_26) (C := RX10) (T := TX10) (N := 51) hx hb hts inw_X10_recipe_10 hown hK hP 0 rfl rfl 23 (by decide) (hts (.fieldLink RX10 165 "VatHouseModel" "faultKind" "I") (List.mem_of_getElem? (i := 5) (by exact rfl))) (fun _ h9 => h9) rfl dX10_recipe_84 ?_
            refine lv_if_le (tgt := 95) hx hb dX10_recipe_87 (by decide) (fun c_43 => ?_) (fun c_43 => ?_)
            · have nc_43 := le_i c_43
              have lc_43 : (0 : Int32).toInt = 0 := by decide
              refine lv_sipush (v := 300) hx hb dX10_recipe_95 (by decide) ?_
              refine lv_iload_n hx hb dX10_recipe_98 rfl (lv_at hl 2 rfl) ?_
              refine lv_imul hx hb dX10_recipe_99 ?_
              refine lv_topi (fun z_44 ez_44 => ?_)
              refine lv_sipush (v := 2400) hx hb dX10_recipe_100 (by decide) ?_
              refine lv_isub hx hb dX10_recipe_103 ?_
              refine lv_topi (fun z_45 ez_45 => ?_)
              refine lv_istore (lv' := [(4, .int z_45), (3, .int z_39), (0, .ref h0), (1, .int rr), (2, .int nn)]) hx hb dX10_recipe_104 hl (by decide) rfl (fun ls hl => ?_)
              obtain ⟨r, hr8, hrr⟩ : ∃ r : Nat, r < 8 ∧ rr.toInt = (r : Int) := ⟨rr.toInt.toNat, by omega, by omega⟩
              have hrc : rr.toNatClampNeg = r := by have h9 := clamp_i (x := rr) (by omega); omega
              have t300 : (300 : Int32).toInt = 300 := by decide
              have tz_44 := mulc_i ez_44 (by decide : (300 : Int32).toInt = 300) (by omega) (by omega)
              have t2400 : (2400 : Int32).toInt = 2400 := by decide
              have tz_45 := sub_i ez_45 (by omega) (by omega)
              have hby : z_45.toInt = 300 * (r : Int) - 2400 := by omega
              have hlkz := (hres_42.resolve_left (fun h9 => by obtain ⟨-, rn, -, h8⟩ := h9; have h8 := h8.2.2.2; omega)).1
              have hN3 := hPR_40.2.1.2.1
              have hN0 := hPR_40.2.1.1
              obtain ⟨-, r2, TN, hevT, hhd, hmT, h36T, htqT⟩ := hres_42.resolve_left (fun h9 => by obtain ⟨-, rn, -, h8⟩ := h9; have h8 := h8.2.2.2; omega)
              have hn2 : r2.2.1 ≤ 300 := hevT.nd.2.2 (Nat.zero_le _)
              have hz2 : r2.2.2.1 = 0 := (gpa_ok hmT.2.1).1
              obtain ⟨δ, hGN, hδ0⟩ := hevT.ok hz2 rfl
              have h36n : x36_29.toInt.toNat = r2.2.1 := by rw [h36T, nI_toInt (by omega)]; omega
              refine lv_sipush (v := 2400) hx hb dX10_recipe_106 (by decide) ?_
              refine lv_istore (lv' := [(5, .int 2400), (4, .int z_45), (3, .int z_39), (0, .ref h0), (1, .int rr), (2, .int nn)]) hx hb dX10_recipe_109 hl (by decide) rfl (fun ls hl => ?_)
              have lp : ∀ (n : Nat) (kx : Int32) (l26 : Nat → Int32) (l27 : Nat → Int32) (l28 : Nat → Int32) (l29 : Nat → Int32) (l30 : Nat → Int32) (l31 : Nat → Int32) (l32 : Nat → Int32) (l33 : Nat → Int32) (H : Heap) (locs : List Loc) (ls : Array Slot), ((2400 + x36_29.toInt - kx.toInt).toNat < n) → (∃ d : Nat, kx = nI (2400 + d) ∧ (d : Int) ≤ x36_29.toInt ∧ CP r d z_45 y26_30 y27_31 y31_35 y32_36 y33_37 l26 l27 l31 l32 l33 ∧ CQ r d y28_32 l28 ∧ CQ r d y29_33 l29 ∧ CQ r d y30_34 l30) → va_P (dC, dI) vwCl (mw g h0 b (va_up (va_up (va_up (va_up (va_up (va_up (va_up (va_up (va_up i 0 x0_21) 20 (0 : Int32)) 21 nn) 22 x22_25) 23 x23_26) 24 x24_27) 25 x25_28) 36 x36_29) 38 (0 : Int32)) (va_up (va_up (va_up (va_up (va_up (va_up (va_up (va_up a 26 l26) 27 l27) 28 l28) 29 l29) 30 l30) 31 l31) 32 l32) 33 l33)) H → va_D (va_A (mw g h0 b i a) s.heap.size) (mw g h0 b (va_up (va_up (va_up (va_up (va_up (va_up (va_up (va_up (va_up i 0 x0_21) 20 (0 : Int32)) 21 nn) 22 x22_25) 23 x23_26) 24 x24_27) 25 x25_28) 36 x36_29) 38 (0 : Int32)) (va_up (va_up (va_up (va_up (va_up (va_up (va_up (va_up a 26 l26) 27 l27) 28 l28) 29 l29) 30 l30) 31 l31) 32 l32) 33 l33)) → va_S (va_A (mw g h0 b i a) s.heap.size) s.heap H locs → lv_has ls 6 [(5, .int kx), (4, .int z_45), (3, .int z_39), (0, .ref h0), (1, .int rr), (2, .int nn)] → W p l e rm_X10_recipeT s m [.ref h0, .int rr, .int nn].toArray below meth c H locs 0 0 (MQ below (Qg (fun (r : Option Value) (u : Int32 × Int32 × Int32 × Int32 × Int32 × Int32 × Int32 × Int32 × Int32 × Int32 × (Nat → Int32) × (Nat → Int32) × (Nat → Int32) × (Nat → Int32) × (Nat → Int32) × (Nat → Int32) × (Nat → Int32) × (Nat → Int32) × (Nat → Int32) × (Nat → Int32)) => match u with | (x0, x20, x21, x22, x23, x24, x25, x36, x37, x38, y26, y27, y28, y29, y30, y31, y32, y33, y34, y35) => (∃ z : Int32, r = some (.int z)) ∧ (((0 ≤ x20.toInt ∧ x20.toInt ≤ 1500) ∧ BI y26 y27 y31 y32 y33 y34 y35) ∧ ((¬ Cq rr nn (i 20) ∧ x0 = 1 ∧ x20 = (i 20) ∧ x23 = (i 23) ∧ x24 = (i 24) ∧ y34 = (a 34) ∧ y35 = (a 35) ∧ x37 = (i 37) ∧ y26 = (a 26) ∧ y27 = (a 27) ∧ y28 = (a 28) ∧ y29 = (a 29) ∧ y30 = (a 30) ∧ y31 = (a 31) ∧ y32 = (a 32) ∧ y33 = (a 33)) ∨ (Cq rr nn (i 20) ∧ x20 = 0 ∧ x0 = 0 ∧ ∃ (ln : Nat) (r1 : SG), nn = nI ln ∧ ln ≤ 1500 ∧ Ev (Kp (a 19) ln) (Vp (a 19) ln) (nq (a 19) ln) 0 0 (sk (a 19) ln 0, 0, 0, -1) r1 ∧ x23 = (gpa (Kp (a 19) ln) (nq (a 19) ln) 0 r1).2.2.1 ∧ x24 = (gpa (Kp (a 19) ln) (nq (a 19) ln) 0 r1).2.2.2 ∧ r = some (.int x23) ∧ ((¬ x23 = 0 ∧ y34 = (a 34) ∧ x37 = (i 37) ∧ BK8 (a 26) (a 27) (a 28) (a 29) (a 30) (a 31) (a 32) (a 33) y26 y27 y28 y29 y30 y31 y32 y33) ∨ (x23 = 0 ∧ ∃ TN : TT, EvT (Kp (a 19) ln) (Vp (a 19) ln) (nq (a 19) ln) 0 0 0 ((sk (a 19) ln 0, 0, 0, -1), (fun _ _ => 0)) (r1, TN) ∧ x37 = nI r1.2.1 ∧ y34 = upd (a 34) rr.toNatClampNeg (fiN rr.toNatClampNeg r1.2.1) ∧ TRr (Kp (a 19) ln) (Vp (a 19) ln) (nq (a 19) ln) TN (300 * rr.toNatClampNeg) r1.2.1 y26 y27 y28 y29 y30 y31 y32 y33 ∧ BKO rr.toNatClampNeg (a 26) (a 27) (a 28) (a 29) (a 30) (a 31) (a 32) (a 33) y26 y27 y28 y29 y30 y31 y32 y33)))))) (fun u t => QW dC dI (va_A (mw g h0 b i a) s.heap.size) ((fun (u : Int32 × Int32 × Int32 × Int32 × Int32 × Int32 × Int32 × Int32 × Int32 × Int32 × (Nat → Int32) × (Nat → Int32) × (Nat → Int32) × (Nat → Int32) × (Nat → Int32) × (Nat → Int32) × (Nat → Int32) × (Nat → Int32) × (Nat → Int32) × (Nat → Int32)) => match u with | (x0, x20, x21, x22, x23, x24, x25, x36, x37, x38, y26, y27, y28, y29, y30, y31, y32, y33, y34, y35) => mw g h0 b (va_up (va_up (va_up (va_up (va_up (va_up (va_up (va_up (va_up (va_up i 0 x0) 20 x20) 21 x21) 22 x22) 23 x23) 24 x24) 25 x25) 36 x36) 37 x37) 38 x38) (va_up (va_up (va_up (va_up (va_up (va_up (va_up (va_up (va_up (va_up a 26 y26) 27 y27) 28 y28) 29 y29) 30 y30) 31 y31) 32 y32) 33 y33) 34 y34) 35 y35)) u) [] t) (va_A (mw g h0 b i a) s.heap.size)) [.ref h0, .int rr, .int nn].toArray s 0 0 (va_A (mw g h0 b i a) s.heap.size)) (F0 m 111 ls []) := by
                intro n
                induction n with
                | zero => intro kx l26 l27 l28 l29 l30 l31 l32 l33 H locs ls hm hcE hP hD hS hl; exact absurd hm (by omega)
                | succ n ih =>
                  intro kx l26 l27 l28 l29 l30 l31 l32 l33 H locs ls hm hcE hP hD hS hl
                  refine lv_iload hx hb dX10_recipe_111 (lv_at hl 0 rfl) ?_
                  refine lv_sipush (v := 2400) hx hb dX10_recipe_113 (by decide) ?_
                  refine lv_aload_n hx hb dX10_recipe_116 rfl (lv_at hl 3 rfl) ?_
                  refine va_get (D := (dC, dI)) (ci := 10) (v := .int x36_29) (C := RX10) (T := TX10) (N := 51) hx hb hts inw_X10_recipe_10 hown hK hP 0 rfl rfl 36 (by decide) (hts (.fieldLink RX10 249 "VatHouseModel" "nodes" "I") (List.mem_of_getElem? (i := 7) (by exact rfl))) (fun _ h9 => h9) rfl dX10_recipe_117 ?_
                  refine lv_iadd hx hb dX10_recipe_120 ?_
                  refine lv_topi (fun z_46 ez_46 => ?_)
                  obtain ⟨d, hd1, hd2, hcp, hcq28, hcq29, hcq30⟩ := hcE
                  have hkxI : kx.toInt = 2400 + (d : Int) := by rw [hd1, nI_toInt (by omega)]; omega
                  have t2400 : (2400 : Int32).toInt = 2400 := by decide
                  have tz_46 := add_i ez_46 (by omega) (by omega)
                  refine lv_icmp_ge (tgt := 320) hx hb dX10_recipe_121 (by decide) (fun c_47 => ?_) (fun c_47 => ?_)
                  · have nc_47 := le_i c_47
                    have hdN : d = x36_29.toInt.toNat := by omega
                    rw [hdN] at hcp hcq28 hcq29 hcq30
                    refine lv_aload_n hx hb dX10_recipe_320 rfl (lv_at hl 3 rfl) ?_
                    refine va_get (D := (dC, dI)) (ci := 10) (v := .ref (b 34)) (C := RX10) (T := TX10) (N := 51) hx hb hts inw_X10_recipe_10 hown hK hP 0 rfl rfl 34 (by decide) (hts (.fieldLink RX10 84 "VatHouseModel" "first" "[I") (List.mem_of_getElem? (i := 17) (by exact rfl))) (fun _ h9 => h9) rfl dX10_recipe_321 ?_
                    refine lv_iload_n hx hb dX10_recipe_324 rfl (lv_at hl 4 rfl) ?_
                    refine lv_iload_n hx hb dX10_recipe_325 rfl (lv_at hl 2 rfl) ?_
                    refine lv_iconst (v := (-1)) hx hb dX10_recipe_326 (by decide) ?_
                    refine lv_icmp_ne (tgt := 335) hx hb dX10_recipe_327 (by decide) (fun c_48 => ?_) (fun c_48 => ?_)
                    · have nc_48 := ne_i c_48
                      have lc_48 : ((-1) : Int32).toInt = -1 := by decide
                      refine lv_iload_n hx hb dX10_recipe_335 rfl (lv_at hl 2 rfl) ?_
                      refine lv_iload hx hb dX10_recipe_336 (lv_at hl 1 rfl) ?_
                      refine lv_iadd hx hb dX10_recipe_338 ?_
                      refine lv_topi (fun z_49 ez_49 => ?_)
                      refine va_iast hx hb hK hP hD hS 24 23 rfl rfl (in_i (by omega) (by omega)) dX10_recipe_339 (fun H locs hP hD hS => ?_)
                      have hP : va_P (dC, dI) vwCl (mw g h0 b (va_up (va_up (va_up (va_up (va_up (va_up (va_up (va_up (va_up i 0 x0_21) 20 (0 : Int32)) 21 nn) 22 x22_25) 23 x23_26) 24 x24_27) 25 x25_28) 36 x36_29) 38 (0 : Int32)) (va_up (va_up (va_up (va_up (va_up (va_up (va_up (va_up (va_up a 26 l26) 27 l27) 28 l28) 29 l29) 30 l30) 31 l31) 32 l32) 33 l33) 34 (upd (a 34) rr.toNatClampNeg z_49))) _ := hP
                      have hD : va_D _ (mw g h0 b (va_up (va_up (va_up (va_up (va_up (va_up (va_up (va_up (va_up i 0 x0_21) 20 (0 : Int32)) 21 nn) 22 x22_25) 23 x23_26) 24 x24_27) 25 x25_28) 36 x36_29) 38 (0 : Int32)) (va_up (va_up (va_up (va_up (va_up (va_up (va_up (va_up (va_up a 26 l26) 27 l27) 28 l28) 29 l29) 30 l30) 31 l31) 32 l32) 33 l33) 34 (upd (a 34) rr.toNatClampNeg z_49))) := hD
                      obtain ⟨f_50, ef_50⟩ : ∃ z, z = (upd (a 34) rr.toNatClampNeg z_49) := ⟨_, rfl⟩
                      rw [← ef_50] at hP hD
                      refine lv_aload_n hx hb dX10_recipe_340 rfl (lv_at hl 3 rfl) ?_
                      refine va_get (D := (dC, dI)) (ci := 10) (v := .ref (b 35)) (C := RX10) (T := TX10) (N := 51) hx hb hts inw_X10_recipe_10 hown hK hP 0 rfl rfl 35 (by decide) (hts (.fieldLink RX10 87 "VatHouseModel" "many" "[I") (List.mem_of_getElem? (i := 18) (by exact rfl))) (fun _ h9 => h9) rfl dX10_recipe_341 ?_
                      refine lv_iload_n hx hb dX10_recipe_344 rfl (lv_at hl 4 rfl) ?_
                      refine lv_aload_n hx hb dX10_recipe_345 rfl (lv_at hl 3 rfl) ?_
                      refine va_get (D := (dC, dI)) (ci := 10) (v := .int x36_29) (C := RX10) (T := TX10) (N := 51) hx hb hts inw_X10_recipe_10 hown hK hP 0 rfl rfl 36 (by decide) (hts (.fieldLink RX10 249 "VatHouseModel" "nodes" "I") (List.mem_of_getElem? (i := 7) (by exact rfl))) (fun _ h9 => h9) rfl dX10_recipe_346 ?_
                      refine va_iast hx hb hK hP hD hS 25 24 rfl rfl (in_i (by omega) (by omega)) dX10_recipe_349 (fun H locs hP hD hS => ?_)
                      have hP : va_P (dC, dI) vwCl (mw g h0 b (va_up (va_up (va_up (va_up (va_up (va_up (va_up (va_up (va_up i 0 x0_21) 20 (0 : Int32)) 21 nn) 22 x22_25) 23 x23_26) 24 x24_27) 25 x25_28) 36 x36_29) 38 (0 : Int32)) (va_up (va_up (va_up (va_up (va_up (va_up (va_up (va_up (va_up (va_up a 26 l26) 27 l27) 28 l28) 29 l29) 30 l30) 31 l31) 32 l32) 33 l33) 34 f_50) 35 (upd (a 35) rr.toNatClampNeg x36_29))) _ := hP
                      have hD : va_D _ (mw g h0 b (va_up (va_up (va_up (va_up (va_up (va_up (va_up (va_up (va_up i 0 x0_21) 20 (0 : Int32)) 21 nn) 22 x22_25) 23 x23_26) 24 x24_27) 25 x25_28) 36 x36_29) 38 (0 : Int32)) (va_up (va_up (va_up (va_up (va_up (va_up (va_up (va_up (va_up (va_up a 26 l26) 27 l27) 28 l28) 29 l29) 30 l30) 31 l31) 32 l32) 33 l33) 34 f_50) 35 (upd (a 35) rr.toNatClampNeg x36_29))) := hD
                      obtain ⟨f_51, ef_51⟩ : ∃ z, z = (upd (a 35) rr.toNatClampNeg x36_29) := ⟨_, rfl⟩
                      rw [← ef_51] at hP hD
                      refine lv_aload_n hx hb dX10_recipe_350 rfl (lv_at hl 3 rfl) ?_
                      refine lv_aload_n hx hb dX10_recipe_351 rfl (lv_at hl 3 rfl) ?_
                      refine va_get (D := (dC, dI)) (ci := 10) (v := .int x36_29) (C := RX10) (T := TX10) (N := 51) hx hb hts inw_X10_recipe_10 hown hK hP 0 rfl rfl 36 (by decide) (hts (.fieldLink RX10 249 "VatHouseModel" "nodes" "I") (List.mem_of_getElem? (i := 7) (by exact rfl))) (fun _ h9 => h9) rfl dX10_recipe_352 ?_
                      refine va_put (D := (dC, dI)) (ci := 10) (v := .int x36_29) (ty := .int) (C := RX10) (T := TX10) (N := 51) hx hb hts inw_X10_recipe_10 tyX10 tyX10_ok nmX10 hown hK hP hD hS 0 rfl rfl 37 (by decide) (hts (.fieldLink RX10 284 "VatHouseModel" "latest" "I") (List.mem_of_getElem? (i := 19) (by exact rfl))) (fun _ h9 => h9) rfl (tyX10_ok 37 (by decide)) rfl rfl (Nat.le_of_ble_eq_true rfl) dX10_recipe_355 (fun H locs hP hD hS => ?_)
                      have hP : va_P (dC, dI) vwCl (mw g h0 b (va_up (va_up (va_up (va_up (va_up (va_up (va_up (va_up (va_up (va_up i 0 x0_21) 20 (0 : Int32)) 21 nn) 22 x22_25) 23 x23_26) 24 x24_27) 25 x25_28) 36 x36_29) 37 x36_29) 38 (0 : Int32)) (va_up (va_up (va_up (va_up (va_up (va_up (va_up (va_up (va_up (va_up a 26 l26) 27 l27) 28 l28) 29 l29) 30 l30) 31 l31) 32 l32) 33 l33) 34 f_50) 35 f_51)) _ := hP
                      have hD : va_D _ (mw g h0 b (va_up (va_up (va_up (va_up (va_up (va_up (va_up (va_up (va_up (va_up i 0 x0_21) 20 (0 : Int32)) 21 nn) 22 x22_25) 23 x23_26) 24 x24_27) 25 x25_28) 36 x36_29) 37 x36_29) 38 (0 : Int32)) (va_up (va_up (va_up (va_up (va_up (va_up (va_up (va_up (va_up (va_up a 26 l26) 27 l27) 28 l28) 29 l29) 30 l30) 31 l31) 32 l32) 33 l33) 34 f_50) 35 f_51)) := hD
                      refine lv_iconst (v := 0) hx hb dX10_recipe_358 (by decide) ?_
                      exact M_i hx hb hr hlocks (x0_21, (0 : Int32), nn, x22_25, x23_26, x24_27, x25_28, x36_29, x36_29, (0 : Int32), l26, l27, l28, l29, l30, l31, l32, l33, f_50, f_51) hP hD hK hS ⟨⟨_, rfl⟩, ⟨⟨by decide, by rw [ef_50, ef_51]; exact BI.put hr8 hBI hPR_40.2.2.1 hPR_40.2.1 hcp hby hlkz (by rw [if_neg c_48]; exact ez_49) hrc⟩, Or.inr ⟨⟨c_1, c_6, c_11, c_16⟩, rfl, hz2_23.2, ln, r2, hnl, hln, hevT.ev, hmT.1.trans hmT.2.1.symm, hmT.2.2.1, (by rw [show x23_26 = 0 from hmT.1]), Or.inr ⟨hmT.1, TN, hevT, h36T, (by rw [ef_50, hrc]; exact congrArg (upd (a 34) r) (fi_v (n := r2.2.1) hhd hby hr8 (by rw [if_neg c_48]; exact ez_49))), (by rw [hrc]; rw [h36n] at hcp hcq28 hcq29 hcq30; exact TR_cp hGN htqT hcp hcq28 hcq29 hcq30 hby hr8 hn2), (by rw [hrc]; rw [h36n] at hcp hcq28 hcq29 hcq30; exact BKO.of (BK8.of hPR_40.2.2.1 hk3) hcp hcq28 hcq29 hcq30 hn2)⟩⟩⟩⟩ (Nat.le_of_ble_eq_true rfl) (Nat.le_of_ble_eq_true rfl) dX10_recipe_359
                    · have nc_48 := eq_i c_48
                      have lc_48 : ((-1) : Int32).toInt = -1 := by decide
                      refine lv_bipush (v := (-2)) hx hb dX10_recipe_330 (by decide) ?_
                      refine lv_goto (tgt := 339) hx hb dX10_recipe_332 (by decide) ?_
                      refine va_iast hx hb hK hP hD hS 24 23 rfl rfl (in_i (by omega) (by omega)) dX10_recipe_339 (fun H locs hP hD hS => ?_)
                      have hP : va_P (dC, dI) vwCl (mw g h0 b (va_up (va_up (va_up (va_up (va_up (va_up (va_up (va_up (va_up i 0 x0_21) 20 (0 : Int32)) 21 nn) 22 x22_25) 23 x23_26) 24 x24_27) 25 x25_28) 36 x36_29) 38 (0 : Int32)) (va_up (va_up (va_up (va_up (va_up (va_up (va_up (va_up (va_up a 26 l26) 27 l27) 28 l28) 29 l29) 30 l30) 31 l31) 32 l32) 33 l33) 34 (upd (a 34) rr.toNatClampNeg ((-2) : Int32)))) _ := hP
                      have hD : va_D _ (mw g h0 b (va_up (va_up (va_up (va_up (va_up (va_up (va_up (va_up (va_up i 0 x0_21) 20 (0 : Int32)) 21 nn) 22 x22_25) 23 x23_26) 24 x24_27) 25 x25_28) 36 x36_29) 38 (0 : Int32)) (va_up (va_up (va_up (va_up (va_up (va_up (va_up (va_up (va_up a 26 l26) 27 l27) 28 l28) 29 l29) 30 l30) 31 l31) 32 l32) 33 l33) 34 (upd (a 34) rr.toNatClampNeg ((-2) : Int32)))) := hD
                      obtain ⟨f_52, ef_52⟩ : ∃ z, z = (upd (a 34) rr.toNatClampNeg ((-2) : Int32)) := ⟨_, rfl⟩
                      rw [← ef_52] at hP hD
                      refine lv_aload_n hx hb dX10_recipe_340 rfl (lv_at hl 3 rfl) ?_
                      refine va_get (D := (dC, dI)) (ci := 10) (v := .ref (b 35)) (C := RX10) (T := TX10) (N := 51) hx hb hts inw_X10_recipe_10 hown hK hP 0 rfl rfl 35 (by decide) (hts (.fieldLink RX10 87 "VatHouseModel" "many" "[I") (List.mem_of_getElem? (i := 18) (by exact rfl))) (fun _ h9 => h9) rfl dX10_recipe_341 ?_
                      refine lv_iload_n hx hb dX10_recipe_344 rfl (lv_at hl 4 rfl) ?_
                      refine lv_aload_n hx hb dX10_recipe_345 rfl (lv_at hl 3 rfl) ?_
                      refine va_get (D := (dC, dI)) (ci := 10) (v := .int x36_29) (C := RX10) (T := TX10) (N := 51) hx hb hts inw_X10_recipe_10 hown hK hP 0 rfl rfl 36 (by decide) (hts (.fieldLink RX10 249 "VatHouseModel" "nodes" "I") (List.mem_of_getElem? (i := 7) (by exact rfl))) (fun _ h9 => h9) rfl dX10_recipe_346 ?_
                      refine va_iast hx hb hK hP hD hS 25 24 rfl rfl (in_i (by omega) (by omega)) dX10_recipe_349 (fun H locs hP hD hS => ?_)
                      have hP : va_P (dC, dI) vwCl (mw g h0 b (va_up (va_up (va_up (va_up (va_up (va_up (va_up (va_up (va_up i 0 x0_21) 20 (0 : Int32)) 21 nn) 22 x22_25) 23 x23_26) 24 x24_27) 25 x25_28) 36 x36_29) 38 (0 : Int32)) (va_up (va_up (va_up (va_up (va_up (va_up (va_up (va_up (va_up (va_up a 26 l26) 27 l27) 28 l28) 29 l29) 30 l30) 31 l31) 32 l32) 33 l33) 34 f_52) 35 (upd (a 35) rr.toNatClampNeg x36_29))) _ := hP
                      have hD : va_D _ (mw g h0 b (va_up (va_up (va_up (va_up (va_up (va_up (va_up (va_up (va_up i 0 x0_21) 20 (0 : Int32)) 21 nn) 22 x22_25) 23 x23_26) 24 x24_27) 25 x25_28) 36 x36_29) 38 (0 : Int32)) (va_up (va_up (va_up (va_up (va_up (va_up (va_up (va_up (va_up (va_up a 26 l26) 27 l27) 28 l28) 29 l29) 30 l30) 31 l31) 32 l32) 33 l33) 34 f_52) 35 (upd (a 35) rr.toNatClampNeg x36_29))) := hD
                      obtain ⟨f_53, ef_53⟩ : ∃ z, z = (upd (a 35) rr.toNatClampNeg x36_29) := ⟨_, rfl⟩
                      rw [← ef_53] at hP hD
                      refine lv_aload_n hx hb dX10_recipe_350 rfl (lv_at hl 3 rfl) ?_
                      refine lv_aload_n hx hb dX10_recipe_351 rfl (lv_at hl 3 rfl) ?_
                      refine va_get (D := (dC, dI)) (ci := 10) (v := .int x36_29) (C := RX10) (T := TX10) (N := 51) hx hb hts inw_X10_recipe_10 hown hK hP 0 rfl rfl 36 (by decide) (hts (.fieldLink RX10 249 "VatHouseModel" "nodes" "I") (List.mem_of_getElem? (i := 7) (by exact rfl))) (fun _ h9 => h9) rfl dX10_recipe_352 ?_
                      refine va_put (D := (dC, dI)) (ci := 10) (v := .int x36_29) (ty := .int) (C := RX10) (T := TX10) (N := 51) hx hb hts inw_X10_recipe_10 tyX10 tyX10_ok nmX10 hown hK hP hD hS 0 rfl rfl 37 (by decide) (hts (.fieldLink RX10 284 "VatHouseModel" "latest" "I") (List.mem_of_getElem? (i := 19) (by exact rfl))) (fun _ h9 => h9) rfl (tyX10_ok 37 (by decide)) rfl rfl (Nat.le_of_ble_eq_true rfl) dX10_recipe_355 (fun H locs hP hD hS => ?_)
                      have hP : va_P (dC, dI) vwCl (mw g h0 b (va_up (va_up (va_up (va_up (va_up (va_up (va_up (va_up (va_up (va_up i 0 x0_21) 20 (0 : Int32)) 21 nn) 22 x22_25) 23 x23_26) 24 x24_27) 25 x25_28) 36 x36_29) 37 x36_29) 38 (0 : Int32)) (va_up (va_up (va_up (va_up (va_up (va_up (va_up (va_up (va_up (va_up a 26 l26) 27 l27) 28 l28) 29 l29) 30 l30) 31 l31) 32 l32) 33 l33) 34 f_52) 35 f_53)) _ := hP
                      have hD : va_D _ (mw g h0 b (va_up (va_up (va_up (va_up (va_up (va_up (va_up (va_up (va_up (va_up i 0 x0_21) 20 (0 : Int32)) 21 nn) 22 x22_25) 23 x23_26) 24 x24_27) 25 x25_28) 36 x36_29) 37 x36_29) 38 (0 : Int32)) (va_up (va_up (va_up (va_up (va_up (va_up (va_up (va_up (va_up (va_up a 26 l26) 27 l27) 28 l28) 29 l29) 30 l30) 31 l31) 32 l32) 33 l33) 34 f_52) 35 f_53)) := hD
                      refine lv_iconst (v := 0) hx hb dX10_recipe_358 (by decide) ?_
                      exact M_i hx hb hr hlocks (x0_21, (0 : Int32), nn, x22_25, x23_26, x24_27, x25_28, x36_29, x36_29, (0 : Int32), l26, l27, l28, l29, l30, l31, l32, l33, f_52, f_53) hP hD hK hS ⟨⟨_, rfl⟩, ⟨⟨by decide, by rw [ef_52, ef_53]; exact BI.put hr8 hBI hPR_40.2.2.1 hPR_40.2.1 hcp hby hlkz (by rw [if_pos c_48]) hrc⟩, Or.inr ⟨⟨c_1, c_6, c_11, c_16⟩, rfl, hz2_23.2, ln, r2, hnl, hln, hevT.ev, hmT.1.trans hmT.2.1.symm, hmT.2.2.1, (by rw [show x23_26 = 0 from hmT.1]), Or.inr ⟨hmT.1, TN, hevT, h36T, (by rw [ef_52, hrc]; exact congrArg (upd (a 34) r) (fi_v (n := r2.2.1) hhd hby hr8 (by rw [if_pos c_48]))), (by rw [hrc]; rw [h36n] at hcp hcq28 hcq29 hcq30; exact TR_cp hGN htqT hcp hcq28 hcq29 hcq30 hby hr8 hn2), (by rw [hrc]; rw [h36n] at hcp hcq28 hcq29 hcq30; exact BKO.of (BK8.of hPR_40.2.2.1 hk3) hcp hcq28 hcq29 hcq30 hn2)⟩⟩⟩⟩ (Nat.le_of_ble_eq_true rfl) (Nat.le_of_ble_eq_true rfl) dX10_recipe_359
                  · have nc_47 := nle_i c_47
                    have hd3 : (d : Int) < x36_29.toInt := by omega
                    have hkxc : kx.toNatClampNeg = 2400 + d := by have h9 := clamp_i (x := kx) (by omega); omega
                    have hd300 : d < 300 := by omega
                    have hkxv : vp_in kx 2700 := in_i (by omega) (by omega)
                    refine lv_aload_n hx hb dX10_recipe_124 rfl (lv_at hl 3 rfl) ?_
                    refine va_get (D := (dC, dI)) (ci := 10) (v := .ref (b 26)) (C := RX10) (T := TX10) (N := 51) hx hb hts inw_X10_recipe_10 hown hK hP 0 rfl rfl 26 (by decide) (hts (.fieldLink RX10 60 "VatHouseModel" "kind" "[I") (List.mem_of_getElem? (i := 9) (by exact rfl))) (fun _ h9 => h9) rfl dX10_recipe_125 ?_
                    refine lv_iload hx hb dX10_recipe_128 (lv_at hl 0 rfl) ?_
                    refine lv_iload hx hb dX10_recipe_130 (lv_at hl 1 rfl) ?_
                    refine lv_iadd hx hb dX10_recipe_132 ?_
                    refine lv_topi (fun z_54 ez_54 => ?_)
                    refine lv_aload_n hx hb dX10_recipe_133 rfl (lv_at hl 3 rfl) ?_
                    refine va_get (D := (dC, dI)) (ci := 10) (v := .ref (b 26)) (C := RX10) (T := TX10) (N := 51) hx hb hts inw_X10_recipe_10 hown hK hP 0 rfl rfl 26 (by decide) (hts (.fieldLink RX10 60 "VatHouseModel" "kind" "[I") (List.mem_of_getElem? (i := 9) (by exact rfl))) (fun _ h9 => h9) rfl dX10_recipe_134 ?_
                    refine lv_iload hx hb dX10_recipe_137 (lv_at hl 0 rfl) ?_
                    refine va_iald hx hb hK hP 16 15 rfl rfl hkxv dX10_recipe_139 ?_
                    refine lv_topi (fun z_55 ez_55 => ?_)
                    have ez_55 : z_55 = l26 kx.toNatClampNeg := ez_55
                    refine va_iast hx hb hK hP hD hS 16 15 rfl rfl (rc_in ez_54 hkxI hby hr8 hd300).2.2 dX10_recipe_140 (fun H locs hP hD hS => ?_)
                    have hP : va_P (dC, dI) vwCl (mw g h0 b (va_up (va_up (va_up (va_up (va_up (va_up (va_up (va_up (va_up i 0 x0_21) 20 (0 : Int32)) 21 nn) 22 x22_25) 23 x23_26) 24 x24_27) 25 x25_28) 36 x36_29) 38 (0 : Int32)) (va_up (va_up (va_up (va_up (va_up (va_up (va_up (va_up a 26 (upd l26 z_54.toNatClampNeg z_55)) 27 l27) 28 l28) 29 l29) 30 l30) 31 l31) 32 l32) 33 l33)) _ := hP
                    have hD : va_D _ (mw g h0 b (va_up (va_up (va_up (va_up (va_up (va_up (va_up (va_up (va_up i 0 x0_21) 20 (0 : Int32)) 21 nn) 22 x22_25) 23 x23_26) 24 x24_27) 25 x25_28) 36 x36_29) 38 (0 : Int32)) (va_up (va_up (va_up (va_up (va_up (va_up (va_up (va_up a 26 (upd l26 z_54.toNatClampNeg z_55)) 27 l27) 28 l28) 29 l29) 30 l30) 31 l31) 32 l32) 33 l33)) := hD
                    obtain ⟨f_56, ef_56⟩ : ∃ z, z = (upd l26 z_54.toNatClampNeg z_55) := ⟨_, rfl⟩
                    rw [← ef_56] at hP hD
                    refine lv_aload_n hx hb dX10_recipe_141 rfl (lv_at hl 3 rfl) ?_
                    refine va_get (D := (dC, dI)) (ci := 10) (v := .ref (b 27)) (C := RX10) (T := TX10) (N := 51) hx hb hts inw_X10_recipe_10 hown hK hP 0 rfl rfl 27 (by decide) (hts (.fieldLink RX10 63 "VatHouseModel" "one" "[I") (List.mem_of_getElem? (i := 10) (by exact rfl))) (fun _ h9 => h9) rfl dX10_recipe_142 ?_
                    refine lv_iload hx hb dX10_recipe_145 (lv_at hl 0 rfl) ?_
                    refine lv_iload hx hb dX10_recipe_147 (lv_at hl 1 rfl) ?_
                    refine lv_iadd hx hb dX10_recipe_149 ?_
                    refine lv_topi (fun z_57 ez_57 => ?_)
                    refine lv_aload_n hx hb dX10_recipe_150 rfl (lv_at hl 3 rfl) ?_
                    refine va_get (D := (dC, dI)) (ci := 10) (v := .ref (b 27)) (C := RX10) (T := TX10) (N := 51) hx hb hts inw_X10_recipe_10 hown hK hP 0 rfl rfl 27 (by decide) (hts (.fieldLink RX10 63 "VatHouseModel" "one" "[I") (List.mem_of_getElem? (i := 10) (by exact rfl))) (fun _ h9 => h9) rfl dX10_recipe_151 ?_
                    refine lv_iload hx hb dX10_recipe_154 (lv_at hl 0 rfl) ?_
                    refine va_iald hx hb hK hP 17 16 rfl rfl hkxv dX10_recipe_156 ?_
                    refine lv_topi (fun z_58 ez_58 => ?_)
                    have ez_58 : z_58 = l27 kx.toNatClampNeg := ez_58
                    refine va_iast hx hb hK hP hD hS 17 16 rfl rfl (rc_in ez_57 hkxI hby hr8 hd300).2.2 dX10_recipe_157 (fun H locs hP hD hS => ?_)
                    have hP : va_P (dC, dI) vwCl (mw g h0 b (va_up (va_up (va_up (va_up (va_up (va_up (va_up (va_up (va_up i 0 x0_21) 20 (0 : Int32)) 21 nn) 22 x22_25) 23 x23_26) 24 x24_27) 25 x25_28) 36 x36_29) 38 (0 : Int32)) (va_up (va_up (va_up (va_up (va_up (va_up (va_up (va_up a 26 f_56) 27 (upd l27 z_57.toNatClampNeg z_58)) 28 l28) 29 l29) 30 l30) 31 l31) 32 l32) 33 l33)) _ := hP
                    have hD : va_D _ (mw g h0 b (va_up (va_up (va_up (va_up (va_up (va_up (va_up (va_up (va_up i 0 x0_21) 20 (0 : Int32)) 21 nn) 22 x22_25) 23 x23_26) 24 x24_27) 25 x25_28) 36 x36_29) 38 (0 : Int32)) (va_up (va_up (va_up (va_up (va_up (va_up (va_up (va_up a 26 f_56) 27 (upd l27 z_57.toNatClampNeg z_58)) 28 l28) 29 l29) 30 l30) 31 l31) 32 l32) 33 l33)) := hD
                    obtain ⟨f_59, ef_59⟩ : ∃ z, z = (upd l27 z_57.toNatClampNeg z_58) := ⟨_, rfl⟩
                    rw [← ef_59] at hP hD
                    refine lv_aload_n hx hb dX10_recipe_158 rfl (lv_at hl 3 rfl) ?_
                    refine va_get (D := (dC, dI)) (ci := 10) (v := .ref (b 28)) (C := RX10) (T := TX10) (N := 51) hx hb hts inw_X10_recipe_10 hown hK hP 0 rfl rfl 28 (by decide) (hts (.fieldLink RX10 66 "VatHouseModel" "two" "[I") (List.mem_of_getElem? (i := 11) (by exact rfl))) (fun _ h9 => h9) rfl dX10_recipe_159 ?_
                    refine lv_iload hx hb dX10_recipe_162 (lv_at hl 0 rfl) ?_
                    refine lv_iload hx hb dX10_recipe_164 (lv_at hl 1 rfl) ?_
                    refine lv_iadd hx hb dX10_recipe_166 ?_
                    refine lv_topi (fun z_60 ez_60 => ?_)
                    refine lv_aload_n hx hb dX10_recipe_167 rfl (lv_at hl 3 rfl) ?_
                    refine va_get (D := (dC, dI)) (ci := 10) (v := .ref (b 28)) (C := RX10) (T := TX10) (N := 51) hx hb hts inw_X10_recipe_10 hown hK hP 0 rfl rfl 28 (by decide) (hts (.fieldLink RX10 66 "VatHouseModel" "two" "[I") (List.mem_of_getElem? (i := 11) (by exact rfl))) (fun _ h9 => h9) rfl dX10_recipe_168 ?_
                    refine lv_iload hx hb dX10_recipe_171 (lv_at hl 0 rfl) ?_
                    refine va_iald hx hb hK hP 18 17 rfl rfl hkxv dX10_recipe_173 ?_
                    refine lv_topi (fun z_61 ez_61 => ?_)
                    have ez_61 : z_61 = l28 kx.toNatClampNeg := ez_61
                    refine va_iast hx hb hK hP hD hS 18 17 rfl rfl (rc_in ez_60 hkxI hby hr8 hd300).2.2 dX10_recipe_174 (fun H locs hP hD hS => ?_)
                    have hP : va_P (dC, dI) vwCl (mw g h0 b (va_up (va_up (va_up (va_up (va_up (va_up (va_up (va_up (va_up i 0 x0_21) 20 (0 : Int32)) 21 nn) 22 x22_25) 23 x23_26) 24 x24_27) 25 x25_28) 36 x36_29) 38 (0 : Int32)) (va_up (va_up (va_up (va_up (va_up (va_up (va_up (va_up a 26 f_56) 27 f_59) 28 (upd l28 z_60.toNatClampNeg z_61)) 29 l29) 30 l30) 31 l31) 32 l32) 33 l33)) _ := hP
                    have hD : va_D _ (mw g h0 b (va_up (va_up (va_up (va_up (va_up (va_up (va_up (va_up (va_up i 0 x0_21) 20 (0 : Int32)) 21 nn) 22 x22_25) 23 x23_26) 24 x24_27) 25 x25_28) 36 x36_29) 38 (0 : Int32)) (va_up (va_up (va_up (va_up (va_up (va_up (va_up (va_up a 26 f_56) 27 f_59) 28 (upd l28 z_60.toNatClampNeg z_61)) 29 l29) 30 l30) 31 l31) 32 l32) 33 l33)) := hD
                    obtain ⟨f_62, ef_62⟩ : ∃ z, z = (upd l28 z_60.toNatClampNeg z_61) := ⟨_, rfl⟩
                    rw [← ef_62] at hP hD
                    refine lv_aload_n hx hb dX10_recipe_175 rfl (lv_at hl 3 rfl) ?_
                    refine va_get (D := (dC, dI)) (ci := 10) (v := .ref (b 29)) (C := RX10) (T := TX10) (N := 51) hx hb hts inw_X10_recipe_10 hown hK hP 0 rfl rfl 29 (by decide) (hts (.fieldLink RX10 69 "VatHouseModel" "look" "[I") (List.mem_of_getElem? (i := 12) (by exact rfl))) (fun _ h9 => h9) rfl dX10_recipe_176 ?_
                    refine lv_iload hx hb dX10_recipe_179 (lv_at hl 0 rfl) ?_
                    refine lv_iload hx hb dX10_recipe_181 (lv_at hl 1 rfl) ?_
                    refine lv_iadd hx hb dX10_recipe_183 ?_
                    refine lv_topi (fun z_63 ez_63 => ?_)
                    refine lv_aload_n hx hb dX10_recipe_184 rfl (lv_at hl 3 rfl) ?_
                    refine va_get (D := (dC, dI)) (ci := 10) (v := .ref (b 29)) (C := RX10) (T := TX10) (N := 51) hx hb hts inw_X10_recipe_10 hown hK hP 0 rfl rfl 29 (by decide) (hts (.fieldLink RX10 69 "VatHouseModel" "look" "[I") (List.mem_of_getElem? (i := 12) (by exact rfl))) (fun _ h9 => h9) rfl dX10_recipe_185 ?_
                    refine lv_iload hx hb dX10_recipe_188 (lv_at hl 0 rfl) ?_
                    refine va_iald hx hb hK hP 19 18 rfl rfl hkxv dX10_recipe_190 ?_
                    refine lv_topi (fun z_64 ez_64 => ?_)
                    have ez_64 : z_64 = l29 kx.toNatClampNeg := ez_64
                    refine va_iast hx hb hK hP hD hS 19 18 rfl rfl (rc_in ez_63 hkxI hby hr8 hd300).2.2 dX10_recipe_191 (fun H locs hP hD hS => ?_)
                    have hP : va_P (dC, dI) vwCl (mw g h0 b (va_up (va_up (va_up (va_up (va_up (va_up (va_up (va_up (va_up i 0 x0_21) 20 (0 : Int32)) 21 nn) 22 x22_25) 23 x23_26) 24 x24_27) 25 x25_28) 36 x36_29) 38 (0 : Int32)) (va_up (va_up (va_up (va_up (va_up (va_up (va_up (va_up a 26 f_56) 27 f_59) 28 f_62) 29 (upd l29 z_63.toNatClampNeg z_64)) 30 l30) 31 l31) 32 l32) 33 l33)) _ := hP
                    have hD : va_D _ (mw g h0 b (va_up (va_up (va_up (va_up (va_up (va_up (va_up (va_up (va_up i 0 x0_21) 20 (0 : Int32)) 21 nn) 22 x22_25) 23 x23_26) 24 x24_27) 25 x25_28) 36 x36_29) 38 (0 : Int32)) (va_up (va_up (va_up (va_up (va_up (va_up (va_up (va_up a 26 f_56) 27 f_59) 28 f_62) 29 (upd l29 z_63.toNatClampNeg z_64)) 30 l30) 31 l31) 32 l32) 33 l33)) := hD
                    obtain ⟨f_65, ef_65⟩ : ∃ z, z = (upd l29 z_63.toNatClampNeg z_64) := ⟨_, rfl⟩
                    rw [← ef_65] at hP hD
                    refine lv_aload_n hx hb dX10_recipe_192 rfl (lv_at hl 3 rfl) ?_
                    refine va_get (D := (dC, dI)) (ci := 10) (v := .ref (b 30)) (C := RX10) (T := TX10) (N := 51) hx hb hts inw_X10_recipe_10 hown hK hP 0 rfl rfl 30 (by decide) (hts (.fieldLink RX10 72 "VatHouseModel" "sign" "[I") (List.mem_of_getElem? (i := 13) (by exact rfl))) (fun _ h9 => h9) rfl dX10_recipe_193 ?_
                    refine lv_iload hx hb dX10_recipe_196 (lv_at hl 0 rfl) ?_
                    refine lv_iload hx hb dX10_recipe_198 (lv_at hl 1 rfl) ?_
                    refine lv_iadd hx hb dX10_recipe_200 ?_
                    refine lv_topi (fun z_66 ez_66 => ?_)
                    refine lv_aload_n hx hb dX10_recipe_201 rfl (lv_at hl 3 rfl) ?_
                    refine va_get (D := (dC, dI)) (ci := 10) (v := .ref (b 30)) (C := RX10) (T := TX10) (N := 51) hx hb hts inw_X10_recipe_10 hown hK hP 0 rfl rfl 30 (by decide) (hts (.fieldLink RX10 72 "VatHouseModel" "sign" "[I") (List.mem_of_getElem? (i := 13) (by exact rfl))) (fun _ h9 => h9) rfl dX10_recipe_202 ?_
                    refine lv_iload hx hb dX10_recipe_205 (lv_at hl 0 rfl) ?_
                    refine va_iald hx hb hK hP 20 19 rfl rfl hkxv dX10_recipe_207 ?_
                    refine lv_topi (fun z_67 ez_67 => ?_)
                    have ez_67 : z_67 = l30 kx.toNatClampNeg := ez_67
                    refine va_iast hx hb hK hP hD hS 20 19 rfl rfl (rc_in ez_66 hkxI hby hr8 hd300).2.2 dX10_recipe_208 (fun H locs hP hD hS => ?_)
                    have hP : va_P (dC, dI) vwCl (mw g h0 b (va_up (va_up (va_up (va_up (va_up (va_up (va_up (va_up (va_up i 0 x0_21) 20 (0 : Int32)) 21 nn) 22 x22_25) 23 x23_26) 24 x24_27) 25 x25_28) 36 x36_29) 38 (0 : Int32)) (va_up (va_up (va_up (va_up (va_up (va_up (va_up (va_up a 26 f_56) 27 f_59) 28 f_62) 29 f_65) 30 (upd l30 z_66.toNatClampNeg z_67)) 31 l31) 32 l32) 33 l33)) _ := hP
                    have hD : va_D _ (mw g h0 b (va_up (va_up (va_up (va_up (va_up (va_up (va_up (va_up (va_up i 0 x0_21) 20 (0 : Int32)) 21 nn) 22 x22_25) 23 x23_26) 24 x24_27) 25 x25_28) 36 x36_29) 38 (0 : Int32)) (va_up (va_up (va_up (va_up (va_up (va_up (va_up (va_up a 26 f_56) 27 f_59) 28 f_62) 29 f_65) 30 (upd l30 z_66.toNatClampNeg z_67)) 31 l31) 32 l32) 33 l33)) := hD
                    obtain ⟨f_68, ef_68⟩ : ∃ z, z = (upd l30 z_66.toNatClampNeg z_67) := ⟨_, rfl⟩
                    rw [← ef_68] at hP hD
                    refine lv_aload_n hx hb dX10_recipe_209 rfl (lv_at hl 3 rfl) ?_
                    refine va_get (D := (dC, dI)) (ci := 10) (v := .ref (b 31)) (C := RX10) (T := TX10) (N := 51) hx hb hts inw_X10_recipe_10 hown hK hP 0 rfl rfl 31 (by decide) (hts (.fieldLink RX10 75 "VatHouseModel" "inner" "[I") (List.mem_of_getElem? (i := 14) (by exact rfl))) (fun _ h9 => h9) rfl dX10_recipe_210 ?_
                    refine lv_iload hx hb dX10_recipe_213 (lv_at hl 0 rfl) ?_
                    refine lv_iload hx hb dX10_recipe_215 (lv_at hl 1 rfl) ?_
                    refine lv_iadd hx hb dX10_recipe_217 ?_
                    refine lv_topi (fun z_69 ez_69 => ?_)
                    refine lv_aload_n hx hb dX10_recipe_218 rfl (lv_at hl 3 rfl) ?_
                    refine va_get (D := (dC, dI)) (ci := 10) (v := .ref (b 31)) (C := RX10) (T := TX10) (N := 51) hx hb hts inw_X10_recipe_10 hown hK hP 0 rfl rfl 31 (by decide) (hts (.fieldLink RX10 75 "VatHouseModel" "inner" "[I") (List.mem_of_getElem? (i := 14) (by exact rfl))) (fun _ h9 => h9) rfl dX10_recipe_219 ?_
                    refine lv_iload hx hb dX10_recipe_222 (lv_at hl 0 rfl) ?_
                    refine va_iald hx hb hK hP 21 20 rfl rfl hkxv dX10_recipe_224 ?_
                    refine lv_topi (fun z_70 ez_70 => ?_)
                    have ez_70 : z_70 = l31 kx.toNatClampNeg := ez_70
                    refine lv_iconst (v := (-1)) hx hb dX10_recipe_225 (by decide) ?_
                    refine lv_icmp_ne (tgt := 233) hx hb dX10_recipe_226 (by decide) (fun c_71 => ?_) (fun c_71 => ?_)
                    · have nc_71 := ne_i c_71
                      have lc_71 : ((-1) : Int32).toInt = -1 := by decide
                      refine lv_aload_n hx hb dX10_recipe_233 rfl (lv_at hl 3 rfl) ?_
                      refine va_get (D := (dC, dI)) (ci := 10) (v := .ref (b 31)) (C := RX10) (T := TX10) (N := 51) hx hb hts inw_X10_recipe_10 hown hK hP 0 rfl rfl 31 (by decide) (hts (.fieldLink RX10 75 "VatHouseModel" "inner" "[I") (List.mem_of_getElem? (i := 14) (by exact rfl))) (fun _ h9 => h9) rfl dX10_recipe_234 ?_
                      refine lv_iload hx hb dX10_recipe_237 (lv_at hl 0 rfl) ?_
                      refine va_iald hx hb hK hP 21 20 rfl rfl hkxv dX10_recipe_239 ?_
                      refine lv_topi (fun z_72 ez_72 => ?_)
                      have ez_72 : z_72 = l31 kx.toNatClampNeg := ez_72
                      refine lv_iload hx hb dX10_recipe_240 (lv_at hl 1 rfl) ?_
                      refine lv_iadd hx hb dX10_recipe_242 ?_
                      refine lv_topi (fun z_73 ez_73 => ?_)
                      refine va_iast hx hb hK hP hD hS 21 20 rfl rfl (rc_in ez_69 hkxI hby hr8 hd300).2.2 dX10_recipe_243 (fun H locs hP hD hS => ?_)
                      have hP : va_P (dC, dI) vwCl (mw g h0 b (va_up (va_up (va_up (va_up (va_up (va_up (va_up (va_up (va_up i 0 x0_21) 20 (0 : Int32)) 21 nn) 22 x22_25) 23 x23_26) 24 x24_27) 25 x25_28) 36 x36_29) 38 (0 : Int32)) (va_up (va_up (va_up (va_up (va_up (va_up (va_up (va_up a 26 f_56) 27 f_59) 28 f_62) 29 f_65) 30 f_68) 31 (upd l31 z_69.toNatClampNeg z_73)) 32 l32) 33 l33)) _ := hP
                      have hD : va_D _ (mw g h0 b (va_up (va_up (va_up (va_up (va_up (va_up (va_up (va_up (va_up i 0 x0_21) 20 (0 : Int32)) 21 nn) 22 x22_25) 23 x23_26) 24 x24_27) 25 x25_28) 36 x36_29) 38 (0 : Int32)) (va_up (va_up (va_up (va_up (va_up (va_up (va_up (va_up a 26 f_56) 27 f_59) 28 f_62) 29 f_65) 30 f_68) 31 (upd l31 z_69.toNatClampNeg z_73)) 32 l32) 33 l33)) := hD
                      obtain ⟨f_74, ef_74⟩ : ∃ z, z = (upd l31 z_69.toNatClampNeg z_73) := ⟨_, rfl⟩
                      rw [← ef_74] at hP hD
                      refine lv_aload_n hx hb dX10_recipe_244 rfl (lv_at hl 3 rfl) ?_
                      refine va_get (D := (dC, dI)) (ci := 10) (v := .ref (b 32)) (C := RX10) (T := TX10) (N := 51) hx hb hts inw_X10_recipe_10 hown hK hP 0 rfl rfl 32 (by decide) (hts (.fieldLink RX10 78 "VatHouseModel" "other" "[I") (List.mem_of_getElem? (i := 15) (by exact rfl))) (fun _ h9 => h9) rfl dX10_recipe_245 ?_
                      refine lv_iload hx hb dX10_recipe_248 (lv_at hl 0 rfl) ?_
                      refine lv_iload hx hb dX10_recipe_250 (lv_at hl 1 rfl) ?_
                      refine lv_iadd hx hb dX10_recipe_252 ?_
                      refine lv_topi (fun z_75 ez_75 => ?_)
                      refine lv_aload_n hx hb dX10_recipe_253 rfl (lv_at hl 3 rfl) ?_
                      refine va_get (D := (dC, dI)) (ci := 10) (v := .ref (b 32)) (C := RX10) (T := TX10) (N := 51) hx hb hts inw_X10_recipe_10 hown hK hP 0 rfl rfl 32 (by decide) (hts (.fieldLink RX10 78 "VatHouseModel" "other" "[I") (List.mem_of_getElem? (i := 15) (by exact rfl))) (fun _ h9 => h9) rfl dX10_recipe_254 ?_
                      refine lv_iload hx hb dX10_recipe_257 (lv_at hl 0 rfl) ?_
                      refine va_iald hx hb hK hP 22 21 rfl rfl hkxv dX10_recipe_259 ?_
                      refine lv_topi (fun z_76 ez_76 => ?_)
                      have ez_76 : z_76 = l32 kx.toNatClampNeg := ez_76
                      refine lv_iconst (v := (-1)) hx hb dX10_recipe_260 (by decide) ?_
                      refine lv_icmp_ne (tgt := 268) hx hb dX10_recipe_261 (by decide) (fun c_77 => ?_) (fun c_77 => ?_)
                      · have nc_77 := ne_i c_77
                        have lc_77 : ((-1) : Int32).toInt = -1 := by decide
                        refine lv_aload_n hx hb dX10_recipe_268 rfl (lv_at hl 3 rfl) ?_
                        refine va_get (D := (dC, dI)) (ci := 10) (v := .ref (b 32)) (C := RX10) (T := TX10) (N := 51) hx hb hts inw_X10_recipe_10 hown hK hP 0 rfl rfl 32 (by decide) (hts (.fieldLink RX10 78 "VatHouseModel" "other" "[I") (List.mem_of_getElem? (i := 15) (by exact rfl))) (fun _ h9 => h9) rfl dX10_recipe_269 ?_
                        refine lv_iload hx hb dX10_recipe_272 (lv_at hl 0 rfl) ?_
                        refine va_iald hx hb hK hP 22 21 rfl rfl hkxv dX10_recipe_274 ?_
                        refine lv_topi (fun z_78 ez_78 => ?_)
                        have ez_78 : z_78 = l32 kx.toNatClampNeg := ez_78
                        refine lv_iload hx hb dX10_recipe_275 (lv_at hl 1 rfl) ?_
                        refine lv_iadd hx hb dX10_recipe_277 ?_
                        refine lv_topi (fun z_79 ez_79 => ?_)
                        refine va_iast hx hb hK hP hD hS 22 21 rfl rfl (rc_in ez_75 hkxI hby hr8 hd300).2.2 dX10_recipe_278 (fun H locs hP hD hS => ?_)
                        have hP : va_P (dC, dI) vwCl (mw g h0 b (va_up (va_up (va_up (va_up (va_up (va_up (va_up (va_up (va_up i 0 x0_21) 20 (0 : Int32)) 21 nn) 22 x22_25) 23 x23_26) 24 x24_27) 25 x25_28) 36 x36_29) 38 (0 : Int32)) (va_up (va_up (va_up (va_up (va_up (va_up (va_up (va_up a 26 f_56) 27 f_59) 28 f_62) 29 f_65) 30 f_68) 31 f_74) 32 (upd l32 z_75.toNatClampNeg z_79)) 33 l33)) _ := hP
                        have hD : va_D _ (mw g h0 b (va_up (va_up (va_up (va_up (va_up (va_up (va_up (va_up (va_up i 0 x0_21) 20 (0 : Int32)) 21 nn) 22 x22_25) 23 x23_26) 24 x24_27) 25 x25_28) 36 x36_29) 38 (0 : Int32)) (va_up (va_up (va_up (va_up (va_up (va_up (va_up (va_up a 26 f_56) 27 f_59) 28 f_62) 29 f_65) 30 f_68) 31 f_74) 32 (upd l32 z_75.toNatClampNeg z_79)) 33 l33)) := hD
                        obtain ⟨f_80, ef_80⟩ : ∃ z, z = (upd l32 z_75.toNatClampNeg z_79) := ⟨_, rfl⟩
                        rw [← ef_80] at hP hD
                        refine lv_aload_n hx hb dX10_recipe_279 rfl (lv_at hl 3 rfl) ?_
                        refine va_get (D := (dC, dI)) (ci := 10) (v := .ref (b 33)) (C := RX10) (T := TX10) (N := 51) hx hb hts inw_X10_recipe_10 hown hK hP 0 rfl rfl 33 (by decide) (hts (.fieldLink RX10 81 "VatHouseModel" "next" "[I") (List.mem_of_getElem? (i := 16) (by exact rfl))) (fun _ h9 => h9) rfl dX10_recipe_280 ?_
                        refine lv_iload hx hb dX10_recipe_283 (lv_at hl 0 rfl) ?_
                        refine lv_iload hx hb dX10_recipe_285 (lv_at hl 1 rfl) ?_
                        refine lv_iadd hx hb dX10_recipe_287 ?_
                        refine lv_topi (fun z_81 ez_81 => ?_)
                        refine lv_aload_n hx hb dX10_recipe_288 rfl (lv_at hl 3 rfl) ?_
                        refine va_get (D := (dC, dI)) (ci := 10) (v := .ref (b 33)) (C := RX10) (T := TX10) (N := 51) hx hb hts inw_X10_recipe_10 hown hK hP 0 rfl rfl 33 (by decide) (hts (.fieldLink RX10 81 "VatHouseModel" "next" "[I") (List.mem_of_getElem? (i := 16) (by exact rfl))) (fun _ h9 => h9) rfl dX10_recipe_289 ?_
                        refine lv_iload hx hb dX10_recipe_292 (lv_at hl 0 rfl) ?_
                        refine va_iald hx hb hK hP 23 22 rfl rfl hkxv dX10_recipe_294 ?_
                        refine lv_topi (fun z_82 ez_82 => ?_)
                        have ez_82 : z_82 = l33 kx.toNatClampNeg := ez_82
                        refine lv_iconst (v := (-1)) hx hb dX10_recipe_295 (by decide) ?_
                        refine lv_icmp_ne (tgt := 303) hx hb dX10_recipe_296 (by decide) (fun c_83 => ?_) (fun c_83 => ?_)
                        · have nc_83 := ne_i c_83
                          have lc_83 : ((-1) : Int32).toInt = -1 := by decide
                          refine lv_aload_n hx hb dX10_recipe_303 rfl (lv_at hl 3 rfl) ?_
                          refine va_get (D := (dC, dI)) (ci := 10) (v := .ref (b 33)) (C := RX10) (T := TX10) (N := 51) hx hb hts inw_X10_recipe_10 hown hK hP 0 rfl rfl 33 (by decide) (hts (.fieldLink RX10 81 "VatHouseModel" "next" "[I") (List.mem_of_getElem? (i := 16) (by exact rfl))) (fun _ h9 => h9) rfl dX10_recipe_304 ?_
                          refine lv_iload hx hb dX10_recipe_307 (lv_at hl 0 rfl) ?_
                          refine va_iald hx hb hK hP 23 22 rfl rfl hkxv dX10_recipe_309 ?_
                          refine lv_topi (fun z_84 ez_84 => ?_)
                          have ez_84 : z_84 = l33 kx.toNatClampNeg := ez_84
                          refine lv_iload hx hb dX10_recipe_310 (lv_at hl 1 rfl) ?_
                          refine lv_iadd hx hb dX10_recipe_312 ?_
                          refine lv_topi (fun z_85 ez_85 => ?_)
                          refine va_iast hx hb hK hP hD hS 23 22 rfl rfl (rc_in ez_81 hkxI hby hr8 hd300).2.2 dX10_recipe_313 (fun H locs hP hD hS => ?_)
                          have hP : va_P (dC, dI) vwCl (mw g h0 b (va_up (va_up (va_up (va_up (va_up (va_up (va_up (va_up (va_up i 0 x0_21) 20 (0 : Int32)) 21 nn) 22 x22_25) 23 x23_26) 24 x24_27) 25 x25_28) 36 x36_29) 38 (0 : Int32)) (va_up (va_up (va_up (va_up (va_up (va_up (va_up (va_up a 26 f_56) 27 f_59) 28 f_62) 29 f_65) 30 f_68) 31 f_74) 32 f_80) 33 (upd l33 z_81.toNatClampNeg z_85))) _ := hP
                          have hD : va_D _ (mw g h0 b (va_up (va_up (va_up (va_up (va_up (va_up (va_up (va_up (va_up i 0 x0_21) 20 (0 : Int32)) 21 nn) 22 x22_25) 23 x23_26) 24 x24_27) 25 x25_28) 36 x36_29) 38 (0 : Int32)) (va_up (va_up (va_up (va_up (va_up (va_up (va_up (va_up a 26 f_56) 27 f_59) 28 f_62) 29 f_65) 30 f_68) 31 f_74) 32 f_80) 33 (upd l33 z_81.toNatClampNeg z_85))) := hD
                          obtain ⟨f_86, ef_86⟩ : ∃ z, z = (upd l33 z_81.toNatClampNeg z_85) := ⟨_, rfl⟩
                          rw [← ef_86] at hP hD
                          refine lv_iinc (v := (kx + 1)) (lv' := [(5, .int (kx + 1)), (4, .int z_45), (3, .int z_39), (0, .ref h0), (1, .int rr), (2, .int nn)]) hx hb dX10_recipe_314 hl (k := 0) rfl rfl (by decide) rfl (fun ls hl => ?_)
                          refine lv_goto (tgt := 111) hx hb dX10_recipe_317 (by decide) ?_
                          exact ih (kx + 1) f_56 f_59 f_62 f_65 f_68 f_74 f_80 f_86 _ _ _ (rc_nx hm hkxI hd3) (⟨d + 1, by rw [hd1]; exact nI_1 (2400 + d), by omega, by rw [ef_56, ef_59, ef_74, ef_80, ef_86]; exact CP.step hcp hr8 (rc_in ez_54 hkxI hby hr8 hd300).2.1 (rc_in ez_57 hkxI hby hr8 hd300).2.1 (rc_in ez_69 hkxI hby hr8 hd300).2.1 (rc_in ez_75 hkxI hby hr8 hd300).2.1 (rc_in ez_81 hkxI hby hr8 hd300).2.1 (by rw [ez_55, hkxc]) (by rw [ez_58, hkxc]) (by rw [shf, if_neg (by rw [← hkxc, ← ez_70]; exact c_71), ez_73, ez_72, hkxc]) (by rw [shf, if_neg (by rw [← hkxc, ← ez_76]; exact c_77), ez_79, ez_78, hkxc]) (by rw [shf, if_neg (by rw [← hkxc, ← ez_82]; exact c_83), ez_85, ez_84, hkxc]), (by rw [ef_62]; exact CQ.step hcq28 hr8 (rc_in ez_60 hkxI hby hr8 hd300).2.1 (by rw [ez_61, hkxc]) hd300), (by rw [ef_65]; exact CQ.step hcq29 hr8 (rc_in ez_63 hkxI hby hr8 hd300).2.1 (by rw [ez_64, hkxc]) hd300), (by rw [ef_68]; exact CQ.step hcq30 hr8 (rc_in ez_66 hkxI hby hr8 hd300).2.1 (by rw [ez_67, hkxc]) hd300)⟩) hP hD hS (lv_sub hl [0, 1, 2, 3, 4, 5] rfl)
                        · have nc_83 := eq_i c_83
                          have lc_83 : ((-1) : Int32).toInt = -1 := by decide
                          refine lv_iconst (v := (-1)) hx hb dX10_recipe_299 (by decide) ?_
                          refine lv_goto (tgt := 313) hx hb dX10_recipe_300 (by decide) ?_
                          refine va_iast hx hb hK hP hD hS 23 22 rfl rfl (rc_in ez_81 hkxI hby hr8 hd300).2.2 dX10_recipe_313 (fun H locs hP hD hS => ?_)
                          have hP : va_P (dC, dI) vwCl (mw g h0 b (va_up (va_up (va_up (va_up (va_up (va_up (va_up (va_up (va_up i 0 x0_21) 20 (0 : Int32)) 21 nn) 22 x22_25) 23 x23_26) 24 x24_27) 25 x25_28) 36 x36_29) 38 (0 : Int32)) (va_up (va_up (va_up (va_up (va_up (va_up (va_up (va_up a 26 f_56) 27 f_59) 28 f_62) 29 f_65) 30 f_68) 31 f_74) 32 f_80) 33 (upd l33 z_81.toNatClampNeg ((-1) : Int32)))) _ := hP
                          have hD : va_D _ (mw g h0 b (va_up (va_up (va_up (va_up (va_up (va_up (va_up (va_up (va_up i 0 x0_21) 20 (0 : Int32)) 21 nn) 22 x22_25) 23 x23_26) 24 x24_27) 25 x25_28) 36 x36_29) 38 (0 : Int32)) (va_up (va_up (va_up (va_up (va_up (va_up (va_up (va_up a 26 f_56) 27 f_59) 28 f_62) 29 f_65) 30 f_68) 31 f_74) 32 f_80) 33 (upd l33 z_81.toNatClampNeg ((-1) : Int32)))) := hD
                          obtain ⟨f_87, ef_87⟩ : ∃ z, z = (upd l33 z_81.toNatClampNeg ((-1) : Int32)) := ⟨_, rfl⟩
                          rw [← ef_87] at hP hD
                          refine lv_iinc (v := (kx + 1)) (lv' := [(5, .int (kx + 1)), (4, .int z_45), (3, .int z_39), (0, .ref h0), (1, .int rr), (2, .int nn)]) hx hb dX10_recipe_314 hl (k := 0) rfl rfl (by decide) rfl (fun ls hl => ?_)
                          refine lv_goto (tgt := 111) hx hb dX10_recipe_317 (by decide) ?_
                          exact ih (kx + 1) f_56 f_59 f_62 f_65 f_68 f_74 f_80 f_87 _ _ _ (rc_nx hm hkxI hd3) (⟨d + 1, by rw [hd1]; exact nI_1 (2400 + d), by omega, by rw [ef_56, ef_59, ef_74, ef_80, ef_87]; exact CP.step hcp hr8 (rc_in ez_54 hkxI hby hr8 hd300).2.1 (rc_in ez_57 hkxI hby hr8 hd300).2.1 (rc_in ez_69 hkxI hby hr8 hd300).2.1 (rc_in ez_75 hkxI hby hr8 hd300).2.1 (rc_in ez_81 hkxI hby hr8 hd300).2.1 (by rw [ez_55, hkxc]) (by rw [ez_58, hkxc]) (by rw [shf, if_neg (by rw [← hkxc, ← ez_70]; exact c_71), ez_73, ez_72, hkxc]) (by rw [shf, if_neg (by rw [← hkxc, ← ez_76]; exact c_77), ez_79, ez_78, hkxc]) (by rw [shf, if_pos (by rw [← hkxc, ← ez_82]; exact c_83)]), (by rw [ef_62]; exact CQ.step hcq28 hr8 (rc_in ez_60 hkxI hby hr8 hd300).2.1 (by rw [ez_61, hkxc]) hd300), (by rw [ef_65]; exact CQ.step hcq29 hr8 (rc_in ez_63 hkxI hby hr8 hd300).2.1 (by rw [ez_64, hkxc]) hd300), (by rw [ef_68]; exact CQ.step hcq30 hr8 (rc_in ez_66 hkxI hby hr8 hd300).2.1 (by rw [ez_67, hkxc]) hd300)⟩) hP hD hS (lv_sub hl [0, 1, 2, 3, 4, 5] rfl)
                      · have nc_77 := eq_i c_77
                        have lc_77 : ((-1) : Int32).toInt = -1 := by decide
                        refine lv_iconst (v := (-1)) hx hb dX10_recipe_264 (by decide) ?_
                        refine lv_goto (tgt := 278) hx hb dX10_recipe_265 (by decide) ?_
                        refine va_iast hx hb hK hP hD hS 22 21 rfl rfl (rc_in ez_75 hkxI hby hr8 hd300).2.2 dX10_recipe_278 (fun H locs hP hD hS => ?_)
                        have hP : va_P (dC, dI) vwCl (mw g h0 b (va_up (va_up (va_up (va_up (va_up (va_up (va_up (va_up (va_up i 0 x0_21) 20 (0 : Int32)) 21 nn) 22 x22_25) 23 x23_26) 24 x24_27) 25 x25_28) 36 x36_29) 38 (0 : Int32)) (va_up (va_up (va_up (va_up (va_up (va_up (va_up (va_up a 26 f_56) 27 f_59) 28 f_62) 29 f_65) 30 f_68) 31 f_74) 32 (upd l32 z_75.toNatClampNeg ((-1) : Int32))) 33 l33)) _ := hP
                        have hD : va_D _ (mw g h0 b (va_up (va_up (va_up (va_up (va_up (va_up (va_up (va_up (va_up i 0 x0_21) 20 (0 : Int32)) 21 nn) 22 x22_25) 23 x23_26) 24 x24_27) 25 x25_28) 36 x36_29) 38 (0 : Int32)) (va_up (va_up (va_up (va_up (va_up (va_up (va_up (va_up a 26 f_56) 27 f_59) 28 f_62) 29 f_65) 30 f_68) 31 f_74) 32 (upd l32 z_75.toNatClampNeg ((-1) : Int32))) 33 l33)) := hD
                        obtain ⟨f_88, ef_88⟩ : ∃ z, z = (upd l32 z_75.toNatClampNeg ((-1) : Int32)) := ⟨_, rfl⟩
                        rw [← ef_88] at hP hD
                        refine lv_aload_n hx hb dX10_recipe_279 rfl (lv_at hl 3 rfl) ?_
                        refine va_get (D := (dC, dI)) (ci := 10) (v := .ref (b 33)) (C := RX10) (T := TX10) (N := 51) hx hb hts inw_X10_recipe_10 hown hK hP 0 rfl rfl 33 (by decide) (hts (.fieldLink RX10 81 "VatHouseModel" "next" "[I") (List.mem_of_getElem? (i := 16) (by exact rfl))) (fun _ h9 => h9) rfl dX10_recipe_280 ?_
                        refine lv_iload hx hb dX10_recipe_283 (lv_at hl 0 rfl) ?_
                        refine lv_iload hx hb dX10_recipe_285 (lv_at hl 1 rfl) ?_
                        refine lv_iadd hx hb dX10_recipe_287 ?_
                        refine lv_topi (fun z_89 ez_89 => ?_)
                        refine lv_aload_n hx hb dX10_recipe_288 rfl (lv_at hl 3 rfl) ?_
                        refine va_get (D := (dC, dI)) (ci := 10) (v := .ref (b 33)) (C := RX10) (T := TX10) (N := 51) hx hb hts inw_X10_recipe_10 hown hK hP 0 rfl rfl 33 (by decide) (hts (.fieldLink RX10 81 "VatHouseModel" "next" "[I") (List.mem_of_getElem? (i := 16) (by exact rfl))) (fun _ h9 => h9) rfl dX10_recipe_289 ?_
                        refine lv_iload hx hb dX10_recipe_292 (lv_at hl 0 rfl) ?_
                        refine va_iald hx hb hK hP 23 22 rfl rfl hkxv dX10_recipe_294 ?_
                        refine lv_topi (fun z_90 ez_90 => ?_)
                        have ez_90 : z_90 = l33 kx.toNatClampNeg := ez_90
                        refine lv_iconst (v := (-1)) hx hb dX10_recipe_295 (by decide) ?_
                        refine lv_icmp_ne (tgt := 303) hx hb dX10_recipe_296 (by decide) (fun c_91 => ?_) (fun c_91 => ?_)
                        · have nc_91 := ne_i c_91
                          have lc_91 : ((-1) : Int32).toInt = -1 := by decide
                          refine lv_aload_n hx hb dX10_recipe_303 rfl (lv_at hl 3 rfl) ?_
                          refine va_get (D := (dC, dI)) (ci := 10) (v := .ref (b 33)) (C := RX10) (T := TX10) (N := 51) hx hb hts inw_X10_recipe_10 hown hK hP 0 rfl rfl 33 (by decide) (hts (.fieldLink RX10 81 "VatHouseModel" "next" "[I") (List.mem_of_getElem? (i := 16) (by exact rfl))) (fun _ h9 => h9) rfl dX10_recipe_304 ?_
                          refine lv_iload hx hb dX10_recipe_307 (lv_at hl 0 rfl) ?_
                          refine va_iald hx hb hK hP 23 22 rfl rfl hkxv dX10_recipe_309 ?_
                          refine lv_topi (fun z_92 ez_92 => ?_)
                          have ez_92 : z_92 = l33 kx.toNatClampNeg := ez_92
                          refine lv_iload hx hb dX10_recipe_310 (lv_at hl 1 rfl) ?_
                          refine lv_iadd hx hb dX10_recipe_312 ?_
                          refine lv_topi (fun z_93 ez_93 => ?_)
                          refine va_iast hx hb hK hP hD hS 23 22 rfl rfl (rc_in ez_89 hkxI hby hr8 hd300).2.2 dX10_recipe_313 (fun H locs hP hD hS => ?_)
                          have hP : va_P (dC, dI) vwCl (mw g h0 b (va_up (va_up (va_up (va_up (va_up (va_up (va_up (va_up (va_up i 0 x0_21) 20 (0 : Int32)) 21 nn) 22 x22_25) 23 x23_26) 24 x24_27) 25 x25_28) 36 x36_29) 38 (0 : Int32)) (va_up (va_up (va_up (va_up (va_up (va_up (va_up (va_up a 26 f_56) 27 f_59) 28 f_62) 29 f_65) 30 f_68) 31 f_74) 32 f_88) 33 (upd l33 z_89.toNatClampNeg z_93))) _ := hP
                          have hD : va_D _ (mw g h0 b (va_up (va_up (va_up (va_up (va_up (va_up (va_up (va_up (va_up i 0 x0_21) 20 (0 : Int32)) 21 nn) 22 x22_25) 23 x23_26) 24 x24_27) 25 x25_28) 36 x36_29) 38 (0 : Int32)) (va_up (va_up (va_up (va_up (va_up (va_up (va_up (va_up a 26 f_56) 27 f_59) 28 f_62) 29 f_65) 30 f_68) 31 f_74) 32 f_88) 33 (upd l33 z_89.toNatClampNeg z_93))) := hD
                          obtain ⟨f_94, ef_94⟩ : ∃ z, z = (upd l33 z_89.toNatClampNeg z_93) := ⟨_, rfl⟩
                          rw [← ef_94] at hP hD
                          refine lv_iinc (v := (kx + 1)) (lv' := [(5, .int (kx + 1)), (4, .int z_45), (3, .int z_39), (0, .ref h0), (1, .int rr), (2, .int nn)]) hx hb dX10_recipe_314 hl (k := 0) rfl rfl (by decide) rfl (fun ls hl => ?_)
                          refine lv_goto (tgt := 111) hx hb dX10_recipe_317 (by decide) ?_
                          exact ih (kx + 1) f_56 f_59 f_62 f_65 f_68 f_74 f_88 f_94 _ _ _ (rc_nx hm hkxI hd3) (⟨d + 1, by rw [hd1]; exact nI_1 (2400 + d), by omega, by rw [ef_56, ef_59, ef_74, ef_88, ef_94]; exact CP.step hcp hr8 (rc_in ez_54 hkxI hby hr8 hd300).2.1 (rc_in ez_57 hkxI hby hr8 hd300).2.1 (rc_in ez_69 hkxI hby hr8 hd300).2.1 (rc_in ez_75 hkxI hby hr8 hd300).2.1 (rc_in ez_89 hkxI hby hr8 hd300).2.1 (by rw [ez_55, hkxc]) (by rw [ez_58, hkxc]) (by rw [shf, if_neg (by rw [← hkxc, ← ez_70]; exact c_71), ez_73, ez_72, hkxc]) (by rw [shf, if_pos (by rw [← hkxc, ← ez_76]; exact c_77)]) (by rw [shf, if_neg (by rw [← hkxc, ← ez_90]; exact c_91), ez_93, ez_92, hkxc]), (by rw [ef_62]; exact CQ.step hcq28 hr8 (rc_in ez_60 hkxI hby hr8 hd300).2.1 (by rw [ez_61, hkxc]) hd300), (by rw [ef_65]; exact CQ.step hcq29 hr8 (rc_in ez_63 hkxI hby hr8 hd300).2.1 (by rw [ez_64, hkxc]) hd300), (by rw [ef_68]; exact CQ.step hcq30 hr8 (rc_in ez_66 hkxI hby hr8 hd300).2.1 (by rw [ez_67, hkxc]) hd300)⟩) hP hD hS (lv_sub hl [0, 1, 2, 3, 4, 5] rfl)
                        · have nc_91 := eq_i c_91
                          have lc_91 : ((-1) : Int32).toInt = -1 := by decide
                          refine lv_iconst (v := (-1)) hx hb dX10_recipe_299 (by decide) ?_
                          refine lv_goto (tgt := 313) hx hb dX10_recipe_300 (by decide) ?_
                          refine va_iast hx hb hK hP hD hS 23 22 rfl rfl (rc_in ez_89 hkxI hby hr8 hd300).2.2 dX10_recipe_313 (fun H locs hP hD hS => ?_)
                          have hP : va_P (dC, dI) vwCl (mw g h0 b (va_up (va_up (va_up (va_up (va_up (va_up (va_up (va_up (va_up i 0 x0_21) 20 (0 : Int32)) 21 nn) 22 x22_25) 23 x23_26) 24 x24_27) 25 x25_28) 36 x36_29) 38 (0 : Int32)) (va_up (va_up (va_up (va_up (va_up (va_up (va_up (va_up a 26 f_56) 27 f_59) 28 f_62) 29 f_65) 30 f_68) 31 f_74) 32 f_88) 33 (upd l33 z_89.toNatClampNeg ((-1) : Int32)))) _ := hP
                          have hD : va_D _ (mw g h0 b (va_up (va_up (va_up (va_up (va_up (va_up (va_up (va_up (va_up i 0 x0_21) 20 (0 : Int32)) 21 nn) 22 x22_25) 23 x23_26) 24 x24_27) 25 x25_28) 36 x36_29) 38 (0 : Int32)) (va_up (va_up (va_up (va_up (va_up (va_up (va_up (va_up a 26 f_56) 27 f_59) 28 f_62) 29 f_65) 30 f_68) 31 f_74) 32 f_88) 33 (upd l33 z_89.toNatClampNeg ((-1) : Int32)))) := hD
                          obtain ⟨f_95, ef_95⟩ : ∃ z, z = (upd l33 z_89.toNatClampNeg ((-1) : Int32)) := ⟨_, rfl⟩
                          rw [← ef_95] at hP hD
                          refine lv_iinc (v := (kx + 1)) (lv' := [(5, .int (kx + 1)), (4, .int z_45), (3, .int z_39), (0, .ref h0), (1, .int rr), (2, .int nn)]) hx hb dX10_recipe_314 hl (k := 0) rfl rfl (by decide) rfl (fun ls hl => ?_)
                          refine lv_goto (tgt := 111) hx hb dX10_recipe_317 (by decide) ?_
                          exact ih (kx + 1) f_56 f_59 f_62 f_65 f_68 f_74 f_88 f_95 _ _ _ (rc_nx hm hkxI hd3) (⟨d + 1, by rw [hd1]; exact nI_1 (2400 + d), by omega, by rw [ef_56, ef_59, ef_74, ef_88, ef_95]; exact CP.step hcp hr8 (rc_in ez_54 hkxI hby hr8 hd300).2.1 (rc_in ez_57 hkxI hby hr8 hd300).2.1 (rc_in ez_69 hkxI hby hr8 hd300).2.1 (rc_in ez_75 hkxI hby hr8 hd300).2.1 (rc_in ez_89 hkxI hby hr8 hd300).2.1 (by rw [ez_55, hkxc]) (by rw [ez_58, hkxc]) (by rw [shf, if_neg (by rw [← hkxc, ← ez_70]; exact c_71), ez_73, ez_72, hkxc]) (by rw [shf, if_pos (by rw [← hkxc, ← ez_76]; exact c_77)]) (by rw [shf, if_pos (by rw [← hkxc, ← ez_90]; exact c_91)]), (by rw [ef_62]; exact CQ.step hcq28 hr8 (rc_in ez_60 hkxI hby hr8 hd300).2.1 (by rw [ez_61, hkxc]) hd300), (by rw [ef_65]; exact CQ.step hcq29 hr8 (rc_in ez_63 hkxI hby hr8 hd300).2.1 (by rw [ez_64, hkxc]) hd300), (by rw [ef_68]; exact CQ.step hcq30 hr8 (rc_in ez_66 hkxI hby hr8 hd300).2.1 (by rw [ez_67, hkxc]) hd300)⟩) hP hD hS (lv_sub hl [0, 1, 2, 3, 4, 5] rfl)
                    · have nc_71 := eq_i c_71
                      have lc_71 : ((-1) : Int32).toInt = -1 := by decide
                      refine lv_iconst (v := (-1)) hx hb dX10_recipe_229 (by decide) ?_
                      refine lv_goto (tgt := 243) hx hb dX10_recipe_230 (by decide) ?_
                      refine va_iast hx hb hK hP hD hS 21 20 rfl rfl (rc_in ez_69 hkxI hby hr8 hd300).2.2 dX10_recipe_243 (fun H locs hP hD hS => ?_)
                      have hP : va_P (dC, dI) vwCl (mw g h0 b (va_up (va_up (va_up (va_up (va_up (va_up (va_up (va_up (va_up i 0 x0_21) 20 (0 : Int32)) 21 nn) 22 x22_25) 23 x23_26) 24 x24_27) 25 x25_28) 36 x36_29) 38 (0 : Int32)) (va_up (va_up (va_up (va_up (va_up (va_up (va_up (va_up a 26 f_56) 27 f_59) 28 f_62) 29 f_65) 30 f_68) 31 (upd l31 z_69.toNatClampNeg ((-1) : Int32))) 32 l32) 33 l33)) _ := hP
                      have hD : va_D _ (mw g h0 b (va_up (va_up (va_up (va_up (va_up (va_up (va_up (va_up (va_up i 0 x0_21) 20 (0 : Int32)) 21 nn) 22 x22_25) 23 x23_26) 24 x24_27) 25 x25_28) 36 x36_29) 38 (0 : Int32)) (va_up (va_up (va_up (va_up (va_up (va_up (va_up (va_up a 26 f_56) 27 f_59) 28 f_62) 29 f_65) 30 f_68) 31 (upd l31 z_69.toNatClampNeg ((-1) : Int32))) 32 l32) 33 l33)) := hD
                      obtain ⟨f_96, ef_96⟩ : ∃ z, z = (upd l31 z_69.toNatClampNeg ((-1) : Int32)) := ⟨_, rfl⟩
                      rw [← ef_96] at hP hD
                      refine lv_aload_n hx hb dX10_recipe_244 rfl (lv_at hl 3 rfl) ?_
                      refine va_get (D := (dC, dI)) (ci := 10) (v := .ref (b 32)) (C := RX10) (T := TX10) (N := 51) hx hb hts inw_X10_recipe_10 hown hK hP 0 rfl rfl 32 (by decide) (hts (.fieldLink RX10 78 "VatHouseModel" "other" "[I") (List.mem_of_getElem? (i := 15) (by exact rfl))) (fun _ h9 => h9) rfl dX10_recipe_245 ?_
                      refine lv_iload hx hb dX10_recipe_248 (lv_at hl 0 rfl) ?_
                      refine lv_iload hx hb dX10_recipe_250 (lv_at hl 1 rfl) ?_
                      refine lv_iadd hx hb dX10_recipe_252 ?_
                      refine lv_topi (fun z_97 ez_97 => ?_)
                      refine lv_aload_n hx hb dX10_recipe_253 rfl (lv_at hl 3 rfl) ?_
                      refine va_get (D := (dC, dI)) (ci := 10) (v := .ref (b 32)) (C := RX10) (T := TX10) (N := 51) hx hb hts inw_X10_recipe_10 hown hK hP 0 rfl rfl 32 (by decide) (hts (.fieldLink RX10 78 "VatHouseModel" "other" "[I") (List.mem_of_getElem? (i := 15) (by exact rfl))) (fun _ h9 => h9) rfl dX10_recipe_254 ?_
                      refine lv_iload hx hb dX10_recipe_257 (lv_at hl 0 rfl) ?_
                      refine va_iald hx hb hK hP 22 21 rfl rfl hkxv dX10_recipe_259 ?_
                      refine lv_topi (fun z_98 ez_98 => ?_)
                      have ez_98 : z_98 = l32 kx.toNatClampNeg := ez_98
                      refine lv_iconst (v := (-1)) hx hb dX10_recipe_260 (by decide) ?_
                      refine lv_icmp_ne (tgt := 268) hx hb dX10_recipe_261 (by decide) (fun c_99 => ?_) (fun c_99 => ?_)
                      · have nc_99 := ne_i c_99
                        have lc_99 : ((-1) : Int32).toInt = -1 := by decide
                        refine lv_aload_n hx hb dX10_recipe_268 rfl (lv_at hl 3 rfl) ?_
                        refine va_get (D := (dC, dI)) (ci := 10) (v := .ref (b 32)) (C := RX10) (T := TX10) (N := 51) hx hb hts inw_X10_recipe_10 hown hK hP 0 rfl rfl 32 (by decide) (hts (.fieldLink RX10 78 "VatHouseModel" "other" "[I") (List.mem_of_getElem? (i := 15) (by exact rfl))) (fun _ h9 => h9) rfl dX10_recipe_269 ?_
                        refine lv_iload hx hb dX10_recipe_272 (lv_at hl 0 rfl) ?_
                        refine va_iald hx hb hK hP 22 21 rfl rfl hkxv dX10_recipe_274 ?_
                        refine lv_topi (fun z_100 ez_100 => ?_)
                        have ez_100 : z_100 = l32 kx.toNatClampNeg := ez_100
                        refine lv_iload hx hb dX10_recipe_275 (lv_at hl 1 rfl) ?_
                        refine lv_iadd hx hb dX10_recipe_277 ?_
                        refine lv_topi (fun z_101 ez_101 => ?_)
                        refine va_iast hx hb hK hP hD hS 22 21 rfl rfl (rc_in ez_97 hkxI hby hr8 hd300).2.2 dX10_recipe_278 (fun H locs hP hD hS => ?_)
                        have hP : va_P (dC, dI) vwCl (mw g h0 b (va_up (va_up (va_up (va_up (va_up (va_up (va_up (va_up (va_up i 0 x0_21) 20 (0 : Int32)) 21 nn) 22 x22_25) 23 x23_26) 24 x24_27) 25 x25_28) 36 x36_29) 38 (0 : Int32)) (va_up (va_up (va_up (va_up (va_up (va_up (va_up (va_up a 26 f_56) 27 f_59) 28 f_62) 29 f_65) 30 f_68) 31 f_96) 32 (upd l32 z_97.toNatClampNeg z_101)) 33 l33)) _ := hP
                        have hD : va_D _ (mw g h0 b (va_up (va_up (va_up (va_up (va_up (va_up (va_up (va_up (va_up i 0 x0_21) 20 (0 : Int32)) 21 nn) 22 x22_25) 23 x23_26) 24 x24_27) 25 x25_28) 36 x36_29) 38 (0 : Int32)) (va_up (va_up (va_up (va_up (va_up (va_up (va_up (va_up a 26 f_56) 27 f_59) 28 f_62) 29 f_65) 30 f_68) 31 f_96) 32 (upd l32 z_97.toNatClampNeg z_101)) 33 l33)) := hD
                        obtain ⟨f_102, ef_102⟩ : ∃ z, z = (upd l32 z_97.toNatClampNeg z_101) := ⟨_, rfl⟩
                        rw [← ef_102] at hP hD
                        refine lv_aload_n hx hb dX10_recipe_279 rfl (lv_at hl 3 rfl) ?_
                        refine va_get (D := (dC, dI)) (ci := 10) (v := .ref (b 33)) (C := RX10) (T := TX10) (N := 51) hx hb hts inw_X10_recipe_10 hown hK hP 0 rfl rfl 33 (by decide) (hts (.fieldLink RX10 81 "VatHouseModel" "next" "[I") (List.mem_of_getElem? (i := 16) (by exact rfl))) (fun _ h9 => h9) rfl dX10_recipe_280 ?_
                        refine lv_iload hx hb dX10_recipe_283 (lv_at hl 0 rfl) ?_
                        refine lv_iload hx hb dX10_recipe_285 (lv_at hl 1 rfl) ?_
                        refine lv_iadd hx hb dX10_recipe_287 ?_
                        refine lv_topi (fun z_103 ez_103 => ?_)
                        refine lv_aload_n hx hb dX10_recipe_288 rfl (lv_at hl 3 rfl) ?_
                        refine va_get (D := (dC, dI)) (ci := 10) (v := .ref (b 33)) (C := RX10) (T := TX10) (N := 51) hx hb hts inw_X10_recipe_10 hown hK hP 0 rfl rfl 33 (by decide) (hts (.fieldLink RX10 81 "VatHouseModel" "next" "[I") (List.mem_of_getElem? (i := 16) (by exact rfl))) (fun _ h9 => h9) rfl dX10_recipe_289 ?_
                        refine lv_iload hx hb dX10_recipe_292 (lv_at hl 0 rfl) ?_
                        refine va_iald hx hb hK hP 23 22 rfl rfl hkxv dX10_recipe_294 ?_
                        refine lv_topi (fun z_104 ez_104 => ?_)
                        have ez_104 : z_104 = l33 kx.toNatClampNeg := ez_104
                        refine lv_iconst (v := (-1)) hx hb dX10_recipe_295 (by decide) ?_
                        refine lv_icmp_ne (tgt := 303) hx hb dX10_recipe_296 (by decide) (fun c_105 => ?_) (fun c_105 => ?_)
                        · have nc_105 := ne_i c_105
                          have lc_105 : ((-1) : Int32).toInt = -1 := by decide
                          refine lv_aload_n hx hb dX10_recipe_303 rfl (lv_at hl 3 rfl) ?_
                          refine va_get (D := (dC, dI)) (ci := 10) (v := .ref (b 33)) (C := RX10) (T := TX10) (N := 51) hx hb hts inw_X10_recipe_10 hown hK hP 0 rfl rfl 33 (by decide) (hts (.fieldLink RX10 81 "VatHouseModel" "next" "[I") (List.mem_of_getElem? (i := 16) (by exact rfl))) (fun _ h9 => h9) rfl dX10_recipe_304 ?_
                          refine lv_iload hx hb dX10_recipe_307 (lv_at hl 0 rfl) ?_
                          refine va_iald hx hb hK hP 23 22 rfl rfl hkxv dX10_recipe_309 ?_
                          refine lv_topi (fun z_106 ez_106 => ?_)
                          have ez_106 : z_106 = l33 kx.toNatClampNeg := ez_106
                          refine lv_iload hx hb dX10_recipe_310 (lv_at hl 1 rfl) ?_
                          refine lv_iadd hx hb dX10_recipe_312 ?_
                          refine lv_topi (fun z_107 ez_107 => ?_)
                          refine va_iast hx hb hK hP hD hS 23 22 rfl rfl (rc_in ez_103 hkxI hby hr8 hd300).2.2 dX10_recipe_313 (fun H locs hP hD hS => ?_)
                          have hP : va_P (dC, dI) vwCl (mw g h0 b (va_up (va_up (va_up (va_up (va_up (va_up (va_up (va_up (va_up i 0 x0_21) 20 (0 : Int32)) 21 nn) 22 x22_25) 23 x23_26) 24 x24_27) 25 x25_28) 36 x36_29) 38 (0 : Int32)) (va_up (va_up (va_up (va_up (va_up (va_up (va_up (va_up a 26 f_56) 27 f_59) 28 f_62) 29 f_65) 30 f_68) 31 f_96) 32 f_102) 33 (upd l33 z_103.toNatClampNeg z_107))) _ := hP
                          have hD : va_D _ (mw g h0 b (va_up (va_up (va_up (va_up (va_up (va_up (va_up (va_up (va_up i 0 x0_21) 20 (0 : Int32)) 21 nn) 22 x22_25) 23 x23_26) 24 x24_27) 25 x25_28) 36 x36_29) 38 (0 : Int32)) (va_up (va_up (va_up (va_up (va_up (va_up (va_up (va_up a 26 f_56) 27 f_59) 28 f_62) 29 f_65) 30 f_68) 31 f_96) 32 f_102) 33 (upd l33 z_103.toNatClampNeg z_107))) := hD
                          obtain ⟨f_108, ef_108⟩ : ∃ z, z = (upd l33 z_103.toNatClampNeg z_107) := ⟨_, rfl⟩
                          rw [← ef_108] at hP hD
                          refine lv_iinc (v := (kx + 1)) (lv' := [(5, .int (kx + 1)), (4, .int z_45), (3, .int z_39), (0, .ref h0), (1, .int rr), (2, .int nn)]) hx hb dX10_recipe_314 hl (k := 0) rfl rfl (by decide) rfl (fun ls hl => ?_)
                          refine lv_goto (tgt := 111) hx hb dX10_recipe_317 (by decide) ?_
                          exact ih (kx + 1) f_56 f_59 f_62 f_65 f_68 f_96 f_102 f_108 _ _ _ (rc_nx hm hkxI hd3) (⟨d + 1, by rw [hd1]; exact nI_1 (2400 + d), by omega, by rw [ef_56, ef_59, ef_96, ef_102, ef_108]; exact CP.step hcp hr8 (rc_in ez_54 hkxI hby hr8 hd300).2.1 (rc_in ez_57 hkxI hby hr8 hd300).2.1 (rc_in ez_69 hkxI hby hr8 hd300).2.1 (rc_in ez_97 hkxI hby hr8 hd300).2.1 (rc_in ez_103 hkxI hby hr8 hd300).2.1 (by rw [ez_55, hkxc]) (by rw [ez_58, hkxc]) (by rw [shf, if_pos (by rw [← hkxc, ← ez_70]; exact c_71)]) (by rw [shf, if_neg (by rw [← hkxc, ← ez_98]; exact c_99), ez_101, ez_100, hkxc]) (by rw [shf, if_neg (by rw [← hkxc, ← ez_104]; exact c_105), ez_107, ez_106, hkxc]), (by rw [ef_62]; exact CQ.step hcq28 hr8 (rc_in ez_60 hkxI hby hr8 hd300).2.1 (by rw [ez_61, hkxc]) hd300), (by rw [ef_65]; exact CQ.step hcq29 hr8 (rc_in ez_63 hkxI hby hr8 hd300).2.1 (by rw [ez_64, hkxc]) hd300), (by rw [ef_68]; exact CQ.step hcq30 hr8 (rc_in ez_66 hkxI hby hr8 hd300).2.1 (by rw [ez_67, hkxc]) hd300)⟩) hP hD hS (lv_sub hl [0, 1, 2, 3, 4, 5] rfl)
                        · have nc_105 := eq_i c_105
                          have lc_105 : ((-1) : Int32).toInt = -1 := by decide
                          refine lv_iconst (v := (-1)) hx hb dX10_recipe_299 (by decide) ?_
                          refine lv_goto (tgt := 313) hx hb dX10_recipe_300 (by decide) ?_
                          refine va_iast hx hb hK hP hD hS 23 22 rfl rfl (rc_in ez_103 hkxI hby hr8 hd300).2.2 dX10_recipe_313 (fun H locs hP hD hS => ?_)
                          have hP : va_P (dC, dI) vwCl (mw g h0 b (va_up (va_up (va_up (va_up (va_up (va_up (va_up (va_up (va_up i 0 x0_21) 20 (0 : Int32)) 21 nn) 22 x22_25) 23 x23_26) 24 x24_27) 25 x25_28) 36 x36_29) 38 (0 : Int32)) (va_up (va_up (va_up (va_up (va_up (va_up (va_up (va_up a 26 f_56) 27 f_59) 28 f_62) 29 f_65) 30 f_68) 31 f_96) 32 f_102) 33 (upd l33 z_103.toNatClampNeg ((-1) : Int32)))) _ := hP
                          have hD : va_D _ (mw g h0 b (va_up (va_up (va_up (va_up (va_up (va_up (va_up (va_up (va_up i 0 x0_21) 20 (0 : Int32)) 21 nn) 22 x22_25) 23 x23_26) 24 x24_27) 25 x25_28) 36 x36_29) 38 (0 : Int32)) (va_up (va_up (va_up (va_up (va_up (va_up (va_up (va_up a 26 f_56) 27 f_59) 28 f_62) 29 f_65) 30 f_68) 31 f_96) 32 f_102) 33 (upd l33 z_103.toNatClampNeg ((-1) : Int32)))) := hD
                          obtain ⟨f_109, ef_109⟩ : ∃ z, z = (upd l33 z_103.toNatClampNeg ((-1) : Int32)) := ⟨_, rfl⟩
                          rw [← ef_109] at hP hD
                          refine lv_iinc (v := (kx + 1)) (lv' := [(5, .int (kx + 1)), (4, .int z_45), (3, .int z_39), (0, .ref h0), (1, .int rr), (2, .int nn)]) hx hb dX10_recipe_314 hl (k := 0) rfl rfl (by decide) rfl (fun ls hl => ?_)
                          refine lv_goto (tgt := 111) hx hb dX10_recipe_317 (by decide) ?_
                          exact ih (kx + 1) f_56 f_59 f_62 f_65 f_68 f_96 f_102 f_109 _ _ _ (rc_nx hm hkxI hd3) (⟨d + 1, by rw [hd1]; exact nI_1 (2400 + d), by omega, by rw [ef_56, ef_59, ef_96, ef_102, ef_109]; exact CP.step hcp hr8 (rc_in ez_54 hkxI hby hr8 hd300).2.1 (rc_in ez_57 hkxI hby hr8 hd300).2.1 (rc_in ez_69 hkxI hby hr8 hd300).2.1 (rc_in ez_97 hkxI hby hr8 hd300).2.1 (rc_in ez_103 hkxI hby hr8 hd300).2.1 (by rw [ez_55, hkxc]) (by rw [ez_58, hkxc]) (by rw [shf, if_pos (by rw [← hkxc, ← ez_70]; exact c_71)]) (by rw [shf, if_neg (by rw [← hkxc, ← ez_98]; exact c_99), ez_101, ez_100, hkxc]) (by rw [shf, if_pos (by rw [← hkxc, ← ez_104]; exact c_105)]), (by rw [ef_62]; exact CQ.step hcq28 hr8 (rc_in ez_60 hkxI hby hr8 hd300).2.1 (by rw [ez_61, hkxc]) hd300), (by rw [ef_65]; exact CQ.step hcq29 hr8 (rc_in ez_63 hkxI hby hr8 hd300).2.1 (by rw [ez_64, hkxc]) hd300), (by rw [ef_68]; exact CQ.step hcq30 hr8 (rc_in ez_66 hkxI hby hr8 hd300).2.1 (by rw [ez_67, hkxc]) hd300)⟩) hP hD hS (lv_sub hl [0, 1, 2, 3, 4, 5] rfl)
                      · have nc_99 := eq_i c_99
                        have lc_99 : ((-1) : Int32).toInt = -1 := by decide
                        refine lv_iconst (v := (-1)) hx hb dX10_recipe_264 (by decide) ?_
                        refine lv_goto (tgt := 278) hx hb dX10_recipe_265 (by decide) ?_
                        refine va_iast hx hb hK hP hD hS 22 21 rfl rfl (rc_in ez_97 hkxI hby hr8 hd300).2.2 dX10_recipe_278 (fun H locs hP hD hS => ?_)
                        have hP : va_P (dC, dI) vwCl (mw g h0 b (va_up (va_up (va_up (va_up (va_up (va_up (va_up (va_up (va_up i 0 x0_21) 20 (0 : Int32)) 21 nn) 22 x22_25) 23 x23_26) 24 x24_27) 25 x25_28) 36 x36_29) 38 (0 : Int32)) (va_up (va_up (va_up (va_up (va_up (va_up (va_up (va_up a 26 f_56) 27 f_59) 28 f_62) 29 f_65) 30 f_68) 31 f_96) 32 (upd l32 z_97.toNatClampNeg ((-1) : Int32))) 33 l33)) _ := hP
                        have hD : va_D _ (mw g h0 b (va_up (va_up (va_up (va_up (va_up (va_up (va_up (va_up (va_up i 0 x0_21) 20 (0 : Int32)) 21 nn) 22 x22_25) 23 x23_26) 24 x24_27) 25 x25_28) 36 x36_29) 38 (0 : Int32)) (va_up (va_up (va_up (va_up (va_up (va_up (va_up (va_up a 26 f_56) 27 f_59) 28 f_62) 29 f_65) 30 f_68) 31 f_96) 32 (upd l32 z_97.toNatClampNeg ((-1) : Int32))) 33 l33)) := hD
                        obtain ⟨f_110, ef_110⟩ : ∃ z, z = (upd l32 z_97.toNatClampNeg ((-1) : Int32)) := ⟨_, rfl⟩
                        rw [← ef_110] at hP hD
                        refine lv_aload_n hx hb dX10_recipe_279 rfl (lv_at hl 3 rfl) ?_
                        refine va_get (D := (dC, dI)) (ci := 10) (v := .ref (b 33)) (C := RX10) (T := TX10) (N := 51) hx hb hts inw_X10_recipe_10 hown hK hP 0 rfl rfl 33 (by decide) (hts (.fieldLink RX10 81 "VatHouseModel" "next" "[I") (List.mem_of_getElem? (i := 16) (by exact rfl))) (fun _ h9 => h9) rfl dX10_recipe_280 ?_
                        refine lv_iload hx hb dX10_recipe_283 (lv_at hl 0 rfl) ?_
                        refine lv_iload hx hb dX10_recipe_285 (lv_at hl 1 rfl) ?_
                        refine lv_iadd hx hb dX10_recipe_287 ?_
                        refine lv_topi (fun z_111 ez_111 => ?_)
                        refine lv_aload_n hx hb dX10_recipe_288 rfl (lv_at hl 3 rfl) ?_
                        refine va_get (D := (dC, dI)) (ci := 10) (v := .ref (b 33)) (C := RX10) (T := TX10) (N := 51) hx hb hts inw_X10_recipe_10 hown hK hP 0 rfl rfl 33 (by decide) (hts (.fieldLink RX10 81 "VatHouseModel" "next" "[I") (List.mem_of_getElem? (i := 16) (by exact rfl))) (fun _ h9 => h9) rfl dX10_recipe_289 ?_
                        refine lv_iload hx hb dX10_recipe_292 (lv_at hl 0 rfl) ?_
                        refine va_iald hx hb hK hP 23 22 rfl rfl hkxv dX10_recipe_294 ?_
                        refine lv_topi (fun z_112 ez_112 => ?_)
                        have ez_112 : z_112 = l33 kx.toNatClampNeg := ez_112
                        refine lv_iconst (v := (-1)) hx hb dX10_recipe_295 (by decide) ?_
                        refine lv_icmp_ne (tgt := 303) hx hb dX10_recipe_296 (by decide) (fun c_113 => ?_) (fun c_113 => ?_)
                        · have nc_113 := ne_i c_113
                          have lc_113 : ((-1) : Int32).toInt = -1 := by decide
                          refine lv_aload_n hx hb dX10_recipe_303 rfl (lv_at hl 3 rfl) ?_
                          refine va_get (D := (dC, dI)) (ci := 10) (v := .ref (b 33)) (C := RX10) (T := TX10) (N := 51) hx hb hts inw_X10_recipe_10 hown hK hP 0 rfl rfl 33 (by decide) (hts (.fieldLink RX10 81 "VatHouseModel" "next" "[I") (List.mem_of_getElem? (i := 16) (by exact rfl))) (fun _ h9 => h9) rfl dX10_recipe_304 ?_
                          refine lv_iload hx hb dX10_recipe_307 (lv_at hl 0 rfl) ?_
                          refine va_iald hx hb hK hP 23 22 rfl rfl hkxv dX10_recipe_309 ?_
                          refine lv_topi (fun z_114 ez_114 => ?_)
                          have ez_114 : z_114 = l33 kx.toNatClampNeg := ez_114
                          refine lv_iload hx hb dX10_recipe_310 (lv_at hl 1 rfl) ?_
                          refine lv_iadd hx hb dX10_recipe_312 ?_
                          refine lv_topi (fun z_115 ez_115 => ?_)
                          refine va_iast hx hb hK hP hD hS 23 22 rfl rfl (rc_in ez_111 hkxI hby hr8 hd300).2.2 dX10_recipe_313 (fun H locs hP hD hS => ?_)
                          have hP : va_P (dC, dI) vwCl (mw g h0 b (va_up (va_up (va_up (va_up (va_up (va_up (va_up (va_up (va_up i 0 x0_21) 20 (0 : Int32)) 21 nn) 22 x22_25) 23 x23_26) 24 x24_27) 25 x25_28) 36 x36_29) 38 (0 : Int32)) (va_up (va_up (va_up (va_up (va_up (va_up (va_up (va_up a 26 f_56) 27 f_59) 28 f_62) 29 f_65) 30 f_68) 31 f_96) 32 f_110) 33 (upd l33 z_111.toNatClampNeg z_115))) _ := hP
                          have hD : va_D _ (mw g h0 b (va_up (va_up (va_up (va_up (va_up (va_up (va_up (va_up (va_up i 0 x0_21) 20 (0 : Int32)) 21 nn) 22 x22_25) 23 x23_26) 24 x24_27) 25 x25_28) 36 x36_29) 38 (0 : Int32)) (va_up (va_up (va_up (va_up (va_up (va_up (va_up (va_up a 26 f_56) 27 f_59) 28 f_62) 29 f_65) 30 f_68) 31 f_96) 32 f_110) 33 (upd l33 z_111.toNatClampNeg z_115))) := hD
                          obtain ⟨f_116, ef_116⟩ : ∃ z, z = (upd l33 z_111.toNatClampNeg z_115) := ⟨_, rfl⟩
                          rw [← ef_116] at hP hD
                          refine lv_iinc (v := (kx + 1)) (lv' := [(5, .int (kx + 1)), (4, .int z_45), (3, .int z_39), (0, .ref h0), (1, .int rr), (2, .int nn)]) hx hb dX10_recipe_314 hl (k := 0) rfl rfl (by decide) rfl (fun ls hl => ?_)
                          refine lv_goto (tgt := 111) hx hb dX10_recipe_317 (by decide) ?_
                          exact ih (kx + 1) f_56 f_59 f_62 f_65 f_68 f_96 f_110 f_116 _ _ _ (rc_nx hm hkxI hd3) (⟨d + 1, by rw [hd1]; exact nI_1 (2400 + d), by omega, by rw [ef_56, ef_59, ef_96, ef_110, ef_116]; exact CP.step hcp hr8 (rc_in ez_54 hkxI hby hr8 hd300).2.1 (rc_in ez_57 hkxI hby hr8 hd300).2.1 (rc_in ez_69 hkxI hby hr8 hd300).2.1 (rc_in ez_97 hkxI hby hr8 hd300).2.1 (rc_in ez_111 hkxI hby hr8 hd300).2.1 (by rw [ez_55, hkxc]) (by rw [ez_58, hkxc]) (by rw [shf, if_pos (by rw [← hkxc, ← ez_70]; exact c_71)]) (by rw [shf, if_pos (by rw [← hkxc, ← ez_98]; exact c_99)]) (by rw [shf, if_neg (by rw [← hkxc, ← ez_112]; exact c_113), ez_115, ez_114, hkxc]), (by rw [ef_62]; exact CQ.step hcq28 hr8 (rc_in ez_60 hkxI hby hr8 hd300).2.1 (by rw [ez_61, hkxc]) hd300), (by rw [ef_65]; exact CQ.step hcq29 hr8 (rc_in ez_63 hkxI hby hr8 hd300).2.1 (by rw [ez_64, hkxc]) hd300), (by rw [ef_68]; exact CQ.step hcq30 hr8 (rc_in ez_66 hkxI hby hr8 hd300).2.1 (by rw [ez_67, hkxc]) hd300)⟩) hP hD hS (lv_sub hl [0, 1, 2, 3, 4, 5] rfl)
                        · have nc_113 := eq_i c_113
                          have lc_113 : ((-1) : Int32).toInt = -1 := by decide
                          refine lv_iconst (v := (-1)) hx hb dX10_recipe_299 (by decide) ?_
                          refine lv_goto (tgt := 313) hx hb dX10_recipe_300 (by decide) ?_
                          refine va_iast hx hb hK hP hD hS 23 22 rfl rfl (rc_in ez_111 hkxI hby hr8 hd300).2.2 dX10_recipe_313 (fun H locs hP hD hS => ?_)
                          have hP : va_P (dC, dI) vwCl (mw g h0 b (va_up (va_up (va_up (va_up (va_up (va_up (va_up (va_up (va_up i 0 x0_21) 20 (0 : Int32)) 21 nn) 22 x22_25) 23 x23_26) 24 x24_27) 25 x25_28) 36 x36_29) 38 (0 : Int32)) (va_up (va_up (va_up (va_up (va_up (va_up (va_up (va_up a 26 f_56) 27 f_59) 28 f_62) 29 f_65) 30 f_68) 31 f_96) 32 f_110) 33 (upd l33 z_111.toNatClampNeg ((-1) : Int32)))) _ := hP
                          have hD : va_D _ (mw g h0 b (va_up (va_up (va_up (va_up (va_up (va_up (va_up (va_up (va_up i 0 x0_21) 20 (0 : Int32)) 21 nn) 22 x22_25) 23 x23_26) 24 x24_27) 25 x25_28) 36 x36_29) 38 (0 : Int32)) (va_up (va_up (va_up (va_up (va_up (va_up (va_up (va_up a 26 f_56) 27 f_59) 28 f_62) 29 f_65) 30 f_68) 31 f_96) 32 f_110) 33 (upd l33 z_111.toNatClampNeg ((-1) : Int32)))) := hD
                          obtain ⟨f_117, ef_117⟩ : ∃ z, z = (upd l33 z_111.toNatClampNeg ((-1) : Int32)) := ⟨_, rfl⟩
                          rw [← ef_117] at hP hD
                          refine lv_iinc (v := (kx + 1)) (lv' := [(5, .int (kx + 1)), (4, .int z_45), (3, .int z_39), (0, .ref h0), (1, .int rr), (2, .int nn)]) hx hb dX10_recipe_314 hl (k := 0) rfl rfl (by decide) rfl (fun ls hl => ?_)
                          refine lv_goto (tgt := 111) hx hb dX10_recipe_317 (by decide) ?_
                          exact ih (kx + 1) f_56 f_59 f_62 f_65 f_68 f_96 f_110 f_117 _ _ _ (rc_nx hm hkxI hd3) (⟨d + 1, by rw [hd1]; exact nI_1 (2400 + d), by omega, by rw [ef_56, ef_59, ef_96, ef_110, ef_117]; exact CP.step hcp hr8 (rc_in ez_54 hkxI hby hr8 hd300).2.1 (rc_in ez_57 hkxI hby hr8 hd300).2.1 (rc_in ez_69 hkxI hby hr8 hd300).2.1 (rc_in ez_97 hkxI hby hr8 hd300).2.1 (rc_in ez_111 hkxI hby hr8 hd300).2.1 (by rw [ez_55, hkxc]) (by rw [ez_58, hkxc]) (by rw [shf, if_pos (by rw [← hkxc, ← ez_70]; exact c_71)]) (by rw [shf, if_pos (by rw [← hkxc, ← ez_98]; exact c_99)]) (by rw [shf, if_pos (by rw [← hkxc, ← ez_112]; exact c_113)]), (by rw [ef_62]; exact CQ.step hcq28 hr8 (rc_in ez_60 hkxI hby hr8 hd300).2.1 (by rw [ez_61, hkxc]) hd300), (by rw [ef_65]; exact CQ.step hcq29 hr8 (rc_in ez_63 hkxI hby hr8 hd300).2.1 (by rw [ez_64, hkxc]) hd300), (by rw [ef_68]; exact CQ.step hcq30 hr8 (rc_in ez_66 hkxI hby hr8 hd300).2.1 (by rw [ez_67, hkxc]) hd300)⟩) hP hD hS (lv_sub hl [0, 1, 2, 3, 4, 5] rfl)
              exact lp ((2400 + x36_29.toInt - (2400 : Int32).toInt).toNat + 1) (2400 : Int32) y26_30 y27_31 y28_32 y29_33 y30_34 y31_35 y32_36 y33_37 _ _ _ (by omega) (⟨0, by decide, by omega, CP.z, CQ.z, CQ.z, CQ.z⟩) hP hD hS (lv_sub hl [0, 1, 2, 3, 4, 5] rfl)
            · have nc_43 := nle_i c_43
              have lc_43 : (0 : Int32).toInt = 0 := by decide
              refine lv_aload_n hx hb dX10_recipe_90 rfl (lv_at hl 1 rfl) ?_
              refine va_get (D := (dC, dI)) (ci := 10) (v := .int x23_26) (C := RX10) (T := TX10) (N := 51) hx hb hts inw_X10_recipe_10 hown hK hP 0 rfl rfl 23 (by decide) (hts (.fieldLink RX10 165 "VatHouseModel" "faultKind" "I") (List.mem_of_getElem? (i := 5) (by exact rfl))) (fun _ h9 => h9) rfl dX10_recipe_91 ?_
              exact M_i hx hb hr hlocks (x0_21, (0 : Int32), nn, x22_25, x23_26, x24_27, x25_28, x36_29, (i 37), (0 : Int32), y26_30, y27_31, y28_32, y29_33, y30_34, y31_35, y32_36, y33_37, (a 34), (a 35)) hP hD hK hS ⟨⟨_, rfl⟩, ⟨⟨by decide, BI.lf hBI hPR_40.2.2.1⟩, Or.inr ⟨⟨c_1, c_6, c_11, c_16⟩, rfl, hz2_23.2, ln, r1, hnl, hln, hev1, by rw [h23, hrn], by rw [h24, hrn], rfl, Or.inl ⟨(fun h9 => by have h8 := congrArg Int32.toInt h9; omega), rfl, rfl, BK8.of hPR_40.2.2.1 hk3⟩⟩⟩⟩ (Nat.le_of_ble_eq_true rfl) (Nat.le_of_ble_eq_true rfl) dX10_recipe_94
