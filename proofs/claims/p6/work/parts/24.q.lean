theorem nar_b {z : Int32} (h : z = 0 ∨ z = 1) : narrow .boolean (.int z) = .int z := by
  rcases h with rfl | rfl <;> rfl

theorem lv8b {x : Int32} {bl j : Nat} (hBL : x = nI bl) (hn : ¬ x = 8) (hj : bl + j = 8) : ∃ j1 : Nat, j = j1 + 1 := by
  rcases Nat.eq_zero_or_pos j with h | h
  · have e : bl = 8 := by omega
    rw [e] at hBL
    exact absurd (hBL.trans (by decide)) hn
  · exact ⟨j - 1, by omega⟩

abbrev rm_X10_block (j : Nat) (bl : Nat) (dp : Nat → Nat) : Room := { frames := 4 * j + 60, cells := 0, slots := 0, locals := 200 * j + 1000 }
abbrev rm_X10_rest (j : Nat) (bl : Nat) (dp : Nat → Nat) : Room := { frames := 4 * j + 61, cells := 0, slots := 0, locals := 200 * j + 1040 }
abbrev rm_X10_step (j : Nat) (bl : Nat) (dp : Nat → Nat) : Room := { frames := 4 * j + 62, cells := 0, slots := 0, locals := 200 * j + 1080 }
abbrev rm_X10_steps (j : Nat) (bl : Nat) (dp : Nat → Nat) : Room := { frames := 4 * j + 63, cells := 0, slots := 0, locals := 200 * j + 1120 }
theorem inw_X10_block_10 : ∀ w ∈ wsX100, w ∈ wsX10_block := by decide +kernel
set_option maxHeartbeats 1000000 in
set_option maxRecDepth 100000 in
theorem m_X10_block (l : Launch) (dC : Nat → ClassId) (dI : Nat → Nat → Nat) (sa : Nat → Nat) (g : Nat → Nat) (h0 : Nat) (b : Nat → Nat) (j : Nat) (bl : Nat) (dp : Nat → Nat) (i : Nat → Int32) (a : Nat → Nat → Int32) (kk : Int32) (se : Int32) (sz : Nat) (hSI : 0 ≤ (i 22).toInt ∧ (i 22).toInt ≤ (i 21).toInt ∧ (i 21).toInt ≤ 1500) (hPN : PN (i 36) dp (a 26) (a 27) (a 31) (a 32) (a 33)) (hBL : (i 38) = nI bl) (hj : bl + j = 8) (hnode : ∃ q0 : Nat, kk = nI q0 ∧ PV (i 36) q0 ∧ dp q0 = bl) (IHS : ∀ j' bl' : Nat, bl' + j' = 8 → j = j' + 1 → ∀ (dp : Nat → Nat) (i : Nat → Int32) (a : Nat → Nat → Int32) (ib : Int32) (sz : Nat) (hSI : 0 ≤ (i 22).toInt ∧ (i 22).toInt ≤ (i 21).toInt ∧ (i 21).toInt ≤ 1500) (hPN : PN (i 36) dp (a 26) (a 27) (a 31) (a 32) (a 33)) (hBL : (i 38) = nI bl'), CT l dC dI sa yX10_steps wsX10_steps (rm_X10_steps j' bl' dp) [.ref h0, .int ib] (mw g h0 b i a) (tyM g) sz (fun (r : Option Value) (u : Int32 × Int32 × Int32 × Int32 × Int32 × (Nat → Int32) × (Nat → Int32) × (Nat → Int32) × (Nat → Int32) × (Nat → Int32) × (Nat → Int32) × (Nat → Int32) × (Nat → Int32)) => match u with | (x22, x23, x24, x25, x36, y26, y27, y28, y29, y30, y31, y32, y33) => (∃ z : Int32, r = some (.int z)) ∧ (((i 22).toInt ≤ x22.toInt ∧ x22.toInt ≤ (i 21).toInt) ∧ ∃ dpN : Nat → Nat, PR (i 36) x36 dp dpN (a 26) (a 27) (a 31) (a 32) (a 33) y26 y27 y31 y32 y33 ∧ (∀ z : Int32, r = some (.int z) → z = -2 ∨ lk (PV x36) dpN bl' z))) (fun (u : Int32 × Int32 × Int32 × Int32 × Int32 × (Nat → Int32) × (Nat → Int32) × (Nat → Int32) × (Nat → Int32) × (Nat → Int32) × (Nat → Int32) × (Nat → Int32) × (Nat → Int32)) => match u with | (x22, x23, x24, x25, x36, y26, y27, y28, y29, y30, y31, y32, y33) => mw g h0 b (va_up (va_up (va_up (va_up (va_up i 22 x22) 23 x23) 24 x24) 25 x25) 36 x36) (va_up (va_up (va_up (va_up (va_up (va_up (va_up (va_up a 26 y26) 27 y27) 28 y28) 29 y29) 30 y30) 31 y31) 32 y32) 33 y33)) (fun _ => []) 0 0) : CT l dC dI sa yX10_block wsX10_block (rm_X10_block j bl dp) [.ref h0, .int kk, .int se] (mw g h0 b i a) (tyM g) sz (fun (r : Option Value) (u : Int32 × Int32 × Int32 × Int32 × Int32 × (Nat → Int32) × (Nat → Int32) × (Nat → Int32) × (Nat → Int32) × (Nat → Int32) × (Nat → Int32) × (Nat → Int32) × (Nat → Int32)) => match u with | (x22, x23, x24, x25, x36, y26, y27, y28, y29, y30, y31, y32, y33) => (∃ z : Int32, r = some (.int z) ∧ (z = 0 ∨ z = 1)) ∧ (((i 22).toInt ≤ x22.toInt ∧ x22.toInt ≤ (i 21).toInt) ∧ ∃ dpN : Nat → Nat, PR (i 36) x36 dp dpN (a 26) (a 27) (a 31) (a 32) (a 33) y26 y27 y31 y32 y33)) (fun (u : Int32 × Int32 × Int32 × Int32 × Int32 × (Nat → Int32) × (Nat → Int32) × (Nat → Int32) × (Nat → Int32) × (Nat → Int32) × (Nat → Int32) × (Nat → Int32) × (Nat → Int32)) => match u with | (x22, x23, x24, x25, x36, y26, y27, y28, y29, y30, y31, y32, y33) => mw g h0 b (va_up (va_up (va_up (va_up (va_up i 22 x22) 23 x23) 24 x24) 25 x25) 36 x36) (va_up (va_up (va_up (va_up (va_up (va_up (va_up (va_up a 26 y26) 27 y27) 28 y28) 29 y29) 30 y30) 31 y31) 32 y32) 33 y33)) (fun _ => []) 0 0 := by
  refine CT.start (cc := cX10_block) (maxL := 4) (ret := (some .boolean)) (by decide) rfl (Nat.le_of_ble_eq_true rfl) ?_
  intro p e s m below meth c ls hst hP hK hD hev hS hl
  obtain ⟨hx, hb, hr, hml, hts, hown, hlocks, hin⟩ := hst
  have hown : s.vm.findClass RX10 = some m.cls := hown
  have hA : ∀ q : Nat, s.heap.size ≤ q → va_A (mw g h0 b i a) s.heap.size q := fun _ h => Or.inr h
  have hl : lv_has ls 4 [(0, .ref h0), (1, .int kk), (2, .int se)] := hl
  obtain ⟨q, hq, hVq, hdq⟩ := hnode
  have hq27 := (hPN.2.2 q hVq).1
  have hkq : kk.toNatClampNeg = q := by rw [hq]; exact nI_clamp (by omega)
  have hk : vp_in kk 2700 := by rw [hq]; exact vp_in_nI hq27 (by decide)
  refine lv_aload_n hx hb dX10_block_0 rfl (lv_at hl 0 rfl) ?_
  refine lv_bipush (v := 123) hx hb dX10_block_1 (by decide) ?_
  refine M_V ⟨hx, hb, hml, hown, hts⟩ (m_X10_isSign l dC dI sa g h0 b i a (123 : Int32) _ (show 0 ≤ (i 22).toInt ∧ (i 22).toInt ≤ (i 21).toInt ∧ (i 21).toInt ≤ 1500 from by omega)) (cwV 1 hts gX10_block_X10_isSign rfl rfl rfl (by decide +kernel) ⟨(by first | exact Nat.le_of_ble_eq_true rfl | (simp only [rm_X10_isSign, rm_X10_block]; omega)), (by first | exact Nat.le_of_ble_eq_true rfl | (simp only [rm_X10_isSign, rm_X10_block]; omega))⟩) hP hD hK hS hA hev rfl rfl rfl rfl hl.1 rfl (Nat.le_of_ble_eq_true rfl) dX10_block_3 ⟨(by first | exact Nat.le_of_ble_eq_true rfl | (simp only [rm_X10_block]; omega)), (by first | exact Nat.le_of_ble_eq_true rfl | (simp only [rm_X10_block]; omega))⟩ (fun r u H locs hw hP hD hS => ?_)
  obtain ⟨x22_1, rfl⟩ : ∃ z, z = u := ⟨_, rfl⟩
  have hw : ((r = some (.int 0) ∧ (True)) ∨ (r = some (.int 1) ∧ (x22_1.toInt < (i 21).toInt))) ∧ ((i 22).toInt ≤ x22_1.toInt ∧ x22_1.toInt ≤ (i 21).toInt) := hw
  obtain ⟨⟨rfl, hz2_3⟩ | ⟨rfl, hz2_3⟩, hw_2⟩ := hw
  · have hP : va_P (dC, dI) vwCl (mw g h0 b (va_up i 22 x22_1) a) _ := hP
    have hD : va_D _ (mw g h0 b (va_up i 22 x22_1) a) := hD
    refine W.eq (g2 := F0 m 6 ls [.int 0]) rfl ?_
    refine lv_if_ne (tgt := 19) hx hb dX10_block_6 (by decide) (fun c_4 => absurd c_4 (by decide)) (fun _ => ?_)
    refine lv_aload_n hx hb dX10_block_9 rfl (lv_at hl 0 rfl) ?_
    refine lv_iconst (v := 1) hx hb dX10_block_10 (by decide) ?_
    refine lv_aload_n hx hb dX10_block_11 rfl (lv_at hl 0 rfl) ?_
    refine va_get (D := (dC, dI)) (ci := 10) (v := .int x22_1) (C := RX10) (T := TX10) (N := 51) hx hb hts inw_X10_block_10 hown hK hP 0 rfl rfl 22 (by decide) (hts (.fieldLink RX10 168 "VatHouseModel" "at" "I") (by decide +kernel)) (fun _ h9 => h9) rfl dX10_block_12 ?_
    refine M_V ⟨hx, hb, hml, hown, hts⟩ (m_X10_wrong l dC dI sa g h0 b (va_up i 22 x22_1) a (1 : Int32) x22_1 _ ) (cwV 2 hts gX10_block_X10_wrong rfl rfl rfl (by decide +kernel) ⟨(by first | exact Nat.le_of_ble_eq_true rfl | (simp only [rm_X10_wrong, rm_X10_block]; omega)), (by first | exact Nat.le_of_ble_eq_true rfl | (simp only [rm_X10_wrong, rm_X10_block]; omega))⟩) hP hD hK hS hA hev rfl rfl rfl rfl hl.1 rfl (Nat.le_of_ble_eq_true rfl) dX10_block_15 ⟨(by first | exact Nat.le_of_ble_eq_true rfl | (simp only [rm_X10_block]; omega)), (by first | exact Nat.le_of_ble_eq_true rfl | (simp only [rm_X10_block]; omega))⟩ (fun r u H locs hw hP hD hS => ?_)
    obtain ⟨x23_5, x24_6⟩ := u
    have hw : ((r = some (.int 0) ∧ (True)) ∨ (r = some (.int 1) ∧ (False))) ∧ (True) := hw
    obtain ⟨⟨rfl, hz2_8⟩ | ⟨rfl, hz2_8⟩, hw_7⟩ := hw
    · have hP : va_P (dC, dI) vwCl (mw g h0 b (va_up (va_up (va_up i 22 x22_1) 23 x23_5) 24 x24_6) a) _ := hP
      have hD : va_D _ (mw g h0 b (va_up (va_up (va_up i 22 x22_1) 23 x23_5) 24 x24_6) a) := hD
      refine W.eq (g2 := F0 m 18 ls [.int 0]) rfl ?_
      exact M_z hx hb hr rfl hlocks (x22_1, x23_5, x24_6, (i 25), (i 36), (a 26), (a 27), (a 28), (a 29), (a 30), (a 31), (a 32), (a 33)) hP hD hK hS ⟨⟨_, rfl, Or.inl rfl⟩, ⟨⟨by omega, by omega⟩, dp, (PR.rf hPN)⟩⟩ (by first | exact Nat.le_of_ble_eq_true rfl | (simp only [rm_X10_block]; omega)) (by first | exact Nat.le_of_ble_eq_true rfl | (simp only [rm_X10_block]; omega)) dX10_block_18
    · have hP : va_P (dC, dI) vwCl (mw g h0 b (va_up (va_up (va_up i 22 x22_1) 23 x23_5) 24 x24_6) a) _ := hP
      have hD : va_D _ (mw g h0 b (va_up (va_up (va_up i 22 x22_1) 23 x23_5) 24 x24_6) a) := hD
      refine W.eq (g2 := F0 m 18 ls [.int 1]) rfl ?_
      exact hz2_8.elim
  · have hP : va_P (dC, dI) vwCl (mw g h0 b (va_up i 22 x22_1) a) _ := hP
    have hD : va_D _ (mw g h0 b (va_up i 22 x22_1) a) := hD
    refine W.eq (g2 := F0 m 6 ls [.int 1]) rfl ?_
    refine lv_if_ne (tgt := 19) hx hb dX10_block_6 (by decide) (fun _ => ?_) (fun c_9 => absurd c_9 (by decide))
    refine lv_aload_n hx hb dX10_block_19 rfl (lv_at hl 0 rfl) ?_
    refine va_get (D := (dC, dI)) (ci := 10) (v := .int (i 38)) (C := RX10) (T := TX10) (N := 51) hx hb hts inw_X10_block_10 hown hK hP 0 rfl rfl 38 (by decide) (hts (.fieldLink RX10 277 "VatHouseModel" "blocks" "I") (by decide +kernel)) (fun _ h9 => h9) rfl dX10_block_20 ?_
    refine lv_bipush (v := 8) hx hb dX10_block_23 (by decide) ?_
    refine lv_icmp_ne (tgt := 38) hx hb dX10_block_25 (by decide) (fun c_10 => ?_) (fun c_10 => ?_)
    · have nc_10 := ne_i c_10
      have lc_10 : (8 : Int32).toInt = 8 := by decide
      refine lv_aload_n hx hb dX10_block_38 rfl (lv_at hl 0 rfl) ?_
      refine lv_dup hx hb dX10_block_39 rfl ?_
      refine va_get (D := (dC, dI)) (ci := 10) (v := .int (i 38)) (C := RX10) (T := TX10) (N := 51) hx hb hts inw_X10_block_10 hown hK hP 0 rfl rfl 38 (by decide) (hts (.fieldLink RX10 277 "VatHouseModel" "blocks" "I") (by decide +kernel)) (fun _ h9 => h9) rfl dX10_block_40 ?_
      refine lv_iconst (v := 1) hx hb dX10_block_43 (by decide) ?_
      refine lv_iadd hx hb dX10_block_44 ?_
      refine lv_topi (fun z_11 ez_11 => ?_)
      refine va_put (D := (dC, dI)) (ci := 10) (v := .int z_11) (ty := .int) (C := RX10) (T := TX10) (N := 51) hx hb hts inw_X10_block_10 tyX10 tyX10_ok nmX10 hown hK hP hD hS 0 rfl rfl 38 (by decide) (hts (.fieldLink RX10 277 "VatHouseModel" "blocks" "I") (by decide +kernel)) (fun _ h9 => h9) rfl (by decide +kernel) rfl rfl (Nat.le_of_ble_eq_true rfl) dX10_block_45 (fun H locs hP hD hS => ?_)
      have hP : va_P (dC, dI) vwCl (mw g h0 b (va_up (va_up i 22 x22_1) 38 z_11) a) _ := hP
      have hD : va_D _ (mw g h0 b (va_up (va_up i 22 x22_1) 38 z_11) a) := hD
      refine lv_aload_n hx hb dX10_block_48 rfl (lv_at hl 0 rfl) ?_
      refine lv_dup hx hb dX10_block_49 rfl ?_
      refine va_get (D := (dC, dI)) (ci := 10) (v := .int x22_1) (C := RX10) (T := TX10) (N := 51) hx hb hts inw_X10_block_10 hown hK hP 0 rfl rfl 22 (by decide) (hts (.fieldLink RX10 168 "VatHouseModel" "at" "I") (by decide +kernel)) (fun _ h9 => h9) rfl dX10_block_50 ?_
      refine lv_iconst (v := 1) hx hb dX10_block_53 (by decide) ?_
      refine lv_iadd hx hb dX10_block_54 ?_
      refine lv_topi (fun z_12 ez_12 => ?_)
      have tz9 := incz (y := i 21) (by rw [Int32.le_iff_toInt_le]; omega) ez_12
      refine va_put (D := (dC, dI)) (ci := 10) (v := .int z_12) (ty := .int) (C := RX10) (T := TX10) (N := 51) hx hb hts inw_X10_block_10 tyX10 tyX10_ok nmX10 hown hK hP hD hS 0 rfl rfl 22 (by decide) (hts (.fieldLink RX10 168 "VatHouseModel" "at" "I") (by decide +kernel)) (fun _ h9 => h9) rfl (by decide +kernel) rfl rfl (Nat.le_of_ble_eq_true rfl) dX10_block_55 (fun H locs hP hD hS => ?_)
      have hP : va_P (dC, dI) vwCl (mw g h0 b (va_up (va_up i 22 z_12) 38 z_11) a) _ := hP
      have hD : va_D _ (mw g h0 b (va_up (va_up i 22 z_12) 38 z_11) a) := hD
      refine lv_aload_n hx hb dX10_block_58 rfl (lv_at hl 0 rfl) ?_
      refine lv_iconst (v := 1) hx hb dX10_block_59 (by decide) ?_
      obtain ⟨j1, hj_13⟩ := lv8b hBL c_10 hj
      refine M_V ⟨hx, hb, hml, hown, hts⟩ (IHS j1 (bl + 1) (by omega) hj_13 dp (va_up (va_up i 22 z_12) 38 z_11) a (1 : Int32) _ (show 0 ≤ z_12.toInt ∧ z_12.toInt ≤ (i 21).toInt ∧ (i 21).toInt ≤ 1500 from by omega) hPN (by show z_11 = nI (bl + 1); rw [ez_11, hBL]; exact nI_1 bl)) (cwV 1 hts gX10_block_X10_steps rfl rfl rfl (by decide +kernel) ⟨(by first | exact Nat.le_of_ble_eq_true rfl | (simp only [rm_X10_steps, rm_X10_block]; omega)), (by first | exact Nat.le_of_ble_eq_true rfl | (simp only [rm_X10_steps, rm_X10_block]; omega))⟩) hP hD hK hS hA hev rfl rfl rfl rfl hl.1 rfl (Nat.le_of_ble_eq_true rfl) dX10_block_60 ⟨(by first | exact Nat.le_of_ble_eq_true rfl | (simp only [rm_X10_block]; omega)), (by first | exact Nat.le_of_ble_eq_true rfl | (simp only [rm_X10_block]; omega))⟩ (fun r u H locs hw hP hD hS => ?_)
      obtain ⟨x22_14, x23_15, x24_16, x25_17, x36_18, y26_19, y27_20, y28_21, y29_22, y30_23, y31_24, y32_25, y33_26⟩ := u
      have hw : (∃ z : Int32, r = some (.int z)) ∧ ((z_12.toInt ≤ x22_14.toInt ∧ x22_14.toInt ≤ (i 21).toInt) ∧ ∃ dpN : Nat → Nat, PR (i 36) x36_18 dp dpN (a 26) (a 27) (a 31) (a 32) (a 33) y26_19 y27_20 y31_24 y32_25 y33_26 ∧ (∀ z : Int32, r = some (.int z) → z = -2 ∨ lk (PV x36_18) dpN (bl + 1) z)) := hw
      obtain ⟨⟨z_28, rfl⟩, hw_27⟩ := hw
      have hP : va_P (dC, dI) vwCl (mw g h0 b (va_up (va_up (va_up (va_up (va_up (va_up i 22 x22_14) 23 x23_15) 24 x24_16) 25 x25_17) 36 x36_18) 38 z_11) (va_up (va_up (va_up (va_up (va_up (va_up (va_up (va_up a 26 y26_19) 27 y27_20) 28 y28_21) 29 y29_22) 30 y30_23) 31 y31_24) 32 y32_25) 33 y33_26)) _ := hP
      have hD : va_D _ (mw g h0 b (va_up (va_up (va_up (va_up (va_up (va_up i 22 x22_14) 23 x23_15) 24 x24_16) 25 x25_17) 36 x36_18) 38 z_11) (va_up (va_up (va_up (va_up (va_up (va_up (va_up (va_up a 26 y26_19) 27 y27_20) 28 y28_21) 29 y29_22) 30 y30_23) 31 y31_24) 32 y32_25) 33 y33_26)) := hD
      refine W.eq (g2 := F0 m 63 ls [.int z_28]) rfl ?_
      obtain ⟨hatq_32, dp_30, hPR_29, hres_31⟩ := hw_27
      have hres_31 := hres_31 _ rfl
      have hpr_33 := PR.tr (PR.rf hPN) hPR_29
      refine lv_istore_n (lv' := [(3, .int z_28), (0, .ref h0), (1, .int kk), (2, .int se)]) hx hb dX10_block_63 rfl hl (by decide) rfl (fun ls hl => ?_)
      refine lv_aload_n hx hb dX10_block_64 rfl (lv_at hl 1 rfl) ?_
      refine lv_dup hx hb dX10_block_65 rfl ?_
      refine va_get (D := (dC, dI)) (ci := 10) (v := .int z_11) (C := RX10) (T := TX10) (N := 51) hx hb hts inw_X10_block_10 hown hK hP 0 rfl rfl 38 (by decide) (hts (.fieldLink RX10 277 "VatHouseModel" "blocks" "I") (by decide +kernel)) (fun _ h9 => h9) rfl dX10_block_66 ?_
      refine lv_iconst (v := 1) hx hb dX10_block_69 (by decide) ?_
      refine lv_isub hx hb dX10_block_70 ?_
      refine lv_topi (fun z_34 ez_34 => ?_)
      refine va_put (D := (dC, dI)) (ci := 10) (v := .int z_34) (ty := .int) (C := RX10) (T := TX10) (N := 51) hx hb hts inw_X10_block_10 tyX10 tyX10_ok nmX10 hown hK hP hD hS 0 rfl rfl 38 (by decide) (hts (.fieldLink RX10 277 "VatHouseModel" "blocks" "I") (by decide +kernel)) (fun _ h9 => h9) rfl (by decide +kernel) rfl rfl (Nat.le_of_ble_eq_true rfl) dX10_block_71 (fun H locs hP hD hS => ?_)
      have hP : va_P (dC, dI) vwCl (mw g h0 b (va_up (va_up (va_up (va_up (va_up (va_up i 22 x22_14) 23 x23_15) 24 x24_16) 25 x25_17) 36 x36_18) 38 z_34) (va_up (va_up (va_up (va_up (va_up (va_up (va_up (va_up a 26 y26_19) 27 y27_20) 28 y28_21) 29 y29_22) 30 y30_23) 31 y31_24) 32 y32_25) 33 y33_26)) _ := hP
      have hD : va_D _ (mw g h0 b (va_up (va_up (va_up (va_up (va_up (va_up i 22 x22_14) 23 x23_15) 24 x24_16) 25 x25_17) 36 x36_18) 38 z_34) (va_up (va_up (va_up (va_up (va_up (va_up (va_up (va_up a 26 y26_19) 27 y27_20) 28 y28_21) 29 y29_22) 30 y30_23) 31 y31_24) 32 y32_25) 33 y33_26)) := hD
      obtain rfl : z_34 = i 38 := by rw [ez_34, ez_11]; exact Int32.add_sub_cancel _ _
      have hP : va_P (dC, dI) vwCl (mw g h0 b (va_up (va_up (va_up (va_up (va_up i 22 x22_14) 23 x23_15) 24 x24_16) 25 x25_17) 36 x36_18) (va_up (va_up (va_up (va_up (va_up (va_up (va_up (va_up a 26 y26_19) 27 y27_20) 28 y28_21) 29 y29_22) 30 y30_23) 31 y31_24) 32 y32_25) 33 y33_26)) _ := hP
      have hD : va_D _ (mw g h0 b (va_up (va_up (va_up (va_up (va_up i 22 x22_14) 23 x23_15) 24 x24_16) 25 x25_17) 36 x36_18) (va_up (va_up (va_up (va_up (va_up (va_up (va_up (va_up a 26 y26_19) 27 y27_20) 28 y28_21) 29 y29_22) 30 y30_23) 31 y31_24) 32 y32_25) 33 y33_26)) := hD
      refine lv_iload_n hx hb dX10_block_74 rfl (lv_at hl 0 rfl) ?_
      refine lv_bipush (v := (-2)) hx hb dX10_block_75 (by decide) ?_
      refine lv_icmp_ne (tgt := 82) hx hb dX10_block_77 (by decide) (fun c_35 => ?_) (fun c_35 => ?_)
      · have nc_35 := ne_i c_35
        have lc_35 : ((-2) : Int32).toInt = -2 := by decide
        refine lv_iload_n hx hb dX10_block_82 rfl (lv_at hl 3 rfl) ?_
        refine lv_if_eq (tgt := 96) hx hb dX10_block_83 (by decide) (fun c_36 => ?_) (fun c_36 => ?_)
        · have nc_36 := eq_i c_36
          have lc_36 : (0 : Int32).toInt = 0 := by decide
          refine lv_aload_n hx hb dX10_block_96 rfl (lv_at hl 1 rfl) ?_
          refine va_get (D := (dC, dI)) (ci := 10) (v := .ref (b 31)) (C := RX10) (T := TX10) (N := 51) hx hb hts inw_X10_block_10 hown hK hP 0 rfl rfl 31 (by decide) (hts (.fieldLink RX10 75 "VatHouseModel" "inner" "[I") (by decide +kernel)) (fun _ h9 => h9) rfl dX10_block_97 ?_
          refine lv_iload_n hx hb dX10_block_100 rfl (lv_at hl 2 rfl) ?_
          refine lv_iload_n hx hb dX10_block_101 rfl (lv_at hl 0 rfl) ?_
          refine va_iast hx hb hK hP hD hS 21 0 rfl rfl (by assumption) dX10_block_102 (fun H locs hP hD hS => ?_)
          have hP : va_P (dC, dI) vwCl (mw g h0 b (va_up (va_up (va_up (va_up (va_up i 22 x22_14) 23 x23_15) 24 x24_16) 25 x25_17) 36 x36_18) (va_up (va_up (va_up (va_up (va_up (va_up (va_up (va_up a 26 y26_19) 27 y27_20) 28 y28_21) 29 y29_22) 30 y30_23) 31 (upd y31_24 kk.toNatClampNeg z_28)) 32 y32_25) 33 y33_26)) _ := hP
          have hD : va_D _ (mw g h0 b (va_up (va_up (va_up (va_up (va_up i 22 x22_14) 23 x23_15) 24 x24_16) 25 x25_17) 36 x36_18) (va_up (va_up (va_up (va_up (va_up (va_up (va_up (va_up a 26 y26_19) 27 y27_20) 28 y28_21) 29 y29_22) 30 y30_23) 31 (upd y31_24 kk.toNatClampNeg z_28)) 32 y32_25) 33 y33_26)) := hD
          obtain ⟨f_37, ef_37⟩ : ∃ z, z = (upd y31_24 kk.toNatClampNeg z_28) := ⟨_, rfl⟩
          rw [← ef_37] at hP hD
          have hnd := PR.nd hpr_33 hVq hdq
          have hp_38 := PN.inner hPR_29.2.1 hq hnd.1 (by rw [hnd.2]; exact hres_31.resolve_left c_35)
          rw [← ef_37] at hp_38
          have hpr_39 := PR.tr hpr_33 hp_38
          refine lv_iconst (v := 1) hx hb dX10_block_103 (by decide) ?_
          exact M_z hx hb hr rfl hlocks (x22_14, x23_15, x24_16, x25_17, x36_18, y26_19, y27_20, y28_21, y29_22, y30_23, f_37, y32_25, y33_26) hP hD hK hS ⟨⟨_, rfl, Or.inr rfl⟩, ⟨⟨by omega, by omega⟩, dp_30, hpr_39⟩⟩ (by first | exact Nat.le_of_ble_eq_true rfl | (simp only [rm_X10_block]; omega)) (by first | exact Nat.le_of_ble_eq_true rfl | (simp only [rm_X10_block]; omega)) dX10_block_104
        · have nc_36 := ne_i c_36
          have lc_36 : (0 : Int32).toInt = 0 := by decide
          refine lv_aload_n hx hb dX10_block_86 rfl (lv_at hl 1 rfl) ?_
          refine va_get (D := (dC, dI)) (ci := 10) (v := .ref (b 32)) (C := RX10) (T := TX10) (N := 51) hx hb hts inw_X10_block_10 hown hK hP 0 rfl rfl 32 (by decide) (hts (.fieldLink RX10 78 "VatHouseModel" "other" "[I") (by decide +kernel)) (fun _ h9 => h9) rfl dX10_block_87 ?_
          refine lv_iload_n hx hb dX10_block_90 rfl (lv_at hl 2 rfl) ?_
          refine lv_iload_n hx hb dX10_block_91 rfl (lv_at hl 0 rfl) ?_
          refine va_iast hx hb hK hP hD hS 22 0 rfl rfl (by assumption) dX10_block_92 (fun H locs hP hD hS => ?_)
          have hP : va_P (dC, dI) vwCl (mw g h0 b (va_up (va_up (va_up (va_up (va_up i 22 x22_14) 23 x23_15) 24 x24_16) 25 x25_17) 36 x36_18) (va_up (va_up (va_up (va_up (va_up (va_up (va_up (va_up a 26 y26_19) 27 y27_20) 28 y28_21) 29 y29_22) 30 y30_23) 31 y31_24) 32 (upd y32_25 kk.toNatClampNeg z_28)) 33 y33_26)) _ := hP
          have hD : va_D _ (mw g h0 b (va_up (va_up (va_up (va_up (va_up i 22 x22_14) 23 x23_15) 24 x24_16) 25 x25_17) 36 x36_18) (va_up (va_up (va_up (va_up (va_up (va_up (va_up (va_up a 26 y26_19) 27 y27_20) 28 y28_21) 29 y29_22) 30 y30_23) 31 y31_24) 32 (upd y32_25 kk.toNatClampNeg z_28)) 33 y33_26)) := hD
          obtain ⟨f_40, ef_40⟩ : ∃ z, z = (upd y32_25 kk.toNatClampNeg z_28) := ⟨_, rfl⟩
          rw [← ef_40] at hP hD
          refine lv_goto (tgt := 103) hx hb dX10_block_93 (by decide) ?_
          have hnd := PR.nd hpr_33 hVq hdq
          have hp_41 := PN.other hPR_29.2.1 hq hnd.1 (by rw [hnd.2]; exact hres_31.resolve_left c_35)
          rw [← ef_40] at hp_41
          have hpr_42 := PR.tr hpr_33 hp_41
          refine lv_iconst (v := 1) hx hb dX10_block_103 (by decide) ?_
          exact M_z hx hb hr rfl hlocks (x22_14, x23_15, x24_16, x25_17, x36_18, y26_19, y27_20, y28_21, y29_22, y30_23, y31_24, f_40, y33_26) hP hD hK hS ⟨⟨_, rfl, Or.inr rfl⟩, ⟨⟨by omega, by omega⟩, dp_30, hpr_42⟩⟩ (by first | exact Nat.le_of_ble_eq_true rfl | (simp only [rm_X10_block]; omega)) (by first | exact Nat.le_of_ble_eq_true rfl | (simp only [rm_X10_block]; omega)) dX10_block_104
      · have nc_35 := eq_i c_35
        have lc_35 : ((-2) : Int32).toInt = -2 := by decide
        refine lv_iconst (v := 0) hx hb dX10_block_80 (by decide) ?_
        exact M_z hx hb hr rfl hlocks (x22_14, x23_15, x24_16, x25_17, x36_18, y26_19, y27_20, y28_21, y29_22, y30_23, y31_24, y32_25, y33_26) hP hD hK hS ⟨⟨_, rfl, Or.inl rfl⟩, ⟨⟨by omega, by omega⟩, dp_30, hpr_33⟩⟩ (by first | exact Nat.le_of_ble_eq_true rfl | (simp only [rm_X10_block]; omega)) (by first | exact Nat.le_of_ble_eq_true rfl | (simp only [rm_X10_block]; omega)) dX10_block_81
    · have nc_10 := eq_i c_10
      have lc_10 : (8 : Int32).toInt = 8 := by decide
      refine lv_aload_n hx hb dX10_block_28 rfl (lv_at hl 0 rfl) ?_
      refine lv_iconst (v := 2) hx hb dX10_block_29 (by decide) ?_
      refine lv_aload_n hx hb dX10_block_30 rfl (lv_at hl 0 rfl) ?_
      refine va_get (D := (dC, dI)) (ci := 10) (v := .int x22_1) (C := RX10) (T := TX10) (N := 51) hx hb hts inw_X10_block_10 hown hK hP 0 rfl rfl 22 (by decide) (hts (.fieldLink RX10 168 "VatHouseModel" "at" "I") (by decide +kernel)) (fun _ h9 => h9) rfl dX10_block_31 ?_
      refine M_V ⟨hx, hb, hml, hown, hts⟩ (m_X10_wrong l dC dI sa g h0 b (va_up i 22 x22_1) a (2 : Int32) x22_1 _ ) (cwV 2 hts gX10_block_X10_wrong rfl rfl rfl (by decide +kernel) ⟨(by first | exact Nat.le_of_ble_eq_true rfl | (simp only [rm_X10_wrong, rm_X10_block]; omega)), (by first | exact Nat.le_of_ble_eq_true rfl | (simp only [rm_X10_wrong, rm_X10_block]; omega))⟩) hP hD hK hS hA hev rfl rfl rfl rfl hl.1 rfl (Nat.le_of_ble_eq_true rfl) dX10_block_34 ⟨(by first | exact Nat.le_of_ble_eq_true rfl | (simp only [rm_X10_block]; omega)), (by first | exact Nat.le_of_ble_eq_true rfl | (simp only [rm_X10_block]; omega))⟩ (fun r u H locs hw hP hD hS => ?_)
      obtain ⟨x23_43, x24_44⟩ := u
      have hw : ((r = some (.int 0) ∧ (True)) ∨ (r = some (.int 1) ∧ (False))) ∧ (True) := hw
      obtain ⟨⟨rfl, hz2_46⟩ | ⟨rfl, hz2_46⟩, hw_45⟩ := hw
      · have hP : va_P (dC, dI) vwCl (mw g h0 b (va_up (va_up (va_up i 22 x22_1) 23 x23_43) 24 x24_44) a) _ := hP
        have hD : va_D _ (mw g h0 b (va_up (va_up (va_up i 22 x22_1) 23 x23_43) 24 x24_44) a) := hD
        refine W.eq (g2 := F0 m 37 ls [.int 0]) rfl ?_
        exact M_z hx hb hr rfl hlocks (x22_1, x23_43, x24_44, (i 25), (i 36), (a 26), (a 27), (a 28), (a 29), (a 30), (a 31), (a 32), (a 33)) hP hD hK hS ⟨⟨_, rfl, Or.inl rfl⟩, ⟨⟨by omega, by omega⟩, dp, (PR.rf hPN)⟩⟩ (by first | exact Nat.le_of_ble_eq_true rfl | (simp only [rm_X10_block]; omega)) (by first | exact Nat.le_of_ble_eq_true rfl | (simp only [rm_X10_block]; omega)) dX10_block_37
      · have hP : va_P (dC, dI) vwCl (mw g h0 b (va_up (va_up (va_up i 22 x22_1) 23 x23_43) 24 x24_44) a) _ := hP
        have hD : va_D _ (mw g h0 b (va_up (va_up (va_up i 22 x22_1) 23 x23_43) 24 x24_44) a) := hD
        refine W.eq (g2 := F0 m 37 ls [.int 1]) rfl ?_
        exact hz2_46.elim

theorem inw_X10_rest_10 : ∀ w ∈ wsX100, w ∈ wsX10_rest := by decide +kernel
set_option maxHeartbeats 1000000 in
set_option maxRecDepth 100000 in
theorem m_X10_rest (l : Launch) (dC : Nat → ClassId) (dI : Nat → Nat → Nat) (sa : Nat → Nat) (g : Nat → Nat) (h0 : Nat) (b : Nat → Nat) (j : Nat) (bl : Nat) (dp : Nat → Nat) (i : Nat → Int32) (a : Nat → Nat → Int32) (kk : Int32) (sz : Nat) (hSI : 0 ≤ (i 22).toInt ∧ (i 22).toInt ≤ (i 21).toInt ∧ (i 21).toInt ≤ 1500) (hPN : PN (i 36) dp (a 26) (a 27) (a 31) (a 32) (a 33)) (hBL : (i 38) = nI bl) (hj : bl + j = 8) (hnode : ∃ q0 : Nat, kk = nI q0 ∧ PV (i 36) q0 ∧ dp q0 = bl) (IHS : ∀ j' bl' : Nat, bl' + j' = 8 → j = j' + 1 → ∀ (dp : Nat → Nat) (i : Nat → Int32) (a : Nat → Nat → Int32) (ib : Int32) (sz : Nat) (hSI : 0 ≤ (i 22).toInt ∧ (i 22).toInt ≤ (i 21).toInt ∧ (i 21).toInt ≤ 1500) (hPN : PN (i 36) dp (a 26) (a 27) (a 31) (a 32) (a 33)) (hBL : (i 38) = nI bl'), CT l dC dI sa yX10_steps wsX10_steps (rm_X10_steps j' bl' dp) [.ref h0, .int ib] (mw g h0 b i a) (tyM g) sz (fun (r : Option Value) (u : Int32 × Int32 × Int32 × Int32 × Int32 × (Nat → Int32) × (Nat → Int32) × (Nat → Int32) × (Nat → Int32) × (Nat → Int32) × (Nat → Int32) × (Nat → Int32) × (Nat → Int32)) => match u with | (x22, x23, x24, x25, x36, y26, y27, y28, y29, y30, y31, y32, y33) => (∃ z : Int32, r = some (.int z)) ∧ (((i 22).toInt ≤ x22.toInt ∧ x22.toInt ≤ (i 21).toInt) ∧ ∃ dpN : Nat → Nat, PR (i 36) x36 dp dpN (a 26) (a 27) (a 31) (a 32) (a 33) y26 y27 y31 y32 y33 ∧ (∀ z : Int32, r = some (.int z) → z = -2 ∨ lk (PV x36) dpN bl' z))) (fun (u : Int32 × Int32 × Int32 × Int32 × Int32 × (Nat → Int32) × (Nat → Int32) × (Nat → Int32) × (Nat → Int32) × (Nat → Int32) × (Nat → Int32) × (Nat → Int32) × (Nat → Int32)) => match u with | (x22, x23, x24, x25, x36, y26, y27, y28, y29, y30, y31, y32, y33) => mw g h0 b (va_up (va_up (va_up (va_up (va_up i 22 x22) 23 x23) 24 x24) 25 x25) 36 x36) (va_up (va_up (va_up (va_up (va_up (va_up (va_up (va_up a 26 y26) 27 y27) 28 y28) 29 y29) 30 y30) 31 y31) 32 y32) 33 y33)) (fun _ => []) 0 0) : CT l dC dI sa yX10_rest wsX10_rest (rm_X10_rest j bl dp) [.ref h0, .int kk] (mw g h0 b i a) (tyM g) sz (fun (r : Option Value) (u : Int32 × Int32 × Int32 × Int32 × Int32 × (Nat → Int32) × (Nat → Int32) × (Nat → Int32) × (Nat → Int32) × (Nat → Int32) × (Nat → Int32) × (Nat → Int32) × (Nat → Int32)) => match u with | (x22, x23, x24, x25, x36, y26, y27, y28, y29, y30, y31, y32, y33) => (∃ z : Int32, r = some (.int z) ∧ (z = 0 ∨ z = 1)) ∧ (((i 22).toInt ≤ x22.toInt ∧ x22.toInt ≤ (i 21).toInt) ∧ ∃ dpN : Nat → Nat, PR (i 36) x36 dp dpN (a 26) (a 27) (a 31) (a 32) (a 33) y26 y27 y31 y32 y33)) (fun (u : Int32 × Int32 × Int32 × Int32 × Int32 × (Nat → Int32) × (Nat → Int32) × (Nat → Int32) × (Nat → Int32) × (Nat → Int32) × (Nat → Int32) × (Nat → Int32) × (Nat → Int32)) => match u with | (x22, x23, x24, x25, x36, y26, y27, y28, y29, y30, y31, y32, y33) => mw g h0 b (va_up (va_up (va_up (va_up (va_up i 22 x22) 23 x23) 24 x24) 25 x25) 36 x36) (va_up (va_up (va_up (va_up (va_up (va_up (va_up (va_up a 26 y26) 27 y27) 28 y28) 29 y29) 30 y30) 31 y31) 32 y32) 33 y33)) (fun _ => []) 0 0 := by
  refine CT.start (cc := cX10_rest) (maxL := 2) (ret := (some .boolean)) (by decide) rfl (Nat.le_of_ble_eq_true rfl) ?_
  intro p e s m below meth c ls hst hP hK hD hev hS hl
  obtain ⟨hx, hb, hr, hml, hts, hown, hlocks, hin⟩ := hst
  have hown : s.vm.findClass RX10 = some m.cls := hown
  have hA : ∀ q : Nat, s.heap.size ≤ q → va_A (mw g h0 b i a) s.heap.size q := fun _ h => Or.inr h
  have hl : lv_has ls 2 [(0, .ref h0), (1, .int kk)] := hl
  obtain ⟨q, hq, hVq, hdq⟩ := hnode
  have hq27 := (hPN.2.2 q hVq).1
  have hkq : kk.toNatClampNeg = q := by rw [hq]; exact nI_clamp (by omega)
  have hk : vp_in kk 2700 := by rw [hq]; exact vp_in_nI hq27 (by decide)
  refine lv_aload_n hx hb dX10_rest_0 rfl (lv_at hl 0 rfl) ?_
  refine va_get (D := (dC, dI)) (ci := 10) (v := .ref (b 26)) (C := RX10) (T := TX10) (N := 51) hx hb hts inw_X10_rest_10 hown hK hP 0 rfl rfl 26 (by decide) (hts (.fieldLink RX10 60 "VatHouseModel" "kind" "[I") (by decide +kernel)) (fun _ h9 => h9) rfl dX10_rest_1 ?_
  refine lv_iload_n hx hb dX10_rest_4 rfl (lv_at hl 1 rfl) ?_
  refine va_iald hx hb hK hP 16 0 rfl rfl (by assumption) dX10_rest_5 ?_
  refine lv_topi (fun z_1 ez_1 => ?_)
  have ez_1 : z_1 = (a 26) kk.toNatClampNeg := ez_1
  by_cases c_2 : z_1 = 0
  · refine lv_tableIn (tgt := 64) hx hb dX10_rest_6 (by rw [c_2]; decide) (by rw [c_2]; decide) (by rw [c_2]; rfl) (by decide) ?_
    refine lv_aload_n hx hb dX10_rest_64 rfl (lv_at hl 0 rfl) ?_
    refine lv_iload_n hx hb dX10_rest_65 rfl (lv_at hl 1 rfl) ?_
    refine lv_iconst (v := 5) hx hb dX10_rest_66 (by decide) ?_
    refine lv_bipush (v := 20) hx hb dX10_rest_67 (by decide) ?_
    refine M_V ⟨hx, hb, hml, hown, hts⟩ (m_X10_numbers l dC dI sa g h0 b i a kk (5 : Int32) (20 : Int32) _ (show 0 ≤ (i 22).toInt ∧ (i 22).toInt ≤ (i 21).toInt ∧ (i 21).toInt ≤ 1500 from by omega) hk) (cwV 3 hts gX10_rest_X10_numbers rfl rfl rfl (by decide +kernel) ⟨(by first | exact Nat.le_of_ble_eq_true rfl | (simp only [rm_X10_numbers, rm_X10_rest]; omega)), (by first | exact Nat.le_of_ble_eq_true rfl | (simp only [rm_X10_numbers, rm_X10_rest]; omega))⟩) hP hD hK hS hA hev rfl rfl rfl rfl hl.1 rfl (Nat.le_of_ble_eq_true rfl) dX10_rest_69 ⟨(by first | exact Nat.le_of_ble_eq_true rfl | (simp only [rm_X10_rest]; omega)), (by first | exact Nat.le_of_ble_eq_true rfl | (simp only [rm_X10_rest]; omega))⟩ (fun r u H locs hw hP hD hS => ?_)
    obtain ⟨x22_3, x23_4, x24_5, x25_6, y27_7, y28_8⟩ := u
    have hw : (∃ z : Int32, r = some (.int z) ∧ (z = 0 ∨ z = 1)) ∧ (((i 22).toInt ≤ x22_3.toInt ∧ x22_3.toInt ≤ (i 21).toInt) ∧ (y27_7 = (a 27) ∨ ∃ v : Int32, (0 : Int32).toInt ≤ v.toInt ∧ v.toInt ≤ (5 : Int32).toInt ∧ y27_7 = upd (a 27) kk.toNatClampNeg v)) := hw
    obtain ⟨⟨z_10, rfl, hz_z_10⟩, hw_9⟩ := hw
    have hP : va_P (dC, dI) vwCl (mw g h0 b (va_up (va_up (va_up (va_up i 22 x22_3) 23 x23_4) 24 x24_5) 25 x25_6) (va_up (va_up a 27 y27_7) 28 y28_8)) _ := hP
    have hD : va_D _ (mw g h0 b (va_up (va_up (va_up (va_up i 22 x22_3) 23 x23_4) 24 x24_5) 25 x25_6) (va_up (va_up a 27 y27_7) 28 y28_8)) := hD
    refine W.eq (g2 := F0 m 72 ls [.int z_10]) rfl ?_
    obtain ⟨hatq_12, hset_11⟩ := hw_9
    have hp_13 := PN.set hPN hq hVq hset_11 (fun _ => by decide)
    have hpr_14 := PR.tr (PR.rf hPN) hp_13
    refine lv_if_eq (tgt := 88) hx hb dX10_rest_72 (by decide) (fun c_15 => ?_) (fun c_15 => ?_)
    · have nc_15 := eq_i c_15
      have lc_15 : (0 : Int32).toInt = 0 := by decide
      refine lv_iconst (v := 0) hx hb dX10_rest_88 (by decide) ?_
      exact M_z hx hb hr rfl hlocks (x22_3, x23_4, x24_5, x25_6, (i 36), (a 26), y27_7, y28_8, (a 29), (a 30), (a 31), (a 32), (a 33)) hP hD hK hS ⟨⟨_, rfl, Or.inl rfl⟩, ⟨⟨by omega, by omega⟩, dp, hpr_14⟩⟩ (by first | exact Nat.le_of_ble_eq_true rfl | (simp only [rm_X10_rest]; omega)) (by first | exact Nat.le_of_ble_eq_true rfl | (simp only [rm_X10_rest]; omega)) dX10_rest_89
    · have nc_15 := ne_i c_15
      have lc_15 : (0 : Int32).toInt = 0 := by decide
      refine lv_aload_n hx hb dX10_rest_75 rfl (lv_at hl 0 rfl) ?_
      refine lv_bipush (v := 59) hx hb dX10_rest_76 (by decide) ?_
      refine M_V ⟨hx, hb, hml, hown, hts⟩ (m_X10_need l dC dI sa g h0 b (va_up (va_up (va_up (va_up i 22 x22_3) 23 x23_4) 24 x24_5) 25 x25_6) (va_up (va_up a 27 y27_7) 28 y28_8) (59 : Int32) _ (show 0 ≤ x22_3.toInt ∧ x22_3.toInt ≤ (i 21).toInt ∧ (i 21).toInt ≤ 1500 from by omega)) (cwV 1 hts gX10_rest_X10_need rfl rfl rfl (by decide +kernel) ⟨(by first | exact Nat.le_of_ble_eq_true rfl | (simp only [rm_X10_need, rm_X10_rest]; omega)), (by first | exact Nat.le_of_ble_eq_true rfl | (simp only [rm_X10_need, rm_X10_rest]; omega))⟩) hP hD hK hS hA hev rfl rfl rfl rfl hl.1 rfl (Nat.le_of_ble_eq_true rfl) dX10_rest_78 ⟨(by first | exact Nat.le_of_ble_eq_true rfl | (simp only [rm_X10_rest]; omega)), (by first | exact Nat.le_of_ble_eq_true rfl | (simp only [rm_X10_rest]; omega))⟩ (fun r u H locs hw hP hD hS => ?_)
      obtain ⟨x22_16, x23_17, x24_18⟩ := u
      have hw : (∃ z : Int32, r = some (.int z) ∧ (z = 0 ∨ z = 1)) ∧ (x22_3.toInt ≤ x22_16.toInt ∧ x22_16.toInt ≤ (i 21).toInt) := hw
      obtain ⟨⟨z_20, rfl, hz_z_20⟩, hw_19⟩ := hw
      have hP : va_P (dC, dI) vwCl (mw g h0 b (va_up (va_up (va_up (va_up i 22 x22_16) 23 x23_17) 24 x24_18) 25 x25_6) (va_up (va_up a 27 y27_7) 28 y28_8)) _ := hP
      have hD : va_D _ (mw g h0 b (va_up (va_up (va_up (va_up i 22 x22_16) 23 x23_17) 24 x24_18) 25 x25_6) (va_up (va_up a 27 y27_7) 28 y28_8)) := hD
      refine W.eq (g2 := F0 m 81 ls [.int z_20]) rfl ?_
      refine lv_if_eq (tgt := 88) hx hb dX10_rest_81 (by decide) (fun c_21 => ?_) (fun c_21 => ?_)
      · have nc_21 := eq_i c_21
        have lc_21 : (0 : Int32).toInt = 0 := by decide
        refine lv_iconst (v := 0) hx hb dX10_rest_88 (by decide) ?_
        exact M_z hx hb hr rfl hlocks (x22_16, x23_17, x24_18, x25_6, (i 36), (a 26), y27_7, y28_8, (a 29), (a 30), (a 31), (a 32), (a 33)) hP hD hK hS ⟨⟨_, rfl, Or.inl rfl⟩, ⟨⟨by omega, by omega⟩, dp, hpr_14⟩⟩ (by first | exact Nat.le_of_ble_eq_true rfl | (simp only [rm_X10_rest]; omega)) (by first | exact Nat.le_of_ble_eq_true rfl | (simp only [rm_X10_rest]; omega)) dX10_rest_89
      · have nc_21 := ne_i c_21
        have lc_21 : (0 : Int32).toInt = 0 := by decide
        refine lv_iconst (v := 1) hx hb dX10_rest_84 (by decide) ?_
        refine lv_goto (tgt := 89) hx hb dX10_rest_85 (by decide) ?_
        exact M_z hx hb hr rfl hlocks (x22_16, x23_17, x24_18, x25_6, (i 36), (a 26), y27_7, y28_8, (a 29), (a 30), (a 31), (a 32), (a 33)) hP hD hK hS ⟨⟨_, rfl, Or.inr rfl⟩, ⟨⟨by omega, by omega⟩, dp, hpr_14⟩⟩ (by first | exact Nat.le_of_ble_eq_true rfl | (simp only [rm_X10_rest]; omega)) (by first | exact Nat.le_of_ble_eq_true rfl | (simp only [rm_X10_rest]; omega)) dX10_rest_89
  by_cases c_22 : z_1 = 1
  · refine lv_tableIn (tgt := 117) hx hb dX10_rest_6 (by rw [c_22]; decide) (by rw [c_22]; decide) (by rw [c_22]; rfl) (by decide) ?_
    refine lv_aload_n hx hb dX10_rest_117 rfl (lv_at hl 0 rfl) ?_
    refine lv_bipush (v := 59) hx hb dX10_rest_118 (by decide) ?_
    refine M_V ⟨hx, hb, hml, hown, hts⟩ (m_X10_need l dC dI sa g h0 b i a (59 : Int32) _ (show 0 ≤ (i 22).toInt ∧ (i 22).toInt ≤ (i 21).toInt ∧ (i 21).toInt ≤ 1500 from by omega)) (cwV 1 hts gX10_rest_X10_need rfl rfl rfl (by decide +kernel) ⟨(by first | exact Nat.le_of_ble_eq_true rfl | (simp only [rm_X10_need, rm_X10_rest]; omega)), (by first | exact Nat.le_of_ble_eq_true rfl | (simp only [rm_X10_need, rm_X10_rest]; omega))⟩) hP hD hK hS hA hev rfl rfl rfl rfl hl.1 rfl (Nat.le_of_ble_eq_true rfl) dX10_rest_120 ⟨(by first | exact Nat.le_of_ble_eq_true rfl | (simp only [rm_X10_rest]; omega)), (by first | exact Nat.le_of_ble_eq_true rfl | (simp only [rm_X10_rest]; omega))⟩ (fun r u H locs hw hP hD hS => ?_)
    obtain ⟨x22_23, x23_24, x24_25⟩ := u
    have hw : (∃ z : Int32, r = some (.int z) ∧ (z = 0 ∨ z = 1)) ∧ ((i 22).toInt ≤ x22_23.toInt ∧ x22_23.toInt ≤ (i 21).toInt) := hw
    obtain ⟨⟨z_27, rfl, hz_z_27⟩, hw_26⟩ := hw
    have hP : va_P (dC, dI) vwCl (mw g h0 b (va_up (va_up (va_up i 22 x22_23) 23 x23_24) 24 x24_25) a) _ := hP
    have hD : va_D _ (mw g h0 b (va_up (va_up (va_up i 22 x22_23) 23 x23_24) 24 x24_25) a) := hD
    refine W.eq (g2 := F0 m 123 ls [.int z_27]) rfl ?_
    exact M_z hx hb hr (nar_b hz_z_27) hlocks (x22_23, x23_24, x24_25, (i 25), (i 36), (a 26), (a 27), (a 28), (a 29), (a 30), (a 31), (a 32), (a 33)) hP hD hK hS ⟨⟨_, rfl, hz_z_27⟩, ⟨⟨by omega, by omega⟩, dp, (PR.rf hPN)⟩⟩ (by first | exact Nat.le_of_ble_eq_true rfl | (simp only [rm_X10_rest]; omega)) (by first | exact Nat.le_of_ble_eq_true rfl | (simp only [rm_X10_rest]; omega)) dX10_rest_123
  by_cases c_28 : z_1 = 2
  · refine lv_tableIn (tgt := 117) hx hb dX10_rest_6 (by rw [c_28]; decide) (by rw [c_28]; decide) (by rw [c_28]; rfl) (by decide) ?_
    refine lv_aload_n hx hb dX10_rest_117 rfl (lv_at hl 0 rfl) ?_
    refine lv_bipush (v := 59) hx hb dX10_rest_118 (by decide) ?_
    refine M_V ⟨hx, hb, hml, hown, hts⟩ (m_X10_need l dC dI sa g h0 b i a (59 : Int32) _ (show 0 ≤ (i 22).toInt ∧ (i 22).toInt ≤ (i 21).toInt ∧ (i 21).toInt ≤ 1500 from by omega)) (cwV 1 hts gX10_rest_X10_need rfl rfl rfl (by decide +kernel) ⟨(by first | exact Nat.le_of_ble_eq_true rfl | (simp only [rm_X10_need, rm_X10_rest]; omega)), (by first | exact Nat.le_of_ble_eq_true rfl | (simp only [rm_X10_need, rm_X10_rest]; omega))⟩) hP hD hK hS hA hev rfl rfl rfl rfl hl.1 rfl (Nat.le_of_ble_eq_true rfl) dX10_rest_120 ⟨(by first | exact Nat.le_of_ble_eq_true rfl | (simp only [rm_X10_rest]; omega)), (by first | exact Nat.le_of_ble_eq_true rfl | (simp only [rm_X10_rest]; omega))⟩ (fun r u H locs hw hP hD hS => ?_)
    obtain ⟨x22_29, x23_30, x24_31⟩ := u
    have hw : (∃ z : Int32, r = some (.int z) ∧ (z = 0 ∨ z = 1)) ∧ ((i 22).toInt ≤ x22_29.toInt ∧ x22_29.toInt ≤ (i 21).toInt) := hw
    obtain ⟨⟨z_33, rfl, hz_z_33⟩, hw_32⟩ := hw
    have hP : va_P (dC, dI) vwCl (mw g h0 b (va_up (va_up (va_up i 22 x22_29) 23 x23_30) 24 x24_31) a) _ := hP
    have hD : va_D _ (mw g h0 b (va_up (va_up (va_up i 22 x22_29) 23 x23_30) 24 x24_31) a) := hD
    refine W.eq (g2 := F0 m 123 ls [.int z_33]) rfl ?_
    exact M_z hx hb hr (nar_b hz_z_33) hlocks (x22_29, x23_30, x24_31, (i 25), (i 36), (a 26), (a 27), (a 28), (a 29), (a 30), (a 31), (a 32), (a 33)) hP hD hK hS ⟨⟨_, rfl, hz_z_33⟩, ⟨⟨by omega, by omega⟩, dp, (PR.rf hPN)⟩⟩ (by first | exact Nat.le_of_ble_eq_true rfl | (simp only [rm_X10_rest]; omega)) (by first | exact Nat.le_of_ble_eq_true rfl | (simp only [rm_X10_rest]; omega)) dX10_rest_123
  by_cases c_34 : z_1 = 3
  · refine lv_tableIn (tgt := 124) hx hb dX10_rest_6 (by rw [c_34]; decide) (by rw [c_34]; decide) (by rw [c_34]; rfl) (by decide) ?_
    refine lv_aload_n hx hb dX10_rest_124 rfl (lv_at hl 0 rfl) ?_
    refine lv_iload_n hx hb dX10_rest_125 rfl (lv_at hl 1 rfl) ?_
    refine lv_iconst (v := 1) hx hb dX10_rest_126 (by decide) ?_
    refine lv_sipush (v := 200) hx hb dX10_rest_127 (by decide) ?_
    refine M_V ⟨hx, hb, hml, hown, hts⟩ (m_X10_single l dC dI sa g h0 b i a kk (1 : Int32) (200 : Int32) _ (show 0 ≤ (i 22).toInt ∧ (i 22).toInt ≤ (i 21).toInt ∧ (i 21).toInt ≤ 1500 from by omega) hk) (cwV 3 hts gX10_rest_X10_single rfl rfl rfl (by decide +kernel) ⟨(by first | exact Nat.le_of_ble_eq_true rfl | (simp only [rm_X10_single, rm_X10_rest]; omega)), (by first | exact Nat.le_of_ble_eq_true rfl | (simp only [rm_X10_single, rm_X10_rest]; omega))⟩) hP hD hK hS hA hev rfl rfl rfl rfl hl.1 rfl (Nat.le_of_ble_eq_true rfl) dX10_rest_130 ⟨(by first | exact Nat.le_of_ble_eq_true rfl | (simp only [rm_X10_rest]; omega)), (by first | exact Nat.le_of_ble_eq_true rfl | (simp only [rm_X10_rest]; omega))⟩ (fun r u H locs hw hP hD hS => ?_)
    obtain ⟨x22_35, x23_36, x24_37, x25_38, y27_39⟩ := u
    have hw : (∃ z : Int32, r = some (.int z) ∧ (z = 0 ∨ z = 1)) ∧ (((i 22).toInt ≤ x22_35.toInt ∧ x22_35.toInt ≤ (i 21).toInt) ∧ (y27_39 = (a 27) ∨ ∃ v : Int32, (1 : Int32).toInt ≤ v.toInt ∧ v.toInt ≤ (200 : Int32).toInt ∧ y27_39 = upd (a 27) kk.toNatClampNeg v)) := hw
    obtain ⟨⟨z_41, rfl, hz_z_41⟩, hw_40⟩ := hw
    have hP : va_P (dC, dI) vwCl (mw g h0 b (va_up (va_up (va_up (va_up i 22 x22_35) 23 x23_36) 24 x24_37) 25 x25_38) (va_up a 27 y27_39)) _ := hP
    have hD : va_D _ (mw g h0 b (va_up (va_up (va_up (va_up i 22 x22_35) 23 x23_36) 24 x24_37) 25 x25_38) (va_up a 27 y27_39)) := hD
    refine W.eq (g2 := F0 m 133 ls [.int z_41]) rfl ?_
    obtain ⟨hatq_43, hset_42⟩ := hw_40
    have hp_44 := PN.set hPN hq hVq hset_42 (fun h9 => absurd h9 (by rw [← hkq, ← ez_1, c_34]; decide))
    have hpr_45 := PR.tr (PR.rf hPN) hp_44
    refine lv_if_eq (tgt := 149) hx hb dX10_rest_133 (by decide) (fun c_46 => ?_) (fun c_46 => ?_)
    · have nc_46 := eq_i c_46
      have lc_46 : (0 : Int32).toInt = 0 := by decide
      refine lv_iconst (v := 0) hx hb dX10_rest_149 (by decide) ?_
      exact M_z hx hb hr rfl hlocks (x22_35, x23_36, x24_37, x25_38, (i 36), (a 26), y27_39, (a 28), (a 29), (a 30), (a 31), (a 32), (a 33)) hP hD hK hS ⟨⟨_, rfl, Or.inl rfl⟩, ⟨⟨by omega, by omega⟩, dp, hpr_45⟩⟩ (by first | exact Nat.le_of_ble_eq_true rfl | (simp only [rm_X10_rest]; omega)) (by first | exact Nat.le_of_ble_eq_true rfl | (simp only [rm_X10_rest]; omega)) dX10_rest_150
    · have nc_46 := ne_i c_46
      have lc_46 : (0 : Int32).toInt = 0 := by decide
      refine lv_aload_n hx hb dX10_rest_136 rfl (lv_at hl 0 rfl) ?_
      refine lv_bipush (v := 59) hx hb dX10_rest_137 (by decide) ?_
      refine M_V ⟨hx, hb, hml, hown, hts⟩ (m_X10_need l dC dI sa g h0 b (va_up (va_up (va_up (va_up i 22 x22_35) 23 x23_36) 24 x24_37) 25 x25_38) (va_up a 27 y27_39) (59 : Int32) _ (show 0 ≤ x22_35.toInt ∧ x22_35.toInt ≤ (i 21).toInt ∧ (i 21).toInt ≤ 1500 from by omega)) (cwV 1 hts gX10_rest_X10_need rfl rfl rfl (by decide +kernel) ⟨(by first | exact Nat.le_of_ble_eq_true rfl | (simp only [rm_X10_need, rm_X10_rest]; omega)), (by first | exact Nat.le_of_ble_eq_true rfl | (simp only [rm_X10_need, rm_X10_rest]; omega))⟩) hP hD hK hS hA hev rfl rfl rfl rfl hl.1 rfl (Nat.le_of_ble_eq_true rfl) dX10_rest_139 ⟨(by first | exact Nat.le_of_ble_eq_true rfl | (simp only [rm_X10_rest]; omega)), (by first | exact Nat.le_of_ble_eq_true rfl | (simp only [rm_X10_rest]; omega))⟩ (fun r u H locs hw hP hD hS => ?_)
      obtain ⟨x22_47, x23_48, x24_49⟩ := u
      have hw : (∃ z : Int32, r = some (.int z) ∧ (z = 0 ∨ z = 1)) ∧ (x22_35.toInt ≤ x22_47.toInt ∧ x22_47.toInt ≤ (i 21).toInt) := hw
      obtain ⟨⟨z_51, rfl, hz_z_51⟩, hw_50⟩ := hw
      have hP : va_P (dC, dI) vwCl (mw g h0 b (va_up (va_up (va_up (va_up i 22 x22_47) 23 x23_48) 24 x24_49) 25 x25_38) (va_up a 27 y27_39)) _ := hP
      have hD : va_D _ (mw g h0 b (va_up (va_up (va_up (va_up i 22 x22_47) 23 x23_48) 24 x24_49) 25 x25_38) (va_up a 27 y27_39)) := hD
      refine W.eq (g2 := F0 m 142 ls [.int z_51]) rfl ?_
      refine lv_if_eq (tgt := 149) hx hb dX10_rest_142 (by decide) (fun c_52 => ?_) (fun c_52 => ?_)
      · have nc_52 := eq_i c_52
        have lc_52 : (0 : Int32).toInt = 0 := by decide
        refine lv_iconst (v := 0) hx hb dX10_rest_149 (by decide) ?_
        exact M_z hx hb hr rfl hlocks (x22_47, x23_48, x24_49, x25_38, (i 36), (a 26), y27_39, (a 28), (a 29), (a 30), (a 31), (a 32), (a 33)) hP hD hK hS ⟨⟨_, rfl, Or.inl rfl⟩, ⟨⟨by omega, by omega⟩, dp, hpr_45⟩⟩ (by first | exact Nat.le_of_ble_eq_true rfl | (simp only [rm_X10_rest]; omega)) (by first | exact Nat.le_of_ble_eq_true rfl | (simp only [rm_X10_rest]; omega)) dX10_rest_150
      · have nc_52 := ne_i c_52
        have lc_52 : (0 : Int32).toInt = 0 := by decide
        refine lv_iconst (v := 1) hx hb dX10_rest_145 (by decide) ?_
        refine lv_goto (tgt := 150) hx hb dX10_rest_146 (by decide) ?_
        exact M_z hx hb hr rfl hlocks (x22_47, x23_48, x24_49, x25_38, (i 36), (a 26), y27_39, (a 28), (a 29), (a 30), (a 31), (a 32), (a 33)) hP hD hK hS ⟨⟨_, rfl, Or.inr rfl⟩, ⟨⟨by omega, by omega⟩, dp, hpr_45⟩⟩ (by first | exact Nat.le_of_ble_eq_true rfl | (simp only [rm_X10_rest]; omega)) (by first | exact Nat.le_of_ble_eq_true rfl | (simp only [rm_X10_rest]; omega)) dX10_rest_150
  by_cases c_53 : z_1 = 4
  · refine lv_tableIn (tgt := 90) hx hb dX10_rest_6 (by rw [c_53]; decide) (by rw [c_53]; decide) (by rw [c_53]; rfl) (by decide) ?_
    refine lv_aload_n hx hb dX10_rest_90 rfl (lv_at hl 0 rfl) ?_
    refine lv_iload_n hx hb dX10_rest_91 rfl (lv_at hl 1 rfl) ?_
    refine lv_iconst (v := 5) hx hb dX10_rest_92 (by decide) ?_
    refine lv_sipush (v := 1000) hx hb dX10_rest_93 (by decide) ?_
    refine M_V ⟨hx, hb, hml, hown, hts⟩ (m_X10_numbers l dC dI sa g h0 b i a kk (5 : Int32) (1000 : Int32) _ (show 0 ≤ (i 22).toInt ∧ (i 22).toInt ≤ (i 21).toInt ∧ (i 21).toInt ≤ 1500 from by omega) hk) (cwV 3 hts gX10_rest_X10_numbers rfl rfl rfl (by decide +kernel) ⟨(by first | exact Nat.le_of_ble_eq_true rfl | (simp only [rm_X10_numbers, rm_X10_rest]; omega)), (by first | exact Nat.le_of_ble_eq_true rfl | (simp only [rm_X10_numbers, rm_X10_rest]; omega))⟩) hP hD hK hS hA hev rfl rfl rfl rfl hl.1 rfl (Nat.le_of_ble_eq_true rfl) dX10_rest_96 ⟨(by first | exact Nat.le_of_ble_eq_true rfl | (simp only [rm_X10_rest]; omega)), (by first | exact Nat.le_of_ble_eq_true rfl | (simp only [rm_X10_rest]; omega))⟩ (fun r u H locs hw hP hD hS => ?_)
    obtain ⟨x22_54, x23_55, x24_56, x25_57, y27_58, y28_59⟩ := u
    have hw : (∃ z : Int32, r = some (.int z) ∧ (z = 0 ∨ z = 1)) ∧ (((i 22).toInt ≤ x22_54.toInt ∧ x22_54.toInt ≤ (i 21).toInt) ∧ (y27_58 = (a 27) ∨ ∃ v : Int32, (0 : Int32).toInt ≤ v.toInt ∧ v.toInt ≤ (5 : Int32).toInt ∧ y27_58 = upd (a 27) kk.toNatClampNeg v)) := hw
    obtain ⟨⟨z_61, rfl, hz_z_61⟩, hw_60⟩ := hw
    have hP : va_P (dC, dI) vwCl (mw g h0 b (va_up (va_up (va_up (va_up i 22 x22_54) 23 x23_55) 24 x24_56) 25 x25_57) (va_up (va_up a 27 y27_58) 28 y28_59)) _ := hP
    have hD : va_D _ (mw g h0 b (va_up (va_up (va_up (va_up i 22 x22_54) 23 x23_55) 24 x24_56) 25 x25_57) (va_up (va_up a 27 y27_58) 28 y28_59)) := hD
    refine W.eq (g2 := F0 m 99 ls [.int z_61]) rfl ?_
    obtain ⟨hatq_63, hset_62⟩ := hw_60
    have hp_64 := PN.set hPN hq hVq hset_62 (fun _ => by decide)
    have hpr_65 := PR.tr (PR.rf hPN) hp_64
    refine lv_if_eq (tgt := 115) hx hb dX10_rest_99 (by decide) (fun c_66 => ?_) (fun c_66 => ?_)
    · have nc_66 := eq_i c_66
      have lc_66 : (0 : Int32).toInt = 0 := by decide
      refine lv_iconst (v := 0) hx hb dX10_rest_115 (by decide) ?_
      exact M_z hx hb hr rfl hlocks (x22_54, x23_55, x24_56, x25_57, (i 36), (a 26), y27_58, y28_59, (a 29), (a 30), (a 31), (a 32), (a 33)) hP hD hK hS ⟨⟨_, rfl, Or.inl rfl⟩, ⟨⟨by omega, by omega⟩, dp, hpr_65⟩⟩ (by first | exact Nat.le_of_ble_eq_true rfl | (simp only [rm_X10_rest]; omega)) (by first | exact Nat.le_of_ble_eq_true rfl | (simp only [rm_X10_rest]; omega)) dX10_rest_116
    · have nc_66 := ne_i c_66
      have lc_66 : (0 : Int32).toInt = 0 := by decide
      refine lv_aload_n hx hb dX10_rest_102 rfl (lv_at hl 0 rfl) ?_
      refine lv_bipush (v := 59) hx hb dX10_rest_103 (by decide) ?_
      refine M_V ⟨hx, hb, hml, hown, hts⟩ (m_X10_need l dC dI sa g h0 b (va_up (va_up (va_up (va_up i 22 x22_54) 23 x23_55) 24 x24_56) 25 x25_57) (va_up (va_up a 27 y27_58) 28 y28_59) (59 : Int32) _ (show 0 ≤ x22_54.toInt ∧ x22_54.toInt ≤ (i 21).toInt ∧ (i 21).toInt ≤ 1500 from by omega)) (cwV 1 hts gX10_rest_X10_need rfl rfl rfl (by decide +kernel) ⟨(by first | exact Nat.le_of_ble_eq_true rfl | (simp only [rm_X10_need, rm_X10_rest]; omega)), (by first | exact Nat.le_of_ble_eq_true rfl | (simp only [rm_X10_need, rm_X10_rest]; omega))⟩) hP hD hK hS hA hev rfl rfl rfl rfl hl.1 rfl (Nat.le_of_ble_eq_true rfl) dX10_rest_105 ⟨(by first | exact Nat.le_of_ble_eq_true rfl | (simp only [rm_X10_rest]; omega)), (by first | exact Nat.le_of_ble_eq_true rfl | (simp only [rm_X10_rest]; omega))⟩ (fun r u H locs hw hP hD hS => ?_)
      obtain ⟨x22_67, x23_68, x24_69⟩ := u
      have hw : (∃ z : Int32, r = some (.int z) ∧ (z = 0 ∨ z = 1)) ∧ (x22_54.toInt ≤ x22_67.toInt ∧ x22_67.toInt ≤ (i 21).toInt) := hw
      obtain ⟨⟨z_71, rfl, hz_z_71⟩, hw_70⟩ := hw
      have hP : va_P (dC, dI) vwCl (mw g h0 b (va_up (va_up (va_up (va_up i 22 x22_67) 23 x23_68) 24 x24_69) 25 x25_57) (va_up (va_up a 27 y27_58) 28 y28_59)) _ := hP
      have hD : va_D _ (mw g h0 b (va_up (va_up (va_up (va_up i 22 x22_67) 23 x23_68) 24 x24_69) 25 x25_57) (va_up (va_up a 27 y27_58) 28 y28_59)) := hD
      refine W.eq (g2 := F0 m 108 ls [.int z_71]) rfl ?_
      refine lv_if_eq (tgt := 115) hx hb dX10_rest_108 (by decide) (fun c_72 => ?_) (fun c_72 => ?_)
      · have nc_72 := eq_i c_72
        have lc_72 : (0 : Int32).toInt = 0 := by decide
        refine lv_iconst (v := 0) hx hb dX10_rest_115 (by decide) ?_
        exact M_z hx hb hr rfl hlocks (x22_67, x23_68, x24_69, x25_57, (i 36), (a 26), y27_58, y28_59, (a 29), (a 30), (a 31), (a 32), (a 33)) hP hD hK hS ⟨⟨_, rfl, Or.inl rfl⟩, ⟨⟨by omega, by omega⟩, dp, hpr_65⟩⟩ (by first | exact Nat.le_of_ble_eq_true rfl | (simp only [rm_X10_rest]; omega)) (by first | exact Nat.le_of_ble_eq_true rfl | (simp only [rm_X10_rest]; omega)) dX10_rest_116
      · have nc_72 := ne_i c_72
        have lc_72 : (0 : Int32).toInt = 0 := by decide
        refine lv_iconst (v := 1) hx hb dX10_rest_111 (by decide) ?_
        refine lv_goto (tgt := 116) hx hb dX10_rest_112 (by decide) ?_
        exact M_z hx hb hr rfl hlocks (x22_67, x23_68, x24_69, x25_57, (i 36), (a 26), y27_58, y28_59, (a 29), (a 30), (a 31), (a 32), (a 33)) hP hD hK hS ⟨⟨_, rfl, Or.inr rfl⟩, ⟨⟨by omega, by omega⟩, dp, hpr_65⟩⟩ (by first | exact Nat.le_of_ble_eq_true rfl | (simp only [rm_X10_rest]; omega)) (by first | exact Nat.le_of_ble_eq_true rfl | (simp only [rm_X10_rest]; omega)) dX10_rest_116
  by_cases c_73 : z_1 = 5
  · refine lv_tableIn (tgt := 151) hx hb dX10_rest_6 (by rw [c_73]; decide) (by rw [c_73]; decide) (by rw [c_73]; rfl) (by decide) ?_
    refine lv_aload_n hx hb dX10_rest_151 rfl (lv_at hl 0 rfl) ?_
    refine lv_iload_n hx hb dX10_rest_152 rfl (lv_at hl 1 rfl) ?_
    refine lv_iconst (v := 0) hx hb dX10_rest_153 (by decide) ?_
    refine lv_iconst (v := 5) hx hb dX10_rest_154 (by decide) ?_
    refine M_V ⟨hx, hb, hml, hown, hts⟩ (m_X10_single l dC dI sa g h0 b i a kk (0 : Int32) (5 : Int32) _ (show 0 ≤ (i 22).toInt ∧ (i 22).toInt ≤ (i 21).toInt ∧ (i 21).toInt ≤ 1500 from by omega) hk) (cwV 3 hts gX10_rest_X10_single rfl rfl rfl (by decide +kernel) ⟨(by first | exact Nat.le_of_ble_eq_true rfl | (simp only [rm_X10_single, rm_X10_rest]; omega)), (by first | exact Nat.le_of_ble_eq_true rfl | (simp only [rm_X10_single, rm_X10_rest]; omega))⟩) hP hD hK hS hA hev rfl rfl rfl rfl hl.1 rfl (Nat.le_of_ble_eq_true rfl) dX10_rest_155 ⟨(by first | exact Nat.le_of_ble_eq_true rfl | (simp only [rm_X10_rest]; omega)), (by first | exact Nat.le_of_ble_eq_true rfl | (simp only [rm_X10_rest]; omega))⟩ (fun r u H locs hw hP hD hS => ?_)
    obtain ⟨x22_74, x23_75, x24_76, x25_77, y27_78⟩ := u
    have hw : (∃ z : Int32, r = some (.int z) ∧ (z = 0 ∨ z = 1)) ∧ (((i 22).toInt ≤ x22_74.toInt ∧ x22_74.toInt ≤ (i 21).toInt) ∧ (y27_78 = (a 27) ∨ ∃ v : Int32, (0 : Int32).toInt ≤ v.toInt ∧ v.toInt ≤ (5 : Int32).toInt ∧ y27_78 = upd (a 27) kk.toNatClampNeg v)) := hw
    obtain ⟨⟨z_80, rfl, hz_z_80⟩, hw_79⟩ := hw
    have hP : va_P (dC, dI) vwCl (mw g h0 b (va_up (va_up (va_up (va_up i 22 x22_74) 23 x23_75) 24 x24_76) 25 x25_77) (va_up a 27 y27_78)) _ := hP
    have hD : va_D _ (mw g h0 b (va_up (va_up (va_up (va_up i 22 x22_74) 23 x23_75) 24 x24_76) 25 x25_77) (va_up a 27 y27_78)) := hD
    refine W.eq (g2 := F0 m 158 ls [.int z_80]) rfl ?_
    obtain ⟨hatq_82, hset_81⟩ := hw_79
    have hp_83 := PN.set hPN hq hVq hset_81 (fun _ => by decide)
    have hpr_84 := PR.tr (PR.rf hPN) hp_83
    refine lv_if_eq (tgt := 174) hx hb dX10_rest_158 (by decide) (fun c_85 => ?_) (fun c_85 => ?_)
    · have nc_85 := eq_i c_85
      have lc_85 : (0 : Int32).toInt = 0 := by decide
      refine lv_iconst (v := 0) hx hb dX10_rest_174 (by decide) ?_
      exact M_z hx hb hr rfl hlocks (x22_74, x23_75, x24_76, x25_77, (i 36), (a 26), y27_78, (a 28), (a 29), (a 30), (a 31), (a 32), (a 33)) hP hD hK hS ⟨⟨_, rfl, Or.inl rfl⟩, ⟨⟨by omega, by omega⟩, dp, hpr_84⟩⟩ (by first | exact Nat.le_of_ble_eq_true rfl | (simp only [rm_X10_rest]; omega)) (by first | exact Nat.le_of_ble_eq_true rfl | (simp only [rm_X10_rest]; omega)) dX10_rest_175
    · have nc_85 := ne_i c_85
      have lc_85 : (0 : Int32).toInt = 0 := by decide
      refine lv_aload_n hx hb dX10_rest_161 rfl (lv_at hl 0 rfl) ?_
      refine lv_bipush (v := 59) hx hb dX10_rest_162 (by decide) ?_
      refine M_V ⟨hx, hb, hml, hown, hts⟩ (m_X10_need l dC dI sa g h0 b (va_up (va_up (va_up (va_up i 22 x22_74) 23 x23_75) 24 x24_76) 25 x25_77) (va_up a 27 y27_78) (59 : Int32) _ (show 0 ≤ x22_74.toInt ∧ x22_74.toInt ≤ (i 21).toInt ∧ (i 21).toInt ≤ 1500 from by omega)) (cwV 1 hts gX10_rest_X10_need rfl rfl rfl (by decide +kernel) ⟨(by first | exact Nat.le_of_ble_eq_true rfl | (simp only [rm_X10_need, rm_X10_rest]; omega)), (by first | exact Nat.le_of_ble_eq_true rfl | (simp only [rm_X10_need, rm_X10_rest]; omega))⟩) hP hD hK hS hA hev rfl rfl rfl rfl hl.1 rfl (Nat.le_of_ble_eq_true rfl) dX10_rest_164 ⟨(by first | exact Nat.le_of_ble_eq_true rfl | (simp only [rm_X10_rest]; omega)), (by first | exact Nat.le_of_ble_eq_true rfl | (simp only [rm_X10_rest]; omega))⟩ (fun r u H locs hw hP hD hS => ?_)
      obtain ⟨x22_86, x23_87, x24_88⟩ := u
      have hw : (∃ z : Int32, r = some (.int z) ∧ (z = 0 ∨ z = 1)) ∧ (x22_74.toInt ≤ x22_86.toInt ∧ x22_86.toInt ≤ (i 21).toInt) := hw
      obtain ⟨⟨z_90, rfl, hz_z_90⟩, hw_89⟩ := hw
      have hP : va_P (dC, dI) vwCl (mw g h0 b (va_up (va_up (va_up (va_up i 22 x22_86) 23 x23_87) 24 x24_88) 25 x25_77) (va_up a 27 y27_78)) _ := hP
      have hD : va_D _ (mw g h0 b (va_up (va_up (va_up (va_up i 22 x22_86) 23 x23_87) 24 x24_88) 25 x25_77) (va_up a 27 y27_78)) := hD
      refine W.eq (g2 := F0 m 167 ls [.int z_90]) rfl ?_
      refine lv_if_eq (tgt := 174) hx hb dX10_rest_167 (by decide) (fun c_91 => ?_) (fun c_91 => ?_)
      · have nc_91 := eq_i c_91
        have lc_91 : (0 : Int32).toInt = 0 := by decide
        refine lv_iconst (v := 0) hx hb dX10_rest_174 (by decide) ?_
        exact M_z hx hb hr rfl hlocks (x22_86, x23_87, x24_88, x25_77, (i 36), (a 26), y27_78, (a 28), (a 29), (a 30), (a 31), (a 32), (a 33)) hP hD hK hS ⟨⟨_, rfl, Or.inl rfl⟩, ⟨⟨by omega, by omega⟩, dp, hpr_84⟩⟩ (by first | exact Nat.le_of_ble_eq_true rfl | (simp only [rm_X10_rest]; omega)) (by first | exact Nat.le_of_ble_eq_true rfl | (simp only [rm_X10_rest]; omega)) dX10_rest_175
      · have nc_91 := ne_i c_91
        have lc_91 : (0 : Int32).toInt = 0 := by decide
        refine lv_iconst (v := 1) hx hb dX10_rest_170 (by decide) ?_
        refine lv_goto (tgt := 175) hx hb dX10_rest_171 (by decide) ?_
        exact M_z hx hb hr rfl hlocks (x22_86, x23_87, x24_88, x25_77, (i 36), (a 26), y27_78, (a 28), (a 29), (a 30), (a 31), (a 32), (a 33)) hP hD hK hS ⟨⟨_, rfl, Or.inr rfl⟩, ⟨⟨by omega, by omega⟩, dp, hpr_84⟩⟩ (by first | exact Nat.le_of_ble_eq_true rfl | (simp only [rm_X10_rest]; omega)) (by first | exact Nat.le_of_ble_eq_true rfl | (simp only [rm_X10_rest]; omega)) dX10_rest_175
  by_cases c_92 : z_1 = 6
  · refine lv_tableIn (tgt := 176) hx hb dX10_rest_6 (by rw [c_92]; decide) (by rw [c_92]; decide) (by rw [c_92]; rfl) (by decide) ?_
    refine lv_aload_n hx hb dX10_rest_176 rfl (lv_at hl 0 rfl) ?_
    refine lv_iload_n hx hb dX10_rest_177 rfl (lv_at hl 1 rfl) ?_
    refine lv_iconst (v := 1) hx hb dX10_rest_178 (by decide) ?_
    refine lv_bipush (v := 99) hx hb dX10_rest_179 (by decide) ?_
    refine M_V ⟨hx, hb, hml, hown, hts⟩ (m_X10_single l dC dI sa g h0 b i a kk (1 : Int32) (99 : Int32) _ (show 0 ≤ (i 22).toInt ∧ (i 22).toInt ≤ (i 21).toInt ∧ (i 21).toInt ≤ 1500 from by omega) hk) (cwV 3 hts gX10_rest_X10_single rfl rfl rfl (by decide +kernel) ⟨(by first | exact Nat.le_of_ble_eq_true rfl | (simp only [rm_X10_single, rm_X10_rest]; omega)), (by first | exact Nat.le_of_ble_eq_true rfl | (simp only [rm_X10_single, rm_X10_rest]; omega))⟩) hP hD hK hS hA hev rfl rfl rfl rfl hl.1 rfl (Nat.le_of_ble_eq_true rfl) dX10_rest_181 ⟨(by first | exact Nat.le_of_ble_eq_true rfl | (simp only [rm_X10_rest]; omega)), (by first | exact Nat.le_of_ble_eq_true rfl | (simp only [rm_X10_rest]; omega))⟩ (fun r u H locs hw hP hD hS => ?_)
    obtain ⟨x22_93, x23_94, x24_95, x25_96, y27_97⟩ := u
    have hw : (∃ z : Int32, r = some (.int z) ∧ (z = 0 ∨ z = 1)) ∧ (((i 22).toInt ≤ x22_93.toInt ∧ x22_93.toInt ≤ (i 21).toInt) ∧ (y27_97 = (a 27) ∨ ∃ v : Int32, (1 : Int32).toInt ≤ v.toInt ∧ v.toInt ≤ (99 : Int32).toInt ∧ y27_97 = upd (a 27) kk.toNatClampNeg v)) := hw
    obtain ⟨⟨z_99, rfl, hz_z_99⟩, hw_98⟩ := hw
    have hP : va_P (dC, dI) vwCl (mw g h0 b (va_up (va_up (va_up (va_up i 22 x22_93) 23 x23_94) 24 x24_95) 25 x25_96) (va_up a 27 y27_97)) _ := hP
    have hD : va_D _ (mw g h0 b (va_up (va_up (va_up (va_up i 22 x22_93) 23 x23_94) 24 x24_95) 25 x25_96) (va_up a 27 y27_97)) := hD
    refine W.eq (g2 := F0 m 184 ls [.int z_99]) rfl ?_
    obtain ⟨hatq_101, hset_100⟩ := hw_98
    have hp_102 := PN.set hPN hq hVq hset_100 (fun h9 => absurd h9 (by rw [← hkq, ← ez_1, c_92]; decide))
    have hpr_103 := PR.tr (PR.rf hPN) hp_102
    refine lv_if_eq (tgt := 200) hx hb dX10_rest_184 (by decide) (fun c_104 => ?_) (fun c_104 => ?_)
    · have nc_104 := eq_i c_104
      have lc_104 : (0 : Int32).toInt = 0 := by decide
      refine lv_iconst (v := 0) hx hb dX10_rest_200 (by decide) ?_
      exact M_z hx hb hr rfl hlocks (x22_93, x23_94, x24_95, x25_96, (i 36), (a 26), y27_97, (a 28), (a 29), (a 30), (a 31), (a 32), (a 33)) hP hD hK hS ⟨⟨_, rfl, Or.inl rfl⟩, ⟨⟨by omega, by omega⟩, dp, hpr_103⟩⟩ (by first | exact Nat.le_of_ble_eq_true rfl | (simp only [rm_X10_rest]; omega)) (by first | exact Nat.le_of_ble_eq_true rfl | (simp only [rm_X10_rest]; omega)) dX10_rest_201
    · have nc_104 := ne_i c_104
      have lc_104 : (0 : Int32).toInt = 0 := by decide
      refine lv_aload_n hx hb dX10_rest_187 rfl (lv_at hl 0 rfl) ?_
      refine lv_bipush (v := 59) hx hb dX10_rest_188 (by decide) ?_
      refine M_V ⟨hx, hb, hml, hown, hts⟩ (m_X10_need l dC dI sa g h0 b (va_up (va_up (va_up (va_up i 22 x22_93) 23 x23_94) 24 x24_95) 25 x25_96) (va_up a 27 y27_97) (59 : Int32) _ (show 0 ≤ x22_93.toInt ∧ x22_93.toInt ≤ (i 21).toInt ∧ (i 21).toInt ≤ 1500 from by omega)) (cwV 1 hts gX10_rest_X10_need rfl rfl rfl (by decide +kernel) ⟨(by first | exact Nat.le_of_ble_eq_true rfl | (simp only [rm_X10_need, rm_X10_rest]; omega)), (by first | exact Nat.le_of_ble_eq_true rfl | (simp only [rm_X10_need, rm_X10_rest]; omega))⟩) hP hD hK hS hA hev rfl rfl rfl rfl hl.1 rfl (Nat.le_of_ble_eq_true rfl) dX10_rest_190 ⟨(by first | exact Nat.le_of_ble_eq_true rfl | (simp only [rm_X10_rest]; omega)), (by first | exact Nat.le_of_ble_eq_true rfl | (simp only [rm_X10_rest]; omega))⟩ (fun r u H locs hw hP hD hS => ?_)
      obtain ⟨x22_105, x23_106, x24_107⟩ := u
      have hw : (∃ z : Int32, r = some (.int z) ∧ (z = 0 ∨ z = 1)) ∧ (x22_93.toInt ≤ x22_105.toInt ∧ x22_105.toInt ≤ (i 21).toInt) := hw
      obtain ⟨⟨z_109, rfl, hz_z_109⟩, hw_108⟩ := hw
      have hP : va_P (dC, dI) vwCl (mw g h0 b (va_up (va_up (va_up (va_up i 22 x22_105) 23 x23_106) 24 x24_107) 25 x25_96) (va_up a 27 y27_97)) _ := hP
      have hD : va_D _ (mw g h0 b (va_up (va_up (va_up (va_up i 22 x22_105) 23 x23_106) 24 x24_107) 25 x25_96) (va_up a 27 y27_97)) := hD
      refine W.eq (g2 := F0 m 193 ls [.int z_109]) rfl ?_
      refine lv_if_eq (tgt := 200) hx hb dX10_rest_193 (by decide) (fun c_110 => ?_) (fun c_110 => ?_)
      · have nc_110 := eq_i c_110
        have lc_110 : (0 : Int32).toInt = 0 := by decide
        refine lv_iconst (v := 0) hx hb dX10_rest_200 (by decide) ?_
        exact M_z hx hb hr rfl hlocks (x22_105, x23_106, x24_107, x25_96, (i 36), (a 26), y27_97, (a 28), (a 29), (a 30), (a 31), (a 32), (a 33)) hP hD hK hS ⟨⟨_, rfl, Or.inl rfl⟩, ⟨⟨by omega, by omega⟩, dp, hpr_103⟩⟩ (by first | exact Nat.le_of_ble_eq_true rfl | (simp only [rm_X10_rest]; omega)) (by first | exact Nat.le_of_ble_eq_true rfl | (simp only [rm_X10_rest]; omega)) dX10_rest_201
      · have nc_110 := ne_i c_110
        have lc_110 : (0 : Int32).toInt = 0 := by decide
        refine lv_iconst (v := 1) hx hb dX10_rest_196 (by decide) ?_
        refine lv_goto (tgt := 201) hx hb dX10_rest_197 (by decide) ?_
        exact M_z hx hb hr rfl hlocks (x22_105, x23_106, x24_107, x25_96, (i 36), (a 26), y27_97, (a 28), (a 29), (a 30), (a 31), (a 32), (a 33)) hP hD hK hS ⟨⟨_, rfl, Or.inr rfl⟩, ⟨⟨by omega, by omega⟩, dp, hpr_103⟩⟩ (by first | exact Nat.le_of_ble_eq_true rfl | (simp only [rm_X10_rest]; omega)) (by first | exact Nat.le_of_ble_eq_true rfl | (simp only [rm_X10_rest]; omega)) dX10_rest_201
  by_cases c_111 : z_1 = 7
  · refine lv_tableIn (tgt := 202) hx hb dX10_rest_6 (by rw [c_111]; decide) (by rw [c_111]; decide) (by rw [c_111]; rfl) (by decide) ?_
    refine lv_aload_n hx hb dX10_rest_202 rfl (lv_at hl 0 rfl) ?_
    refine lv_iload_n hx hb dX10_rest_203 rfl (lv_at hl 1 rfl) ?_
    refine lv_iconst (v := 0) hx hb dX10_rest_204 (by decide) ?_
    refine lv_bipush (v := 50) hx hb dX10_rest_205 (by decide) ?_
    refine M_V ⟨hx, hb, hml, hown, hts⟩ (m_X10_single l dC dI sa g h0 b i a kk (0 : Int32) (50 : Int32) _ (show 0 ≤ (i 22).toInt ∧ (i 22).toInt ≤ (i 21).toInt ∧ (i 21).toInt ≤ 1500 from by omega) hk) (cwV 3 hts gX10_rest_X10_single rfl rfl rfl (by decide +kernel) ⟨(by first | exact Nat.le_of_ble_eq_true rfl | (simp only [rm_X10_single, rm_X10_rest]; omega)), (by first | exact Nat.le_of_ble_eq_true rfl | (simp only [rm_X10_single, rm_X10_rest]; omega))⟩) hP hD hK hS hA hev rfl rfl rfl rfl hl.1 rfl (Nat.le_of_ble_eq_true rfl) dX10_rest_207 ⟨(by first | exact Nat.le_of_ble_eq_true rfl | (simp only [rm_X10_rest]; omega)), (by first | exact Nat.le_of_ble_eq_true rfl | (simp only [rm_X10_rest]; omega))⟩ (fun r u H locs hw hP hD hS => ?_)
    obtain ⟨x22_112, x23_113, x24_114, x25_115, y27_116⟩ := u
    have hw : (∃ z : Int32, r = some (.int z) ∧ (z = 0 ∨ z = 1)) ∧ (((i 22).toInt ≤ x22_112.toInt ∧ x22_112.toInt ≤ (i 21).toInt) ∧ (y27_116 = (a 27) ∨ ∃ v : Int32, (0 : Int32).toInt ≤ v.toInt ∧ v.toInt ≤ (50 : Int32).toInt ∧ y27_116 = upd (a 27) kk.toNatClampNeg v)) := hw
    obtain ⟨⟨z_118, rfl, hz_z_118⟩, hw_117⟩ := hw
    have hP : va_P (dC, dI) vwCl (mw g h0 b (va_up (va_up (va_up (va_up i 22 x22_112) 23 x23_113) 24 x24_114) 25 x25_115) (va_up a 27 y27_116)) _ := hP
    have hD : va_D _ (mw g h0 b (va_up (va_up (va_up (va_up i 22 x22_112) 23 x23_113) 24 x24_114) 25 x25_115) (va_up a 27 y27_116)) := hD
    refine W.eq (g2 := F0 m 210 ls [.int z_118]) rfl ?_
    obtain ⟨hatq_120, hset_119⟩ := hw_117
    have hp_121 := PN.set hPN hq hVq hset_119 (fun h9 => absurd h9 (by rw [← hkq, ← ez_1, c_111]; decide))
    have hpr_122 := PR.tr (PR.rf hPN) hp_121
    refine lv_if_eq (tgt := 226) hx hb dX10_rest_210 (by decide) (fun c_123 => ?_) (fun c_123 => ?_)
    · have nc_123 := eq_i c_123
      have lc_123 : (0 : Int32).toInt = 0 := by decide
      refine lv_iconst (v := 0) hx hb dX10_rest_226 (by decide) ?_
      exact M_z hx hb hr rfl hlocks (x22_112, x23_113, x24_114, x25_115, (i 36), (a 26), y27_116, (a 28), (a 29), (a 30), (a 31), (a 32), (a 33)) hP hD hK hS ⟨⟨_, rfl, Or.inl rfl⟩, ⟨⟨by omega, by omega⟩, dp, hpr_122⟩⟩ (by first | exact Nat.le_of_ble_eq_true rfl | (simp only [rm_X10_rest]; omega)) (by first | exact Nat.le_of_ble_eq_true rfl | (simp only [rm_X10_rest]; omega)) dX10_rest_227
    · have nc_123 := ne_i c_123
      have lc_123 : (0 : Int32).toInt = 0 := by decide
      refine lv_aload_n hx hb dX10_rest_213 rfl (lv_at hl 0 rfl) ?_
      refine lv_iload_n hx hb dX10_rest_214 rfl (lv_at hl 1 rfl) ?_
      refine lv_iconst (v := 0) hx hb dX10_rest_215 (by decide) ?_
      refine M_V ⟨hx, hb, hml, hown, hts⟩ (m_X10_block l dC dI sa g h0 b j bl dp (va_up (va_up (va_up (va_up i 22 x22_112) 23 x23_113) 24 x24_114) 25 x25_115) (va_up a 27 y27_116) kk (0 : Int32) _ (show 0 ≤ x22_112.toInt ∧ x22_112.toInt ≤ (i 21).toInt ∧ (i 21).toInt ≤ 1500 from by omega) hp_121.2.1 hBL hj (let h9 := PR.nd hpr_122 hVq hdq; ⟨q, hq, h9.1, h9.2⟩) IHS) (cwV 2 hts gX10_rest_X10_block rfl rfl rfl (by decide +kernel) ⟨(by first | exact Nat.le_of_ble_eq_true rfl | (simp only [rm_X10_block, rm_X10_rest]; omega)), (by first | exact Nat.le_of_ble_eq_true rfl | (simp only [rm_X10_block, rm_X10_rest]; omega))⟩) hP hD hK hS hA hev rfl rfl rfl rfl hl.1 rfl (Nat.le_of_ble_eq_true rfl) dX10_rest_216 ⟨(by first | exact Nat.le_of_ble_eq_true rfl | (simp only [rm_X10_rest]; omega)), (by first | exact Nat.le_of_ble_eq_true rfl | (simp only [rm_X10_rest]; omega))⟩ (fun r u H locs hw hP hD hS => ?_)
      obtain ⟨x22_124, x23_125, x24_126, x25_127, x36_128, y26_129, y27_130, y28_131, y29_132, y30_133, y31_134, y32_135, y33_136⟩ := u
      have hw : (∃ z : Int32, r = some (.int z) ∧ (z = 0 ∨ z = 1)) ∧ ((x22_112.toInt ≤ x22_124.toInt ∧ x22_124.toInt ≤ (i 21).toInt) ∧ ∃ dpN : Nat → Nat, PR (i 36) x36_128 dp dpN (a 26) y27_116 (a 31) (a 32) (a 33) y26_129 y27_130 y31_134 y32_135 y33_136) := hw
      obtain ⟨⟨z_138, rfl, hz_z_138⟩, hw_137⟩ := hw
      have hP : va_P (dC, dI) vwCl (mw g h0 b (va_up (va_up (va_up (va_up (va_up i 22 x22_124) 23 x23_125) 24 x24_126) 25 x25_127) 36 x36_128) (va_up (va_up (va_up (va_up (va_up (va_up (va_up (va_up a 26 y26_129) 27 y27_130) 28 y28_131) 29 y29_132) 30 y30_133) 31 y31_134) 32 y32_135) 33 y33_136)) _ := hP
      have hD : va_D _ (mw g h0 b (va_up (va_up (va_up (va_up (va_up i 22 x22_124) 23 x23_125) 24 x24_126) 25 x25_127) 36 x36_128) (va_up (va_up (va_up (va_up (va_up (va_up (va_up (va_up a 26 y26_129) 27 y27_130) 28 y28_131) 29 y29_132) 30 y30_133) 31 y31_134) 32 y32_135) 33 y33_136)) := hD
      refine W.eq (g2 := F0 m 219 ls [.int z_138]) rfl ?_
      obtain ⟨hatq_142, dp_140, hPR_139⟩ := hw_137
      have hpr_143 := PR.tr hpr_122 hPR_139
      refine lv_if_eq (tgt := 226) hx hb dX10_rest_219 (by decide) (fun c_144 => ?_) (fun c_144 => ?_)
      · have nc_144 := eq_i c_144
        have lc_144 : (0 : Int32).toInt = 0 := by decide
        refine lv_iconst (v := 0) hx hb dX10_rest_226 (by decide) ?_
        exact M_z hx hb hr rfl hlocks (x22_124, x23_125, x24_126, x25_127, x36_128, y26_129, y27_130, y28_131, y29_132, y30_133, y31_134, y32_135, y33_136) hP hD hK hS ⟨⟨_, rfl, Or.inl rfl⟩, ⟨⟨by omega, by omega⟩, dp_140, hpr_143⟩⟩ (by first | exact Nat.le_of_ble_eq_true rfl | (simp only [rm_X10_rest]; omega)) (by first | exact Nat.le_of_ble_eq_true rfl | (simp only [rm_X10_rest]; omega)) dX10_rest_227
      · have nc_144 := ne_i c_144
        have lc_144 : (0 : Int32).toInt = 0 := by decide
        refine lv_iconst (v := 1) hx hb dX10_rest_222 (by decide) ?_
        refine lv_goto (tgt := 227) hx hb dX10_rest_223 (by decide) ?_
        exact M_z hx hb hr rfl hlocks (x22_124, x23_125, x24_126, x25_127, x36_128, y26_129, y27_130, y28_131, y29_132, y30_133, y31_134, y32_135, y33_136) hP hD hK hS ⟨⟨_, rfl, Or.inr rfl⟩, ⟨⟨by omega, by omega⟩, dp_140, hpr_143⟩⟩ (by first | exact Nat.le_of_ble_eq_true rfl | (simp only [rm_X10_rest]; omega)) (by first | exact Nat.le_of_ble_eq_true rfl | (simp only [rm_X10_rest]; omega)) dX10_rest_227
  by_cases c_145 : z_1 = 8
  · refine lv_tableIn (tgt := 228) hx hb dX10_rest_6 (by rw [c_145]; decide) (by rw [c_145]; decide) (by rw [c_145]; rfl) (by decide) ?_
    refine lv_aload_n hx hb dX10_rest_228 rfl (lv_at hl 0 rfl) ?_
    refine lv_iload_n hx hb dX10_rest_229 rfl (lv_at hl 1 rfl) ?_
    refine lv_iconst (v := 0) hx hb dX10_rest_230 (by decide) ?_
    refine lv_sipush (v := 200) hx hb dX10_rest_231 (by decide) ?_
    refine M_V ⟨hx, hb, hml, hown, hts⟩ (m_X10_single l dC dI sa g h0 b i a kk (0 : Int32) (200 : Int32) _ (show 0 ≤ (i 22).toInt ∧ (i 22).toInt ≤ (i 21).toInt ∧ (i 21).toInt ≤ 1500 from by omega) hk) (cwV 3 hts gX10_rest_X10_single rfl rfl rfl (by decide +kernel) ⟨(by first | exact Nat.le_of_ble_eq_true rfl | (simp only [rm_X10_single, rm_X10_rest]; omega)), (by first | exact Nat.le_of_ble_eq_true rfl | (simp only [rm_X10_single, rm_X10_rest]; omega))⟩) hP hD hK hS hA hev rfl rfl rfl rfl hl.1 rfl (Nat.le_of_ble_eq_true rfl) dX10_rest_234 ⟨(by first | exact Nat.le_of_ble_eq_true rfl | (simp only [rm_X10_rest]; omega)), (by first | exact Nat.le_of_ble_eq_true rfl | (simp only [rm_X10_rest]; omega))⟩ (fun r u H locs hw hP hD hS => ?_)
    obtain ⟨x22_146, x23_147, x24_148, x25_149, y27_150⟩ := u
    have hw : (∃ z : Int32, r = some (.int z) ∧ (z = 0 ∨ z = 1)) ∧ (((i 22).toInt ≤ x22_146.toInt ∧ x22_146.toInt ≤ (i 21).toInt) ∧ (y27_150 = (a 27) ∨ ∃ v : Int32, (0 : Int32).toInt ≤ v.toInt ∧ v.toInt ≤ (200 : Int32).toInt ∧ y27_150 = upd (a 27) kk.toNatClampNeg v)) := hw
    obtain ⟨⟨z_152, rfl, hz_z_152⟩, hw_151⟩ := hw
    have hP : va_P (dC, dI) vwCl (mw g h0 b (va_up (va_up (va_up (va_up i 22 x22_146) 23 x23_147) 24 x24_148) 25 x25_149) (va_up a 27 y27_150)) _ := hP
    have hD : va_D _ (mw g h0 b (va_up (va_up (va_up (va_up i 22 x22_146) 23 x23_147) 24 x24_148) 25 x25_149) (va_up a 27 y27_150)) := hD
    refine W.eq (g2 := F0 m 237 ls [.int z_152]) rfl ?_
    obtain ⟨hatq_154, hset_153⟩ := hw_151
    have hp_155 := PN.set hPN hq hVq hset_153 (fun h9 => absurd h9 (by rw [← hkq, ← ez_1, c_145]; decide))
    have hpr_156 := PR.tr (PR.rf hPN) hp_155
    refine lv_if_eq (tgt := 253) hx hb dX10_rest_237 (by decide) (fun c_157 => ?_) (fun c_157 => ?_)
    · have nc_157 := eq_i c_157
      have lc_157 : (0 : Int32).toInt = 0 := by decide
      refine lv_iconst (v := 0) hx hb dX10_rest_253 (by decide) ?_
      exact M_z hx hb hr rfl hlocks (x22_146, x23_147, x24_148, x25_149, (i 36), (a 26), y27_150, (a 28), (a 29), (a 30), (a 31), (a 32), (a 33)) hP hD hK hS ⟨⟨_, rfl, Or.inl rfl⟩, ⟨⟨by omega, by omega⟩, dp, hpr_156⟩⟩ (by first | exact Nat.le_of_ble_eq_true rfl | (simp only [rm_X10_rest]; omega)) (by first | exact Nat.le_of_ble_eq_true rfl | (simp only [rm_X10_rest]; omega)) dX10_rest_254
    · have nc_157 := ne_i c_157
      have lc_157 : (0 : Int32).toInt = 0 := by decide
      refine lv_aload_n hx hb dX10_rest_240 rfl (lv_at hl 0 rfl) ?_
      refine lv_iload_n hx hb dX10_rest_241 rfl (lv_at hl 1 rfl) ?_
      refine lv_iconst (v := 0) hx hb dX10_rest_242 (by decide) ?_
      refine M_V ⟨hx, hb, hml, hown, hts⟩ (m_X10_block l dC dI sa g h0 b j bl dp (va_up (va_up (va_up (va_up i 22 x22_146) 23 x23_147) 24 x24_148) 25 x25_149) (va_up a 27 y27_150) kk (0 : Int32) _ (show 0 ≤ x22_146.toInt ∧ x22_146.toInt ≤ (i 21).toInt ∧ (i 21).toInt ≤ 1500 from by omega) hp_155.2.1 hBL hj (let h9 := PR.nd hpr_156 hVq hdq; ⟨q, hq, h9.1, h9.2⟩) IHS) (cwV 2 hts gX10_rest_X10_block rfl rfl rfl (by decide +kernel) ⟨(by first | exact Nat.le_of_ble_eq_true rfl | (simp only [rm_X10_block, rm_X10_rest]; omega)), (by first | exact Nat.le_of_ble_eq_true rfl | (simp only [rm_X10_block, rm_X10_rest]; omega))⟩) hP hD hK hS hA hev rfl rfl rfl rfl hl.1 rfl (Nat.le_of_ble_eq_true rfl) dX10_rest_243 ⟨(by first | exact Nat.le_of_ble_eq_true rfl | (simp only [rm_X10_rest]; omega)), (by first | exact Nat.le_of_ble_eq_true rfl | (simp only [rm_X10_rest]; omega))⟩ (fun r u H locs hw hP hD hS => ?_)
      obtain ⟨x22_158, x23_159, x24_160, x25_161, x36_162, y26_163, y27_164, y28_165, y29_166, y30_167, y31_168, y32_169, y33_170⟩ := u
      have hw : (∃ z : Int32, r = some (.int z) ∧ (z = 0 ∨ z = 1)) ∧ ((x22_146.toInt ≤ x22_158.toInt ∧ x22_158.toInt ≤ (i 21).toInt) ∧ ∃ dpN : Nat → Nat, PR (i 36) x36_162 dp dpN (a 26) y27_150 (a 31) (a 32) (a 33) y26_163 y27_164 y31_168 y32_169 y33_170) := hw
      obtain ⟨⟨z_172, rfl, hz_z_172⟩, hw_171⟩ := hw
      have hP : va_P (dC, dI) vwCl (mw g h0 b (va_up (va_up (va_up (va_up (va_up i 22 x22_158) 23 x23_159) 24 x24_160) 25 x25_161) 36 x36_162) (va_up (va_up (va_up (va_up (va_up (va_up (va_up (va_up a 26 y26_163) 27 y27_164) 28 y28_165) 29 y29_166) 30 y30_167) 31 y31_168) 32 y32_169) 33 y33_170)) _ := hP
      have hD : va_D _ (mw g h0 b (va_up (va_up (va_up (va_up (va_up i 22 x22_158) 23 x23_159) 24 x24_160) 25 x25_161) 36 x36_162) (va_up (va_up (va_up (va_up (va_up (va_up (va_up (va_up a 26 y26_163) 27 y27_164) 28 y28_165) 29 y29_166) 30 y30_167) 31 y31_168) 32 y32_169) 33 y33_170)) := hD
      refine W.eq (g2 := F0 m 246 ls [.int z_172]) rfl ?_
      obtain ⟨hatq_176, dp_174, hPR_173⟩ := hw_171
      have hpr_177 := PR.tr hpr_156 hPR_173
      refine lv_if_eq (tgt := 253) hx hb dX10_rest_246 (by decide) (fun c_178 => ?_) (fun c_178 => ?_)
      · have nc_178 := eq_i c_178
        have lc_178 : (0 : Int32).toInt = 0 := by decide
        refine lv_iconst (v := 0) hx hb dX10_rest_253 (by decide) ?_
        exact M_z hx hb hr rfl hlocks (x22_158, x23_159, x24_160, x25_161, x36_162, y26_163, y27_164, y28_165, y29_166, y30_167, y31_168, y32_169, y33_170) hP hD hK hS ⟨⟨_, rfl, Or.inl rfl⟩, ⟨⟨by omega, by omega⟩, dp_174, hpr_177⟩⟩ (by first | exact Nat.le_of_ble_eq_true rfl | (simp only [rm_X10_rest]; omega)) (by first | exact Nat.le_of_ble_eq_true rfl | (simp only [rm_X10_rest]; omega)) dX10_rest_254
      · have nc_178 := ne_i c_178
        have lc_178 : (0 : Int32).toInt = 0 := by decide
        refine lv_iconst (v := 1) hx hb dX10_rest_249 (by decide) ?_
        refine lv_goto (tgt := 254) hx hb dX10_rest_250 (by decide) ?_
        exact M_z hx hb hr rfl hlocks (x22_158, x23_159, x24_160, x25_161, x36_162, y26_163, y27_164, y28_165, y29_166, y30_167, y31_168, y32_169, y33_170) hP hD hK hS ⟨⟨_, rfl, Or.inr rfl⟩, ⟨⟨by omega, by omega⟩, dp_174, hpr_177⟩⟩ (by first | exact Nat.le_of_ble_eq_true rfl | (simp only [rm_X10_rest]; omega)) (by first | exact Nat.le_of_ble_eq_true rfl | (simp only [rm_X10_rest]; omega)) dX10_rest_254
  by_cases c_179 : z_1 = 9
  · refine lv_tableIn (tgt := 255) hx hb dX10_rest_6 (by rw [c_179]; decide) (by rw [c_179]; decide) (by rw [c_179]; rfl) (by decide) ?_
    refine lv_aload_n hx hb dX10_rest_255 rfl (lv_at hl 0 rfl) ?_
    refine lv_iload_n hx hb dX10_rest_256 rfl (lv_at hl 1 rfl) ?_
    refine M_V ⟨hx, hb, hml, hown, hts⟩ (m_X10_test l dC dI sa g h0 b i a kk _ (show 0 ≤ (i 22).toInt ∧ (i 22).toInt ≤ (i 21).toInt ∧ (i 21).toInt ≤ 1500 from by omega) hk) (cwV 1 hts gX10_rest_X10_test rfl rfl rfl (by decide +kernel) ⟨(by first | exact Nat.le_of_ble_eq_true rfl | (simp only [rm_X10_test, rm_X10_rest]; omega)), (by first | exact Nat.le_of_ble_eq_true rfl | (simp only [rm_X10_test, rm_X10_rest]; omega))⟩) hP hD hK hS hA hev rfl rfl rfl rfl hl.1 rfl (Nat.le_of_ble_eq_true rfl) dX10_rest_257 ⟨(by first | exact Nat.le_of_ble_eq_true rfl | (simp only [rm_X10_rest]; omega)), (by first | exact Nat.le_of_ble_eq_true rfl | (simp only [rm_X10_rest]; omega))⟩ (fun r u H locs hw hP hD hS => ?_)
    obtain ⟨x22_180, x23_181, x24_182, x25_183, y27_184, y28_185, y29_186, y30_187⟩ := u
    have hw : (∃ z : Int32, r = some (.int z) ∧ (z = 0 ∨ z = 1)) ∧ (((i 22).toInt ≤ x22_180.toInt ∧ x22_180.toInt ≤ (i 21).toInt) ∧ (y27_184 = (a 27) ∨ ∃ v : Int32, (0 : Int32).toInt ≤ v.toInt ∧ v.toInt ≤ (5 : Int32).toInt ∧ y27_184 = upd (a 27) kk.toNatClampNeg v)) := hw
    obtain ⟨⟨z_189, rfl, hz_z_189⟩, hw_188⟩ := hw
    have hP : va_P (dC, dI) vwCl (mw g h0 b (va_up (va_up (va_up (va_up i 22 x22_180) 23 x23_181) 24 x24_182) 25 x25_183) (va_up (va_up (va_up (va_up a 27 y27_184) 28 y28_185) 29 y29_186) 30 y30_187)) _ := hP
    have hD : va_D _ (mw g h0 b (va_up (va_up (va_up (va_up i 22 x22_180) 23 x23_181) 24 x24_182) 25 x25_183) (va_up (va_up (va_up (va_up a 27 y27_184) 28 y28_185) 29 y29_186) 30 y30_187)) := hD
    refine W.eq (g2 := F0 m 260 ls [.int z_189]) rfl ?_
    obtain ⟨hatq_191, hset_190⟩ := hw_188
    have hp_192 := PN.set hPN hq hVq hset_190 (fun _ => by decide)
    have hpr_193 := PR.tr (PR.rf hPN) hp_192
    refine lv_if_eq (tgt := 272) hx hb dX10_rest_260 (by decide) (fun c_194 => ?_) (fun c_194 => ?_)
    · have nc_194 := eq_i c_194
      have lc_194 : (0 : Int32).toInt = 0 := by decide
      refine lv_iconst (v := 0) hx hb dX10_rest_272 (by decide) ?_
      exact M_z hx hb hr rfl hlocks (x22_180, x23_181, x24_182, x25_183, (i 36), (a 26), y27_184, y28_185, y29_186, y30_187, (a 31), (a 32), (a 33)) hP hD hK hS ⟨⟨_, rfl, Or.inl rfl⟩, ⟨⟨by omega, by omega⟩, dp, hpr_193⟩⟩ (by first | exact Nat.le_of_ble_eq_true rfl | (simp only [rm_X10_rest]; omega)) (by first | exact Nat.le_of_ble_eq_true rfl | (simp only [rm_X10_rest]; omega)) dX10_rest_273
    · have nc_194 := ne_i c_194
      have lc_194 : (0 : Int32).toInt = 0 := by decide
      refine lv_aload_n hx hb dX10_rest_263 rfl (lv_at hl 0 rfl) ?_
      refine lv_iload_n hx hb dX10_rest_264 rfl (lv_at hl 1 rfl) ?_
      refine lv_iconst (v := 0) hx hb dX10_rest_265 (by decide) ?_
      refine M_V ⟨hx, hb, hml, hown, hts⟩ (m_X10_block l dC dI sa g h0 b j bl dp (va_up (va_up (va_up (va_up i 22 x22_180) 23 x23_181) 24 x24_182) 25 x25_183) (va_up (va_up (va_up (va_up a 27 y27_184) 28 y28_185) 29 y29_186) 30 y30_187) kk (0 : Int32) _ (show 0 ≤ x22_180.toInt ∧ x22_180.toInt ≤ (i 21).toInt ∧ (i 21).toInt ≤ 1500 from by omega) hp_192.2.1 hBL hj (let h9 := PR.nd hpr_193 hVq hdq; ⟨q, hq, h9.1, h9.2⟩) IHS) (cwV 2 hts gX10_rest_X10_block rfl rfl rfl (by decide +kernel) ⟨(by first | exact Nat.le_of_ble_eq_true rfl | (simp only [rm_X10_block, rm_X10_rest]; omega)), (by first | exact Nat.le_of_ble_eq_true rfl | (simp only [rm_X10_block, rm_X10_rest]; omega))⟩) hP hD hK hS hA hev rfl rfl rfl rfl hl.1 rfl (Nat.le_of_ble_eq_true rfl) dX10_rest_266 ⟨(by first | exact Nat.le_of_ble_eq_true rfl | (simp only [rm_X10_rest]; omega)), (by first | exact Nat.le_of_ble_eq_true rfl | (simp only [rm_X10_rest]; omega))⟩ (fun r u H locs hw hP hD hS => ?_)
      obtain ⟨x22_195, x23_196, x24_197, x25_198, x36_199, y26_200, y27_201, y28_202, y29_203, y30_204, y31_205, y32_206, y33_207⟩ := u
      have hw : (∃ z : Int32, r = some (.int z) ∧ (z = 0 ∨ z = 1)) ∧ ((x22_180.toInt ≤ x22_195.toInt ∧ x22_195.toInt ≤ (i 21).toInt) ∧ ∃ dpN : Nat → Nat, PR (i 36) x36_199 dp dpN (a 26) y27_184 (a 31) (a 32) (a 33) y26_200 y27_201 y31_205 y32_206 y33_207) := hw
      obtain ⟨⟨z_209, rfl, hz_z_209⟩, hw_208⟩ := hw
      have hP : va_P (dC, dI) vwCl (mw g h0 b (va_up (va_up (va_up (va_up (va_up i 22 x22_195) 23 x23_196) 24 x24_197) 25 x25_198) 36 x36_199) (va_up (va_up (va_up (va_up (va_up (va_up (va_up (va_up a 26 y26_200) 27 y27_201) 28 y28_202) 29 y29_203) 30 y30_204) 31 y31_205) 32 y32_206) 33 y33_207)) _ := hP
      have hD : va_D _ (mw g h0 b (va_up (va_up (va_up (va_up (va_up i 22 x22_195) 23 x23_196) 24 x24_197) 25 x25_198) 36 x36_199) (va_up (va_up (va_up (va_up (va_up (va_up (va_up (va_up a 26 y26_200) 27 y27_201) 28 y28_202) 29 y29_203) 30 y30_204) 31 y31_205) 32 y32_206) 33 y33_207)) := hD
      refine W.eq (g2 := F0 m 269 ls [.int z_209]) rfl ?_
      obtain ⟨hatq_213, dp_211, hPR_210⟩ := hw_208
      have hpr_214 := PR.tr hpr_193 hPR_210
      refine lv_if_ne (tgt := 274) hx hb dX10_rest_269 (by decide) (fun c_215 => ?_) (fun c_215 => ?_)
      · have nc_215 := ne_i c_215
        have lc_215 : (0 : Int32).toInt = 0 := by decide
        refine lv_aload_n hx hb dX10_rest_274 rfl (lv_at hl 0 rfl) ?_
        refine M_V ⟨hx, hb, hml, hown, hts⟩ (m_X10_word l dC dI sa g h0 b (va_up (va_up (va_up (va_up (va_up i 22 x22_195) 23 x23_196) 24 x24_197) 25 x25_198) 36 x36_199) (va_up (va_up (va_up (va_up (va_up (va_up (va_up (va_up a 26 y26_200) 27 y27_201) 28 y28_202) 29 y29_203) 30 y30_204) 31 y31_205) 32 y32_206) 33 y33_207)  _ (show 0 ≤ x22_195.toInt ∧ x22_195.toInt ≤ (i 21).toInt ∧ (i 21).toInt ≤ 1500 from by omega)) (cwV 0 hts gX10_rest_X10_word rfl rfl rfl (by decide +kernel) ⟨(by first | exact Nat.le_of_ble_eq_true rfl | (simp only [rm_X10_word, rm_X10_rest]; omega)), (by first | exact Nat.le_of_ble_eq_true rfl | (simp only [rm_X10_word, rm_X10_rest]; omega))⟩) hP hD hK hS hA hev rfl rfl rfl rfl hl.1 rfl (Nat.le_of_ble_eq_true rfl) dX10_rest_275 ⟨(by first | exact Nat.le_of_ble_eq_true rfl | (simp only [rm_X10_rest]; omega)), (by first | exact Nat.le_of_ble_eq_true rfl | (simp only [rm_X10_rest]; omega))⟩ (fun r u H locs hw hP hD hS => ?_)
        obtain ⟨x22_216, rfl⟩ : ∃ z, z = u := ⟨_, rfl⟩
        have hw : (∃ z : Int32, r = some (.int z) ∧ (z = -1 ∨ ∃ q : Nat, z = nI q ∧ q ≤ 18 ∧ x22_216.toInt + (lenS.getD q 0 : Int) ≤ (i 21).toInt)) ∧ (x22_195.toInt ≤ x22_216.toInt ∧ x22_216.toInt ≤ (i 21).toInt) := hw
        obtain ⟨⟨z_218, rfl, hz_z_218⟩, hw_217⟩ := hw
        have hP : va_P (dC, dI) vwCl (mw g h0 b (va_up (va_up (va_up (va_up (va_up i 22 x22_216) 23 x23_196) 24 x24_197) 25 x25_198) 36 x36_199) (va_up (va_up (va_up (va_up (va_up (va_up (va_up (va_up a 26 y26_200) 27 y27_201) 28 y28_202) 29 y29_203) 30 y30_204) 31 y31_205) 32 y32_206) 33 y33_207)) _ := hP
        have hD : va_D _ (mw g h0 b (va_up (va_up (va_up (va_up (va_up i 22 x22_216) 23 x23_196) 24 x24_197) 25 x25_198) 36 x36_199) (va_up (va_up (va_up (va_up (va_up (va_up (va_up (va_up a 26 y26_200) 27 y27_201) 28 y28_202) 29 y29_203) 30 y30_204) 31 y31_205) 32 y32_206) 33 y33_207)) := hD
        refine W.eq (g2 := F0 m 278 ls [.int z_218]) rfl ?_
        refine lv_bipush (v := 13) hx hb dX10_rest_278 (by decide) ?_
        refine lv_icmp_eq (tgt := 285) hx hb dX10_rest_280 (by decide) (fun c_219 => ?_) (fun c_219 => ?_)
        · have nc_219 := eq_i c_219
          have lc_219 : (13 : Int32).toInt = 13 := by decide
          refine lv_aload_n hx hb dX10_rest_285 rfl (lv_at hl 0 rfl) ?_
          refine lv_bipush (v := 13) hx hb dX10_rest_286 (by decide) ?_
          refine M_V ⟨hx, hb, hml, hown, hts⟩ (m_X10_pass l dC dI sa g h0 b (va_up (va_up (va_up (va_up (va_up i 22 x22_216) 23 x23_196) 24 x24_197) 25 x25_198) 36 x36_199) (va_up (va_up (va_up (va_up (va_up (va_up (va_up (va_up a 26 y26_200) 27 y27_201) 28 y28_202) 29 y29_203) 30 y30_204) 31 y31_205) 32 y32_206) 33 y33_207) (13 : Int32) _ (show 0 ≤ x22_216.toInt ∧ x22_216.toInt ≤ (i 21).toInt ∧ (i 21).toInt ≤ 1500 from by omega) (by rw [← c_219]; exact hz_z_218.resolve_left (fun h9 => absurd (c_219.symm.trans h9) (by decide)))) (cwV 1 hts gX10_rest_X10_pass rfl rfl rfl (by decide +kernel) ⟨(by first | exact Nat.le_of_ble_eq_true rfl | (simp only [rm_X10_pass, rm_X10_rest]; omega)), (by first | exact Nat.le_of_ble_eq_true rfl | (simp only [rm_X10_pass, rm_X10_rest]; omega))⟩) hP hD hK hS hA hev rfl rfl rfl rfl hl.1 rfl (Nat.le_of_ble_eq_true rfl) dX10_rest_288 ⟨(by first | exact Nat.le_of_ble_eq_true rfl | (simp only [rm_X10_rest]; omega)), (by first | exact Nat.le_of_ble_eq_true rfl | (simp only [rm_X10_rest]; omega))⟩ (fun r u H locs hw hP hD hS => ?_)
          obtain ⟨x22_220, rfl⟩ : ∃ z, z = u := ⟨_, rfl⟩
          have hw : (r = none) ∧ (x22_216.toInt ≤ x22_220.toInt ∧ x22_220.toInt ≤ (i 21).toInt) := hw
          obtain ⟨rfl, hw_221⟩ := hw
          have hP : va_P (dC, dI) vwCl (mw g h0 b (va_up (va_up (va_up (va_up (va_up i 22 x22_220) 23 x23_196) 24 x24_197) 25 x25_198) 36 x36_199) (va_up (va_up (va_up (va_up (va_up (va_up (va_up (va_up a 26 y26_200) 27 y27_201) 28 y28_202) 29 y29_203) 30 y30_204) 31 y31_205) 32 y32_206) 33 y33_207)) _ := hP
          have hD : va_D _ (mw g h0 b (va_up (va_up (va_up (va_up (va_up i 22 x22_220) 23 x23_196) 24 x24_197) 25 x25_198) 36 x36_199) (va_up (va_up (va_up (va_up (va_up (va_up (va_up (va_up a 26 y26_200) 27 y27_201) 28 y28_202) 29 y29_203) 30 y30_204) 31 y31_205) 32 y32_206) 33 y33_207)) := hD
          refine W.eq (g2 := F0 m 291 ls []) rfl ?_
          refine lv_aload_n hx hb dX10_rest_291 rfl (lv_at hl 0 rfl) ?_
          refine lv_iload_n hx hb dX10_rest_292 rfl (lv_at hl 1 rfl) ?_
          refine lv_iconst (v := 1) hx hb dX10_rest_293 (by decide) ?_
          refine M_V ⟨hx, hb, hml, hown, hts⟩ (m_X10_block l dC dI sa g h0 b j bl dp_211 (va_up (va_up (va_up (va_up (va_up i 22 x22_220) 23 x23_196) 24 x24_197) 25 x25_198) 36 x36_199) (va_up (va_up (va_up (va_up (va_up (va_up (va_up (va_up a 26 y26_200) 27 y27_201) 28 y28_202) 29 y29_203) 30 y30_204) 31 y31_205) 32 y32_206) 33 y33_207) kk (1 : Int32) _ (show 0 ≤ x22_220.toInt ∧ x22_220.toInt ≤ (i 21).toInt ∧ (i 21).toInt ≤ 1500 from by omega) hPR_210.2.1 hBL hj (let h9 := PR.nd hpr_214 hVq hdq; ⟨q, hq, h9.1, h9.2⟩) IHS) (cwV 2 hts gX10_rest_X10_block rfl rfl rfl (by decide +kernel) ⟨(by first | exact Nat.le_of_ble_eq_true rfl | (simp only [rm_X10_block, rm_X10_rest]; omega)), (by first | exact Nat.le_of_ble_eq_true rfl | (simp only [rm_X10_block, rm_X10_rest]; omega))⟩) hP hD hK hS hA hev rfl rfl rfl rfl hl.1 rfl (Nat.le_of_ble_eq_true rfl) dX10_rest_294 ⟨(by first | exact Nat.le_of_ble_eq_true rfl | (simp only [rm_X10_rest]; omega)), (by first | exact Nat.le_of_ble_eq_true rfl | (simp only [rm_X10_rest]; omega))⟩ (fun r u H locs hw hP hD hS => ?_)
          obtain ⟨x22_222, x23_223, x24_224, x25_225, x36_226, y26_227, y27_228, y28_229, y29_230, y30_231, y31_232, y32_233, y33_234⟩ := u
          have hw : (∃ z : Int32, r = some (.int z) ∧ (z = 0 ∨ z = 1)) ∧ ((x22_220.toInt ≤ x22_222.toInt ∧ x22_222.toInt ≤ (i 21).toInt) ∧ ∃ dpN : Nat → Nat, PR x36_199 x36_226 dp_211 dpN y26_200 y27_201 y31_205 y32_206 y33_207 y26_227 y27_228 y31_232 y32_233 y33_234) := hw
          obtain ⟨⟨z_236, rfl, hz_z_236⟩, hw_235⟩ := hw
          have hP : va_P (dC, dI) vwCl (mw g h0 b (va_up (va_up (va_up (va_up (va_up i 22 x22_222) 23 x23_223) 24 x24_224) 25 x25_225) 36 x36_226) (va_up (va_up (va_up (va_up (va_up (va_up (va_up (va_up a 26 y26_227) 27 y27_228) 28 y28_229) 29 y29_230) 30 y30_231) 31 y31_232) 32 y32_233) 33 y33_234)) _ := hP
          have hD : va_D _ (mw g h0 b (va_up (va_up (va_up (va_up (va_up i 22 x22_222) 23 x23_223) 24 x24_224) 25 x25_225) 36 x36_226) (va_up (va_up (va_up (va_up (va_up (va_up (va_up (va_up a 26 y26_227) 27 y27_228) 28 y28_229) 29 y29_230) 30 y30_231) 31 y31_232) 32 y32_233) 33 y33_234)) := hD
          refine W.eq (g2 := F0 m 297 ls [.int z_236]) rfl ?_
          obtain ⟨hatq_240, dp_238, hPR_237⟩ := hw_235
          have hpr_241 := PR.tr hpr_214 hPR_237
          exact M_z hx hb hr (nar_b hz_z_236) hlocks (x22_222, x23_223, x24_224, x25_225, x36_226, y26_227, y27_228, y28_229, y29_230, y30_231, y31_232, y32_233, y33_234) hP hD hK hS ⟨⟨_, rfl, hz_z_236⟩, ⟨⟨by omega, by omega⟩, dp_238, hpr_241⟩⟩ (by first | exact Nat.le_of_ble_eq_true rfl | (simp only [rm_X10_rest]; omega)) (by first | exact Nat.le_of_ble_eq_true rfl | (simp only [rm_X10_rest]; omega)) dX10_rest_297
        · have nc_219 := ne_i c_219
          have lc_219 : (13 : Int32).toInt = 13 := by decide
          refine lv_iconst (v := 1) hx hb dX10_rest_283 (by decide) ?_
          exact M_z hx hb hr rfl hlocks (x22_216, x23_196, x24_197, x25_198, x36_199, y26_200, y27_201, y28_202, y29_203, y30_204, y31_205, y32_206, y33_207) hP hD hK hS ⟨⟨_, rfl, Or.inr rfl⟩, ⟨⟨by omega, by omega⟩, dp_211, hpr_214⟩⟩ (by first | exact Nat.le_of_ble_eq_true rfl | (simp only [rm_X10_rest]; omega)) (by first | exact Nat.le_of_ble_eq_true rfl | (simp only [rm_X10_rest]; omega)) dX10_rest_284
      · have nc_215 := eq_i c_215
        have lc_215 : (0 : Int32).toInt = 0 := by decide
        refine lv_iconst (v := 0) hx hb dX10_rest_272 (by decide) ?_
        exact M_z hx hb hr rfl hlocks (x22_195, x23_196, x24_197, x25_198, x36_199, y26_200, y27_201, y28_202, y29_203, y30_204, y31_205, y32_206, y33_207) hP hD hK hS ⟨⟨_, rfl, Or.inl rfl⟩, ⟨⟨by omega, by omega⟩, dp_211, hpr_214⟩⟩ (by first | exact Nat.le_of_ble_eq_true rfl | (simp only [rm_X10_rest]; omega)) (by first | exact Nat.le_of_ble_eq_true rfl | (simp only [rm_X10_rest]; omega)) dX10_rest_273
  by_cases c_242 : z_1 = 10
  · refine lv_tableIn (tgt := 298) hx hb dX10_rest_6 (by rw [c_242]; decide) (by rw [c_242]; decide) (by rw [c_242]; rfl) (by decide) ?_
    refine lv_aload_n hx hb dX10_rest_298 rfl (lv_at hl 0 rfl) ?_
    refine lv_iload_n hx hb dX10_rest_299 rfl (lv_at hl 1 rfl) ?_
    refine lv_iconst (v := 0) hx hb dX10_rest_300 (by decide) ?_
    refine M_V ⟨hx, hb, hml, hown, hts⟩ (m_X10_block l dC dI sa g h0 b j bl dp i a kk (0 : Int32) _ (show 0 ≤ (i 22).toInt ∧ (i 22).toInt ≤ (i 21).toInt ∧ (i 21).toInt ≤ 1500 from by omega) hPN hBL hj (let h9 := PR.nd (PR.rf hPN) hVq hdq; ⟨q, hq, h9.1, h9.2⟩) IHS) (cwV 2 hts gX10_rest_X10_block rfl rfl rfl (by decide +kernel) ⟨(by first | exact Nat.le_of_ble_eq_true rfl | (simp only [rm_X10_block, rm_X10_rest]; omega)), (by first | exact Nat.le_of_ble_eq_true rfl | (simp only [rm_X10_block, rm_X10_rest]; omega))⟩) hP hD hK hS hA hev rfl rfl rfl rfl hl.1 rfl (Nat.le_of_ble_eq_true rfl) dX10_rest_301 ⟨(by first | exact Nat.le_of_ble_eq_true rfl | (simp only [rm_X10_rest]; omega)), (by first | exact Nat.le_of_ble_eq_true rfl | (simp only [rm_X10_rest]; omega))⟩ (fun r u H locs hw hP hD hS => ?_)
    obtain ⟨x22_243, x23_244, x24_245, x25_246, x36_247, y26_248, y27_249, y28_250, y29_251, y30_252, y31_253, y32_254, y33_255⟩ := u
    have hw : (∃ z : Int32, r = some (.int z) ∧ (z = 0 ∨ z = 1)) ∧ (((i 22).toInt ≤ x22_243.toInt ∧ x22_243.toInt ≤ (i 21).toInt) ∧ ∃ dpN : Nat → Nat, PR (i 36) x36_247 dp dpN (a 26) (a 27) (a 31) (a 32) (a 33) y26_248 y27_249 y31_253 y32_254 y33_255) := hw
    obtain ⟨⟨z_257, rfl, hz_z_257⟩, hw_256⟩ := hw
    have hP : va_P (dC, dI) vwCl (mw g h0 b (va_up (va_up (va_up (va_up (va_up i 22 x22_243) 23 x23_244) 24 x24_245) 25 x25_246) 36 x36_247) (va_up (va_up (va_up (va_up (va_up (va_up (va_up (va_up a 26 y26_248) 27 y27_249) 28 y28_250) 29 y29_251) 30 y30_252) 31 y31_253) 32 y32_254) 33 y33_255)) _ := hP
    have hD : va_D _ (mw g h0 b (va_up (va_up (va_up (va_up (va_up i 22 x22_243) 23 x23_244) 24 x24_245) 25 x25_246) 36 x36_247) (va_up (va_up (va_up (va_up (va_up (va_up (va_up (va_up a 26 y26_248) 27 y27_249) 28 y28_250) 29 y29_251) 30 y30_252) 31 y31_253) 32 y32_254) 33 y33_255)) := hD
    refine W.eq (g2 := F0 m 304 ls [.int z_257]) rfl ?_
    obtain ⟨hatq_261, dp_259, hPR_258⟩ := hw_256
    have hpr_262 := PR.tr (PR.rf hPN) hPR_258
    refine lv_if_eq (tgt := 329) hx hb dX10_rest_304 (by decide) (fun c_263 => ?_) (fun c_263 => ?_)
    · have nc_263 := eq_i c_263
      have lc_263 : (0 : Int32).toInt = 0 := by decide
      refine lv_iconst (v := 0) hx hb dX10_rest_329 (by decide) ?_
      exact M_z hx hb hr rfl hlocks (x22_243, x23_244, x24_245, x25_246, x36_247, y26_248, y27_249, y28_250, y29_251, y30_252, y31_253, y32_254, y33_255) hP hD hK hS ⟨⟨_, rfl, Or.inl rfl⟩, ⟨⟨by omega, by omega⟩, dp_259, hpr_262⟩⟩ (by first | exact Nat.le_of_ble_eq_true rfl | (simp only [rm_X10_rest]; omega)) (by first | exact Nat.le_of_ble_eq_true rfl | (simp only [rm_X10_rest]; omega)) dX10_rest_330
    · have nc_263 := ne_i c_263
      have lc_263 : (0 : Int32).toInt = 0 := by decide
      refine lv_aload_n hx hb dX10_rest_307 rfl (lv_at hl 0 rfl) ?_
      refine lv_bipush (v := 13) hx hb dX10_rest_308 (by decide) ?_
      refine M_V ⟨hx, hb, hml, hown, hts⟩ (m_X10_needWord l dC dI sa g h0 b (va_up (va_up (va_up (va_up (va_up i 22 x22_243) 23 x23_244) 24 x24_245) 25 x25_246) 36 x36_247) (va_up (va_up (va_up (va_up (va_up (va_up (va_up (va_up a 26 y26_248) 27 y27_249) 28 y28_250) 29 y29_251) 30 y30_252) 31 y31_253) 32 y32_254) 33 y33_255) (13 : Int32) _ (show 0 ≤ x22_243.toInt ∧ x22_243.toInt ≤ (i 21).toInt ∧ (i 21).toInt ≤ 1500 from by omega) (by decide)) (cwV 1 hts gX10_rest_X10_needWord rfl rfl rfl (by decide +kernel) ⟨(by first | exact Nat.le_of_ble_eq_true rfl | (simp only [rm_X10_needWord, rm_X10_rest]; omega)), (by first | exact Nat.le_of_ble_eq_true rfl | (simp only [rm_X10_needWord, rm_X10_rest]; omega))⟩) hP hD hK hS hA hev rfl rfl rfl rfl hl.1 rfl (Nat.le_of_ble_eq_true rfl) dX10_rest_310 ⟨(by first | exact Nat.le_of_ble_eq_true rfl | (simp only [rm_X10_rest]; omega)), (by first | exact Nat.le_of_ble_eq_true rfl | (simp only [rm_X10_rest]; omega))⟩ (fun r u H locs hw hP hD hS => ?_)
      obtain ⟨x22_264, x23_265, x24_266⟩ := u
      have hw : (∃ z : Int32, r = some (.int z) ∧ (z = 0 ∨ z = 1)) ∧ (x22_243.toInt ≤ x22_264.toInt ∧ x22_264.toInt ≤ (i 21).toInt) := hw
      obtain ⟨⟨z_268, rfl, hz_z_268⟩, hw_267⟩ := hw
      have hP : va_P (dC, dI) vwCl (mw g h0 b (va_up (va_up (va_up (va_up (va_up i 22 x22_264) 23 x23_265) 24 x24_266) 25 x25_246) 36 x36_247) (va_up (va_up (va_up (va_up (va_up (va_up (va_up (va_up a 26 y26_248) 27 y27_249) 28 y28_250) 29 y29_251) 30 y30_252) 31 y31_253) 32 y32_254) 33 y33_255)) _ := hP
      have hD : va_D _ (mw g h0 b (va_up (va_up (va_up (va_up (va_up i 22 x22_264) 23 x23_265) 24 x24_266) 25 x25_246) 36 x36_247) (va_up (va_up (va_up (va_up (va_up (va_up (va_up (va_up a 26 y26_248) 27 y27_249) 28 y28_250) 29 y29_251) 30 y30_252) 31 y31_253) 32 y32_254) 33 y33_255)) := hD
      refine W.eq (g2 := F0 m 313 ls [.int z_268]) rfl ?_
      refine lv_if_eq (tgt := 329) hx hb dX10_rest_313 (by decide) (fun c_269 => ?_) (fun c_269 => ?_)
      · have nc_269 := eq_i c_269
        have lc_269 : (0 : Int32).toInt = 0 := by decide
        refine lv_iconst (v := 0) hx hb dX10_rest_329 (by decide) ?_
        exact M_z hx hb hr rfl hlocks (x22_264, x23_265, x24_266, x25_246, x36_247, y26_248, y27_249, y28_250, y29_251, y30_252, y31_253, y32_254, y33_255) hP hD hK hS ⟨⟨_, rfl, Or.inl rfl⟩, ⟨⟨by omega, by omega⟩, dp_259, hpr_262⟩⟩ (by first | exact Nat.le_of_ble_eq_true rfl | (simp only [rm_X10_rest]; omega)) (by first | exact Nat.le_of_ble_eq_true rfl | (simp only [rm_X10_rest]; omega)) dX10_rest_330
      · have nc_269 := ne_i c_269
        have lc_269 : (0 : Int32).toInt = 0 := by decide
        refine lv_aload_n hx hb dX10_rest_316 rfl (lv_at hl 0 rfl) ?_
        refine lv_iload_n hx hb dX10_rest_317 rfl (lv_at hl 1 rfl) ?_
        refine lv_iconst (v := 1) hx hb dX10_rest_318 (by decide) ?_
        refine M_V ⟨hx, hb, hml, hown, hts⟩ (m_X10_block l dC dI sa g h0 b j bl dp_259 (va_up (va_up (va_up (va_up (va_up i 22 x22_264) 23 x23_265) 24 x24_266) 25 x25_246) 36 x36_247) (va_up (va_up (va_up (va_up (va_up (va_up (va_up (va_up a 26 y26_248) 27 y27_249) 28 y28_250) 29 y29_251) 30 y30_252) 31 y31_253) 32 y32_254) 33 y33_255) kk (1 : Int32) _ (show 0 ≤ x22_264.toInt ∧ x22_264.toInt ≤ (i 21).toInt ∧ (i 21).toInt ≤ 1500 from by omega) hPR_258.2.1 hBL hj (let h9 := PR.nd hpr_262 hVq hdq; ⟨q, hq, h9.1, h9.2⟩) IHS) (cwV 2 hts gX10_rest_X10_block rfl rfl rfl (by decide +kernel) ⟨(by first | exact Nat.le_of_ble_eq_true rfl | (simp only [rm_X10_block, rm_X10_rest]; omega)), (by first | exact Nat.le_of_ble_eq_true rfl | (simp only [rm_X10_block, rm_X10_rest]; omega))⟩) hP hD hK hS hA hev rfl rfl rfl rfl hl.1 rfl (Nat.le_of_ble_eq_true rfl) dX10_rest_319 ⟨(by first | exact Nat.le_of_ble_eq_true rfl | (simp only [rm_X10_rest]; omega)), (by first | exact Nat.le_of_ble_eq_true rfl | (simp only [rm_X10_rest]; omega))⟩ (fun r u H locs hw hP hD hS => ?_)
        obtain ⟨x22_270, x23_271, x24_272, x25_273, x36_274, y26_275, y27_276, y28_277, y29_278, y30_279, y31_280, y32_281, y33_282⟩ := u
        have hw : (∃ z : Int32, r = some (.int z) ∧ (z = 0 ∨ z = 1)) ∧ ((x22_264.toInt ≤ x22_270.toInt ∧ x22_270.toInt ≤ (i 21).toInt) ∧ ∃ dpN : Nat → Nat, PR x36_247 x36_274 dp_259 dpN y26_248 y27_249 y31_253 y32_254 y33_255 y26_275 y27_276 y31_280 y32_281 y33_282) := hw
        obtain ⟨⟨z_284, rfl, hz_z_284⟩, hw_283⟩ := hw
        have hP : va_P (dC, dI) vwCl (mw g h0 b (va_up (va_up (va_up (va_up (va_up i 22 x22_270) 23 x23_271) 24 x24_272) 25 x25_273) 36 x36_274) (va_up (va_up (va_up (va_up (va_up (va_up (va_up (va_up a 26 y26_275) 27 y27_276) 28 y28_277) 29 y29_278) 30 y30_279) 31 y31_280) 32 y32_281) 33 y33_282)) _ := hP
        have hD : va_D _ (mw g h0 b (va_up (va_up (va_up (va_up (va_up i 22 x22_270) 23 x23_271) 24 x24_272) 25 x25_273) 36 x36_274) (va_up (va_up (va_up (va_up (va_up (va_up (va_up (va_up a 26 y26_275) 27 y27_276) 28 y28_277) 29 y29_278) 30 y30_279) 31 y31_280) 32 y32_281) 33 y33_282)) := hD
        refine W.eq (g2 := F0 m 322 ls [.int z_284]) rfl ?_
        obtain ⟨hatq_288, dp_286, hPR_285⟩ := hw_283
        have hpr_289 := PR.tr hpr_262 hPR_285
        refine lv_if_eq (tgt := 329) hx hb dX10_rest_322 (by decide) (fun c_290 => ?_) (fun c_290 => ?_)
        · have nc_290 := eq_i c_290
          have lc_290 : (0 : Int32).toInt = 0 := by decide
          refine lv_iconst (v := 0) hx hb dX10_rest_329 (by decide) ?_
          exact M_z hx hb hr rfl hlocks (x22_270, x23_271, x24_272, x25_273, x36_274, y26_275, y27_276, y28_277, y29_278, y30_279, y31_280, y32_281, y33_282) hP hD hK hS ⟨⟨_, rfl, Or.inl rfl⟩, ⟨⟨by omega, by omega⟩, dp_286, hpr_289⟩⟩ (by first | exact Nat.le_of_ble_eq_true rfl | (simp only [rm_X10_rest]; omega)) (by first | exact Nat.le_of_ble_eq_true rfl | (simp only [rm_X10_rest]; omega)) dX10_rest_330
        · have nc_290 := ne_i c_290
          have lc_290 : (0 : Int32).toInt = 0 := by decide
          refine lv_iconst (v := 1) hx hb dX10_rest_325 (by decide) ?_
          refine lv_goto (tgt := 330) hx hb dX10_rest_326 (by decide) ?_
          exact M_z hx hb hr rfl hlocks (x22_270, x23_271, x24_272, x25_273, x36_274, y26_275, y27_276, y28_277, y29_278, y30_279, y31_280, y32_281, y33_282) hP hD hK hS ⟨⟨_, rfl, Or.inr rfl⟩, ⟨⟨by omega, by omega⟩, dp_286, hpr_289⟩⟩ (by first | exact Nat.le_of_ble_eq_true rfl | (simp only [rm_X10_rest]; omega)) (by first | exact Nat.le_of_ble_eq_true rfl | (simp only [rm_X10_rest]; omega)) dX10_rest_330
  refine lv_tableOut (tgt := 331) hx hb dX10_rest_6 (tab_out11 c_2 c_22 c_28 c_34 c_53 c_73 c_92 c_111 c_145 c_179 c_242) (by decide) ?_
  refine lv_aload_n hx hb dX10_rest_331 rfl (lv_at hl 0 rfl) ?_
  refine lv_iload_n hx hb dX10_rest_332 rfl (lv_at hl 1 rfl) ?_
  refine lv_iconst (v := 0) hx hb dX10_rest_333 (by decide) ?_
  refine M_V ⟨hx, hb, hml, hown, hts⟩ (m_X10_block l dC dI sa g h0 b j bl dp i a kk (0 : Int32) _ (show 0 ≤ (i 22).toInt ∧ (i 22).toInt ≤ (i 21).toInt ∧ (i 21).toInt ≤ 1500 from by omega) hPN hBL hj (let h9 := PR.nd (PR.rf hPN) hVq hdq; ⟨q, hq, h9.1, h9.2⟩) IHS) (cwV 2 hts gX10_rest_X10_block rfl rfl rfl (by decide +kernel) ⟨(by first | exact Nat.le_of_ble_eq_true rfl | (simp only [rm_X10_block, rm_X10_rest]; omega)), (by first | exact Nat.le_of_ble_eq_true rfl | (simp only [rm_X10_block, rm_X10_rest]; omega))⟩) hP hD hK hS hA hev rfl rfl rfl rfl hl.1 rfl (Nat.le_of_ble_eq_true rfl) dX10_rest_334 ⟨(by first | exact Nat.le_of_ble_eq_true rfl | (simp only [rm_X10_rest]; omega)), (by first | exact Nat.le_of_ble_eq_true rfl | (simp only [rm_X10_rest]; omega))⟩ (fun r u H locs hw hP hD hS => ?_)
  obtain ⟨x22_291, x23_292, x24_293, x25_294, x36_295, y26_296, y27_297, y28_298, y29_299, y30_300, y31_301, y32_302, y33_303⟩ := u
  have hw : (∃ z : Int32, r = some (.int z) ∧ (z = 0 ∨ z = 1)) ∧ (((i 22).toInt ≤ x22_291.toInt ∧ x22_291.toInt ≤ (i 21).toInt) ∧ ∃ dpN : Nat → Nat, PR (i 36) x36_295 dp dpN (a 26) (a 27) (a 31) (a 32) (a 33) y26_296 y27_297 y31_301 y32_302 y33_303) := hw
  obtain ⟨⟨z_305, rfl, hz_z_305⟩, hw_304⟩ := hw
  have hP : va_P (dC, dI) vwCl (mw g h0 b (va_up (va_up (va_up (va_up (va_up i 22 x22_291) 23 x23_292) 24 x24_293) 25 x25_294) 36 x36_295) (va_up (va_up (va_up (va_up (va_up (va_up (va_up (va_up a 26 y26_296) 27 y27_297) 28 y28_298) 29 y29_299) 30 y30_300) 31 y31_301) 32 y32_302) 33 y33_303)) _ := hP
  have hD : va_D _ (mw g h0 b (va_up (va_up (va_up (va_up (va_up i 22 x22_291) 23 x23_292) 24 x24_293) 25 x25_294) 36 x36_295) (va_up (va_up (va_up (va_up (va_up (va_up (va_up (va_up a 26 y26_296) 27 y27_297) 28 y28_298) 29 y29_299) 30 y30_300) 31 y31_301) 32 y32_302) 33 y33_303)) := hD
  refine W.eq (g2 := F0 m 337 ls [.int z_305]) rfl ?_
  obtain ⟨hatq_309, dp_307, hPR_306⟩ := hw_304
  have hpr_310 := PR.tr (PR.rf hPN) hPR_306
  refine lv_if_eq (tgt := 362) hx hb dX10_rest_337 (by decide) (fun c_311 => ?_) (fun c_311 => ?_)
  · have nc_311 := eq_i c_311
    have lc_311 : (0 : Int32).toInt = 0 := by decide
    refine lv_iconst (v := 0) hx hb dX10_rest_362 (by decide) ?_
    exact M_z hx hb hr rfl hlocks (x22_291, x23_292, x24_293, x25_294, x36_295, y26_296, y27_297, y28_298, y29_299, y30_300, y31_301, y32_302, y33_303) hP hD hK hS ⟨⟨_, rfl, Or.inl rfl⟩, ⟨⟨by omega, by omega⟩, dp_307, hpr_310⟩⟩ (by first | exact Nat.le_of_ble_eq_true rfl | (simp only [rm_X10_rest]; omega)) (by first | exact Nat.le_of_ble_eq_true rfl | (simp only [rm_X10_rest]; omega)) dX10_rest_363
  · have nc_311 := ne_i c_311
    have lc_311 : (0 : Int32).toInt = 0 := by decide
    refine lv_aload_n hx hb dX10_rest_340 rfl (lv_at hl 0 rfl) ?_
    refine lv_bipush (v := 12) hx hb dX10_rest_341 (by decide) ?_
    refine M_V ⟨hx, hb, hml, hown, hts⟩ (m_X10_needWord l dC dI sa g h0 b (va_up (va_up (va_up (va_up (va_up i 22 x22_291) 23 x23_292) 24 x24_293) 25 x25_294) 36 x36_295) (va_up (va_up (va_up (va_up (va_up (va_up (va_up (va_up a 26 y26_296) 27 y27_297) 28 y28_298) 29 y29_299) 30 y30_300) 31 y31_301) 32 y32_302) 33 y33_303) (12 : Int32) _ (show 0 ≤ x22_291.toInt ∧ x22_291.toInt ≤ (i 21).toInt ∧ (i 21).toInt ≤ 1500 from by omega) (by decide)) (cwV 1 hts gX10_rest_X10_needWord rfl rfl rfl (by decide +kernel) ⟨(by first | exact Nat.le_of_ble_eq_true rfl | (simp only [rm_X10_needWord, rm_X10_rest]; omega)), (by first | exact Nat.le_of_ble_eq_true rfl | (simp only [rm_X10_needWord, rm_X10_rest]; omega))⟩) hP hD hK hS hA hev rfl rfl rfl rfl hl.1 rfl (Nat.le_of_ble_eq_true rfl) dX10_rest_343 ⟨(by first | exact Nat.le_of_ble_eq_true rfl | (simp only [rm_X10_rest]; omega)), (by first | exact Nat.le_of_ble_eq_true rfl | (simp only [rm_X10_rest]; omega))⟩ (fun r u H locs hw hP hD hS => ?_)
    obtain ⟨x22_312, x23_313, x24_314⟩ := u
    have hw : (∃ z : Int32, r = some (.int z) ∧ (z = 0 ∨ z = 1)) ∧ (x22_291.toInt ≤ x22_312.toInt ∧ x22_312.toInt ≤ (i 21).toInt) := hw
    obtain ⟨⟨z_316, rfl, hz_z_316⟩, hw_315⟩ := hw
    have hP : va_P (dC, dI) vwCl (mw g h0 b (va_up (va_up (va_up (va_up (va_up i 22 x22_312) 23 x23_313) 24 x24_314) 25 x25_294) 36 x36_295) (va_up (va_up (va_up (va_up (va_up (va_up (va_up (va_up a 26 y26_296) 27 y27_297) 28 y28_298) 29 y29_299) 30 y30_300) 31 y31_301) 32 y32_302) 33 y33_303)) _ := hP
    have hD : va_D _ (mw g h0 b (va_up (va_up (va_up (va_up (va_up i 22 x22_312) 23 x23_313) 24 x24_314) 25 x25_294) 36 x36_295) (va_up (va_up (va_up (va_up (va_up (va_up (va_up (va_up a 26 y26_296) 27 y27_297) 28 y28_298) 29 y29_299) 30 y30_300) 31 y31_301) 32 y32_302) 33 y33_303)) := hD
    refine W.eq (g2 := F0 m 346 ls [.int z_316]) rfl ?_
    refine lv_if_eq (tgt := 362) hx hb dX10_rest_346 (by decide) (fun c_317 => ?_) (fun c_317 => ?_)
    · have nc_317 := eq_i c_317
      have lc_317 : (0 : Int32).toInt = 0 := by decide
      refine lv_iconst (v := 0) hx hb dX10_rest_362 (by decide) ?_
      exact M_z hx hb hr rfl hlocks (x22_312, x23_313, x24_314, x25_294, x36_295, y26_296, y27_297, y28_298, y29_299, y30_300, y31_301, y32_302, y33_303) hP hD hK hS ⟨⟨_, rfl, Or.inl rfl⟩, ⟨⟨by omega, by omega⟩, dp_307, hpr_310⟩⟩ (by first | exact Nat.le_of_ble_eq_true rfl | (simp only [rm_X10_rest]; omega)) (by first | exact Nat.le_of_ble_eq_true rfl | (simp only [rm_X10_rest]; omega)) dX10_rest_363
    · have nc_317 := ne_i c_317
      have lc_317 : (0 : Int32).toInt = 0 := by decide
      refine lv_aload_n hx hb dX10_rest_349 rfl (lv_at hl 0 rfl) ?_
      refine lv_iload_n hx hb dX10_rest_350 rfl (lv_at hl 1 rfl) ?_
      refine lv_iconst (v := 1) hx hb dX10_rest_351 (by decide) ?_
      refine M_V ⟨hx, hb, hml, hown, hts⟩ (m_X10_block l dC dI sa g h0 b j bl dp_307 (va_up (va_up (va_up (va_up (va_up i 22 x22_312) 23 x23_313) 24 x24_314) 25 x25_294) 36 x36_295) (va_up (va_up (va_up (va_up (va_up (va_up (va_up (va_up a 26 y26_296) 27 y27_297) 28 y28_298) 29 y29_299) 30 y30_300) 31 y31_301) 32 y32_302) 33 y33_303) kk (1 : Int32) _ (show 0 ≤ x22_312.toInt ∧ x22_312.toInt ≤ (i 21).toInt ∧ (i 21).toInt ≤ 1500 from by omega) hPR_306.2.1 hBL hj (let h9 := PR.nd hpr_310 hVq hdq; ⟨q, hq, h9.1, h9.2⟩) IHS) (cwV 2 hts gX10_rest_X10_block rfl rfl rfl (by decide +kernel) ⟨(by first | exact Nat.le_of_ble_eq_true rfl | (simp only [rm_X10_block, rm_X10_rest]; omega)), (by first | exact Nat.le_of_ble_eq_true rfl | (simp only [rm_X10_block, rm_X10_rest]; omega))⟩) hP hD hK hS hA hev rfl rfl rfl rfl hl.1 rfl (Nat.le_of_ble_eq_true rfl) dX10_rest_352 ⟨(by first | exact Nat.le_of_ble_eq_true rfl | (simp only [rm_X10_rest]; omega)), (by first | exact Nat.le_of_ble_eq_true rfl | (simp only [rm_X10_rest]; omega))⟩ (fun r u H locs hw hP hD hS => ?_)
      obtain ⟨x22_318, x23_319, x24_320, x25_321, x36_322, y26_323, y27_324, y28_325, y29_326, y30_327, y31_328, y32_329, y33_330⟩ := u
      have hw : (∃ z : Int32, r = some (.int z) ∧ (z = 0 ∨ z = 1)) ∧ ((x22_312.toInt ≤ x22_318.toInt ∧ x22_318.toInt ≤ (i 21).toInt) ∧ ∃ dpN : Nat → Nat, PR x36_295 x36_322 dp_307 dpN y26_296 y27_297 y31_301 y32_302 y33_303 y26_323 y27_324 y31_328 y32_329 y33_330) := hw
      obtain ⟨⟨z_332, rfl, hz_z_332⟩, hw_331⟩ := hw
      have hP : va_P (dC, dI) vwCl (mw g h0 b (va_up (va_up (va_up (va_up (va_up i 22 x22_318) 23 x23_319) 24 x24_320) 25 x25_321) 36 x36_322) (va_up (va_up (va_up (va_up (va_up (va_up (va_up (va_up a 26 y26_323) 27 y27_324) 28 y28_325) 29 y29_326) 30 y30_327) 31 y31_328) 32 y32_329) 33 y33_330)) _ := hP
      have hD : va_D _ (mw g h0 b (va_up (va_up (va_up (va_up (va_up i 22 x22_318) 23 x23_319) 24 x24_320) 25 x25_321) 36 x36_322) (va_up (va_up (va_up (va_up (va_up (va_up (va_up (va_up a 26 y26_323) 27 y27_324) 28 y28_325) 29 y29_326) 30 y30_327) 31 y31_328) 32 y32_329) 33 y33_330)) := hD
      refine W.eq (g2 := F0 m 355 ls [.int z_332]) rfl ?_
      obtain ⟨hatq_336, dp_334, hPR_333⟩ := hw_331
      have hpr_337 := PR.tr hpr_310 hPR_333
      refine lv_if_eq (tgt := 362) hx hb dX10_rest_355 (by decide) (fun c_338 => ?_) (fun c_338 => ?_)
      · have nc_338 := eq_i c_338
        have lc_338 : (0 : Int32).toInt = 0 := by decide
        refine lv_iconst (v := 0) hx hb dX10_rest_362 (by decide) ?_
        exact M_z hx hb hr rfl hlocks (x22_318, x23_319, x24_320, x25_321, x36_322, y26_323, y27_324, y28_325, y29_326, y30_327, y31_328, y32_329, y33_330) hP hD hK hS ⟨⟨_, rfl, Or.inl rfl⟩, ⟨⟨by omega, by omega⟩, dp_334, hpr_337⟩⟩ (by first | exact Nat.le_of_ble_eq_true rfl | (simp only [rm_X10_rest]; omega)) (by first | exact Nat.le_of_ble_eq_true rfl | (simp only [rm_X10_rest]; omega)) dX10_rest_363
      · have nc_338 := ne_i c_338
        have lc_338 : (0 : Int32).toInt = 0 := by decide
        refine lv_iconst (v := 1) hx hb dX10_rest_358 (by decide) ?_
        refine lv_goto (tgt := 363) hx hb dX10_rest_359 (by decide) ?_
        exact M_z hx hb hr rfl hlocks (x22_318, x23_319, x24_320, x25_321, x36_322, y26_323, y27_324, y28_325, y29_326, y30_327, y31_328, y32_329, y33_330) hP hD hK hS ⟨⟨_, rfl, Or.inr rfl⟩, ⟨⟨by omega, by omega⟩, dp_334, hpr_337⟩⟩ (by first | exact Nat.le_of_ble_eq_true rfl | (simp only [rm_X10_rest]; omega)) (by first | exact Nat.le_of_ble_eq_true rfl | (simp only [rm_X10_rest]; omega)) dX10_rest_363

theorem inw_X10_step_10 : ∀ w ∈ wsX100, w ∈ wsX10_step := by decide +kernel
set_option maxHeartbeats 1000000 in
set_option maxRecDepth 100000 in
theorem m_X10_step (l : Launch) (dC : Nat → ClassId) (dI : Nat → Nat → Nat) (sa : Nat → Nat) (g : Nat → Nat) (h0 : Nat) (b : Nat → Nat) (j : Nat) (bl : Nat) (dp : Nat → Nat) (i : Nat → Int32) (a : Nat → Nat → Int32) (sz : Nat) (hSI : 0 ≤ (i 22).toInt ∧ (i 22).toInt ≤ (i 21).toInt ∧ (i 21).toInt ≤ 1500) (hPN : PN (i 36) dp (a 26) (a 27) (a 31) (a 32) (a 33)) (hBL : (i 38) = nI bl) (hj : bl + j = 8) (IHS : ∀ j' bl' : Nat, bl' + j' = 8 → j = j' + 1 → ∀ (dp : Nat → Nat) (i : Nat → Int32) (a : Nat → Nat → Int32) (ib : Int32) (sz : Nat) (hSI : 0 ≤ (i 22).toInt ∧ (i 22).toInt ≤ (i 21).toInt ∧ (i 21).toInt ≤ 1500) (hPN : PN (i 36) dp (a 26) (a 27) (a 31) (a 32) (a 33)) (hBL : (i 38) = nI bl'), CT l dC dI sa yX10_steps wsX10_steps (rm_X10_steps j' bl' dp) [.ref h0, .int ib] (mw g h0 b i a) (tyM g) sz (fun (r : Option Value) (u : Int32 × Int32 × Int32 × Int32 × Int32 × (Nat → Int32) × (Nat → Int32) × (Nat → Int32) × (Nat → Int32) × (Nat → Int32) × (Nat → Int32) × (Nat → Int32) × (Nat → Int32)) => match u with | (x22, x23, x24, x25, x36, y26, y27, y28, y29, y30, y31, y32, y33) => (∃ z : Int32, r = some (.int z)) ∧ (((i 22).toInt ≤ x22.toInt ∧ x22.toInt ≤ (i 21).toInt) ∧ ∃ dpN : Nat → Nat, PR (i 36) x36 dp dpN (a 26) (a 27) (a 31) (a 32) (a 33) y26 y27 y31 y32 y33 ∧ (∀ z : Int32, r = some (.int z) → z = -2 ∨ lk (PV x36) dpN bl' z))) (fun (u : Int32 × Int32 × Int32 × Int32 × Int32 × (Nat → Int32) × (Nat → Int32) × (Nat → Int32) × (Nat → Int32) × (Nat → Int32) × (Nat → Int32) × (Nat → Int32) × (Nat → Int32)) => match u with | (x22, x23, x24, x25, x36, y26, y27, y28, y29, y30, y31, y32, y33) => mw g h0 b (va_up (va_up (va_up (va_up (va_up i 22 x22) 23 x23) 24 x24) 25 x25) 36 x36) (va_up (va_up (va_up (va_up (va_up (va_up (va_up (va_up a 26 y26) 27 y27) 28 y28) 29 y29) 30 y30) 31 y31) 32 y32) 33 y33)) (fun _ => []) 0 0) : CT l dC dI sa yX10_step wsX10_step (rm_X10_step j bl dp) [.ref h0] (mw g h0 b i a) (tyM g) sz (fun (r : Option Value) (u : Int32 × Int32 × Int32 × Int32 × Int32 × (Nat → Int32) × (Nat → Int32) × (Nat → Int32) × (Nat → Int32) × (Nat → Int32) × (Nat → Int32) × (Nat → Int32) × (Nat → Int32)) => match u with | (x22, x23, x24, x25, x36, y26, y27, y28, y29, y30, y31, y32, y33) => (∃ z : Int32, r = some (.int z)) ∧ (((i 22).toInt ≤ x22.toInt ∧ x22.toInt ≤ (i 21).toInt) ∧ ∃ dpN : Nat → Nat, PR (i 36) x36 dp dpN (a 26) (a 27) (a 31) (a 32) (a 33) y26 y27 y31 y32 y33 ∧ (∀ z : Int32, r = some (.int z) → z = -1 ∨ (∃ q : Nat, z = nI q ∧ PV x36 q ∧ dpN q = bl) ∧ (i 36).toInt < x36.toInt))) (fun (u : Int32 × Int32 × Int32 × Int32 × Int32 × (Nat → Int32) × (Nat → Int32) × (Nat → Int32) × (Nat → Int32) × (Nat → Int32) × (Nat → Int32) × (Nat → Int32) × (Nat → Int32)) => match u with | (x22, x23, x24, x25, x36, y26, y27, y28, y29, y30, y31, y32, y33) => mw g h0 b (va_up (va_up (va_up (va_up (va_up i 22 x22) 23 x23) 24 x24) 25 x25) 36 x36) (va_up (va_up (va_up (va_up (va_up (va_up (va_up (va_up a 26 y26) 27 y27) 28 y28) 29 y29) 30 y30) 31 y31) 32 y32) 33 y33)) (fun _ => []) 0 0 := by
  refine CT.start (cc := cX10_step) (maxL := 3) (ret := (some .int)) (by decide) rfl (Nat.le_of_ble_eq_true rfl) ?_
  intro p e s m below meth c ls hst hP hK hD hev hS hl
  obtain ⟨hx, hb, hr, hml, hts, hown, hlocks, hin⟩ := hst
  have hown : s.vm.findClass RX10 = some m.cls := hown
  have hA : ∀ q : Nat, s.heap.size ≤ q → va_A (mw g h0 b i a) s.heap.size q := fun _ h => Or.inr h
  have hl : lv_has ls 3 [(0, .ref h0)] := hl
  refine lv_aload_n hx hb dX10_step_0 rfl (lv_at hl 0 rfl) ?_
  refine M_V ⟨hx, hb, hml, hown, hts⟩ (m_X10_word l dC dI sa g h0 b i a  _ (show 0 ≤ (i 22).toInt ∧ (i 22).toInt ≤ (i 21).toInt ∧ (i 21).toInt ≤ 1500 from by omega)) (cwV 0 hts gX10_step_X10_word rfl rfl rfl (by decide +kernel) ⟨(by first | exact Nat.le_of_ble_eq_true rfl | (simp only [rm_X10_word, rm_X10_step]; omega)), (by first | exact Nat.le_of_ble_eq_true rfl | (simp only [rm_X10_word, rm_X10_step]; omega))⟩) hP hD hK hS hA hev rfl rfl rfl rfl hl.1 rfl (Nat.le_of_ble_eq_true rfl) dX10_step_1 ⟨(by first | exact Nat.le_of_ble_eq_true rfl | (simp only [rm_X10_step]; omega)), (by first | exact Nat.le_of_ble_eq_true rfl | (simp only [rm_X10_step]; omega))⟩ (fun r u H locs hw hP hD hS => ?_)
  obtain ⟨x22_1, rfl⟩ : ∃ z, z = u := ⟨_, rfl⟩
  have hw : (∃ z : Int32, r = some (.int z) ∧ (z = -1 ∨ ∃ q : Nat, z = nI q ∧ q ≤ 18 ∧ x22_1.toInt + (lenS.getD q 0 : Int) ≤ (i 21).toInt)) ∧ ((i 22).toInt ≤ x22_1.toInt ∧ x22_1.toInt ≤ (i 21).toInt) := hw
  obtain ⟨⟨z_3, rfl, hz_z_3⟩, hw_2⟩ := hw
  have hP : va_P (dC, dI) vwCl (mw g h0 b (va_up i 22 x22_1) a) _ := hP
  have hD : va_D _ (mw g h0 b (va_up i 22 x22_1) a) := hD
  refine W.eq (g2 := F0 m 4 ls [.int z_3]) rfl ?_
  refine lv_istore_n (lv' := [(1, .int z_3), (0, .ref h0)]) hx hb dX10_step_4 rfl hl (by decide) rfl (fun ls hl => ?_)
  refine lv_iload_n hx hb dX10_step_5 rfl (lv_at hl 0 rfl) ?_
  refine lv_iconst (v := (-1)) hx hb dX10_step_6 (by decide) ?_
  refine lv_icmp_eq (tgt := 16) hx hb dX10_step_7 (by decide) (fun c_4 => ?_) (fun c_4 => ?_)
  · have nc_4 := eq_i c_4
    have lc_4 : ((-1) : Int32).toInt = -1 := by decide
    refine lv_aload_n hx hb dX10_step_16 rfl (lv_at hl 1 rfl) ?_
    refine lv_iconst (v := 1) hx hb dX10_step_17 (by decide) ?_
    refine lv_aload_n hx hb dX10_step_18 rfl (lv_at hl 1 rfl) ?_
    refine va_get (D := (dC, dI)) (ci := 10) (v := .int x22_1) (C := RX10) (T := TX10) (N := 51) hx hb hts inw_X10_step_10 hown hK hP 0 rfl rfl 22 (by decide) (hts (.fieldLink RX10 168 "VatHouseModel" "at" "I") (by decide +kernel)) (fun _ h9 => h9) rfl dX10_step_19 ?_
    refine M_V ⟨hx, hb, hml, hown, hts⟩ (m_X10_wrong l dC dI sa g h0 b (va_up i 22 x22_1) a (1 : Int32) x22_1 _ ) (cwV 2 hts gX10_step_X10_wrong rfl rfl rfl (by decide +kernel) ⟨(by first | exact Nat.le_of_ble_eq_true rfl | (simp only [rm_X10_wrong, rm_X10_step]; omega)), (by first | exact Nat.le_of_ble_eq_true rfl | (simp only [rm_X10_wrong, rm_X10_step]; omega))⟩) hP hD hK hS hA hev rfl rfl rfl rfl hl.1 rfl (Nat.le_of_ble_eq_true rfl) dX10_step_22 ⟨(by first | exact Nat.le_of_ble_eq_true rfl | (simp only [rm_X10_step]; omega)), (by first | exact Nat.le_of_ble_eq_true rfl | (simp only [rm_X10_step]; omega))⟩ (fun r u H locs hw hP hD hS => ?_)
    obtain ⟨x23_5, x24_6⟩ := u
    have hw : ((r = some (.int 0) ∧ (True)) ∨ (r = some (.int 1) ∧ (False))) ∧ (True) := hw
    obtain ⟨⟨rfl, hz2_8⟩ | ⟨rfl, hz2_8⟩, hw_7⟩ := hw
    · have hP : va_P (dC, dI) vwCl (mw g h0 b (va_up (va_up (va_up i 22 x22_1) 23 x23_5) 24 x24_6) a) _ := hP
      have hD : va_D _ (mw g h0 b (va_up (va_up (va_up i 22 x22_1) 23 x23_5) 24 x24_6) a) := hD
      refine W.eq (g2 := F0 m 25 ls [.int 0]) rfl ?_
      refine lv_pop hx hb dX10_step_25 rfl ?_
      refine lv_iconst (v := (-1)) hx hb dX10_step_26 (by decide) ?_
      exact M_i hx hb hr hlocks (x22_1, x23_5, x24_6, (i 25), (i 36), (a 26), (a 27), (a 28), (a 29), (a 30), (a 31), (a 32), (a 33)) hP hD hK hS ⟨⟨_, rfl⟩, ⟨⟨by omega, by omega⟩, dp, (PR.rf hPN), fun z9 h9 => Or.inl (by cases h9; rfl)⟩⟩ (by first | exact Nat.le_of_ble_eq_true rfl | (simp only [rm_X10_step]; omega)) (by first | exact Nat.le_of_ble_eq_true rfl | (simp only [rm_X10_step]; omega)) dX10_step_27
    · have hP : va_P (dC, dI) vwCl (mw g h0 b (va_up (va_up (va_up i 22 x22_1) 23 x23_5) 24 x24_6) a) _ := hP
      have hD : va_D _ (mw g h0 b (va_up (va_up (va_up i 22 x22_1) 23 x23_5) 24 x24_6) a) := hD
      refine W.eq (g2 := F0 m 25 ls [.int 1]) rfl ?_
      exact hz2_8.elim
  · have nc_4 := ne_i c_4
    have lc_4 : ((-1) : Int32).toInt = -1 := by decide
    refine lv_iload_n hx hb dX10_step_10 rfl (lv_at hl 0 rfl) ?_
    refine lv_bipush (v := 11) hx hb dX10_step_11 (by decide) ?_
    refine lv_icmp_le (tgt := 28) hx hb dX10_step_13 (by decide) (fun c_9 => ?_) (fun c_9 => ?_)
    · have nc_9 := le_i c_9
      have lc_9 : (11 : Int32).toInt = 11 := by decide
      refine lv_aload_n hx hb dX10_step_28 rfl (lv_at hl 1 rfl) ?_
      refine va_get (D := (dC, dI)) (ci := 10) (v := .int (i 36)) (C := RX10) (T := TX10) (N := 51) hx hb hts inw_X10_step_10 hown hK hP 0 rfl rfl 36 (by decide) (hts (.fieldLink RX10 249 "VatHouseModel" "nodes" "I") (by decide +kernel)) (fun _ h9 => h9) rfl dX10_step_29 ?_
      refine lv_sipush (v := 300) hx hb dX10_step_32 (by decide) ?_
      refine lv_icmp_ne (tgt := 50) hx hb dX10_step_35 (by decide) (fun c_10 => ?_) (fun c_10 => ?_)
      · have nc_10 := ne_i c_10
        have lc_10 : (300 : Int32).toInt = 300 := by decide
        refine lv_sipush (v := 2400) hx hb dX10_step_50 (by decide) ?_
        refine lv_aload_n hx hb dX10_step_53 rfl (lv_at hl 1 rfl) ?_
        refine va_get (D := (dC, dI)) (ci := 10) (v := .int (i 36)) (C := RX10) (T := TX10) (N := 51) hx hb hts inw_X10_step_10 hown hK hP 0 rfl rfl 36 (by decide) (hts (.fieldLink RX10 249 "VatHouseModel" "nodes" "I") (by decide +kernel)) (fun _ h9 => h9) rfl dX10_step_54 ?_
        refine lv_iadd hx hb dX10_step_57 ?_
        refine lv_topi (fun z_11 ez_11 => ?_)
        refine lv_istore_n (lv' := [(2, .int z_11), (1, .int z_3), (0, .ref h0)]) hx hb dX10_step_58 rfl hl (by decide) rfl (fun ls hl => ?_)
        refine lv_aload_n hx hb dX10_step_59 rfl (lv_at hl 2 rfl) ?_
        refine lv_dup hx hb dX10_step_60 rfl ?_
        refine va_get (D := (dC, dI)) (ci := 10) (v := .int (i 36)) (C := RX10) (T := TX10) (N := 51) hx hb hts inw_X10_step_10 hown hK hP 0 rfl rfl 36 (by decide) (hts (.fieldLink RX10 249 "VatHouseModel" "nodes" "I") (by decide +kernel)) (fun _ h9 => h9) rfl dX10_step_61 ?_
        refine lv_iconst (v := 1) hx hb dX10_step_64 (by decide) ?_
        refine lv_iadd hx hb dX10_step_65 ?_
        refine lv_topi (fun z_12 ez_12 => ?_)
        refine va_put (D := (dC, dI)) (ci := 10) (v := .int z_12) (ty := .int) (C := RX10) (T := TX10) (N := 51) hx hb hts inw_X10_step_10 tyX10 tyX10_ok nmX10 hown hK hP hD hS 0 rfl rfl 36 (by decide) (hts (.fieldLink RX10 249 "VatHouseModel" "nodes" "I") (by decide +kernel)) (fun _ h9 => h9) rfl (by decide +kernel) rfl rfl (Nat.le_of_ble_eq_true rfl) dX10_step_66 (fun H locs hP hD hS => ?_)
        have hP : va_P (dC, dI) vwCl (mw g h0 b (va_up (va_up i 22 x22_1) 36 z_12) a) _ := hP
        have hD : va_D _ (mw g h0 b (va_up (va_up i 22 x22_1) 36 z_12) a) := hD
        obtain ⟨q, hq, hVq, hdq, hnn, hp0⟩ := PN.new (w := z_3) (bl := bl) hPN (by omega) ez_11 ez_12 (by omega)
        have hk : vp_in z_11 2700 := by rw [hq]; exact vp_in_nI (by have := hVq.2; have := hp0.2.1.2.1; omega) (by decide)
        refine lv_aload_n hx hb dX10_step_69 rfl (lv_at hl 2 rfl) ?_
        refine va_get (D := (dC, dI)) (ci := 10) (v := .ref (b 26)) (C := RX10) (T := TX10) (N := 51) hx hb hts inw_X10_step_10 hown hK hP 0 rfl rfl 26 (by decide) (hts (.fieldLink RX10 60 "VatHouseModel" "kind" "[I") (by decide +kernel)) (fun _ h9 => h9) rfl dX10_step_70 ?_
        refine lv_iload_n hx hb dX10_step_73 rfl (lv_at hl 0 rfl) ?_
        refine lv_iload_n hx hb dX10_step_74 rfl (lv_at hl 1 rfl) ?_
        refine va_iast hx hb hK hP hD hS 16 0 rfl rfl (by assumption) dX10_step_75 (fun H locs hP hD hS => ?_)
        have hP : va_P (dC, dI) vwCl (mw g h0 b (va_up (va_up i 22 x22_1) 36 z_12) (va_up a 26 (upd (a 26) z_11.toNatClampNeg z_3))) _ := hP
        have hD : va_D _ (mw g h0 b (va_up (va_up i 22 x22_1) 36 z_12) (va_up a 26 (upd (a 26) z_11.toNatClampNeg z_3))) := hD
        obtain ⟨f_13, ef_13⟩ : ∃ z, z = (upd (a 26) z_11.toNatClampNeg z_3) := ⟨_, rfl⟩
        rw [← ef_13] at hP hD
        refine lv_aload_n hx hb dX10_step_76 rfl (lv_at hl 2 rfl) ?_
        refine va_get (D := (dC, dI)) (ci := 10) (v := .ref (b 27)) (C := RX10) (T := TX10) (N := 51) hx hb hts inw_X10_step_10 hown hK hP 0 rfl rfl 27 (by decide) (hts (.fieldLink RX10 63 "VatHouseModel" "one" "[I") (by decide +kernel)) (fun _ h9 => h9) rfl dX10_step_77 ?_
        refine lv_iload_n hx hb dX10_step_80 rfl (lv_at hl 0 rfl) ?_
        refine lv_iconst (v := 0) hx hb dX10_step_81 (by decide) ?_
        refine va_iast hx hb hK hP hD hS 17 0 rfl rfl (by assumption) dX10_step_82 (fun H locs hP hD hS => ?_)
        have hP : va_P (dC, dI) vwCl (mw g h0 b (va_up (va_up i 22 x22_1) 36 z_12) (va_up (va_up a 26 f_13) 27 (upd (a 27) z_11.toNatClampNeg (0 : Int32)))) _ := hP
        have hD : va_D _ (mw g h0 b (va_up (va_up i 22 x22_1) 36 z_12) (va_up (va_up a 26 f_13) 27 (upd (a 27) z_11.toNatClampNeg (0 : Int32)))) := hD
        obtain ⟨f_14, ef_14⟩ : ∃ z, z = (upd (a 27) z_11.toNatClampNeg (0 : Int32)) := ⟨_, rfl⟩
        rw [← ef_14] at hP hD
        refine lv_aload_n hx hb dX10_step_83 rfl (lv_at hl 2 rfl) ?_
        refine va_get (D := (dC, dI)) (ci := 10) (v := .ref (b 28)) (C := RX10) (T := TX10) (N := 51) hx hb hts inw_X10_step_10 hown hK hP 0 rfl rfl 28 (by decide) (hts (.fieldLink RX10 66 "VatHouseModel" "two" "[I") (by decide +kernel)) (fun _ h9 => h9) rfl dX10_step_84 ?_
        refine lv_iload_n hx hb dX10_step_87 rfl (lv_at hl 0 rfl) ?_
        refine lv_iconst (v := 0) hx hb dX10_step_88 (by decide) ?_
        refine va_iast hx hb hK hP hD hS 18 0 rfl rfl (by assumption) dX10_step_89 (fun H locs hP hD hS => ?_)
        have hP : va_P (dC, dI) vwCl (mw g h0 b (va_up (va_up i 22 x22_1) 36 z_12) (va_up (va_up (va_up a 26 f_13) 27 f_14) 28 (upd (a 28) z_11.toNatClampNeg (0 : Int32)))) _ := hP
        have hD : va_D _ (mw g h0 b (va_up (va_up i 22 x22_1) 36 z_12) (va_up (va_up (va_up a 26 f_13) 27 f_14) 28 (upd (a 28) z_11.toNatClampNeg (0 : Int32)))) := hD
        obtain ⟨f_15, ef_15⟩ : ∃ z, z = (upd (a 28) z_11.toNatClampNeg (0 : Int32)) := ⟨_, rfl⟩
        rw [← ef_15] at hP hD
        refine lv_aload_n hx hb dX10_step_90 rfl (lv_at hl 2 rfl) ?_
        refine va_get (D := (dC, dI)) (ci := 10) (v := .ref (b 31)) (C := RX10) (T := TX10) (N := 51) hx hb hts inw_X10_step_10 hown hK hP 0 rfl rfl 31 (by decide) (hts (.fieldLink RX10 75 "VatHouseModel" "inner" "[I") (by decide +kernel)) (fun _ h9 => h9) rfl dX10_step_91 ?_
        refine lv_iload_n hx hb dX10_step_94 rfl (lv_at hl 0 rfl) ?_
        refine lv_iconst (v := (-1)) hx hb dX10_step_95 (by decide) ?_
        refine va_iast hx hb hK hP hD hS 21 0 rfl rfl (by assumption) dX10_step_96 (fun H locs hP hD hS => ?_)
        have hP : va_P (dC, dI) vwCl (mw g h0 b (va_up (va_up i 22 x22_1) 36 z_12) (va_up (va_up (va_up (va_up a 26 f_13) 27 f_14) 28 f_15) 31 (upd (a 31) z_11.toNatClampNeg ((-1) : Int32)))) _ := hP
        have hD : va_D _ (mw g h0 b (va_up (va_up i 22 x22_1) 36 z_12) (va_up (va_up (va_up (va_up a 26 f_13) 27 f_14) 28 f_15) 31 (upd (a 31) z_11.toNatClampNeg ((-1) : Int32)))) := hD
        obtain ⟨f_16, ef_16⟩ : ∃ z, z = (upd (a 31) z_11.toNatClampNeg ((-1) : Int32)) := ⟨_, rfl⟩
        rw [← ef_16] at hP hD
        refine lv_aload_n hx hb dX10_step_97 rfl (lv_at hl 2 rfl) ?_
        refine va_get (D := (dC, dI)) (ci := 10) (v := .ref (b 32)) (C := RX10) (T := TX10) (N := 51) hx hb hts inw_X10_step_10 hown hK hP 0 rfl rfl 32 (by decide) (hts (.fieldLink RX10 78 "VatHouseModel" "other" "[I") (by decide +kernel)) (fun _ h9 => h9) rfl dX10_step_98 ?_
        refine lv_iload_n hx hb dX10_step_101 rfl (lv_at hl 0 rfl) ?_
        refine lv_iconst (v := (-1)) hx hb dX10_step_102 (by decide) ?_
        refine va_iast hx hb hK hP hD hS 22 0 rfl rfl (by assumption) dX10_step_103 (fun H locs hP hD hS => ?_)
        have hP : va_P (dC, dI) vwCl (mw g h0 b (va_up (va_up i 22 x22_1) 36 z_12) (va_up (va_up (va_up (va_up (va_up a 26 f_13) 27 f_14) 28 f_15) 31 f_16) 32 (upd (a 32) z_11.toNatClampNeg ((-1) : Int32)))) _ := hP
        have hD : va_D _ (mw g h0 b (va_up (va_up i 22 x22_1) 36 z_12) (va_up (va_up (va_up (va_up (va_up a 26 f_13) 27 f_14) 28 f_15) 31 f_16) 32 (upd (a 32) z_11.toNatClampNeg ((-1) : Int32)))) := hD
        obtain ⟨f_17, ef_17⟩ : ∃ z, z = (upd (a 32) z_11.toNatClampNeg ((-1) : Int32)) := ⟨_, rfl⟩
        rw [← ef_17] at hP hD
        refine lv_aload_n hx hb dX10_step_104 rfl (lv_at hl 2 rfl) ?_
        refine va_get (D := (dC, dI)) (ci := 10) (v := .ref (b 33)) (C := RX10) (T := TX10) (N := 51) hx hb hts inw_X10_step_10 hown hK hP 0 rfl rfl 33 (by decide) (hts (.fieldLink RX10 81 "VatHouseModel" "next" "[I") (by decide +kernel)) (fun _ h9 => h9) rfl dX10_step_105 ?_
        refine lv_iload_n hx hb dX10_step_108 rfl (lv_at hl 0 rfl) ?_
        refine lv_iconst (v := (-1)) hx hb dX10_step_109 (by decide) ?_
        refine va_iast hx hb hK hP hD hS 23 0 rfl rfl (by assumption) dX10_step_110 (fun H locs hP hD hS => ?_)
        have hP : va_P (dC, dI) vwCl (mw g h0 b (va_up (va_up i 22 x22_1) 36 z_12) (va_up (va_up (va_up (va_up (va_up (va_up a 26 f_13) 27 f_14) 28 f_15) 31 f_16) 32 f_17) 33 (upd (a 33) z_11.toNatClampNeg ((-1) : Int32)))) _ := hP
        have hD : va_D _ (mw g h0 b (va_up (va_up i 22 x22_1) 36 z_12) (va_up (va_up (va_up (va_up (va_up (va_up a 26 f_13) 27 f_14) 28 f_15) 31 f_16) 32 f_17) 33 (upd (a 33) z_11.toNatClampNeg ((-1) : Int32)))) := hD
        obtain ⟨f_18, ef_18⟩ : ∃ z, z = (upd (a 33) z_11.toNatClampNeg ((-1) : Int32)) := ⟨_, rfl⟩
        rw [← ef_18] at hP hD
        rw [← ef_13, ← ef_14, ← ef_16, ← ef_17, ← ef_18] at hp0
        have hpr_19 := PR.tr (PR.rf hPN) hp0
        refine lv_aload_n hx hb dX10_step_111 rfl (lv_at hl 2 rfl) ?_
        refine lv_iload_n hx hb dX10_step_112 rfl (lv_at hl 1 rfl) ?_
        refine M_V ⟨hx, hb, hml, hown, hts⟩ (m_X10_pass l dC dI sa g h0 b (va_up (va_up i 22 x22_1) 36 z_12) (va_up (va_up (va_up (va_up (va_up (va_up a 26 f_13) 27 f_14) 28 f_15) 31 f_16) 32 f_17) 33 f_18) z_3 _ (show 0 ≤ x22_1.toInt ∧ x22_1.toInt ≤ (i 21).toInt ∧ (i 21).toInt ≤ 1500 from by omega) (hz_z_3.resolve_left c_4)) (cwV 1 hts gX10_step_X10_pass rfl rfl rfl (by decide +kernel) ⟨(by first | exact Nat.le_of_ble_eq_true rfl | (simp only [rm_X10_pass, rm_X10_step]; omega)), (by first | exact Nat.le_of_ble_eq_true rfl | (simp only [rm_X10_pass, rm_X10_step]; omega))⟩) hP hD hK hS hA hev rfl rfl rfl rfl hl.1 rfl (Nat.le_of_ble_eq_true rfl) dX10_step_113 ⟨(by first | exact Nat.le_of_ble_eq_true rfl | (simp only [rm_X10_step]; omega)), (by first | exact Nat.le_of_ble_eq_true rfl | (simp only [rm_X10_step]; omega))⟩ (fun r u H locs hw hP hD hS => ?_)
        obtain ⟨x22_20, rfl⟩ : ∃ z, z = u := ⟨_, rfl⟩
        have hw : (r = none) ∧ (x22_1.toInt ≤ x22_20.toInt ∧ x22_20.toInt ≤ (i 21).toInt) := hw
        obtain ⟨rfl, hw_21⟩ := hw
        have hP : va_P (dC, dI) vwCl (mw g h0 b (va_up (va_up i 22 x22_20) 36 z_12) (va_up (va_up (va_up (va_up (va_up (va_up a 26 f_13) 27 f_14) 28 f_15) 31 f_16) 32 f_17) 33 f_18)) _ := hP
        have hD : va_D _ (mw g h0 b (va_up (va_up i 22 x22_20) 36 z_12) (va_up (va_up (va_up (va_up (va_up (va_up a 26 f_13) 27 f_14) 28 f_15) 31 f_16) 32 f_17) 33 f_18)) := hD
        refine W.eq (g2 := F0 m 116 ls []) rfl ?_
        refine lv_aload_n hx hb dX10_step_116 rfl (lv_at hl 2 rfl) ?_
        refine lv_iload_n hx hb dX10_step_117 rfl (lv_at hl 0 rfl) ?_
        refine M_V ⟨hx, hb, hml, hown, hts⟩ (m_X10_rest l dC dI sa g h0 b j bl (va_up dp q bl) (va_up (va_up i 22 x22_20) 36 z_12) (va_up (va_up (va_up (va_up (va_up (va_up a 26 f_13) 27 f_14) 28 f_15) 31 f_16) 32 f_17) 33 f_18) z_11 _ (show 0 ≤ x22_20.toInt ∧ x22_20.toInt ≤ (i 21).toInt ∧ (i 21).toInt ≤ 1500 from by omega) hp0.2.1 hBL hj (show ∃ q0 : Nat, z_11 = nI q0 ∧ PV z_12 q0 ∧ (va_up dp q bl) q0 = bl from ⟨q, hq, hVq, hdq⟩) IHS) (cwV 1 hts gX10_step_X10_rest rfl rfl rfl (by decide +kernel) ⟨(by first | exact Nat.le_of_ble_eq_true rfl | (simp only [rm_X10_rest, rm_X10_step]; omega)), (by first | exact Nat.le_of_ble_eq_true rfl | (simp only [rm_X10_rest, rm_X10_step]; omega))⟩) hP hD hK hS hA hev rfl rfl rfl rfl hl.1 rfl (Nat.le_of_ble_eq_true rfl) dX10_step_118 ⟨(by first | exact Nat.le_of_ble_eq_true rfl | (simp only [rm_X10_step]; omega)), (by first | exact Nat.le_of_ble_eq_true rfl | (simp only [rm_X10_step]; omega))⟩ (fun r u H locs hw hP hD hS => ?_)
        obtain ⟨x22_22, x23_23, x24_24, x25_25, x36_26, y26_27, y27_28, y28_29, y29_30, y30_31, y31_32, y32_33, y33_34⟩ := u
        have hw : (∃ z : Int32, r = some (.int z) ∧ (z = 0 ∨ z = 1)) ∧ ((x22_20.toInt ≤ x22_22.toInt ∧ x22_22.toInt ≤ (i 21).toInt) ∧ ∃ dpN : Nat → Nat, PR z_12 x36_26 (va_up dp q bl) dpN f_13 f_14 f_16 f_17 f_18 y26_27 y27_28 y31_32 y32_33 y33_34) := hw
        obtain ⟨⟨z_36, rfl, hz_z_36⟩, hw_35⟩ := hw
        have hP : va_P (dC, dI) vwCl (mw g h0 b (va_up (va_up (va_up (va_up (va_up i 22 x22_22) 23 x23_23) 24 x24_24) 25 x25_25) 36 x36_26) (va_up (va_up (va_up (va_up (va_up (va_up (va_up (va_up a 26 y26_27) 27 y27_28) 28 y28_29) 29 y29_30) 30 y30_31) 31 y31_32) 32 y32_33) 33 y33_34)) _ := hP
        have hD : va_D _ (mw g h0 b (va_up (va_up (va_up (va_up (va_up i 22 x22_22) 23 x23_23) 24 x24_24) 25 x25_25) 36 x36_26) (va_up (va_up (va_up (va_up (va_up (va_up (va_up (va_up a 26 y26_27) 27 y27_28) 28 y28_29) 29 y29_30) 30 y30_31) 31 y31_32) 32 y32_33) 33 y33_34)) := hD
        refine W.eq (g2 := F0 m 121 ls [.int z_36]) rfl ?_
        obtain ⟨hatq_40, dp_38, hPR_37⟩ := hw_35
        have hpr_41 := PR.tr hpr_19 hPR_37
        refine lv_if_eq (tgt := 128) hx hb dX10_step_121 (by decide) (fun c_42 => ?_) (fun c_42 => ?_)
        · have nc_42 := eq_i c_42
          have lc_42 : (0 : Int32).toInt = 0 := by decide
          refine lv_iconst (v := (-1)) hx hb dX10_step_128 (by decide) ?_
          exact M_i hx hb hr hlocks (x22_22, x23_23, x24_24, x25_25, x36_26, y26_27, y27_28, y28_29, y29_30, y30_31, y31_32, y32_33, y33_34) hP hD hK hS ⟨⟨_, rfl⟩, ⟨⟨by omega, by omega⟩, dp_38, hpr_41, fun z9 h9 => Or.inl (by cases h9; rfl)⟩⟩ (by first | exact Nat.le_of_ble_eq_true rfl | (simp only [rm_X10_step]; omega)) (by first | exact Nat.le_of_ble_eq_true rfl | (simp only [rm_X10_step]; omega)) dX10_step_129
        · have nc_42 := ne_i c_42
          have lc_42 : (0 : Int32).toInt = 0 := by decide
          refine lv_iload_n hx hb dX10_step_124 rfl (lv_at hl 0 rfl) ?_
          refine lv_goto (tgt := 129) hx hb dX10_step_125 (by decide) ?_
          exact M_i hx hb hr hlocks (x22_22, x23_23, x24_24, x25_25, x36_26, y26_27, y27_28, y28_29, y29_30, y30_31, y31_32, y32_33, y33_34) hP hD hK hS ⟨⟨_, rfl⟩, ⟨⟨by omega, by omega⟩, dp_38, hpr_41, fun z9 h9 => by cases h9; exact Or.inr ⟨⟨q, hq, PR.nd hPR_37 hVq hdq⟩, by have := hPR_37.2.2.2; omega⟩⟩⟩ (by first | exact Nat.le_of_ble_eq_true rfl | (simp only [rm_X10_step]; omega)) (by first | exact Nat.le_of_ble_eq_true rfl | (simp only [rm_X10_step]; omega)) dX10_step_129
      · have nc_10 := eq_i c_10
        have lc_10 : (300 : Int32).toInt = 300 := by decide
        refine lv_aload_n hx hb dX10_step_38 rfl (lv_at hl 1 rfl) ?_
        refine lv_iconst (v := 2) hx hb dX10_step_39 (by decide) ?_
        refine lv_aload_n hx hb dX10_step_40 rfl (lv_at hl 1 rfl) ?_
        refine va_get (D := (dC, dI)) (ci := 10) (v := .int x22_1) (C := RX10) (T := TX10) (N := 51) hx hb hts inw_X10_step_10 hown hK hP 0 rfl rfl 22 (by decide) (hts (.fieldLink RX10 168 "VatHouseModel" "at" "I") (by decide +kernel)) (fun _ h9 => h9) rfl dX10_step_41 ?_
        refine M_V ⟨hx, hb, hml, hown, hts⟩ (m_X10_wrong l dC dI sa g h0 b (va_up i 22 x22_1) a (2 : Int32) x22_1 _ ) (cwV 2 hts gX10_step_X10_wrong rfl rfl rfl (by decide +kernel) ⟨(by first | exact Nat.le_of_ble_eq_true rfl | (simp only [rm_X10_wrong, rm_X10_step]; omega)), (by first | exact Nat.le_of_ble_eq_true rfl | (simp only [rm_X10_wrong, rm_X10_step]; omega))⟩) hP hD hK hS hA hev rfl rfl rfl rfl hl.1 rfl (Nat.le_of_ble_eq_true rfl) dX10_step_44 ⟨(by first | exact Nat.le_of_ble_eq_true rfl | (simp only [rm_X10_step]; omega)), (by first | exact Nat.le_of_ble_eq_true rfl | (simp only [rm_X10_step]; omega))⟩ (fun r u H locs hw hP hD hS => ?_)
        obtain ⟨x23_43, x24_44⟩ := u
        have hw : ((r = some (.int 0) ∧ (True)) ∨ (r = some (.int 1) ∧ (False))) ∧ (True) := hw
        obtain ⟨⟨rfl, hz2_46⟩ | ⟨rfl, hz2_46⟩, hw_45⟩ := hw
        · have hP : va_P (dC, dI) vwCl (mw g h0 b (va_up (va_up (va_up i 22 x22_1) 23 x23_43) 24 x24_44) a) _ := hP
          have hD : va_D _ (mw g h0 b (va_up (va_up (va_up i 22 x22_1) 23 x23_43) 24 x24_44) a) := hD
          refine W.eq (g2 := F0 m 47 ls [.int 0]) rfl ?_
          refine lv_pop hx hb dX10_step_47 rfl ?_
          refine lv_iconst (v := (-1)) hx hb dX10_step_48 (by decide) ?_
          exact M_i hx hb hr hlocks (x22_1, x23_43, x24_44, (i 25), (i 36), (a 26), (a 27), (a 28), (a 29), (a 30), (a 31), (a 32), (a 33)) hP hD hK hS ⟨⟨_, rfl⟩, ⟨⟨by omega, by omega⟩, dp, (PR.rf hPN), fun z9 h9 => Or.inl (by cases h9; rfl)⟩⟩ (by first | exact Nat.le_of_ble_eq_true rfl | (simp only [rm_X10_step]; omega)) (by first | exact Nat.le_of_ble_eq_true rfl | (simp only [rm_X10_step]; omega)) dX10_step_49
        · have hP : va_P (dC, dI) vwCl (mw g h0 b (va_up (va_up (va_up i 22 x22_1) 23 x23_43) 24 x24_44) a) _ := hP
          have hD : va_D _ (mw g h0 b (va_up (va_up (va_up i 22 x22_1) 23 x23_43) 24 x24_44) a) := hD
          refine W.eq (g2 := F0 m 47 ls [.int 1]) rfl ?_
          exact hz2_46.elim
    · have nc_9 := nle_i c_9
      have lc_9 : (11 : Int32).toInt = 11 := by decide
      refine lv_aload_n hx hb dX10_step_16 rfl (lv_at hl 1 rfl) ?_
      refine lv_iconst (v := 1) hx hb dX10_step_17 (by decide) ?_
      refine lv_aload_n hx hb dX10_step_18 rfl (lv_at hl 1 rfl) ?_
      refine va_get (D := (dC, dI)) (ci := 10) (v := .int x22_1) (C := RX10) (T := TX10) (N := 51) hx hb hts inw_X10_step_10 hown hK hP 0 rfl rfl 22 (by decide) (hts (.fieldLink RX10 168 "VatHouseModel" "at" "I") (by decide +kernel)) (fun _ h9 => h9) rfl dX10_step_19 ?_
      refine M_V ⟨hx, hb, hml, hown, hts⟩ (m_X10_wrong l dC dI sa g h0 b (va_up i 22 x22_1) a (1 : Int32) x22_1 _ ) (cwV 2 hts gX10_step_X10_wrong rfl rfl rfl (by decide +kernel) ⟨(by first | exact Nat.le_of_ble_eq_true rfl | (simp only [rm_X10_wrong, rm_X10_step]; omega)), (by first | exact Nat.le_of_ble_eq_true rfl | (simp only [rm_X10_wrong, rm_X10_step]; omega))⟩) hP hD hK hS hA hev rfl rfl rfl rfl hl.1 rfl (Nat.le_of_ble_eq_true rfl) dX10_step_22 ⟨(by first | exact Nat.le_of_ble_eq_true rfl | (simp only [rm_X10_step]; omega)), (by first | exact Nat.le_of_ble_eq_true rfl | (simp only [rm_X10_step]; omega))⟩ (fun r u H locs hw hP hD hS => ?_)
      obtain ⟨x23_47, x24_48⟩ := u
      have hw : ((r = some (.int 0) ∧ (True)) ∨ (r = some (.int 1) ∧ (False))) ∧ (True) := hw
      obtain ⟨⟨rfl, hz2_50⟩ | ⟨rfl, hz2_50⟩, hw_49⟩ := hw
      · have hP : va_P (dC, dI) vwCl (mw g h0 b (va_up (va_up (va_up i 22 x22_1) 23 x23_47) 24 x24_48) a) _ := hP
        have hD : va_D _ (mw g h0 b (va_up (va_up (va_up i 22 x22_1) 23 x23_47) 24 x24_48) a) := hD
        refine W.eq (g2 := F0 m 25 ls [.int 0]) rfl ?_
        refine lv_pop hx hb dX10_step_25 rfl ?_
        refine lv_iconst (v := (-1)) hx hb dX10_step_26 (by decide) ?_
        exact M_i hx hb hr hlocks (x22_1, x23_47, x24_48, (i 25), (i 36), (a 26), (a 27), (a 28), (a 29), (a 30), (a 31), (a 32), (a 33)) hP hD hK hS ⟨⟨_, rfl⟩, ⟨⟨by omega, by omega⟩, dp, (PR.rf hPN), fun z9 h9 => Or.inl (by cases h9; rfl)⟩⟩ (by first | exact Nat.le_of_ble_eq_true rfl | (simp only [rm_X10_step]; omega)) (by first | exact Nat.le_of_ble_eq_true rfl | (simp only [rm_X10_step]; omega)) dX10_step_27
      · have hP : va_P (dC, dI) vwCl (mw g h0 b (va_up (va_up (va_up i 22 x22_1) 23 x23_47) 24 x24_48) a) _ := hP
        have hD : va_D _ (mw g h0 b (va_up (va_up (va_up i 22 x22_1) 23 x23_47) 24 x24_48) a) := hD
        refine W.eq (g2 := F0 m 25 ls [.int 1]) rfl ?_
        exact hz2_50.elim

theorem inw_X10_steps_10 : ∀ w ∈ wsX100, w ∈ wsX10_steps := by decide +kernel
set_option maxHeartbeats 1000000 in
set_option maxRecDepth 100000 in
theorem m_X10_steps (l : Launch) (dC : Nat → ClassId) (dI : Nat → Nat → Nat) (sa : Nat → Nat) (g : Nat → Nat) (h0 : Nat) (b : Nat → Nat) (j : Nat) (bl : Nat) (dp : Nat → Nat) (i : Nat → Int32) (a : Nat → Nat → Int32) (ib : Int32) (sz : Nat) (hSI : 0 ≤ (i 22).toInt ∧ (i 22).toInt ≤ (i 21).toInt ∧ (i 21).toInt ≤ 1500) (hPN : PN (i 36) dp (a 26) (a 27) (a 31) (a 32) (a 33)) (hBL : (i 38) = nI bl) (hj : bl + j = 8) (IHS : ∀ j' bl' : Nat, bl' + j' = 8 → j = j' + 1 → ∀ (dp : Nat → Nat) (i : Nat → Int32) (a : Nat → Nat → Int32) (ib : Int32) (sz : Nat) (hSI : 0 ≤ (i 22).toInt ∧ (i 22).toInt ≤ (i 21).toInt ∧ (i 21).toInt ≤ 1500) (hPN : PN (i 36) dp (a 26) (a 27) (a 31) (a 32) (a 33)) (hBL : (i 38) = nI bl'), CT l dC dI sa yX10_steps wsX10_steps (rm_X10_steps j' bl' dp) [.ref h0, .int ib] (mw g h0 b i a) (tyM g) sz (fun (r : Option Value) (u : Int32 × Int32 × Int32 × Int32 × Int32 × (Nat → Int32) × (Nat → Int32) × (Nat → Int32) × (Nat → Int32) × (Nat → Int32) × (Nat → Int32) × (Nat → Int32) × (Nat → Int32)) => match u with | (x22, x23, x24, x25, x36, y26, y27, y28, y29, y30, y31, y32, y33) => (∃ z : Int32, r = some (.int z)) ∧ (((i 22).toInt ≤ x22.toInt ∧ x22.toInt ≤ (i 21).toInt) ∧ ∃ dpN : Nat → Nat, PR (i 36) x36 dp dpN (a 26) (a 27) (a 31) (a 32) (a 33) y26 y27 y31 y32 y33 ∧ (∀ z : Int32, r = some (.int z) → z = -2 ∨ lk (PV x36) dpN bl' z))) (fun (u : Int32 × Int32 × Int32 × Int32 × Int32 × (Nat → Int32) × (Nat → Int32) × (Nat → Int32) × (Nat → Int32) × (Nat → Int32) × (Nat → Int32) × (Nat → Int32) × (Nat → Int32)) => match u with | (x22, x23, x24, x25, x36, y26, y27, y28, y29, y30, y31, y32, y33) => mw g h0 b (va_up (va_up (va_up (va_up (va_up i 22 x22) 23 x23) 24 x24) 25 x25) 36 x36) (va_up (va_up (va_up (va_up (va_up (va_up (va_up (va_up a 26 y26) 27 y27) 28 y28) 29 y29) 30 y30) 31 y31) 32 y32) 33 y33)) (fun _ => []) 0 0) : CT l dC dI sa yX10_steps wsX10_steps (rm_X10_steps j bl dp) [.ref h0, .int ib] (mw g h0 b i a) (tyM g) sz (fun (r : Option Value) (u : Int32 × Int32 × Int32 × Int32 × Int32 × (Nat → Int32) × (Nat → Int32) × (Nat → Int32) × (Nat → Int32) × (Nat → Int32) × (Nat → Int32) × (Nat → Int32) × (Nat → Int32)) => match u with | (x22, x23, x24, x25, x36, y26, y27, y28, y29, y30, y31, y32, y33) => (∃ z : Int32, r = some (.int z)) ∧ (((i 22).toInt ≤ x22.toInt ∧ x22.toInt ≤ (i 21).toInt) ∧ ∃ dpN : Nat → Nat, PR (i 36) x36 dp dpN (a 26) (a 27) (a 31) (a 32) (a 33) y26 y27 y31 y32 y33 ∧ (∀ z : Int32, r = some (.int z) → z = -2 ∨ lk (PV x36) dpN bl z))) (fun (u : Int32 × Int32 × Int32 × Int32 × Int32 × (Nat → Int32) × (Nat → Int32) × (Nat → Int32) × (Nat → Int32) × (Nat → Int32) × (Nat → Int32) × (Nat → Int32) × (Nat → Int32)) => match u with | (x22, x23, x24, x25, x36, y26, y27, y28, y29, y30, y31, y32, y33) => mw g h0 b (va_up (va_up (va_up (va_up (va_up i 22 x22) 23 x23) 24 x24) 25 x25) 36 x36) (va_up (va_up (va_up (va_up (va_up (va_up (va_up (va_up a 26 y26) 27 y27) 28 y28) 29 y29) 30 y30) 31 y31) 32 y32) 33 y33)) (fun _ => []) 0 0 := by
  refine CT.start (cc := cX10_steps) (maxL := 5) (ret := (some .int)) (by decide) rfl (Nat.le_of_ble_eq_true rfl) ?_
  intro p e s m below meth c ls hst hP hK hD hev hS hl
  obtain ⟨hx, hb, hr, hml, hts, hown, hlocks, hin⟩ := hst
  have hown : s.vm.findClass RX10 = some m.cls := hown
  have hA : ∀ q : Nat, s.heap.size ≤ q → va_A (mw g h0 b i a) s.heap.size q := fun _ h => Or.inr h
  have hl : lv_has ls 5 [(0, .ref h0), (1, .int ib)] := hl
  refine lv_iconst (v := (-1)) hx hb dX10_steps_0 (by decide) ?_
  refine lv_istore_n (lv' := [(2, .int (-1)), (0, .ref h0), (1, .int ib)]) hx hb dX10_steps_1 rfl hl (by decide) rfl (fun ls hl => ?_)
  refine lv_iconst (v := (-1)) hx hb dX10_steps_2 (by decide) ?_
  refine lv_istore_n (lv' := [(3, .int (-1)), (2, .int (-1)), (0, .ref h0), (1, .int ib)]) hx hb dX10_steps_3 rfl hl (by decide) rfl (fun ls hl => ?_)
  refine lv_aload_n hx hb dX10_steps_4 rfl (lv_at hl 2 rfl) ?_
  refine M_V ⟨hx, hb, hml, hown, hts⟩ (m_X10_skip l dC dI sa g h0 b i a  _ (show 0 ≤ (i 22).toInt ∧ (i 22).toInt ≤ (i 21).toInt ∧ (i 21).toInt ≤ 1500 from by omega)) (cwV 0 hts gX10_steps_X10_skip rfl rfl rfl (by decide +kernel) ⟨(by first | exact Nat.le_of_ble_eq_true rfl | (simp only [rm_X10_skip, rm_X10_steps]; omega)), (by first | exact Nat.le_of_ble_eq_true rfl | (simp only [rm_X10_skip, rm_X10_steps]; omega))⟩) hP hD hK hS hA hev rfl rfl rfl rfl hl.1 rfl (Nat.le_of_ble_eq_true rfl) dX10_steps_5 ⟨(by first | exact Nat.le_of_ble_eq_true rfl | (simp only [rm_X10_steps]; omega)), (by first | exact Nat.le_of_ble_eq_true rfl | (simp only [rm_X10_steps]; omega))⟩ (fun r u H locs hw hP hD hS => ?_)
  obtain ⟨x22_1, rfl⟩ : ∃ z, z = u := ⟨_, rfl⟩
  have hw : (r = none) ∧ ((i 22).toInt ≤ x22_1.toInt ∧ x22_1.toInt ≤ (i 21).toInt) := hw
  obtain ⟨rfl, hw_2⟩ := hw
  have hP : va_P (dC, dI) vwCl (mw g h0 b (va_up i 22 x22_1) a) _ := hP
  have hD : va_D _ (mw g h0 b (va_up i 22 x22_1) a) := hD
  refine W.eq (g2 := F0 m 8 ls []) rfl ?_
  have lp : ∀ (n : Nat) (hh : Int32) (la : Int32) (l22 : Int32) (l23 : Int32) (l24 : Int32) (l25 : Int32) (l36 : Int32) (l26 : Nat → Int32) (l27 : Nat → Int32) (l28 : Nat → Int32) (l29 : Nat → Int32) (l30 : Nat → Int32) (l31 : Nat → Int32) (l32 : Nat → Int32) (l33 : Nat → Int32) (H : Heap) (locs : List Loc) (ls : Array Slot), ((300 - l36.toInt).toNat < n) → ((i 22).toInt ≤ l22.toInt ∧ l22.toInt ≤ (i 21).toInt) → (∃ dp1 : Nat → Nat, PR (i 36) l36 dp dp1 (a 26) (a 27) (a 31) (a 32) (a 33) l26 l27 l31 l32 l33 ∧ lk (PV l36) dp1 bl hh ∧ lk (PV l36) dp1 bl la) → va_P (dC, dI) vwCl (mw g h0 b (va_up (va_up (va_up (va_up (va_up i 22 l22) 23 l23) 24 l24) 25 l25) 36 l36) (va_up (va_up (va_up (va_up (va_up (va_up (va_up (va_up a 26 l26) 27 l27) 28 l28) 29 l29) 30 l30) 31 l31) 32 l32) 33 l33)) H → va_D (va_A (mw g h0 b i a) s.heap.size) (mw g h0 b (va_up (va_up (va_up (va_up (va_up i 22 l22) 23 l23) 24 l24) 25 l25) 36 l36) (va_up (va_up (va_up (va_up (va_up (va_up (va_up (va_up a 26 l26) 27 l27) 28 l28) 29 l29) 30 l30) 31 l31) 32 l32) 33 l33)) → va_S (va_A (mw g h0 b i a) s.heap.size) s.heap H locs → lv_has ls 5 [(2, .int hh), (3, .int la), (0, .ref h0), (1, .int ib)] → W p l e (rm_X10_steps j bl dp) s m [.ref h0, .int ib].toArray below meth c H locs 0 0 (MQ below (Qg (fun (r : Option Value) (u : Int32 × Int32 × Int32 × Int32 × Int32 × (Nat → Int32) × (Nat → Int32) × (Nat → Int32) × (Nat → Int32) × (Nat → Int32) × (Nat → Int32) × (Nat → Int32) × (Nat → Int32)) => match u with | (x22, x23, x24, x25, x36, y26, y27, y28, y29, y30, y31, y32, y33) => (∃ z : Int32, r = some (.int z)) ∧ (((i 22).toInt ≤ x22.toInt ∧ x22.toInt ≤ (i 21).toInt) ∧ ∃ dpN : Nat → Nat, PR (i 36) x36 dp dpN (a 26) (a 27) (a 31) (a 32) (a 33) y26 y27 y31 y32 y33 ∧ (∀ z : Int32, r = some (.int z) → z = -2 ∨ lk (PV x36) dpN bl z))) (fun u t => QW dC dI (va_A (mw g h0 b i a) s.heap.size) ((fun (u : Int32 × Int32 × Int32 × Int32 × Int32 × (Nat → Int32) × (Nat → Int32) × (Nat → Int32) × (Nat → Int32) × (Nat → Int32) × (Nat → Int32) × (Nat → Int32) × (Nat → Int32)) => match u with | (x22, x23, x24, x25, x36, y26, y27, y28, y29, y30, y31, y32, y33) => mw g h0 b (va_up (va_up (va_up (va_up (va_up i 22 x22) 23 x23) 24 x24) 25 x25) 36 x36) (va_up (va_up (va_up (va_up (va_up (va_up (va_up (va_up a 26 y26) 27 y27) 28 y28) 29 y29) 30 y30) 31 y31) 32 y32) 33 y33)) u) [] t) (va_A (mw g h0 b i a) s.heap.size)) [.ref h0, .int ib].toArray s 0 0 (va_A (mw g h0 b i a) s.heap.size)) (F0 m 8 ls []) := by
    intro n
    induction n with
    | zero => intro hh la l22 l23 l24 l25 l36 l26 l27 l28 l29 l30 l31 l32 l33 H locs ls hm hat hpr hP hD hS hl; exact absurd hm (by omega)
    | succ n ih =>
      intro hh la l22 l23 l24 l25 l36 l26 l27 l28 l29 l30 l31 l32 l33 H locs ls hm hat hpr hP hD hS hl
      refine lv_iload_n hx hb dX10_steps_8 rfl (lv_at hl 3 rfl) ?_
      obtain ⟨dp1, hpr1, hlk1, hlk2⟩ := hpr
      refine lv_if_eq (tgt := 24) hx hb dX10_steps_9 (by decide) (fun c_3 => ?_) (fun c_3 => ?_)
      · have nc_3 := eq_i c_3
        have lc_3 : (0 : Int32).toInt = 0 := by decide
        refine lv_aload_n hx hb dX10_steps_24 rfl (lv_at hl 2 rfl) ?_
        refine va_get (D := (dC, dI)) (ci := 10) (v := .int l22) (C := RX10) (T := TX10) (N := 51) hx hb hts inw_X10_steps_10 hown hK hP 0 rfl rfl 22 (by decide) (hts (.fieldLink RX10 168 "VatHouseModel" "at" "I") (by decide +kernel)) (fun _ h9 => h9) rfl dX10_steps_25 ?_
        refine lv_aload_n hx hb dX10_steps_28 rfl (lv_at hl 2 rfl) ?_
        refine va_get (D := (dC, dI)) (ci := 10) (v := .int (i 21)) (C := RX10) (T := TX10) (N := 51) hx hb hts inw_X10_steps_10 hown hK hP 0 rfl rfl 21 (by decide) (hts (.fieldLink RX10 171 "VatHouseModel" "size" "I") (by decide +kernel)) (fun _ h9 => h9) rfl dX10_steps_29 ?_
        refine lv_icmp_ge (tgt := 79) hx hb dX10_steps_32 (by decide) (fun c_4 => ?_) (fun c_4 => ?_)
        · have nc_4 := le_i c_4
          refine lv_iload_n hx hb dX10_steps_79 rfl (lv_at hl 3 rfl) ?_
          refine lv_if_eq (tgt := 93) hx hb dX10_steps_80 (by decide) (fun c_5 => ?_) (fun c_5 => ?_)
          · have nc_5 := eq_i c_5
            have lc_5 : (0 : Int32).toInt = 0 := by decide
            refine lv_iload_n hx hb dX10_steps_93 rfl (lv_at hl 0 rfl) ?_
            exact M_i hx hb hr hlocks (l22, l23, l24, l25, l36, l26, l27, l28, l29, l30, l31, l32, l33) hP hD hK hS ⟨⟨_, rfl⟩, ⟨⟨by omega, by omega⟩, dp1, hpr1, fun z9 h9 => by cases h9; exact Or.inr hlk1⟩⟩ (by first | exact Nat.le_of_ble_eq_true rfl | (simp only [rm_X10_steps]; omega)) (by first | exact Nat.le_of_ble_eq_true rfl | (simp only [rm_X10_steps]; omega)) dX10_steps_94
          · have nc_5 := ne_i c_5
            have lc_5 : (0 : Int32).toInt = 0 := by decide
            refine lv_aload_n hx hb dX10_steps_83 rfl (lv_at hl 2 rfl) ?_
            refine lv_dup hx hb dX10_steps_84 rfl ?_
            refine va_get (D := (dC, dI)) (ci := 10) (v := .int l22) (C := RX10) (T := TX10) (N := 51) hx hb hts inw_X10_steps_10 hown hK hP 0 rfl rfl 22 (by decide) (hts (.fieldLink RX10 168 "VatHouseModel" "at" "I") (by decide +kernel)) (fun _ h9 => h9) rfl dX10_steps_85 ?_
            refine lv_iconst (v := 1) hx hb dX10_steps_88 (by decide) ?_
            refine lv_iadd hx hb dX10_steps_89 ?_
            refine lv_topi (fun z_6 ez_6 => ?_)
            have tz9 := incz (y := i 21) (by rw [Int32.le_iff_toInt_le]; omega) ez_6
            refine va_put (D := (dC, dI)) (ci := 10) (v := .int z_6) (ty := .int) (C := RX10) (T := TX10) (N := 51) hx hb hts inw_X10_steps_10 tyX10 tyX10_ok nmX10 hown hK hP hD hS 0 rfl rfl 22 (by decide) (hts (.fieldLink RX10 168 "VatHouseModel" "at" "I") (by decide +kernel)) (fun _ h9 => h9) rfl (by decide +kernel) rfl rfl (Nat.le_of_ble_eq_true rfl) dX10_steps_90 (fun H locs hP hD hS => ?_)
            have hP : va_P (dC, dI) vwCl (mw g h0 b (va_up (va_up (va_up (va_up (va_up i 22 z_6) 23 l23) 24 l24) 25 l25) 36 l36) (va_up (va_up (va_up (va_up (va_up (va_up (va_up (va_up a 26 l26) 27 l27) 28 l28) 29 l29) 30 l30) 31 l31) 32 l32) 33 l33)) _ := hP
            have hD : va_D _ (mw g h0 b (va_up (va_up (va_up (va_up (va_up i 22 z_6) 23 l23) 24 l24) 25 l25) 36 l36) (va_up (va_up (va_up (va_up (va_up (va_up (va_up (va_up a 26 l26) 27 l27) 28 l28) 29 l29) 30 l30) 31 l31) 32 l32) 33 l33)) := hD
            refine lv_iload_n hx hb dX10_steps_93 rfl (lv_at hl 0 rfl) ?_
            exact M_i hx hb hr hlocks (z_6, l23, l24, l25, l36, l26, l27, l28, l29, l30, l31, l32, l33) hP hD hK hS ⟨⟨_, rfl⟩, ⟨⟨by omega, by omega⟩, dp1, hpr1, fun z9 h9 => by cases h9; exact Or.inr hlk1⟩⟩ (by first | exact Nat.le_of_ble_eq_true rfl | (simp only [rm_X10_steps]; omega)) (by first | exact Nat.le_of_ble_eq_true rfl | (simp only [rm_X10_steps]; omega)) dX10_steps_94
        · have nc_4 := nle_i c_4
          refine lv_aload_n hx hb dX10_steps_35 rfl (lv_at hl 2 rfl) ?_
          refine M_V ⟨hx, hb, hml, hown, hts⟩ (m_X10_step l dC dI sa g h0 b j bl dp1 (va_up (va_up (va_up (va_up (va_up i 22 l22) 23 l23) 24 l24) 25 l25) 36 l36) (va_up (va_up (va_up (va_up (va_up (va_up (va_up (va_up a 26 l26) 27 l27) 28 l28) 29 l29) 30 l30) 31 l31) 32 l32) 33 l33)  _ (show 0 ≤ l22.toInt ∧ l22.toInt ≤ (i 21).toInt ∧ (i 21).toInt ≤ 1500 from by omega) hpr1.2.1 hBL hj IHS) (cwV 0 hts gX10_steps_X10_step rfl rfl rfl (by decide +kernel) ⟨(by first | exact Nat.le_of_ble_eq_true rfl | (simp only [rm_X10_step, rm_X10_steps]; omega)), (by first | exact Nat.le_of_ble_eq_true rfl | (simp only [rm_X10_step, rm_X10_steps]; omega))⟩) hP hD hK hS hA hev rfl rfl rfl rfl hl.1 rfl (Nat.le_of_ble_eq_true rfl) dX10_steps_36 ⟨(by first | exact Nat.le_of_ble_eq_true rfl | (simp only [rm_X10_steps]; omega)), (by first | exact Nat.le_of_ble_eq_true rfl | (simp only [rm_X10_steps]; omega))⟩ (fun r u H locs hw hP hD hS => ?_)
          obtain ⟨x22_7, x23_8, x24_9, x25_10, x36_11, y26_12, y27_13, y28_14, y29_15, y30_16, y31_17, y32_18, y33_19⟩ := u
          have hw : (∃ z : Int32, r = some (.int z)) ∧ ((l22.toInt ≤ x22_7.toInt ∧ x22_7.toInt ≤ (i 21).toInt) ∧ ∃ dpN : Nat → Nat, PR l36 x36_11 dp1 dpN l26 l27 l31 l32 l33 y26_12 y27_13 y31_17 y32_18 y33_19 ∧ (∀ z : Int32, r = some (.int z) → z = -1 ∨ (∃ q : Nat, z = nI q ∧ PV x36_11 q ∧ dpN q = bl) ∧ l36.toInt < x36_11.toInt)) := hw
          obtain ⟨⟨z_21, rfl⟩, hw_20⟩ := hw
          have hP : va_P (dC, dI) vwCl (mw g h0 b (va_up (va_up (va_up (va_up (va_up i 22 x22_7) 23 x23_8) 24 x24_9) 25 x25_10) 36 x36_11) (va_up (va_up (va_up (va_up (va_up (va_up (va_up (va_up a 26 y26_12) 27 y27_13) 28 y28_14) 29 y29_15) 30 y30_16) 31 y31_17) 32 y32_18) 33 y33_19)) _ := hP
          have hD : va_D _ (mw g h0 b (va_up (va_up (va_up (va_up (va_up i 22 x22_7) 23 x23_8) 24 x24_9) 25 x25_10) 36 x36_11) (va_up (va_up (va_up (va_up (va_up (va_up (va_up (va_up a 26 y26_12) 27 y27_13) 28 y28_14) 29 y29_15) 30 y30_16) 31 y31_17) 32 y32_18) 33 y33_19)) := hD
          refine W.eq (g2 := F0 m 39 ls [.int z_21]) rfl ?_
          obtain ⟨hatq_25, dp_23, hPR_22, hres_24⟩ := hw_20
          have hres_24 := hres_24 _ rfl
          have hpr_26 := PR.tr hpr1 hPR_22
          refine lv_istore (lv' := [(4, .int z_21), (2, .int hh), (3, .int la), (0, .ref h0), (1, .int ib)]) hx hb dX10_steps_39 hl (by decide) rfl (fun ls hl => ?_)
          refine lv_iload hx hb dX10_steps_41 (lv_at hl 0 rfl) ?_
          refine lv_iconst (v := (-1)) hx hb dX10_steps_43 (by decide) ?_
          refine lv_icmp_ne (tgt := 50) hx hb dX10_steps_44 (by decide) (fun c_27 => ?_) (fun c_27 => ?_)
          · have nc_27 := ne_i c_27
            have lc_27 : ((-1) : Int32).toInt = -1 := by decide
            obtain ⟨⟨qk, hk1, hk2, hk3⟩, hlt⟩ := hres_24.resolve_left c_27
            have h300 := hPR_22.2.1.2.1
            refine lv_iload_n hx hb dX10_steps_50 rfl (lv_at hl 2 rfl) ?_
            refine lv_iconst (v := (-1)) hx hb dX10_steps_51 (by decide) ?_
            refine lv_icmp_ne (tgt := 61) hx hb dX10_steps_52 (by decide) (fun c_28 => ?_) (fun c_28 => ?_)
            · have nc_28 := ne_i c_28
              have lc_28 : ((-1) : Int32).toInt = -1 := by decide
              obtain ⟨ql, hl1, hl2, hl3⟩ := hlk2.node c_28
              have hndl := PR.nd hPR_22 hl2 hl3
              have hkl : vp_in la 2700 := lk.in hpr1.2.1.2.2 hlk2 c_28
              refine lv_aload_n hx hb dX10_steps_61 rfl (lv_at hl 3 rfl) ?_
              refine va_get (D := (dC, dI)) (ci := 10) (v := .ref (b 33)) (C := RX10) (T := TX10) (N := 51) hx hb hts inw_X10_steps_10 hown hK hP 0 rfl rfl 33 (by decide) (hts (.fieldLink RX10 81 "VatHouseModel" "next" "[I") (by decide +kernel)) (fun _ h9 => h9) rfl dX10_steps_62 ?_
              refine lv_iload_n hx hb dX10_steps_65 rfl (lv_at hl 2 rfl) ?_
              refine lv_iload hx hb dX10_steps_66 (lv_at hl 0 rfl) ?_
              refine va_iast hx hb hK hP hD hS 23 0 rfl rfl (by assumption) dX10_steps_68 (fun H locs hP hD hS => ?_)
              have hP : va_P (dC, dI) vwCl (mw g h0 b (va_up (va_up (va_up (va_up (va_up i 22 x22_7) 23 x23_8) 24 x24_9) 25 x25_10) 36 x36_11) (va_up (va_up (va_up (va_up (va_up (va_up (va_up (va_up a 26 y26_12) 27 y27_13) 28 y28_14) 29 y29_15) 30 y30_16) 31 y31_17) 32 y32_18) 33 (upd y33_19 la.toNatClampNeg z_21))) _ := hP
              have hD : va_D _ (mw g h0 b (va_up (va_up (va_up (va_up (va_up i 22 x22_7) 23 x23_8) 24 x24_9) 25 x25_10) 36 x36_11) (va_up (va_up (va_up (va_up (va_up (va_up (va_up (va_up a 26 y26_12) 27 y27_13) 28 y28_14) 29 y29_15) 30 y30_16) 31 y31_17) 32 y32_18) 33 (upd y33_19 la.toNatClampNeg z_21))) := hD
              obtain ⟨f_29, ef_29⟩ : ∃ z, z = (upd y33_19 la.toNatClampNeg z_21) := ⟨_, rfl⟩
              rw [← ef_29] at hP hD
              have hpn := PN.next hPR_22.2.1 hl1 hndl.1 (Or.inr ⟨qk, hk1, hk2, hk3.trans hndl.2.symm⟩)
              rw [← ef_29] at hpn
              have hpr_30 := PR.tr hpr_26 hpn
              refine lv_iload hx hb dX10_steps_69 (lv_at hl 0 rfl) ?_
              refine lv_istore_n (lv' := [(3, .int z_21), (4, .int z_21), (2, .int hh), (0, .ref h0), (1, .int ib)]) hx hb dX10_steps_71 rfl hl (by decide) rfl (fun ls hl => ?_)
              refine lv_aload_n hx hb dX10_steps_72 rfl (lv_at hl 3 rfl) ?_
              refine M_V ⟨hx, hb, hml, hown, hts⟩ (m_X10_skip l dC dI sa g h0 b (va_up (va_up (va_up (va_up (va_up i 22 x22_7) 23 x23_8) 24 x24_9) 25 x25_10) 36 x36_11) (va_up (va_up (va_up (va_up (va_up (va_up (va_up (va_up a 26 y26_12) 27 y27_13) 28 y28_14) 29 y29_15) 30 y30_16) 31 y31_17) 32 y32_18) 33 f_29)  _ (show 0 ≤ x22_7.toInt ∧ x22_7.toInt ≤ (i 21).toInt ∧ (i 21).toInt ≤ 1500 from by omega)) (cwV 0 hts gX10_steps_X10_skip rfl rfl rfl (by decide +kernel) ⟨(by first | exact Nat.le_of_ble_eq_true rfl | (simp only [rm_X10_skip, rm_X10_steps]; omega)), (by first | exact Nat.le_of_ble_eq_true rfl | (simp only [rm_X10_skip, rm_X10_steps]; omega))⟩) hP hD hK hS hA hev rfl rfl rfl rfl hl.1 rfl (Nat.le_of_ble_eq_true rfl) dX10_steps_73 ⟨(by first | exact Nat.le_of_ble_eq_true rfl | (simp only [rm_X10_steps]; omega)), (by first | exact Nat.le_of_ble_eq_true rfl | (simp only [rm_X10_steps]; omega))⟩ (fun r u H locs hw hP hD hS => ?_)
              obtain ⟨x22_31, rfl⟩ : ∃ z, z = u := ⟨_, rfl⟩
              have hw : (r = none) ∧ (x22_7.toInt ≤ x22_31.toInt ∧ x22_31.toInt ≤ (i 21).toInt) := hw
              obtain ⟨rfl, hw_32⟩ := hw
              have hP : va_P (dC, dI) vwCl (mw g h0 b (va_up (va_up (va_up (va_up (va_up i 22 x22_31) 23 x23_8) 24 x24_9) 25 x25_10) 36 x36_11) (va_up (va_up (va_up (va_up (va_up (va_up (va_up (va_up a 26 y26_12) 27 y27_13) 28 y28_14) 29 y29_15) 30 y30_16) 31 y31_17) 32 y32_18) 33 f_29)) _ := hP
              have hD : va_D _ (mw g h0 b (va_up (va_up (va_up (va_up (va_up i 22 x22_31) 23 x23_8) 24 x24_9) 25 x25_10) 36 x36_11) (va_up (va_up (va_up (va_up (va_up (va_up (va_up (va_up a 26 y26_12) 27 y27_13) 28 y28_14) 29 y29_15) 30 y30_16) 31 y31_17) 32 y32_18) 33 f_29)) := hD
              refine W.eq (g2 := F0 m 76 ls []) rfl ?_
              refine lv_goto (tgt := 8) hx hb dX10_steps_76 (by decide) ?_
              exact ih hh z_21 x22_31 x23_8 x24_9 x25_10 x36_11 y26_12 y27_13 y28_14 y29_15 y30_16 y31_17 y32_18 f_29 _ _ _ (by omega) (by omega) (⟨dp_23, hpr_30, PR.lk hPR_22 hlk1, (Or.inr ⟨qk, hk1, hk2, hk3⟩)⟩) hP hD hS (lv_sub hl [2, 0, 3, 4] rfl)
            · have nc_28 := eq_i c_28
              have lc_28 : ((-1) : Int32).toInt = -1 := by decide
              refine lv_iload hx hb dX10_steps_55 (lv_at hl 0 rfl) ?_
              refine lv_istore_n (lv' := [(2, .int z_21), (4, .int z_21), (3, .int la), (0, .ref h0), (1, .int ib)]) hx hb dX10_steps_57 rfl hl (by decide) rfl (fun ls hl => ?_)
              refine lv_goto (tgt := 69) hx hb dX10_steps_58 (by decide) ?_
              refine lv_iload hx hb dX10_steps_69 (lv_at hl 1 rfl) ?_
              refine lv_istore_n (lv' := [(3, .int z_21), (2, .int z_21), (4, .int z_21), (0, .ref h0), (1, .int ib)]) hx hb dX10_steps_71 rfl hl (by decide) rfl (fun ls hl => ?_)
              refine lv_aload_n hx hb dX10_steps_72 rfl (lv_at hl 3 rfl) ?_
              refine M_V ⟨hx, hb, hml, hown, hts⟩ (m_X10_skip l dC dI sa g h0 b (va_up (va_up (va_up (va_up (va_up i 22 x22_7) 23 x23_8) 24 x24_9) 25 x25_10) 36 x36_11) (va_up (va_up (va_up (va_up (va_up (va_up (va_up (va_up a 26 y26_12) 27 y27_13) 28 y28_14) 29 y29_15) 30 y30_16) 31 y31_17) 32 y32_18) 33 y33_19)  _ (show 0 ≤ x22_7.toInt ∧ x22_7.toInt ≤ (i 21).toInt ∧ (i 21).toInt ≤ 1500 from by omega)) (cwV 0 hts gX10_steps_X10_skip rfl rfl rfl (by decide +kernel) ⟨(by first | exact Nat.le_of_ble_eq_true rfl | (simp only [rm_X10_skip, rm_X10_steps]; omega)), (by first | exact Nat.le_of_ble_eq_true rfl | (simp only [rm_X10_skip, rm_X10_steps]; omega))⟩) hP hD hK hS hA hev rfl rfl rfl rfl hl.1 rfl (Nat.le_of_ble_eq_true rfl) dX10_steps_73 ⟨(by first | exact Nat.le_of_ble_eq_true rfl | (simp only [rm_X10_steps]; omega)), (by first | exact Nat.le_of_ble_eq_true rfl | (simp only [rm_X10_steps]; omega))⟩ (fun r u H locs hw hP hD hS => ?_)
              obtain ⟨x22_33, rfl⟩ : ∃ z, z = u := ⟨_, rfl⟩
              have hw : (r = none) ∧ (x22_7.toInt ≤ x22_33.toInt ∧ x22_33.toInt ≤ (i 21).toInt) := hw
              obtain ⟨rfl, hw_34⟩ := hw
              have hP : va_P (dC, dI) vwCl (mw g h0 b (va_up (va_up (va_up (va_up (va_up i 22 x22_33) 23 x23_8) 24 x24_9) 25 x25_10) 36 x36_11) (va_up (va_up (va_up (va_up (va_up (va_up (va_up (va_up a 26 y26_12) 27 y27_13) 28 y28_14) 29 y29_15) 30 y30_16) 31 y31_17) 32 y32_18) 33 y33_19)) _ := hP
              have hD : va_D _ (mw g h0 b (va_up (va_up (va_up (va_up (va_up i 22 x22_33) 23 x23_8) 24 x24_9) 25 x25_10) 36 x36_11) (va_up (va_up (va_up (va_up (va_up (va_up (va_up (va_up a 26 y26_12) 27 y27_13) 28 y28_14) 29 y29_15) 30 y30_16) 31 y31_17) 32 y32_18) 33 y33_19)) := hD
              refine W.eq (g2 := F0 m 76 ls []) rfl ?_
              refine lv_goto (tgt := 8) hx hb dX10_steps_76 (by decide) ?_
              exact ih z_21 z_21 x22_33 x23_8 x24_9 x25_10 x36_11 y26_12 y27_13 y28_14 y29_15 y30_16 y31_17 y32_18 y33_19 _ _ _ (by omega) (by omega) (⟨dp_23, hpr_26, (Or.inr ⟨qk, hk1, hk2, hk3⟩), (Or.inr ⟨qk, hk1, hk2, hk3⟩)⟩) hP hD hS (lv_sub hl [1, 0, 3, 4] rfl)
          · have nc_27 := eq_i c_27
            have lc_27 : ((-1) : Int32).toInt = -1 := by decide
            refine lv_bipush (v := (-2)) hx hb dX10_steps_47 (by decide) ?_
            exact M_i hx hb hr hlocks (x22_7, x23_8, x24_9, x25_10, x36_11, y26_12, y27_13, y28_14, y29_15, y30_16, y31_17, y32_18, y33_19) hP hD hK hS ⟨⟨_, rfl⟩, ⟨⟨by omega, by omega⟩, dp_23, hpr_26, fun z9 h9 => by cases h9; exact Or.inl rfl⟩⟩ (by first | exact Nat.le_of_ble_eq_true rfl | (simp only [rm_X10_steps]; omega)) (by first | exact Nat.le_of_ble_eq_true rfl | (simp only [rm_X10_steps]; omega)) dX10_steps_49
      · have nc_3 := ne_i c_3
        have lc_3 : (0 : Int32).toInt = 0 := by decide
        refine lv_aload_n hx hb dX10_steps_12 rfl (lv_at hl 2 rfl) ?_
        refine lv_bipush (v := 125) hx hb dX10_steps_13 (by decide) ?_
        refine M_V ⟨hx, hb, hml, hown, hts⟩ (m_X10_isSign l dC dI sa g h0 b (va_up (va_up (va_up (va_up (va_up i 22 l22) 23 l23) 24 l24) 25 l25) 36 l36) (va_up (va_up (va_up (va_up (va_up (va_up (va_up (va_up a 26 l26) 27 l27) 28 l28) 29 l29) 30 l30) 31 l31) 32 l32) 33 l33) (125 : Int32) _ (show 0 ≤ l22.toInt ∧ l22.toInt ≤ (i 21).toInt ∧ (i 21).toInt ≤ 1500 from by omega)) (cwV 1 hts gX10_steps_X10_isSign rfl rfl rfl (by decide +kernel) ⟨(by first | exact Nat.le_of_ble_eq_true rfl | (simp only [rm_X10_isSign, rm_X10_steps]; omega)), (by first | exact Nat.le_of_ble_eq_true rfl | (simp only [rm_X10_isSign, rm_X10_steps]; omega))⟩) hP hD hK hS hA hev rfl rfl rfl rfl hl.1 rfl (Nat.le_of_ble_eq_true rfl) dX10_steps_15 ⟨(by first | exact Nat.le_of_ble_eq_true rfl | (simp only [rm_X10_steps]; omega)), (by first | exact Nat.le_of_ble_eq_true rfl | (simp only [rm_X10_steps]; omega))⟩ (fun r u H locs hw hP hD hS => ?_)
        obtain ⟨x22_35, rfl⟩ : ∃ z, z = u := ⟨_, rfl⟩
        have hw : ((r = some (.int 0) ∧ (True)) ∨ (r = some (.int 1) ∧ (x22_35.toInt < (i 21).toInt))) ∧ (l22.toInt ≤ x22_35.toInt ∧ x22_35.toInt ≤ (i 21).toInt) := hw
        obtain ⟨⟨rfl, hz2_37⟩ | ⟨rfl, hz2_37⟩, hw_36⟩ := hw
        · have hP : va_P (dC, dI) vwCl (mw g h0 b (va_up (va_up (va_up (va_up (va_up i 22 x22_35) 23 l23) 24 l24) 25 l25) 36 l36) (va_up (va_up (va_up (va_up (va_up (va_up (va_up (va_up a 26 l26) 27 l27) 28 l28) 29 l29) 30 l30) 31 l31) 32 l32) 33 l33)) _ := hP
          have hD : va_D _ (mw g h0 b (va_up (va_up (va_up (va_up (va_up i 22 x22_35) 23 l23) 24 l24) 25 l25) 36 l36) (va_up (va_up (va_up (va_up (va_up (va_up (va_up (va_up a 26 l26) 27 l27) 28 l28) 29 l29) 30 l30) 31 l31) 32 l32) 33 l33)) := hD
          refine W.eq (g2 := F0 m 18 ls [.int 0]) rfl ?_
          refine lv_if_ne (tgt := 79) hx hb dX10_steps_18 (by decide) (fun c_38 => absurd c_38 (by decide)) (fun _ => ?_)
          refine lv_goto (tgt := 35) hx hb dX10_steps_21 (by decide) ?_
          refine lv_aload_n hx hb dX10_steps_35 rfl (lv_at hl 2 rfl) ?_
          refine M_V ⟨hx, hb, hml, hown, hts⟩ (m_X10_step l dC dI sa g h0 b j bl dp1 (va_up (va_up (va_up (va_up (va_up i 22 x22_35) 23 l23) 24 l24) 25 l25) 36 l36) (va_up (va_up (va_up (va_up (va_up (va_up (va_up (va_up a 26 l26) 27 l27) 28 l28) 29 l29) 30 l30) 31 l31) 32 l32) 33 l33)  _ (show 0 ≤ x22_35.toInt ∧ x22_35.toInt ≤ (i 21).toInt ∧ (i 21).toInt ≤ 1500 from by omega) hpr1.2.1 hBL hj IHS) (cwV 0 hts gX10_steps_X10_step rfl rfl rfl (by decide +kernel) ⟨(by first | exact Nat.le_of_ble_eq_true rfl | (simp only [rm_X10_step, rm_X10_steps]; omega)), (by first | exact Nat.le_of_ble_eq_true rfl | (simp only [rm_X10_step, rm_X10_steps]; omega))⟩) hP hD hK hS hA hev rfl rfl rfl rfl hl.1 rfl (Nat.le_of_ble_eq_true rfl) dX10_steps_36 ⟨(by first | exact Nat.le_of_ble_eq_true rfl | (simp only [rm_X10_steps]; omega)), (by first | exact Nat.le_of_ble_eq_true rfl | (simp only [rm_X10_steps]; omega))⟩ (fun r u H locs hw hP hD hS => ?_)
          obtain ⟨x22_39, x23_40, x24_41, x25_42, x36_43, y26_44, y27_45, y28_46, y29_47, y30_48, y31_49, y32_50, y33_51⟩ := u
          have hw : (∃ z : Int32, r = some (.int z)) ∧ ((x22_35.toInt ≤ x22_39.toInt ∧ x22_39.toInt ≤ (i 21).toInt) ∧ ∃ dpN : Nat → Nat, PR l36 x36_43 dp1 dpN l26 l27 l31 l32 l33 y26_44 y27_45 y31_49 y32_50 y33_51 ∧ (∀ z : Int32, r = some (.int z) → z = -1 ∨ (∃ q : Nat, z = nI q ∧ PV x36_43 q ∧ dpN q = bl) ∧ l36.toInt < x36_43.toInt)) := hw
          obtain ⟨⟨z_53, rfl⟩, hw_52⟩ := hw
          have hP : va_P (dC, dI) vwCl (mw g h0 b (va_up (va_up (va_up (va_up (va_up i 22 x22_39) 23 x23_40) 24 x24_41) 25 x25_42) 36 x36_43) (va_up (va_up (va_up (va_up (va_up (va_up (va_up (va_up a 26 y26_44) 27 y27_45) 28 y28_46) 29 y29_47) 30 y30_48) 31 y31_49) 32 y32_50) 33 y33_51)) _ := hP
          have hD : va_D _ (mw g h0 b (va_up (va_up (va_up (va_up (va_up i 22 x22_39) 23 x23_40) 24 x24_41) 25 x25_42) 36 x36_43) (va_up (va_up (va_up (va_up (va_up (va_up (va_up (va_up a 26 y26_44) 27 y27_45) 28 y28_46) 29 y29_47) 30 y30_48) 31 y31_49) 32 y32_50) 33 y33_51)) := hD
          refine W.eq (g2 := F0 m 39 ls [.int z_53]) rfl ?_
          obtain ⟨hatq_57, dp_55, hPR_54, hres_56⟩ := hw_52
          have hres_56 := hres_56 _ rfl
          have hpr_58 := PR.tr hpr1 hPR_54
          refine lv_istore (lv' := [(4, .int z_53), (2, .int hh), (3, .int la), (0, .ref h0), (1, .int ib)]) hx hb dX10_steps_39 hl (by decide) rfl (fun ls hl => ?_)
          refine lv_iload hx hb dX10_steps_41 (lv_at hl 0 rfl) ?_
          refine lv_iconst (v := (-1)) hx hb dX10_steps_43 (by decide) ?_
          refine lv_icmp_ne (tgt := 50) hx hb dX10_steps_44 (by decide) (fun c_59 => ?_) (fun c_59 => ?_)
          · have nc_59 := ne_i c_59
            have lc_59 : ((-1) : Int32).toInt = -1 := by decide
            obtain ⟨⟨qk, hk1, hk2, hk3⟩, hlt⟩ := hres_56.resolve_left c_59
            have h300 := hPR_54.2.1.2.1
            refine lv_iload_n hx hb dX10_steps_50 rfl (lv_at hl 2 rfl) ?_
            refine lv_iconst (v := (-1)) hx hb dX10_steps_51 (by decide) ?_
            refine lv_icmp_ne (tgt := 61) hx hb dX10_steps_52 (by decide) (fun c_60 => ?_) (fun c_60 => ?_)
            · have nc_60 := ne_i c_60
              have lc_60 : ((-1) : Int32).toInt = -1 := by decide
              obtain ⟨ql, hl1, hl2, hl3⟩ := hlk2.node c_60
              have hndl := PR.nd hPR_54 hl2 hl3
              have hkl : vp_in la 2700 := lk.in hpr1.2.1.2.2 hlk2 c_60
              refine lv_aload_n hx hb dX10_steps_61 rfl (lv_at hl 3 rfl) ?_
              refine va_get (D := (dC, dI)) (ci := 10) (v := .ref (b 33)) (C := RX10) (T := TX10) (N := 51) hx hb hts inw_X10_steps_10 hown hK hP 0 rfl rfl 33 (by decide) (hts (.fieldLink RX10 81 "VatHouseModel" "next" "[I") (by decide +kernel)) (fun _ h9 => h9) rfl dX10_steps_62 ?_
              refine lv_iload_n hx hb dX10_steps_65 rfl (lv_at hl 2 rfl) ?_
              refine lv_iload hx hb dX10_steps_66 (lv_at hl 0 rfl) ?_
              refine va_iast hx hb hK hP hD hS 23 0 rfl rfl (by assumption) dX10_steps_68 (fun H locs hP hD hS => ?_)
              have hP : va_P (dC, dI) vwCl (mw g h0 b (va_up (va_up (va_up (va_up (va_up i 22 x22_39) 23 x23_40) 24 x24_41) 25 x25_42) 36 x36_43) (va_up (va_up (va_up (va_up (va_up (va_up (va_up (va_up a 26 y26_44) 27 y27_45) 28 y28_46) 29 y29_47) 30 y30_48) 31 y31_49) 32 y32_50) 33 (upd y33_51 la.toNatClampNeg z_53))) _ := hP
              have hD : va_D _ (mw g h0 b (va_up (va_up (va_up (va_up (va_up i 22 x22_39) 23 x23_40) 24 x24_41) 25 x25_42) 36 x36_43) (va_up (va_up (va_up (va_up (va_up (va_up (va_up (va_up a 26 y26_44) 27 y27_45) 28 y28_46) 29 y29_47) 30 y30_48) 31 y31_49) 32 y32_50) 33 (upd y33_51 la.toNatClampNeg z_53))) := hD
              obtain ⟨f_61, ef_61⟩ : ∃ z, z = (upd y33_51 la.toNatClampNeg z_53) := ⟨_, rfl⟩
              rw [← ef_61] at hP hD
              have hpn := PN.next hPR_54.2.1 hl1 hndl.1 (Or.inr ⟨qk, hk1, hk2, hk3.trans hndl.2.symm⟩)
              rw [← ef_61] at hpn
              have hpr_62 := PR.tr hpr_58 hpn
              refine lv_iload hx hb dX10_steps_69 (lv_at hl 0 rfl) ?_
              refine lv_istore_n (lv' := [(3, .int z_53), (4, .int z_53), (2, .int hh), (0, .ref h0), (1, .int ib)]) hx hb dX10_steps_71 rfl hl (by decide) rfl (fun ls hl => ?_)
              refine lv_aload_n hx hb dX10_steps_72 rfl (lv_at hl 3 rfl) ?_
              refine M_V ⟨hx, hb, hml, hown, hts⟩ (m_X10_skip l dC dI sa g h0 b (va_up (va_up (va_up (va_up (va_up i 22 x22_39) 23 x23_40) 24 x24_41) 25 x25_42) 36 x36_43) (va_up (va_up (va_up (va_up (va_up (va_up (va_up (va_up a 26 y26_44) 27 y27_45) 28 y28_46) 29 y29_47) 30 y30_48) 31 y31_49) 32 y32_50) 33 f_61)  _ (show 0 ≤ x22_39.toInt ∧ x22_39.toInt ≤ (i 21).toInt ∧ (i 21).toInt ≤ 1500 from by omega)) (cwV 0 hts gX10_steps_X10_skip rfl rfl rfl (by decide +kernel) ⟨(by first | exact Nat.le_of_ble_eq_true rfl | (simp only [rm_X10_skip, rm_X10_steps]; omega)), (by first | exact Nat.le_of_ble_eq_true rfl | (simp only [rm_X10_skip, rm_X10_steps]; omega))⟩) hP hD hK hS hA hev rfl rfl rfl rfl hl.1 rfl (Nat.le_of_ble_eq_true rfl) dX10_steps_73 ⟨(by first | exact Nat.le_of_ble_eq_true rfl | (simp only [rm_X10_steps]; omega)), (by first | exact Nat.le_of_ble_eq_true rfl | (simp only [rm_X10_steps]; omega))⟩ (fun r u H locs hw hP hD hS => ?_)
              obtain ⟨x22_63, rfl⟩ : ∃ z, z = u := ⟨_, rfl⟩
              have hw : (r = none) ∧ (x22_39.toInt ≤ x22_63.toInt ∧ x22_63.toInt ≤ (i 21).toInt) := hw
              obtain ⟨rfl, hw_64⟩ := hw
              have hP : va_P (dC, dI) vwCl (mw g h0 b (va_up (va_up (va_up (va_up (va_up i 22 x22_63) 23 x23_40) 24 x24_41) 25 x25_42) 36 x36_43) (va_up (va_up (va_up (va_up (va_up (va_up (va_up (va_up a 26 y26_44) 27 y27_45) 28 y28_46) 29 y29_47) 30 y30_48) 31 y31_49) 32 y32_50) 33 f_61)) _ := hP
              have hD : va_D _ (mw g h0 b (va_up (va_up (va_up (va_up (va_up i 22 x22_63) 23 x23_40) 24 x24_41) 25 x25_42) 36 x36_43) (va_up (va_up (va_up (va_up (va_up (va_up (va_up (va_up a 26 y26_44) 27 y27_45) 28 y28_46) 29 y29_47) 30 y30_48) 31 y31_49) 32 y32_50) 33 f_61)) := hD
              refine W.eq (g2 := F0 m 76 ls []) rfl ?_
              refine lv_goto (tgt := 8) hx hb dX10_steps_76 (by decide) ?_
              exact ih hh z_53 x22_63 x23_40 x24_41 x25_42 x36_43 y26_44 y27_45 y28_46 y29_47 y30_48 y31_49 y32_50 f_61 _ _ _ (by omega) (by omega) (⟨dp_55, hpr_62, PR.lk hPR_54 hlk1, (Or.inr ⟨qk, hk1, hk2, hk3⟩)⟩) hP hD hS (lv_sub hl [2, 0, 3, 4] rfl)
            · have nc_60 := eq_i c_60
              have lc_60 : ((-1) : Int32).toInt = -1 := by decide
              refine lv_iload hx hb dX10_steps_55 (lv_at hl 0 rfl) ?_
              refine lv_istore_n (lv' := [(2, .int z_53), (4, .int z_53), (3, .int la), (0, .ref h0), (1, .int ib)]) hx hb dX10_steps_57 rfl hl (by decide) rfl (fun ls hl => ?_)
              refine lv_goto (tgt := 69) hx hb dX10_steps_58 (by decide) ?_
              refine lv_iload hx hb dX10_steps_69 (lv_at hl 1 rfl) ?_
              refine lv_istore_n (lv' := [(3, .int z_53), (2, .int z_53), (4, .int z_53), (0, .ref h0), (1, .int ib)]) hx hb dX10_steps_71 rfl hl (by decide) rfl (fun ls hl => ?_)
              refine lv_aload_n hx hb dX10_steps_72 rfl (lv_at hl 3 rfl) ?_
              refine M_V ⟨hx, hb, hml, hown, hts⟩ (m_X10_skip l dC dI sa g h0 b (va_up (va_up (va_up (va_up (va_up i 22 x22_39) 23 x23_40) 24 x24_41) 25 x25_42) 36 x36_43) (va_up (va_up (va_up (va_up (va_up (va_up (va_up (va_up a 26 y26_44) 27 y27_45) 28 y28_46) 29 y29_47) 30 y30_48) 31 y31_49) 32 y32_50) 33 y33_51)  _ (show 0 ≤ x22_39.toInt ∧ x22_39.toInt ≤ (i 21).toInt ∧ (i 21).toInt ≤ 1500 from by omega)) (cwV 0 hts gX10_steps_X10_skip rfl rfl rfl (by decide +kernel) ⟨(by first | exact Nat.le_of_ble_eq_true rfl | (simp only [rm_X10_skip, rm_X10_steps]; omega)), (by first | exact Nat.le_of_ble_eq_true rfl | (simp only [rm_X10_skip, rm_X10_steps]; omega))⟩) hP hD hK hS hA hev rfl rfl rfl rfl hl.1 rfl (Nat.le_of_ble_eq_true rfl) dX10_steps_73 ⟨(by first | exact Nat.le_of_ble_eq_true rfl | (simp only [rm_X10_steps]; omega)), (by first | exact Nat.le_of_ble_eq_true rfl | (simp only [rm_X10_steps]; omega))⟩ (fun r u H locs hw hP hD hS => ?_)
              obtain ⟨x22_65, rfl⟩ : ∃ z, z = u := ⟨_, rfl⟩
              have hw : (r = none) ∧ (x22_39.toInt ≤ x22_65.toInt ∧ x22_65.toInt ≤ (i 21).toInt) := hw
              obtain ⟨rfl, hw_66⟩ := hw
              have hP : va_P (dC, dI) vwCl (mw g h0 b (va_up (va_up (va_up (va_up (va_up i 22 x22_65) 23 x23_40) 24 x24_41) 25 x25_42) 36 x36_43) (va_up (va_up (va_up (va_up (va_up (va_up (va_up (va_up a 26 y26_44) 27 y27_45) 28 y28_46) 29 y29_47) 30 y30_48) 31 y31_49) 32 y32_50) 33 y33_51)) _ := hP
              have hD : va_D _ (mw g h0 b (va_up (va_up (va_up (va_up (va_up i 22 x22_65) 23 x23_40) 24 x24_41) 25 x25_42) 36 x36_43) (va_up (va_up (va_up (va_up (va_up (va_up (va_up (va_up a 26 y26_44) 27 y27_45) 28 y28_46) 29 y29_47) 30 y30_48) 31 y31_49) 32 y32_50) 33 y33_51)) := hD
              refine W.eq (g2 := F0 m 76 ls []) rfl ?_
              refine lv_goto (tgt := 8) hx hb dX10_steps_76 (by decide) ?_
              exact ih z_53 z_53 x22_65 x23_40 x24_41 x25_42 x36_43 y26_44 y27_45 y28_46 y29_47 y30_48 y31_49 y32_50 y33_51 _ _ _ (by omega) (by omega) (⟨dp_55, hpr_58, (Or.inr ⟨qk, hk1, hk2, hk3⟩), (Or.inr ⟨qk, hk1, hk2, hk3⟩)⟩) hP hD hS (lv_sub hl [1, 0, 3, 4] rfl)
          · have nc_59 := eq_i c_59
            have lc_59 : ((-1) : Int32).toInt = -1 := by decide
            refine lv_bipush (v := (-2)) hx hb dX10_steps_47 (by decide) ?_
            exact M_i hx hb hr hlocks (x22_39, x23_40, x24_41, x25_42, x36_43, y26_44, y27_45, y28_46, y29_47, y30_48, y31_49, y32_50, y33_51) hP hD hK hS ⟨⟨_, rfl⟩, ⟨⟨by omega, by omega⟩, dp_55, hpr_58, fun z9 h9 => by cases h9; exact Or.inl rfl⟩⟩ (by first | exact Nat.le_of_ble_eq_true rfl | (simp only [rm_X10_steps]; omega)) (by first | exact Nat.le_of_ble_eq_true rfl | (simp only [rm_X10_steps]; omega)) dX10_steps_49
        · have hP : va_P (dC, dI) vwCl (mw g h0 b (va_up (va_up (va_up (va_up (va_up i 22 x22_35) 23 l23) 24 l24) 25 l25) 36 l36) (va_up (va_up (va_up (va_up (va_up (va_up (va_up (va_up a 26 l26) 27 l27) 28 l28) 29 l29) 30 l30) 31 l31) 32 l32) 33 l33)) _ := hP
          have hD : va_D _ (mw g h0 b (va_up (va_up (va_up (va_up (va_up i 22 x22_35) 23 l23) 24 l24) 25 l25) 36 l36) (va_up (va_up (va_up (va_up (va_up (va_up (va_up (va_up a 26 l26) 27 l27) 28 l28) 29 l29) 30 l30) 31 l31) 32 l32) 33 l33)) := hD
          refine W.eq (g2 := F0 m 18 ls [.int 1]) rfl ?_
          refine lv_if_ne (tgt := 79) hx hb dX10_steps_18 (by decide) (fun _ => ?_) (fun c_67 => absurd c_67 (by decide))
          refine lv_iload_n hx hb dX10_steps_79 rfl (lv_at hl 3 rfl) ?_
          refine lv_if_eq (tgt := 93) hx hb dX10_steps_80 (by decide) (fun c_68 => ?_) (fun c_68 => ?_)
          · have nc_68 := eq_i c_68
            have lc_68 : (0 : Int32).toInt = 0 := by decide
            refine lv_iload_n hx hb dX10_steps_93 rfl (lv_at hl 0 rfl) ?_
            exact M_i hx hb hr hlocks (x22_35, l23, l24, l25, l36, l26, l27, l28, l29, l30, l31, l32, l33) hP hD hK hS ⟨⟨_, rfl⟩, ⟨⟨by omega, by omega⟩, dp1, hpr1, fun z9 h9 => by cases h9; exact Or.inr hlk1⟩⟩ (by first | exact Nat.le_of_ble_eq_true rfl | (simp only [rm_X10_steps]; omega)) (by first | exact Nat.le_of_ble_eq_true rfl | (simp only [rm_X10_steps]; omega)) dX10_steps_94
          · have nc_68 := ne_i c_68
            have lc_68 : (0 : Int32).toInt = 0 := by decide
            refine lv_aload_n hx hb dX10_steps_83 rfl (lv_at hl 2 rfl) ?_
            refine lv_dup hx hb dX10_steps_84 rfl ?_
            refine va_get (D := (dC, dI)) (ci := 10) (v := .int x22_35) (C := RX10) (T := TX10) (N := 51) hx hb hts inw_X10_steps_10 hown hK hP 0 rfl rfl 22 (by decide) (hts (.fieldLink RX10 168 "VatHouseModel" "at" "I") (by decide +kernel)) (fun _ h9 => h9) rfl dX10_steps_85 ?_
            refine lv_iconst (v := 1) hx hb dX10_steps_88 (by decide) ?_
            refine lv_iadd hx hb dX10_steps_89 ?_
            refine lv_topi (fun z_69 ez_69 => ?_)
            have tz9 := incz (y := i 21) (by rw [Int32.le_iff_toInt_le]; omega) ez_69
            refine va_put (D := (dC, dI)) (ci := 10) (v := .int z_69) (ty := .int) (C := RX10) (T := TX10) (N := 51) hx hb hts inw_X10_steps_10 tyX10 tyX10_ok nmX10 hown hK hP hD hS 0 rfl rfl 22 (by decide) (hts (.fieldLink RX10 168 "VatHouseModel" "at" "I") (by decide +kernel)) (fun _ h9 => h9) rfl (by decide +kernel) rfl rfl (Nat.le_of_ble_eq_true rfl) dX10_steps_90 (fun H locs hP hD hS => ?_)
            have hP : va_P (dC, dI) vwCl (mw g h0 b (va_up (va_up (va_up (va_up (va_up i 22 z_69) 23 l23) 24 l24) 25 l25) 36 l36) (va_up (va_up (va_up (va_up (va_up (va_up (va_up (va_up a 26 l26) 27 l27) 28 l28) 29 l29) 30 l30) 31 l31) 32 l32) 33 l33)) _ := hP
            have hD : va_D _ (mw g h0 b (va_up (va_up (va_up (va_up (va_up i 22 z_69) 23 l23) 24 l24) 25 l25) 36 l36) (va_up (va_up (va_up (va_up (va_up (va_up (va_up (va_up a 26 l26) 27 l27) 28 l28) 29 l29) 30 l30) 31 l31) 32 l32) 33 l33)) := hD
            refine lv_iload_n hx hb dX10_steps_93 rfl (lv_at hl 0 rfl) ?_
            exact M_i hx hb hr hlocks (z_69, l23, l24, l25, l36, l26, l27, l28, l29, l30, l31, l32, l33) hP hD hK hS ⟨⟨_, rfl⟩, ⟨⟨by omega, by omega⟩, dp1, hpr1, fun z9 h9 => by cases h9; exact Or.inr hlk1⟩⟩ (by first | exact Nat.le_of_ble_eq_true rfl | (simp only [rm_X10_steps]; omega)) (by first | exact Nat.le_of_ble_eq_true rfl | (simp only [rm_X10_steps]; omega)) dX10_steps_94
  exact lp ((300 - (i 36).toInt).toNat + 1) ((-1) : Int32) ((-1) : Int32) x22_1 (i 23) (i 24) (i 25) (i 36) (a 26) (a 27) (a 28) (a 29) (a 30) (a 31) (a 32) (a 33) _ _ _ (by omega) (by omega) (⟨dp, PR.rf hPN, Or.inl rfl, Or.inl rfl⟩) hP hD hS (lv_sub hl [1, 0, 2, 3] rfl)

theorem X10_steps_all (l : Launch) (dC : Nat → ClassId) (dI : Nat → Nat → Nat) (sa : Nat → Nat) (g : Nat → Nat) (h0 : Nat) (b : Nat → Nat) : ∀ (j bl : Nat), bl + j = 8 → ∀ (dp : Nat → Nat) (i : Nat → Int32) (a : Nat → Nat → Int32) (ib : Int32) (sz : Nat) (hSI : 0 ≤ (i 22).toInt ∧ (i 22).toInt ≤ (i 21).toInt ∧ (i 21).toInt ≤ 1500) (hPN : PN (i 36) dp (a 26) (a 27) (a 31) (a 32) (a 33)) (hBL : (i 38) = nI bl), CT l dC dI sa yX10_steps wsX10_steps (rm_X10_steps j bl dp) [.ref h0, .int ib] (mw g h0 b i a) (tyM g) sz (fun (r : Option Value) (u : Int32 × Int32 × Int32 × Int32 × Int32 × (Nat → Int32) × (Nat → Int32) × (Nat → Int32) × (Nat → Int32) × (Nat → Int32) × (Nat → Int32) × (Nat → Int32) × (Nat → Int32)) => match u with | (x22, x23, x24, x25, x36, y26, y27, y28, y29, y30, y31, y32, y33) => (∃ z : Int32, r = some (.int z)) ∧ (((i 22).toInt ≤ x22.toInt ∧ x22.toInt ≤ (i 21).toInt) ∧ ∃ dpN : Nat → Nat, PR (i 36) x36 dp dpN (a 26) (a 27) (a 31) (a 32) (a 33) y26 y27 y31 y32 y33 ∧ (∀ z : Int32, r = some (.int z) → z = -2 ∨ lk (PV x36) dpN bl z))) (fun (u : Int32 × Int32 × Int32 × Int32 × Int32 × (Nat → Int32) × (Nat → Int32) × (Nat → Int32) × (Nat → Int32) × (Nat → Int32) × (Nat → Int32) × (Nat → Int32) × (Nat → Int32)) => match u with | (x22, x23, x24, x25, x36, y26, y27, y28, y29, y30, y31, y32, y33) => mw g h0 b (va_up (va_up (va_up (va_up (va_up i 22 x22) 23 x23) 24 x24) 25 x25) 36 x36) (va_up (va_up (va_up (va_up (va_up (va_up (va_up (va_up a 26 y26) 27 y27) 28 y28) 29 y29) 30 y30) 31 y31) 32 y32) 33 y33)) (fun _ => []) 0 0 := by
  intro j
  induction j with
  | zero => exact fun bl hj dp i a ib sz hSI hPN hBL => m_X10_steps l dC dI sa g h0 b 0 bl dp i a ib sz hSI hPN hBL hj (fun j' d' _ h => absurd h (by omega))
  | succ j ih =>
    exact fun bl hj dp i a ib sz hSI hPN hBL => m_X10_steps l dC dI sa g h0 b (j + 1) bl dp i a ib sz hSI hPN hBL hj (fun j' d' hd' h => by
      obtain rfl : j = j' := by omega
      exact ih d' hd')
