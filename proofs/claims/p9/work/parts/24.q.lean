theorem nar_b {z : Int32} (h : z = 0 ∨ z = 1) : narrow .boolean (.int z) = .int z := by
  rcases h with rfl | rfl <;> rfl

theorem lv8b {x : Int32} {bl j : Nat} (hBL : x = nI bl) (hn : ¬ x = 8) (hj : bl + j = 8) : ∃ j1 : Nat, j = j1 + 1 := by
  rcases Nat.eq_zero_or_pos j with h | h
  · have e : bl = 8 := by omega
    rw [e] at hBL
    exact absurd (hBL.trans (by decide)) hn
  · exact ⟨j - 1, by omega⟩
theorem nx300 {x y : Int32} {n : Nat} (hm : (300 - x.toInt).toNat < n + 1) (h : x.toInt < y.toInt) (h3 : y.toInt ≤ 300) : (300 - y.toInt).toNat < n := by
  omega
theorem nq_ne {z n : Int32} {q : Nat} (hz : z = nI q) (hV : PV n q) (hn : n.toInt ≤ 300) : ¬ z = -1 ∧ ¬ z = -2 := by
  have h1 := hV.2
  have e : z.toInt = (q : Int) := by rw [hz]; exact nI_toInt (by omega)
  exact ⟨fun h => by rw [h] at e; have : (-1 : Int32).toInt = -1 := by decide
                     omega, fun h => by rw [h] at e; have : (-2 : Int32).toInt = -2 := by decide
                                        omega⟩
theorem lk.ne2 {V : Nat → Prop} {dp : Nat → Nat} {kd on inr oth nx : Nat → Int32} (hN : ND V dp kd on inr oth nx) {d : Nat} {x : Int32} (h : lk V dp d x) : ¬ x = -2 := by
  rcases h with h | ⟨q, h1, h2, -⟩
  · rw [h]; decide
  · have h3 := (hN q h2).1
    have e : x.toInt = (q : Int) := by rw [h1]; exact nI_toInt (by omega)
    intro h
    rw [h] at e
    have : (-2 : Int32).toInt = -2 := by decide
    omega

abbrev rm_X10_block (j : Nat) (bl : Nat) (dp : Nat → Nat) : Room := { frames := 4 * j + 60, cells := 0, slots := 0, locals := 200 * j + 1000 }
abbrev rm_X10_rest (j : Nat) (bl : Nat) (dp : Nat → Nat) : Room := { frames := 4 * j + 61, cells := 0, slots := 0, locals := 200 * j + 1040 }
abbrev rm_X10_step (j : Nat) (bl : Nat) (dp : Nat → Nat) : Room := { frames := 4 * j + 62, cells := 0, slots := 0, locals := 200 * j + 1080 }
abbrev rm_X10_steps (j : Nat) (bl : Nat) (dp : Nat → Nat) : Room := { frames := 4 * j + 63, cells := 0, slots := 0, locals := 200 * j + 1120 }
theorem inw_X10_block_10 : ∀ w ∈ wsX100, w ∈ wsX10_block := by decide +kernel
set_option maxHeartbeats 1000000 in
set_option maxRecDepth 100000 in
theorem m_X10_block (l : Launch) (dC : Nat → ClassId) (dI : Nat → Nat → Nat) (sa : Nat → Nat) (g : Nat → Nat) (h0 : Nat) (b : Nat → Nat) (j : Nat) (bl : Nat) (dp : Nat → Nat) (i : Nat → Int32) (a : Nat → Nat → Int32) (kk : Int32) (se : Int32) (sz : Nat) (hSI : 0 ≤ (i 22).toInt ∧ (i 22).toInt ≤ (i 21).toInt ∧ (i 21).toInt ≤ 1500) (hFK : 0 ≤ (i 23).toInt) (hPN : PN (i 36) dp (a 26) (a 27) (a 31) (a 32) (a 33)) (hBL : (i 38) = nI bl) (hj : bl + j = 8) (hnode : ∃ q0 : Nat, kk = nI q0 ∧ PV (i 36) q0 ∧ dp q0 = bl) (IHS : ∀ j' bl' : Nat, bl' + j' = 8 → j = j' + 1 → ∀ (dp : Nat → Nat) (i : Nat → Int32) (a : Nat → Nat → Int32) (ib : Int32) (sz : Nat) (hSI : 0 ≤ (i 22).toInt ∧ (i 22).toInt ≤ (i 21).toInt ∧ (i 21).toInt ≤ 1500) (hFK : 0 ≤ (i 23).toInt) (hPN : PN (i 36) dp (a 26) (a 27) (a 31) (a 32) (a 33)) (hBL : (i 38) = nI bl'), CT l dC dI sa yX10_steps wsX10_steps (rm_X10_steps j' bl' dp) [.ref h0, .int ib] (mw g h0 b i a) (tyM g) sz (fun (r : Option Value) (u : Int32 × Int32 × Int32 × Int32 × Int32 × (Nat → Int32) × (Nat → Int32) × (Nat → Int32) × (Nat → Int32) × (Nat → Int32) × (Nat → Int32) × (Nat → Int32) × (Nat → Int32)) => match u with | (x22, x23, x24, x25, x36, y26, y27, y28, y29, y30, y31, y32, y33) => (∃ z : Int32, r = some (.int z)) ∧ ((((i 22).toInt ≤ x22.toInt ∧ x22.toInt ≤ (i 21).toInt) ∧ 0 ≤ x23.toInt ∧ (0 < (i 23).toInt → 0 < x23.toInt)) ∧ ∃ dpN : Nat → Nat, PR (i 36) x36 dp dpN (a 26) (a 27) (a 31) (a 32) (a 33) y26 y27 y31 y32 y33 ∧ (∀ z : Int32, r = some (.int z) → (z = -2 ∧ 0 < x23.toInt) ∨ lk (PV x36) dpN bl' z))) (fun (u : Int32 × Int32 × Int32 × Int32 × Int32 × (Nat → Int32) × (Nat → Int32) × (Nat → Int32) × (Nat → Int32) × (Nat → Int32) × (Nat → Int32) × (Nat → Int32) × (Nat → Int32)) => match u with | (x22, x23, x24, x25, x36, y26, y27, y28, y29, y30, y31, y32, y33) => mw g h0 b (va_up (va_up (va_up (va_up (va_up i 22 x22) 23 x23) 24 x24) 25 x25) 36 x36) (va_up (va_up (va_up (va_up (va_up (va_up (va_up (va_up a 26 y26) 27 y27) 28 y28) 29 y29) 30 y30) 31 y31) 32 y32) 33 y33)) (fun _ => []) 0 0) : CT l dC dI sa yX10_block wsX10_block (rm_X10_block j bl dp) [.ref h0, .int kk, .int se] (mw g h0 b i a) (tyM g) sz (fun (r : Option Value) (u : Int32 × Int32 × Int32 × Int32 × Int32 × (Nat → Int32) × (Nat → Int32) × (Nat → Int32) × (Nat → Int32) × (Nat → Int32) × (Nat → Int32) × (Nat → Int32) × (Nat → Int32)) => match u with | (x22, x23, x24, x25, x36, y26, y27, y28, y29, y30, y31, y32, y33) => ((r = some (.int 0) ∧ (0 < x23.toInt)) ∨ (r = some (.int 1) ∧ (True))) ∧ ((((i 22).toInt ≤ x22.toInt ∧ x22.toInt ≤ (i 21).toInt) ∧ 0 ≤ x23.toInt ∧ (0 < (i 23).toInt → 0 < x23.toInt)) ∧ ∃ dpN : Nat → Nat, PR (i 36) x36 dp dpN (a 26) (a 27) (a 31) (a 32) (a 33) y26 y27 y31 y32 y33)) (fun (u : Int32 × Int32 × Int32 × Int32 × Int32 × (Nat → Int32) × (Nat → Int32) × (Nat → Int32) × (Nat → Int32) × (Nat → Int32) × (Nat → Int32) × (Nat → Int32) × (Nat → Int32)) => match u with | (x22, x23, x24, x25, x36, y26, y27, y28, y29, y30, y31, y32, y33) => mw g h0 b (va_up (va_up (va_up (va_up (va_up i 22 x22) 23 x23) 24 x24) 25 x25) 36 x36) (va_up (va_up (va_up (va_up (va_up (va_up (va_up (va_up a 26 y26) 27 y27) 28 y28) 29 y29) 30 y30) 31 y31) 32 y32) 33 y33)) (fun _ => []) 0 0 := by
  refine CT.start (cc := cX10_block) (maxL := 4) (ret := (some .boolean)) (by decide) rfl (Nat.le_of_ble_eq_true rfl) ?_
  intro p e s m below meth c ls hst hP hK hD hev hS hl
  obtain ⟨hx, hb, hr, hml, hts, hown, hlocks, hin⟩ := hst
  have hown : s.vm.findClass RX10 = some m.cls := hown
  have hA : ∀ q : Nat, s.heap.size ≤ q → va_A (mw g h0 b i a) s.heap.size q := fun _ h => Or.inr h
  have hl : lv_has ls 4 [(0, .ref h0), (1, .int kk), (2, .int se)] := hl
  obtain ⟨q, hq, hVq, hdq⟩ := hnode
  have hq27 := (hPN.2.2 q hVq).1
  have hkq : kk.toNatClampNeg = q := by rw [hq]; exact nI_clamp (by omega)
  have hk : vp_in kk 2700 := by rw [hq]; exact vp_in_nI hq27 (by decide)
  refine lv_aload_n hx hb dX10_block_0 rfl (lv_at hl 0 rfl) ?_
  refine lv_bipush (v := 123) hx hb dX10_block_1 (by decide) ?_
  refine M_V ⟨hx, hb, hml, hown, hts⟩ (m_X10_isSign l dC dI sa g h0 b i a (123 : Int32) _ (show 0 ≤ (i 22).toInt ∧ (i 22).toInt ≤ (i 21).toInt ∧ (i 21).toInt ≤ 1500 from by omega)) (cwV 1 hts gX10_block_X10_isSign rfl rfl rfl (by decide +kernel) ⟨(by first | exact Nat.le_of_ble_eq_true rfl | (simp only [rm_X10_isSign, rm_X10_block]; omega)), (by first | exact Nat.le_of_ble_eq_true rfl | (simp only [rm_X10_isSign, rm_X10_block]; omega))⟩) hP hD hK hS hA hev rfl rfl rfl rfl hl.1 rfl (Nat.le_of_ble_eq_true rfl) dX10_block_3 ⟨(by first | exact Nat.le_of_ble_eq_true rfl | (simp only [rm_X10_block]; omega)), (by first | exact Nat.le_of_ble_eq_true rfl | (simp only [rm_X10_block]; omega))⟩ (fun r u H locs hw hP hD hS => ?_)
  obtain ⟨x22_1, rfl⟩ : ∃ z, z = u := ⟨_, rfl⟩
  have hw : ((r = some (.int 0) ∧ (True)) ∨ (r = some (.int 1) ∧ (x22_1.toInt < (i 21).toInt))) ∧ ((i 22).toInt ≤ x22_1.toInt ∧ x22_1.toInt ≤ (i 21).toInt) := hw
  obtain ⟨⟨rfl, hz2_3⟩ | ⟨rfl, hz2_3⟩, hw_2⟩ := hw
  · have hP : va_P (dC, dI) vwCl (mw g h0 b (va_up i 22 x22_1) a) _ := hP
    have hD : va_D _ (mw g h0 b (va_up i 22 x22_1) a) := hD
    refine W.eq (g2 := F0 m 6 ls [.int 0]) rfl ?_
    refine lv_if_ne (tgt := 19) hx hb dX10_block_6 (by decide) (fun c_4 => absurd c_4 (by decide)) (fun _ => ?_)
    refine lv_aload_n hx hb dX10_block_9 rfl (lv_at hl 0 rfl) ?_
    refine lv_iconst (v := 1) hx hb dX10_block_10 (by decide) ?_
    refine lv_aload_n hx hb dX10_block_11 rfl (lv_at hl 0 rfl) ?_
    refine va_get (D := (dC, dI)) (ci := 10) (v := .int x22_1) (C := RX10) (T := TX10) (N := 51) hx hb hts inw_X10_block_10 hown hK hP 0 rfl rfl 22 (by decide) (hts (.fieldLink RX10 168 "VatHouseModel" "at" "I") (by decide +kernel)) (fun _ h9 => h9) rfl dX10_block_12 ?_
    refine M_V ⟨hx, hb, hml, hown, hts⟩ (m_X10_wrong l dC dI sa g h0 b (va_up i 22 x22_1) a (1 : Int32) x22_1 _ (by decide) (show 0 ≤ (i 23).toInt from by omega)) (cwV 2 hts gX10_block_X10_wrong rfl rfl rfl (by decide +kernel) ⟨(by first | exact Nat.le_of_ble_eq_true rfl | (simp only [rm_X10_wrong, rm_X10_block]; omega)), (by first | exact Nat.le_of_ble_eq_true rfl | (simp only [rm_X10_wrong, rm_X10_block]; omega))⟩) hP hD hK hS hA hev rfl rfl rfl rfl hl.1 rfl (Nat.le_of_ble_eq_true rfl) dX10_block_15 ⟨(by first | exact Nat.le_of_ble_eq_true rfl | (simp only [rm_X10_block]; omega)), (by first | exact Nat.le_of_ble_eq_true rfl | (simp only [rm_X10_block]; omega))⟩ (fun r u H locs hw hP hD hS => ?_)
    obtain ⟨x23_5, x24_6⟩ := u
    have hw : ((r = some (.int 0) ∧ (0 < x23_5.toInt)) ∨ (r = some (.int 1) ∧ (False))) ∧ (True) := hw
    obtain ⟨⟨rfl, hz2_8⟩ | ⟨rfl, hz2_8⟩, hw_7⟩ := hw
    · have hP : va_P (dC, dI) vwCl (mw g h0 b (va_up (va_up (va_up i 22 x22_1) 23 x23_5) 24 x24_6) a) _ := hP
      have hD : va_D _ (mw g h0 b (va_up (va_up (va_up i 22 x22_1) 23 x23_5) 24 x24_6) a) := hD
      refine W.eq (g2 := F0 m 18 ls [.int 0]) rfl ?_
      exact M_z hx hb hr rfl hlocks (x22_1, x23_5, x24_6, (i 25), (i 36), (a 26), (a 27), (a 28), (a 29), (a 30), (a 31), (a 32), (a 33)) hP hD hK hS ⟨Or.inl ⟨rfl, by omega⟩, ⟨⟨⟨by omega, by omega⟩, by omega, fun h9 => by omega⟩, dp, (PR.rf hPN)⟩⟩ (by first | exact Nat.le_of_ble_eq_true rfl | (simp only [rm_X10_block]; omega)) (by first | exact Nat.le_of_ble_eq_true rfl | (simp only [rm_X10_block]; omega)) dX10_block_18
    · have hP : va_P (dC, dI) vwCl (mw g h0 b (va_up (va_up (va_up i 22 x22_1) 23 x23_5) 24 x24_6) a) _ := hP
      have hD : va_D _ (mw g h0 b (va_up (va_up (va_up i 22 x22_1) 23 x23_5) 24 x24_6) a) := hD
      refine W.eq (g2 := F0 m 18 ls [.int 1]) rfl ?_
      exact hz2_8.elim
  · have hP : va_P (dC, dI) vwCl (mw g h0 b (va_up i 22 x22_1) a) _ := hP
    have hD : va_D _ (mw g h0 b (va_up i 22 x22_1) a) := hD
    refine W.eq (g2 := F0 m 6 ls [.int 1]) rfl ?_
    refine lv_if_ne (tgt := 19) hx hb dX10_block_6 (by decide) (fun _ => ?_) (fun c_9 => absurd c_9 (by decide))
    refine lv_aload_n hx hb dX10_block_19 rfl (lv_at hl 0 rfl) ?_
    refine va_get (D := (dC, dI)) (ci := 10) (v := .int (i 38)) (C := RX10) (T := TX10) (N := 51) hx hb hts inw_X10_block_10 hown hK hP 0 rfl rfl 38 (by decide) (hts (.fieldLink RX10 277 "VatHouseModel" "blocks" "I") (by decide +kernel)) (fun _ h9 => h9) rfl dX10_block_20 ?_
    refine lv_bipush (v := 8) hx hb dX10_block_23 (by decide) ?_
    refine lv_icmp_ne (tgt := 38) hx hb dX10_block_25 (by decide) (fun c_10 => ?_) (fun c_10 => ?_)
    · have nc_10 := ne_i c_10
      have lc_10 : (8 : Int32).toInt = 8 := by decide
      refine lv_aload_n hx hb dX10_block_38 rfl (lv_at hl 0 rfl) ?_
      refine lv_dup hx hb dX10_block_39 rfl ?_
      refine va_get (D := (dC, dI)) (ci := 10) (v := .int (i 38)) (C := RX10) (T := TX10) (N := 51) hx hb hts inw_X10_block_10 hown hK hP 0 rfl rfl 38 (by decide) (hts (.fieldLink RX10 277 "VatHouseModel" "blocks" "I") (by decide +kernel)) (fun _ h9 => h9) rfl dX10_block_40 ?_
      refine lv_iconst (v := 1) hx hb dX10_block_43 (by decide) ?_
      refine lv_iadd hx hb dX10_block_44 ?_
      refine lv_topi (fun z_11 ez_11 => ?_)
      refine va_put (D := (dC, dI)) (ci := 10) (v := .int z_11) (ty := .int) (C := RX10) (T := TX10) (N := 51) hx hb hts inw_X10_block_10 tyX10 tyX10_ok nmX10 hown hK hP hD hS 0 rfl rfl 38 (by decide) (hts (.fieldLink RX10 277 "VatHouseModel" "blocks" "I") (by decide +kernel)) (fun _ h9 => h9) rfl (by decide +kernel) rfl rfl (Nat.le_of_ble_eq_true rfl) dX10_block_45 (fun H locs hP hD hS => ?_)
      have hP : va_P (dC, dI) vwCl (mw g h0 b (va_up (va_up i 22 x22_1) 38 z_11) a) _ := hP
      have hD : va_D _ (mw g h0 b (va_up (va_up i 22 x22_1) 38 z_11) a) := hD
      refine lv_aload_n hx hb dX10_block_48 rfl (lv_at hl 0 rfl) ?_
      refine lv_dup hx hb dX10_block_49 rfl ?_
      refine va_get (D := (dC, dI)) (ci := 10) (v := .int x22_1) (C := RX10) (T := TX10) (N := 51) hx hb hts inw_X10_block_10 hown hK hP 0 rfl rfl 22 (by decide) (hts (.fieldLink RX10 168 "VatHouseModel" "at" "I") (by decide +kernel)) (fun _ h9 => h9) rfl dX10_block_50 ?_
      refine lv_iconst (v := 1) hx hb dX10_block_53 (by decide) ?_
      refine lv_iadd hx hb dX10_block_54 ?_
      refine lv_topi (fun z_12 ez_12 => ?_)
      have tz9 := incz (y := i 21) (by rw [Int32.le_iff_toInt_le]; omega) ez_12
      refine va_put (D := (dC, dI)) (ci := 10) (v := .int z_12) (ty := .int) (C := RX10) (T := TX10) (N := 51) hx hb hts inw_X10_block_10 tyX10 tyX10_ok nmX10 hown hK hP hD hS 0 rfl rfl 22 (by decide) (hts (.fieldLink RX10 168 "VatHouseModel" "at" "I") (by decide +kernel)) (fun _ h9 => h9) rfl (by decide +kernel) rfl rfl (Nat.le_of_ble_eq_true rfl) dX10_block_55 (fun H locs hP hD hS => ?_)
      have hP : va_P (dC, dI) vwCl (mw g h0 b (va_up (va_up i 22 z_12) 38 z_11) a) _ := hP
      have hD : va_D _ (mw g h0 b (va_up (va_up i 22 z_12) 38 z_11) a) := hD
      refine lv_aload_n hx hb dX10_block_58 rfl (lv_at hl 0 rfl) ?_
      refine lv_iconst (v := 1) hx hb dX10_block_59 (by decide) ?_
      obtain ⟨j1, hj_13⟩ := lv8b hBL c_10 hj
      refine M_V ⟨hx, hb, hml, hown, hts⟩ (IHS j1 (bl + 1) (by omega) hj_13 dp (va_up (va_up i 22 z_12) 38 z_11) a (1 : Int32) _ (show 0 ≤ z_12.toInt ∧ z_12.toInt ≤ (i 21).toInt ∧ (i 21).toInt ≤ 1500 from by omega) (show 0 ≤ (i 23).toInt from by omega) hPN (by show z_11 = nI (bl + 1); rw [ez_11, hBL]; exact nI_1 bl)) (cwV 1 hts gX10_block_X10_steps rfl rfl rfl (by decide +kernel) ⟨(by first | exact Nat.le_of_ble_eq_true rfl | (simp only [rm_X10_steps, rm_X10_block]; omega)), (by first | exact Nat.le_of_ble_eq_true rfl | (simp only [rm_X10_steps, rm_X10_block]; omega))⟩) hP hD hK hS hA hev rfl rfl rfl rfl hl.1 rfl (Nat.le_of_ble_eq_true rfl) dX10_block_60 ⟨(by first | exact Nat.le_of_ble_eq_true rfl | (simp only [rm_X10_block]; omega)), (by first | exact Nat.le_of_ble_eq_true rfl | (simp only [rm_X10_block]; omega))⟩ (fun r u H locs hw hP hD hS => ?_)
      obtain ⟨x22_14, x23_15, x24_16, x25_17, x36_18, y26_19, y27_20, y28_21, y29_22, y30_23, y31_24, y32_25, y33_26⟩ := u
      have hw : (∃ z : Int32, r = some (.int z)) ∧ (((z_12.toInt ≤ x22_14.toInt ∧ x22_14.toInt ≤ (i 21).toInt) ∧ 0 ≤ x23_15.toInt ∧ (0 < (i 23).toInt → 0 < x23_15.toInt)) ∧ ∃ dpN : Nat → Nat, PR (i 36) x36_18 dp dpN (a 26) (a 27) (a 31) (a 32) (a 33) y26_19 y27_20 y31_24 y32_25 y33_26 ∧ (∀ z : Int32, r = some (.int z) → (z = -2 ∧ 0 < x23_15.toInt) ∨ lk (PV x36_18) dpN (bl + 1) z)) := hw
      obtain ⟨⟨z_28, rfl⟩, hw_27⟩ := hw
      have hP : va_P (dC, dI) vwCl (mw g h0 b (va_up (va_up (va_up (va_up (va_up (va_up i 22 x22_14) 23 x23_15) 24 x24_16) 25 x25_17) 36 x36_18) 38 z_11) (va_up (va_up (va_up (va_up (va_up (va_up (va_up (va_up a 26 y26_19) 27 y27_20) 28 y28_21) 29 y29_22) 30 y30_23) 31 y31_24) 32 y32_25) 33 y33_26)) _ := hP
      have hD : va_D _ (mw g h0 b (va_up (va_up (va_up (va_up (va_up (va_up i 22 x22_14) 23 x23_15) 24 x24_16) 25 x25_17) 36 x36_18) 38 z_11) (va_up (va_up (va_up (va_up (va_up (va_up (va_up (va_up a 26 y26_19) 27 y27_20) 28 y28_21) 29 y29_22) 30 y30_23) 31 y31_24) 32 y32_25) 33 y33_26)) := hD
      refine W.eq (g2 := F0 m 63 ls [.int z_28]) rfl ?_
      obtain ⟨hatq_32, dp_30, hPR_29, hres_31⟩ := hw_27
      have hres_31 := hres_31 _ rfl
      have hpr_33 := PR.tr (PR.rf hPN) hPR_29
      refine lv_istore_n (lv' := [(3, .int z_28), (0, .ref h0), (1, .int kk), (2, .int se)]) hx hb dX10_block_63 rfl hl (by decide) rfl (fun ls hl => ?_)
      refine lv_aload_n hx hb dX10_block_64 rfl (lv_at hl 1 rfl) ?_
      refine lv_dup hx hb dX10_block_65 rfl ?_
      refine va_get (D := (dC, dI)) (ci := 10) (v := .int z_11) (C := RX10) (T := TX10) (N := 51) hx hb hts inw_X10_block_10 hown hK hP 0 rfl rfl 38 (by decide) (hts (.fieldLink RX10 277 "VatHouseModel" "blocks" "I") (by decide +kernel)) (fun _ h9 => h9) rfl dX10_block_66 ?_
      refine lv_iconst (v := 1) hx hb dX10_block_69 (by decide) ?_
      refine lv_isub hx hb dX10_block_70 ?_
      refine lv_topi (fun z_34 ez_34 => ?_)
      refine va_put (D := (dC, dI)) (ci := 10) (v := .int z_34) (ty := .int) (C := RX10) (T := TX10) (N := 51) hx hb hts inw_X10_block_10 tyX10 tyX10_ok nmX10 hown hK hP hD hS 0 rfl rfl 38 (by decide) (hts (.fieldLink RX10 277 "VatHouseModel" "blocks" "I") (by decide +kernel)) (fun _ h9 => h9) rfl (by decide +kernel) rfl rfl (Nat.le_of_ble_eq_true rfl) dX10_block_71 (fun H locs hP hD hS => ?_)
      have hP : va_P (dC, dI) vwCl (mw g h0 b (va_up (va_up (va_up (va_up (va_up (va_up i 22 x22_14) 23 x23_15) 24 x24_16) 25 x25_17) 36 x36_18) 38 z_34) (va_up (va_up (va_up (va_up (va_up (va_up (va_up (va_up a 26 y26_19) 27 y27_20) 28 y28_21) 29 y29_22) 30 y30_23) 31 y31_24) 32 y32_25) 33 y33_26)) _ := hP
      have hD : va_D _ (mw g h0 b (va_up (va_up (va_up (va_up (va_up (va_up i 22 x22_14) 23 x23_15) 24 x24_16) 25 x25_17) 36 x36_18) 38 z_34) (va_up (va_up (va_up (va_up (va_up (va_up (va_up (va_up a 26 y26_19) 27 y27_20) 28 y28_21) 29 y29_22) 30 y30_23) 31 y31_24) 32 y32_25) 33 y33_26)) := hD
      obtain rfl : z_34 = i 38 := by rw [ez_34, ez_11]; exact Int32.add_sub_cancel _ _
      have hP : va_P (dC, dI) vwCl (mw g h0 b (va_up (va_up (va_up (va_up (va_up i 22 x22_14) 23 x23_15) 24 x24_16) 25 x25_17) 36 x36_18) (va_up (va_up (va_up (va_up (va_up (va_up (va_up (va_up a 26 y26_19) 27 y27_20) 28 y28_21) 29 y29_22) 30 y30_23) 31 y31_24) 32 y32_25) 33 y33_26)) _ := hP
      have hD : va_D _ (mw g h0 b (va_up (va_up (va_up (va_up (va_up i 22 x22_14) 23 x23_15) 24 x24_16) 25 x25_17) 36 x36_18) (va_up (va_up (va_up (va_up (va_up (va_up (va_up (va_up a 26 y26_19) 27 y27_20) 28 y28_21) 29 y29_22) 30 y30_23) 31 y31_24) 32 y32_25) 33 y33_26)) := hD
      refine lv_iload_n hx hb dX10_block_74 rfl (lv_at hl 0 rfl) ?_
      refine lv_bipush (v := (-2)) hx hb dX10_block_75 (by decide) ?_
      refine lv_icmp_ne (tgt := 82) hx hb dX10_block_77 (by decide) (fun c_35 => ?_) (fun c_35 => ?_)
      · have nc_35 := ne_i c_35
        have lc_35 : ((-2) : Int32).toInt = -2 := by decide
        refine lv_iload_n hx hb dX10_block_82 rfl (lv_at hl 3 rfl) ?_
        refine lv_if_eq (tgt := 96) hx hb dX10_block_83 (by decide) (fun c_36 => ?_) (fun c_36 => ?_)
        · have nc_36 := eq_i c_36
          have lc_36 : (0 : Int32).toInt = 0 := by decide
          refine lv_aload_n hx hb dX10_block_96 rfl (lv_at hl 1 rfl) ?_
          refine va_get (D := (dC, dI)) (ci := 10) (v := .ref (b 31)) (C := RX10) (T := TX10) (N := 51) hx hb hts inw_X10_block_10 hown hK hP 0 rfl rfl 31 (by decide) (hts (.fieldLink RX10 75 "VatHouseModel" "inner" "[I") (by decide +kernel)) (fun _ h9 => h9) rfl dX10_block_97 ?_
          refine lv_iload_n hx hb dX10_block_100 rfl (lv_at hl 2 rfl) ?_
          refine lv_iload_n hx hb dX10_block_101 rfl (lv_at hl 0 rfl) ?_
          refine va_iast hx hb hK hP hD hS 21 20 rfl rfl (by assumption) dX10_block_102 (fun H locs hP hD hS => ?_)
          have hP : va_P (dC, dI) vwCl (mw g h0 b (va_up (va_up (va_up (va_up (va_up i 22 x22_14) 23 x23_15) 24 x24_16) 25 x25_17) 36 x36_18) (va_up (va_up (va_up (va_up (va_up (va_up (va_up (va_up a 26 y26_19) 27 y27_20) 28 y28_21) 29 y29_22) 30 y30_23) 31 (upd y31_24 kk.toNatClampNeg z_28)) 32 y32_25) 33 y33_26)) _ := hP
          have hD : va_D _ (mw g h0 b (va_up (va_up (va_up (va_up (va_up i 22 x22_14) 23 x23_15) 24 x24_16) 25 x25_17) 36 x36_18) (va_up (va_up (va_up (va_up (va_up (va_up (va_up (va_up a 26 y26_19) 27 y27_20) 28 y28_21) 29 y29_22) 30 y30_23) 31 (upd y31_24 kk.toNatClampNeg z_28)) 32 y32_25) 33 y33_26)) := hD
          obtain ⟨f_37, ef_37⟩ : ∃ z, z = (upd y31_24 kk.toNatClampNeg z_28) := ⟨_, rfl⟩
          rw [← ef_37] at hP hD
          have hnd := PR.nd hpr_33 hVq hdq
          have hp_38 := PN.inner hPR_29.2.1 hq hnd.1 (by rw [hnd.2]; exact hres_31.resolve_left (fun h9 => c_35 h9.1))
          rw [← ef_37] at hp_38
          have hpr_39 := PR.tr hpr_33 hp_38
          refine lv_iconst (v := 1) hx hb dX10_block_103 (by decide) ?_
          exact M_z hx hb hr rfl hlocks (x22_14, x23_15, x24_16, x25_17, x36_18, y26_19, y27_20, y28_21, y29_22, y30_23, f_37, y32_25, y33_26) hP hD hK hS ⟨Or.inr ⟨rfl, trivial⟩, ⟨⟨⟨by omega, by omega⟩, by omega, fun h9 => by omega⟩, dp_30, hpr_39⟩⟩ (by first | exact Nat.le_of_ble_eq_true rfl | (simp only [rm_X10_block]; omega)) (by first | exact Nat.le_of_ble_eq_true rfl | (simp only [rm_X10_block]; omega)) dX10_block_104
        · have nc_36 := ne_i c_36
          have lc_36 : (0 : Int32).toInt = 0 := by decide
          refine lv_aload_n hx hb dX10_block_86 rfl (lv_at hl 1 rfl) ?_
          refine va_get (D := (dC, dI)) (ci := 10) (v := .ref (b 32)) (C := RX10) (T := TX10) (N := 51) hx hb hts inw_X10_block_10 hown hK hP 0 rfl rfl 32 (by decide) (hts (.fieldLink RX10 78 "VatHouseModel" "other" "[I") (by decide +kernel)) (fun _ h9 => h9) rfl dX10_block_87 ?_
          refine lv_iload_n hx hb dX10_block_90 rfl (lv_at hl 2 rfl) ?_
          refine lv_iload_n hx hb dX10_block_91 rfl (lv_at hl 0 rfl) ?_
          refine va_iast hx hb hK hP hD hS 22 21 rfl rfl (by assumption) dX10_block_92 (fun H locs hP hD hS => ?_)
          have hP : va_P (dC, dI) vwCl (mw g h0 b (va_up (va_up (va_up (va_up (va_up i 22 x22_14) 23 x23_15) 24 x24_16) 25 x25_17) 36 x36_18) (va_up (va_up (va_up (va_up (va_up (va_up (va_up (va_up a 26 y26_19) 27 y27_20) 28 y28_21) 29 y29_22) 30 y30_23) 31 y31_24) 32 (upd y32_25 kk.toNatClampNeg z_28)) 33 y33_26)) _ := hP
          have hD : va_D _ (mw g h0 b (va_up (va_up (va_up (va_up (va_up i 22 x22_14) 23 x23_15) 24 x24_16) 25 x25_17) 36 x36_18) (va_up (va_up (va_up (va_up (va_up (va_up (va_up (va_up a 26 y26_19) 27 y27_20) 28 y28_21) 29 y29_22) 30 y30_23) 31 y31_24) 32 (upd y32_25 kk.toNatClampNeg z_28)) 33 y33_26)) := hD
          obtain ⟨f_40, ef_40⟩ : ∃ z, z = (upd y32_25 kk.toNatClampNeg z_28) := ⟨_, rfl⟩
          rw [← ef_40] at hP hD
          refine lv_goto (tgt := 103) hx hb dX10_block_93 (by decide) ?_
          have hnd := PR.nd hpr_33 hVq hdq
          have hp_41 := PN.other hPR_29.2.1 hq hnd.1 (by rw [hnd.2]; exact hres_31.resolve_left (fun h9 => c_35 h9.1))
          rw [← ef_40] at hp_41
          have hpr_42 := PR.tr hpr_33 hp_41
          refine lv_iconst (v := 1) hx hb dX10_block_103 (by decide) ?_
          exact M_z hx hb hr rfl hlocks (x22_14, x23_15, x24_16, x25_17, x36_18, y26_19, y27_20, y28_21, y29_22, y30_23, y31_24, f_40, y33_26) hP hD hK hS ⟨Or.inr ⟨rfl, trivial⟩, ⟨⟨⟨by omega, by omega⟩, by omega, fun h9 => by omega⟩, dp_30, hpr_42⟩⟩ (by first | exact Nat.le_of_ble_eq_true rfl | (simp only [rm_X10_block]; omega)) (by first | exact Nat.le_of_ble_eq_true rfl | (simp only [rm_X10_block]; omega)) dX10_block_104
      · have nc_35 := eq_i c_35
        have lc_35 : ((-2) : Int32).toInt = -2 := by decide
        have hf0 := (hres_31.resolve_right (fun h9 => lk.ne2 hPR_29.2.1.2.2 h9 c_35)).2
        refine lv_iconst (v := 0) hx hb dX10_block_80 (by decide) ?_
        exact M_z hx hb hr rfl hlocks (x22_14, x23_15, x24_16, x25_17, x36_18, y26_19, y27_20, y28_21, y29_22, y30_23, y31_24, y32_25, y33_26) hP hD hK hS ⟨Or.inl ⟨rfl, by omega⟩, ⟨⟨⟨by omega, by omega⟩, by omega, fun h9 => by omega⟩, dp_30, hpr_33⟩⟩ (by first | exact Nat.le_of_ble_eq_true rfl | (simp only [rm_X10_block]; omega)) (by first | exact Nat.le_of_ble_eq_true rfl | (simp only [rm_X10_block]; omega)) dX10_block_81
    · have nc_10 := eq_i c_10
      have lc_10 : (8 : Int32).toInt = 8 := by decide
      refine lv_aload_n hx hb dX10_block_28 rfl (lv_at hl 0 rfl) ?_
      refine lv_iconst (v := 2) hx hb dX10_block_29 (by decide) ?_
      refine lv_aload_n hx hb dX10_block_30 rfl (lv_at hl 0 rfl) ?_
      refine va_get (D := (dC, dI)) (ci := 10) (v := .int x22_1) (C := RX10) (T := TX10) (N := 51) hx hb hts inw_X10_block_10 hown hK hP 0 rfl rfl 22 (by decide) (hts (.fieldLink RX10 168 "VatHouseModel" "at" "I") (by decide +kernel)) (fun _ h9 => h9) rfl dX10_block_31 ?_
      refine M_V ⟨hx, hb, hml, hown, hts⟩ (m_X10_wrong l dC dI sa g h0 b (va_up i 22 x22_1) a (2 : Int32) x22_1 _ (by decide) (show 0 ≤ (i 23).toInt from by omega)) (cwV 2 hts gX10_block_X10_wrong rfl rfl rfl (by decide +kernel) ⟨(by first | exact Nat.le_of_ble_eq_true rfl | (simp only [rm_X10_wrong, rm_X10_block]; omega)), (by first | exact Nat.le_of_ble_eq_true rfl | (simp only [rm_X10_wrong, rm_X10_block]; omega))⟩) hP hD hK hS hA hev rfl rfl rfl rfl hl.1 rfl (Nat.le_of_ble_eq_true rfl) dX10_block_34 ⟨(by first | exact Nat.le_of_ble_eq_true rfl | (simp only [rm_X10_block]; omega)), (by first | exact Nat.le_of_ble_eq_true rfl | (simp only [rm_X10_block]; omega))⟩ (fun r u H locs hw hP hD hS => ?_)
      obtain ⟨x23_43, x24_44⟩ := u
      have hw : ((r = some (.int 0) ∧ (0 < x23_43.toInt)) ∨ (r = some (.int 1) ∧ (False))) ∧ (True) := hw
      obtain ⟨⟨rfl, hz2_46⟩ | ⟨rfl, hz2_46⟩, hw_45⟩ := hw
      · have hP : va_P (dC, dI) vwCl (mw g h0 b (va_up (va_up (va_up i 22 x22_1) 23 x23_43) 24 x24_44) a) _ := hP
        have hD : va_D _ (mw g h0 b (va_up (va_up (va_up i 22 x22_1) 23 x23_43) 24 x24_44) a) := hD
        refine W.eq (g2 := F0 m 37 ls [.int 0]) rfl ?_
        exact M_z hx hb hr rfl hlocks (x22_1, x23_43, x24_44, (i 25), (i 36), (a 26), (a 27), (a 28), (a 29), (a 30), (a 31), (a 32), (a 33)) hP hD hK hS ⟨Or.inl ⟨rfl, by omega⟩, ⟨⟨⟨by omega, by omega⟩, by omega, fun h9 => by omega⟩, dp, (PR.rf hPN)⟩⟩ (by first | exact Nat.le_of_ble_eq_true rfl | (simp only [rm_X10_block]; omega)) (by first | exact Nat.le_of_ble_eq_true rfl | (simp only [rm_X10_block]; omega)) dX10_block_37
      · have hP : va_P (dC, dI) vwCl (mw g h0 b (va_up (va_up (va_up i 22 x22_1) 23 x23_43) 24 x24_44) a) _ := hP
        have hD : va_D _ (mw g h0 b (va_up (va_up (va_up i 22 x22_1) 23 x23_43) 24 x24_44) a) := hD
        refine W.eq (g2 := F0 m 37 ls [.int 1]) rfl ?_
        exact hz2_46.elim

theorem inw_X10_rest_10 : ∀ w ∈ wsX100, w ∈ wsX10_rest := by decide +kernel
set_option maxHeartbeats 1000000 in
set_option maxRecDepth 100000 in
theorem m_X10_rest (l : Launch) (dC : Nat → ClassId) (dI : Nat → Nat → Nat) (sa : Nat → Nat) (g : Nat → Nat) (h0 : Nat) (b : Nat → Nat) (j : Nat) (bl : Nat) (dp : Nat → Nat) (i : Nat → Int32) (a : Nat → Nat → Int32) (kk : Int32) (sz : Nat) (hSI : 0 ≤ (i 22).toInt ∧ (i 22).toInt ≤ (i 21).toInt ∧ (i 21).toInt ≤ 1500) (hFK : 0 ≤ (i 23).toInt) (hPN : PN (i 36) dp (a 26) (a 27) (a 31) (a 32) (a 33)) (hBL : (i 38) = nI bl) (hj : bl + j = 8) (hnode : ∃ q0 : Nat, kk = nI q0 ∧ PV (i 36) q0 ∧ dp q0 = bl) (IHS : ∀ j' bl' : Nat, bl' + j' = 8 → j = j' + 1 → ∀ (dp : Nat → Nat) (i : Nat → Int32) (a : Nat → Nat → Int32) (ib : Int32) (sz : Nat) (hSI : 0 ≤ (i 22).toInt ∧ (i 22).toInt ≤ (i 21).toInt ∧ (i 21).toInt ≤ 1500) (hFK : 0 ≤ (i 23).toInt) (hPN : PN (i 36) dp (a 26) (a 27) (a 31) (a 32) (a 33)) (hBL : (i 38) = nI bl'), CT l dC dI sa yX10_steps wsX10_steps (rm_X10_steps j' bl' dp) [.ref h0, .int ib] (mw g h0 b i a) (tyM g) sz (fun (r : Option Value) (u : Int32 × Int32 × Int32 × Int32 × Int32 × (Nat → Int32) × (Nat → Int32) × (Nat → Int32) × (Nat → Int32) × (Nat → Int32) × (Nat → Int32) × (Nat → Int32) × (Nat → Int32)) => match u with | (x22, x23, x24, x25, x36, y26, y27, y28, y29, y30, y31, y32, y33) => (∃ z : Int32, r = some (.int z)) ∧ ((((i 22).toInt ≤ x22.toInt ∧ x22.toInt ≤ (i 21).toInt) ∧ 0 ≤ x23.toInt ∧ (0 < (i 23).toInt → 0 < x23.toInt)) ∧ ∃ dpN : Nat → Nat, PR (i 36) x36 dp dpN (a 26) (a 27) (a 31) (a 32) (a 33) y26 y27 y31 y32 y33 ∧ (∀ z : Int32, r = some (.int z) → (z = -2 ∧ 0 < x23.toInt) ∨ lk (PV x36) dpN bl' z))) (fun (u : Int32 × Int32 × Int32 × Int32 × Int32 × (Nat → Int32) × (Nat → Int32) × (Nat → Int32) × (Nat → Int32) × (Nat → Int32) × (Nat → Int32) × (Nat → Int32) × (Nat → Int32)) => match u with | (x22, x23, x24, x25, x36, y26, y27, y28, y29, y30, y31, y32, y33) => mw g h0 b (va_up (va_up (va_up (va_up (va_up i 22 x22) 23 x23) 24 x24) 25 x25) 36 x36) (va_up (va_up (va_up (va_up (va_up (va_up (va_up (va_up a 26 y26) 27 y27) 28 y28) 29 y29) 30 y30) 31 y31) 32 y32) 33 y33)) (fun _ => []) 0 0) : CT l dC dI sa yX10_rest wsX10_rest (rm_X10_rest j bl dp) [.ref h0, .int kk] (mw g h0 b i a) (tyM g) sz (fun (r : Option Value) (u : Int32 × Int32 × Int32 × Int32 × Int32 × (Nat → Int32) × (Nat → Int32) × (Nat → Int32) × (Nat → Int32) × (Nat → Int32) × (Nat → Int32) × (Nat → Int32) × (Nat → Int32)) => match u with | (x22, x23, x24, x25, x36, y26, y27, y28, y29, y30, y31, y32, y33) => ((r = some (.int 0) ∧ (0 < x23.toInt)) ∨ (r = some (.int 1) ∧ (True))) ∧ ((((i 22).toInt ≤ x22.toInt ∧ x22.toInt ≤ (i 21).toInt) ∧ 0 ≤ x23.toInt ∧ (0 < (i 23).toInt → 0 < x23.toInt)) ∧ ∃ dpN : Nat → Nat, PR (i 36) x36 dp dpN (a 26) (a 27) (a 31) (a 32) (a 33) y26 y27 y31 y32 y33)) (fun (u : Int32 × Int32 × Int32 × Int32 × Int32 × (Nat → Int32) × (Nat → Int32) × (Nat → Int32) × (Nat → Int32) × (Nat → Int32) × (Nat → Int32) × (Nat → Int32) × (Nat → Int32)) => match u with | (x22, x23, x24, x25, x36, y26, y27, y28, y29, y30, y31, y32, y33) => mw g h0 b (va_up (va_up (va_up (va_up (va_up i 22 x22) 23 x23) 24 x24) 25 x25) 36 x36) (va_up (va_up (va_up (va_up (va_up (va_up (va_up (va_up a 26 y26) 27 y27) 28 y28) 29 y29) 30 y30) 31 y31) 32 y32) 33 y33)) (fun _ => []) 0 0 := by
  refine CT.start (cc := cX10_rest) (maxL := 2) (ret := (some .boolean)) (by decide) rfl (Nat.le_of_ble_eq_true rfl) ?_
  intro p e s m below meth c ls hst hP hK hD hev hS hl
  obtain ⟨hx, hb, hr, hml, hts, hown, hlocks, hin⟩ := hst
  have hown : s.vm.findClass RX10 = some m.cls := hown
  have hA : ∀ q : Nat, s.heap.size ≤ q → va_A (mw g h0 b i a) s.heap.size q := fun _ h => Or.inr h
  have hl : lv_has ls 2 [(0, .ref h0), (1, .int kk)] := hl
  obtain ⟨q, hq, hVq, hdq⟩ := hnode
  have hq27 := (hPN.2.2 q hVq).1
  have hkq : kk.toNatClampNeg = q := by rw [hq]; exact nI_clamp (by omega)
  have hk : vp_in kk 2700 := by rw [hq]; exact vp_in_nI hq27 (by decide)
  refine lv_aload_n hx hb dX10_rest_0 rfl (lv_at hl 0 rfl) ?_
  refine va_get (D := (dC, dI)) (ci := 10) (v := .ref (b 26)) (C := RX10) (T := TX10) (N := 51) hx hb hts inw_X10_rest_10 hown hK hP 0 rfl rfl 26 (by decide) (hts (.fieldLink RX10 60 "VatHouseModel" "kind" "[I") (by decide +kernel)) (fun _ h9 => h9) rfl dX10_rest_1 ?_
  refine lv_iload_n hx hb dX10_rest_4 rfl (lv_at hl 1 rfl) ?_
  refine va_iald hx hb hK hP 16 15 rfl rfl (by assumption) dX10_rest_5 ?_
  refine lv_topi (fun z_1 ez_1 => ?_)
  have ez_1 : z_1 = (a 26) kk.toNatClampNeg := ez_1
  by_cases c_2 : z_1 = 0
  · refine lv_tableIn (tgt := 64) hx hb dX10_rest_6 (by rw [c_2]; decide) (by rw [c_2]; decide) (by rw [c_2]; rfl) (by decide) ?_
    refine lv_aload_n hx hb dX10_rest_64 rfl (lv_at hl 0 rfl) ?_
    refine lv_iload_n hx hb dX10_rest_65 rfl (lv_at hl 1 rfl) ?_
    refine lv_iconst (v := 5) hx hb dX10_rest_66 (by decide) ?_
    refine lv_bipush (v := 20) hx hb dX10_rest_67 (by decide) ?_
    refine M_V ⟨hx, hb, hml, hown, hts⟩ (m_X10_numbers l dC dI sa g h0 b i a kk (5 : Int32) (20 : Int32) _ (show 0 ≤ (i 22).toInt ∧ (i 22).toInt ≤ (i 21).toInt ∧ (i 21).toInt ≤ 1500 from by omega) (show 0 ≤ (i 23).toInt from by omega) hk) (cwV 3 hts gX10_rest_X10_numbers rfl rfl rfl (by decide +kernel) ⟨(by first | exact Nat.le_of_ble_eq_true rfl | (simp only [rm_X10_numbers, rm_X10_rest]; omega)), (by first | exact Nat.le_of_ble_eq_true rfl | (simp only [rm_X10_numbers, rm_X10_rest]; omega))⟩) hP hD hK hS hA hev rfl rfl rfl rfl hl.1 rfl (Nat.le_of_ble_eq_true rfl) dX10_rest_69 ⟨(by first | exact Nat.le_of_ble_eq_true rfl | (simp only [rm_X10_rest]; omega)), (by first | exact Nat.le_of_ble_eq_true rfl | (simp only [rm_X10_rest]; omega))⟩ (fun r u H locs hw hP hD hS => ?_)
    obtain ⟨x22_3, x23_4, x24_5, x25_6, y27_7, y28_8⟩ := u
    have hw : ((r = some (.int 0) ∧ (0 < x23_4.toInt)) ∨ (r = some (.int 1) ∧ (True))) ∧ ((((i 22).toInt ≤ x22_3.toInt ∧ x22_3.toInt ≤ (i 21).toInt) ∧ 0 ≤ x23_4.toInt ∧ (0 < (i 23).toInt → 0 < x23_4.toInt)) ∧ (y27_7 = (a 27) ∨ ∃ v : Int32, (0 : Int32).toInt ≤ v.toInt ∧ v.toInt ≤ (5 : Int32).toInt ∧ y27_7 = upd (a 27) kk.toNatClampNeg v)) := hw
    obtain ⟨⟨rfl, hz2_10⟩ | ⟨rfl, hz2_10⟩, hw_9⟩ := hw
    · have hP : va_P (dC, dI) vwCl (mw g h0 b (va_up (va_up (va_up (va_up i 22 x22_3) 23 x23_4) 24 x24_5) 25 x25_6) (va_up (va_up a 27 y27_7) 28 y28_8)) _ := hP
      have hD : va_D _ (mw g h0 b (va_up (va_up (va_up (va_up i 22 x22_3) 23 x23_4) 24 x24_5) 25 x25_6) (va_up (va_up a 27 y27_7) 28 y28_8)) := hD
      refine W.eq (g2 := F0 m 72 ls [.int 0]) rfl ?_
      obtain ⟨hatq_12, hset_11⟩ := hw_9
      have hp_13 := PN.set hPN hq hVq hset_11 (fun _ => by decide)
      have hpr_14 := PR.tr (PR.rf hPN) hp_13
      refine lv_if_eq (tgt := 88) hx hb dX10_rest_72 (by decide) (fun _ => ?_) (fun c_15 => absurd c_15 (by decide))
      refine lv_iconst (v := 0) hx hb dX10_rest_88 (by decide) ?_
      exact M_z hx hb hr rfl hlocks (x22_3, x23_4, x24_5, x25_6, (i 36), (a 26), y27_7, y28_8, (a 29), (a 30), (a 31), (a 32), (a 33)) hP hD hK hS ⟨Or.inl ⟨rfl, by omega⟩, ⟨⟨⟨by omega, by omega⟩, by omega, fun h9 => by omega⟩, dp, hpr_14⟩⟩ (by first | exact Nat.le_of_ble_eq_true rfl | (simp only [rm_X10_rest]; omega)) (by first | exact Nat.le_of_ble_eq_true rfl | (simp only [rm_X10_rest]; omega)) dX10_rest_89
    · have hP : va_P (dC, dI) vwCl (mw g h0 b (va_up (va_up (va_up (va_up i 22 x22_3) 23 x23_4) 24 x24_5) 25 x25_6) (va_up (va_up a 27 y27_7) 28 y28_8)) _ := hP
      have hD : va_D _ (mw g h0 b (va_up (va_up (va_up (va_up i 22 x22_3) 23 x23_4) 24 x24_5) 25 x25_6) (va_up (va_up a 27 y27_7) 28 y28_8)) := hD
      refine W.eq (g2 := F0 m 72 ls [.int 1]) rfl ?_
      obtain ⟨hatq_17, hset_16⟩ := hw_9
      have hp_18 := PN.set hPN hq hVq hset_16 (fun _ => by decide)
      have hpr_19 := PR.tr (PR.rf hPN) hp_18
      refine lv_if_eq (tgt := 88) hx hb dX10_rest_72 (by decide) (fun c_20 => absurd c_20 (by decide)) (fun _ => ?_)
      refine lv_aload_n hx hb dX10_rest_75 rfl (lv_at hl 0 rfl) ?_
      refine lv_bipush (v := 59) hx hb dX10_rest_76 (by decide) ?_
      refine M_V ⟨hx, hb, hml, hown, hts⟩ (m_X10_need l dC dI sa g h0 b (va_up (va_up (va_up (va_up i 22 x22_3) 23 x23_4) 24 x24_5) 25 x25_6) (va_up (va_up a 27 y27_7) 28 y28_8) (59 : Int32) _ (show 0 ≤ x22_3.toInt ∧ x22_3.toInt ≤ (i 21).toInt ∧ (i 21).toInt ≤ 1500 from by omega) (show 0 ≤ x23_4.toInt from by omega)) (cwV 1 hts gX10_rest_X10_need rfl rfl rfl (by decide +kernel) ⟨(by first | exact Nat.le_of_ble_eq_true rfl | (simp only [rm_X10_need, rm_X10_rest]; omega)), (by first | exact Nat.le_of_ble_eq_true rfl | (simp only [rm_X10_need, rm_X10_rest]; omega))⟩) hP hD hK hS hA hev rfl rfl rfl rfl hl.1 rfl (Nat.le_of_ble_eq_true rfl) dX10_rest_78 ⟨(by first | exact Nat.le_of_ble_eq_true rfl | (simp only [rm_X10_rest]; omega)), (by first | exact Nat.le_of_ble_eq_true rfl | (simp only [rm_X10_rest]; omega))⟩ (fun r u H locs hw hP hD hS => ?_)
      obtain ⟨x22_21, x23_22, x24_23⟩ := u
      have hw : ((r = some (.int 0) ∧ (0 < x23_22.toInt)) ∨ (r = some (.int 1) ∧ (True))) ∧ ((x22_3.toInt ≤ x22_21.toInt ∧ x22_21.toInt ≤ (i 21).toInt) ∧ 0 ≤ x23_22.toInt ∧ (0 < x23_4.toInt → 0 < x23_22.toInt)) := hw
      obtain ⟨⟨rfl, hz2_25⟩ | ⟨rfl, hz2_25⟩, hw_24⟩ := hw
      · have hP : va_P (dC, dI) vwCl (mw g h0 b (va_up (va_up (va_up (va_up i 22 x22_21) 23 x23_22) 24 x24_23) 25 x25_6) (va_up (va_up a 27 y27_7) 28 y28_8)) _ := hP
        have hD : va_D _ (mw g h0 b (va_up (va_up (va_up (va_up i 22 x22_21) 23 x23_22) 24 x24_23) 25 x25_6) (va_up (va_up a 27 y27_7) 28 y28_8)) := hD
        refine W.eq (g2 := F0 m 81 ls [.int 0]) rfl ?_
        refine lv_if_eq (tgt := 88) hx hb dX10_rest_81 (by decide) (fun _ => ?_) (fun c_26 => absurd c_26 (by decide))
        refine lv_iconst (v := 0) hx hb dX10_rest_88 (by decide) ?_
        exact M_z hx hb hr rfl hlocks (x22_21, x23_22, x24_23, x25_6, (i 36), (a 26), y27_7, y28_8, (a 29), (a 30), (a 31), (a 32), (a 33)) hP hD hK hS ⟨Or.inl ⟨rfl, by omega⟩, ⟨⟨⟨by omega, by omega⟩, by omega, fun h9 => by omega⟩, dp, hpr_19⟩⟩ (by first | exact Nat.le_of_ble_eq_true rfl | (simp only [rm_X10_rest]; omega)) (by first | exact Nat.le_of_ble_eq_true rfl | (simp only [rm_X10_rest]; omega)) dX10_rest_89
      · have hP : va_P (dC, dI) vwCl (mw g h0 b (va_up (va_up (va_up (va_up i 22 x22_21) 23 x23_22) 24 x24_23) 25 x25_6) (va_up (va_up a 27 y27_7) 28 y28_8)) _ := hP
        have hD : va_D _ (mw g h0 b (va_up (va_up (va_up (va_up i 22 x22_21) 23 x23_22) 24 x24_23) 25 x25_6) (va_up (va_up a 27 y27_7) 28 y28_8)) := hD
        refine W.eq (g2 := F0 m 81 ls [.int 1]) rfl ?_
        refine lv_if_eq (tgt := 88) hx hb dX10_rest_81 (by decide) (fun c_27 => absurd c_27 (by decide)) (fun _ => ?_)
        refine lv_iconst (v := 1) hx hb dX10_rest_84 (by decide) ?_
        refine lv_goto (tgt := 89) hx hb dX10_rest_85 (by decide) ?_
        exact M_z hx hb hr rfl hlocks (x22_21, x23_22, x24_23, x25_6, (i 36), (a 26), y27_7, y28_8, (a 29), (a 30), (a 31), (a 32), (a 33)) hP hD hK hS ⟨Or.inr ⟨rfl, trivial⟩, ⟨⟨⟨by omega, by omega⟩, by omega, fun h9 => by omega⟩, dp, hpr_19⟩⟩ (by first | exact Nat.le_of_ble_eq_true rfl | (simp only [rm_X10_rest]; omega)) (by first | exact Nat.le_of_ble_eq_true rfl | (simp only [rm_X10_rest]; omega)) dX10_rest_89
  by_cases c_28 : z_1 = 1
  · refine lv_tableIn (tgt := 117) hx hb dX10_rest_6 (by rw [c_28]; decide) (by rw [c_28]; decide) (by rw [c_28]; rfl) (by decide) ?_
    refine lv_aload_n hx hb dX10_rest_117 rfl (lv_at hl 0 rfl) ?_
    refine lv_bipush (v := 59) hx hb dX10_rest_118 (by decide) ?_
    refine M_V ⟨hx, hb, hml, hown, hts⟩ (m_X10_need l dC dI sa g h0 b i a (59 : Int32) _ (show 0 ≤ (i 22).toInt ∧ (i 22).toInt ≤ (i 21).toInt ∧ (i 21).toInt ≤ 1500 from by omega) (show 0 ≤ (i 23).toInt from by omega)) (cwV 1 hts gX10_rest_X10_need rfl rfl rfl (by decide +kernel) ⟨(by first | exact Nat.le_of_ble_eq_true rfl | (simp only [rm_X10_need, rm_X10_rest]; omega)), (by first | exact Nat.le_of_ble_eq_true rfl | (simp only [rm_X10_need, rm_X10_rest]; omega))⟩) hP hD hK hS hA hev rfl rfl rfl rfl hl.1 rfl (Nat.le_of_ble_eq_true rfl) dX10_rest_120 ⟨(by first | exact Nat.le_of_ble_eq_true rfl | (simp only [rm_X10_rest]; omega)), (by first | exact Nat.le_of_ble_eq_true rfl | (simp only [rm_X10_rest]; omega))⟩ (fun r u H locs hw hP hD hS => ?_)
    obtain ⟨x22_29, x23_30, x24_31⟩ := u
    have hw : ((r = some (.int 0) ∧ (0 < x23_30.toInt)) ∨ (r = some (.int 1) ∧ (True))) ∧ (((i 22).toInt ≤ x22_29.toInt ∧ x22_29.toInt ≤ (i 21).toInt) ∧ 0 ≤ x23_30.toInt ∧ (0 < (i 23).toInt → 0 < x23_30.toInt)) := hw
    obtain ⟨⟨rfl, hz2_33⟩ | ⟨rfl, hz2_33⟩, hw_32⟩ := hw
    · have hP : va_P (dC, dI) vwCl (mw g h0 b (va_up (va_up (va_up i 22 x22_29) 23 x23_30) 24 x24_31) a) _ := hP
      have hD : va_D _ (mw g h0 b (va_up (va_up (va_up i 22 x22_29) 23 x23_30) 24 x24_31) a) := hD
      refine W.eq (g2 := F0 m 123 ls [.int 0]) rfl ?_
      exact M_z hx hb hr rfl hlocks (x22_29, x23_30, x24_31, (i 25), (i 36), (a 26), (a 27), (a 28), (a 29), (a 30), (a 31), (a 32), (a 33)) hP hD hK hS ⟨Or.inl ⟨rfl, by omega⟩, ⟨⟨⟨by omega, by omega⟩, by omega, fun h9 => by omega⟩, dp, (PR.rf hPN)⟩⟩ (by first | exact Nat.le_of_ble_eq_true rfl | (simp only [rm_X10_rest]; omega)) (by first | exact Nat.le_of_ble_eq_true rfl | (simp only [rm_X10_rest]; omega)) dX10_rest_123
    · have hP : va_P (dC, dI) vwCl (mw g h0 b (va_up (va_up (va_up i 22 x22_29) 23 x23_30) 24 x24_31) a) _ := hP
      have hD : va_D _ (mw g h0 b (va_up (va_up (va_up i 22 x22_29) 23 x23_30) 24 x24_31) a) := hD
      refine W.eq (g2 := F0 m 123 ls [.int 1]) rfl ?_
      exact M_z hx hb hr rfl hlocks (x22_29, x23_30, x24_31, (i 25), (i 36), (a 26), (a 27), (a 28), (a 29), (a 30), (a 31), (a 32), (a 33)) hP hD hK hS ⟨Or.inr ⟨rfl, trivial⟩, ⟨⟨⟨by omega, by omega⟩, by omega, fun h9 => by omega⟩, dp, (PR.rf hPN)⟩⟩ (by first | exact Nat.le_of_ble_eq_true rfl | (simp only [rm_X10_rest]; omega)) (by first | exact Nat.le_of_ble_eq_true rfl | (simp only [rm_X10_rest]; omega)) dX10_rest_123
  by_cases c_34 : z_1 = 2
  · refine lv_tableIn (tgt := 117) hx hb dX10_rest_6 (by rw [c_34]; decide) (by rw [c_34]; decide) (by rw [c_34]; rfl) (by decide) ?_
    refine lv_aload_n hx hb dX10_rest_117 rfl (lv_at hl 0 rfl) ?_
    refine lv_bipush (v := 59) hx hb dX10_rest_118 (by decide) ?_
    refine M_V ⟨hx, hb, hml, hown, hts⟩ (m_X10_need l dC dI sa g h0 b i a (59 : Int32) _ (show 0 ≤ (i 22).toInt ∧ (i 22).toInt ≤ (i 21).toInt ∧ (i 21).toInt ≤ 1500 from by omega) (show 0 ≤ (i 23).toInt from by omega)) (cwV 1 hts gX10_rest_X10_need rfl rfl rfl (by decide +kernel) ⟨(by first | exact Nat.le_of_ble_eq_true rfl | (simp only [rm_X10_need, rm_X10_rest]; omega)), (by first | exact Nat.le_of_ble_eq_true rfl | (simp only [rm_X10_need, rm_X10_rest]; omega))⟩) hP hD hK hS hA hev rfl rfl rfl rfl hl.1 rfl (Nat.le_of_ble_eq_true rfl) dX10_rest_120 ⟨(by first | exact Nat.le_of_ble_eq_true rfl | (simp only [rm_X10_rest]; omega)), (by first | exact Nat.le_of_ble_eq_true rfl | (simp only [rm_X10_rest]; omega))⟩ (fun r u H locs hw hP hD hS => ?_)
    obtain ⟨x22_35, x23_36, x24_37⟩ := u
    have hw : ((r = some (.int 0) ∧ (0 < x23_36.toInt)) ∨ (r = some (.int 1) ∧ (True))) ∧ (((i 22).toInt ≤ x22_35.toInt ∧ x22_35.toInt ≤ (i 21).toInt) ∧ 0 ≤ x23_36.toInt ∧ (0 < (i 23).toInt → 0 < x23_36.toInt)) := hw
    obtain ⟨⟨rfl, hz2_39⟩ | ⟨rfl, hz2_39⟩, hw_38⟩ := hw
    · have hP : va_P (dC, dI) vwCl (mw g h0 b (va_up (va_up (va_up i 22 x22_35) 23 x23_36) 24 x24_37) a) _ := hP
      have hD : va_D _ (mw g h0 b (va_up (va_up (va_up i 22 x22_35) 23 x23_36) 24 x24_37) a) := hD
      refine W.eq (g2 := F0 m 123 ls [.int 0]) rfl ?_
      exact M_z hx hb hr rfl hlocks (x22_35, x23_36, x24_37, (i 25), (i 36), (a 26), (a 27), (a 28), (a 29), (a 30), (a 31), (a 32), (a 33)) hP hD hK hS ⟨Or.inl ⟨rfl, by omega⟩, ⟨⟨⟨by omega, by omega⟩, by omega, fun h9 => by omega⟩, dp, (PR.rf hPN)⟩⟩ (by first | exact Nat.le_of_ble_eq_true rfl | (simp only [rm_X10_rest]; omega)) (by first | exact Nat.le_of_ble_eq_true rfl | (simp only [rm_X10_rest]; omega)) dX10_rest_123
    · have hP : va_P (dC, dI) vwCl (mw g h0 b (va_up (va_up (va_up i 22 x22_35) 23 x23_36) 24 x24_37) a) _ := hP
      have hD : va_D _ (mw g h0 b (va_up (va_up (va_up i 22 x22_35) 23 x23_36) 24 x24_37) a) := hD
      refine W.eq (g2 := F0 m 123 ls [.int 1]) rfl ?_
      exact M_z hx hb hr rfl hlocks (x22_35, x23_36, x24_37, (i 25), (i 36), (a 26), (a 27), (a 28), (a 29), (a 30), (a 31), (a 32), (a 33)) hP hD hK hS ⟨Or.inr ⟨rfl, trivial⟩, ⟨⟨⟨by omega, by omega⟩, by omega, fun h9 => by omega⟩, dp, (PR.rf hPN)⟩⟩ (by first | exact Nat.le_of_ble_eq_true rfl | (simp only [rm_X10_rest]; omega)) (by first | exact Nat.le_of_ble_eq_true rfl | (simp only [rm_X10_rest]; omega)) dX10_rest_123
  by_cases c_40 : z_1 = 3
  · refine lv_tableIn (tgt := 124) hx hb dX10_rest_6 (by rw [c_40]; decide) (by rw [c_40]; decide) (by rw [c_40]; rfl) (by decide) ?_
    refine lv_aload_n hx hb dX10_rest_124 rfl (lv_at hl 0 rfl) ?_
    refine lv_iload_n hx hb dX10_rest_125 rfl (lv_at hl 1 rfl) ?_
    refine lv_iconst (v := 1) hx hb dX10_rest_126 (by decide) ?_
    refine lv_sipush (v := 200) hx hb dX10_rest_127 (by decide) ?_
    refine M_V ⟨hx, hb, hml, hown, hts⟩ (m_X10_single l dC dI sa g h0 b i a kk (1 : Int32) (200 : Int32) _ (show 0 ≤ (i 22).toInt ∧ (i 22).toInt ≤ (i 21).toInt ∧ (i 21).toInt ≤ 1500 from by omega) (show 0 ≤ (i 23).toInt from by omega) hk) (cwV 3 hts gX10_rest_X10_single rfl rfl rfl (by decide +kernel) ⟨(by first | exact Nat.le_of_ble_eq_true rfl | (simp only [rm_X10_single, rm_X10_rest]; omega)), (by first | exact Nat.le_of_ble_eq_true rfl | (simp only [rm_X10_single, rm_X10_rest]; omega))⟩) hP hD hK hS hA hev rfl rfl rfl rfl hl.1 rfl (Nat.le_of_ble_eq_true rfl) dX10_rest_130 ⟨(by first | exact Nat.le_of_ble_eq_true rfl | (simp only [rm_X10_rest]; omega)), (by first | exact Nat.le_of_ble_eq_true rfl | (simp only [rm_X10_rest]; omega))⟩ (fun r u H locs hw hP hD hS => ?_)
    obtain ⟨x22_41, x23_42, x24_43, x25_44, y27_45⟩ := u
    have hw : ((r = some (.int 0) ∧ (0 < x23_42.toInt)) ∨ (r = some (.int 1) ∧ (True))) ∧ ((((i 22).toInt ≤ x22_41.toInt ∧ x22_41.toInt ≤ (i 21).toInt) ∧ 0 ≤ x23_42.toInt ∧ (0 < (i 23).toInt → 0 < x23_42.toInt)) ∧ (y27_45 = (a 27) ∨ ∃ v : Int32, (1 : Int32).toInt ≤ v.toInt ∧ v.toInt ≤ (200 : Int32).toInt ∧ y27_45 = upd (a 27) kk.toNatClampNeg v)) := hw
    obtain ⟨⟨rfl, hz2_47⟩ | ⟨rfl, hz2_47⟩, hw_46⟩ := hw
    · have hP : va_P (dC, dI) vwCl (mw g h0 b (va_up (va_up (va_up (va_up i 22 x22_41) 23 x23_42) 24 x24_43) 25 x25_44) (va_up a 27 y27_45)) _ := hP
      have hD : va_D _ (mw g h0 b (va_up (va_up (va_up (va_up i 22 x22_41) 23 x23_42) 24 x24_43) 25 x25_44) (va_up a 27 y27_45)) := hD
      refine W.eq (g2 := F0 m 133 ls [.int 0]) rfl ?_
      obtain ⟨hatq_49, hset_48⟩ := hw_46
      have hp_50 := PN.set hPN hq hVq hset_48 (fun h9 => absurd h9 (by rw [← hkq, ← ez_1, c_40]; decide))
      have hpr_51 := PR.tr (PR.rf hPN) hp_50
      refine lv_if_eq (tgt := 149) hx hb dX10_rest_133 (by decide) (fun _ => ?_) (fun c_52 => absurd c_52 (by decide))
      refine lv_iconst (v := 0) hx hb dX10_rest_149 (by decide) ?_
      exact M_z hx hb hr rfl hlocks (x22_41, x23_42, x24_43, x25_44, (i 36), (a 26), y27_45, (a 28), (a 29), (a 30), (a 31), (a 32), (a 33)) hP hD hK hS ⟨Or.inl ⟨rfl, by omega⟩, ⟨⟨⟨by omega, by omega⟩, by omega, fun h9 => by omega⟩, dp, hpr_51⟩⟩ (by first | exact Nat.le_of_ble_eq_true rfl | (simp only [rm_X10_rest]; omega)) (by first | exact Nat.le_of_ble_eq_true rfl | (simp only [rm_X10_rest]; omega)) dX10_rest_150
    · have hP : va_P (dC, dI) vwCl (mw g h0 b (va_up (va_up (va_up (va_up i 22 x22_41) 23 x23_42) 24 x24_43) 25 x25_44) (va_up a 27 y27_45)) _ := hP
      have hD : va_D _ (mw g h0 b (va_up (va_up (va_up (va_up i 22 x22_41) 23 x23_42) 24 x24_43) 25 x25_44) (va_up a 27 y27_45)) := hD
      refine W.eq (g2 := F0 m 133 ls [.int 1]) rfl ?_
      obtain ⟨hatq_54, hset_53⟩ := hw_46
      have hp_55 := PN.set hPN hq hVq hset_53 (fun h9 => absurd h9 (by rw [← hkq, ← ez_1, c_40]; decide))
      have hpr_56 := PR.tr (PR.rf hPN) hp_55
      refine lv_if_eq (tgt := 149) hx hb dX10_rest_133 (by decide) (fun c_57 => absurd c_57 (by decide)) (fun _ => ?_)
      refine lv_aload_n hx hb dX10_rest_136 rfl (lv_at hl 0 rfl) ?_
      refine lv_bipush (v := 59) hx hb dX10_rest_137 (by decide) ?_
      refine M_V ⟨hx, hb, hml, hown, hts⟩ (m_X10_need l dC dI sa g h0 b (va_up (va_up (va_up (va_up i 22 x22_41) 23 x23_42) 24 x24_43) 25 x25_44) (va_up a 27 y27_45) (59 : Int32) _ (show 0 ≤ x22_41.toInt ∧ x22_41.toInt ≤ (i 21).toInt ∧ (i 21).toInt ≤ 1500 from by omega) (show 0 ≤ x23_42.toInt from by omega)) (cwV 1 hts gX10_rest_X10_need rfl rfl rfl (by decide +kernel) ⟨(by first | exact Nat.le_of_ble_eq_true rfl | (simp only [rm_X10_need, rm_X10_rest]; omega)), (by first | exact Nat.le_of_ble_eq_true rfl | (simp only [rm_X10_need, rm_X10_rest]; omega))⟩) hP hD hK hS hA hev rfl rfl rfl rfl hl.1 rfl (Nat.le_of_ble_eq_true rfl) dX10_rest_139 ⟨(by first | exact Nat.le_of_ble_eq_true rfl | (simp only [rm_X10_rest]; omega)), (by first | exact Nat.le_of_ble_eq_true rfl | (simp only [rm_X10_rest]; omega))⟩ (fun r u H locs hw hP hD hS => ?_)
      obtain ⟨x22_58, x23_59, x24_60⟩ := u
      have hw : ((r = some (.int 0) ∧ (0 < x23_59.toInt)) ∨ (r = some (.int 1) ∧ (True))) ∧ ((x22_41.toInt ≤ x22_58.toInt ∧ x22_58.toInt ≤ (i 21).toInt) ∧ 0 ≤ x23_59.toInt ∧ (0 < x23_42.toInt → 0 < x23_59.toInt)) := hw
      obtain ⟨⟨rfl, hz2_62⟩ | ⟨rfl, hz2_62⟩, hw_61⟩ := hw
      · have hP : va_P (dC, dI) vwCl (mw g h0 b (va_up (va_up (va_up (va_up i 22 x22_58) 23 x23_59) 24 x24_60) 25 x25_44) (va_up a 27 y27_45)) _ := hP
        have hD : va_D _ (mw g h0 b (va_up (va_up (va_up (va_up i 22 x22_58) 23 x23_59) 24 x24_60) 25 x25_44) (va_up a 27 y27_45)) := hD
        refine W.eq (g2 := F0 m 142 ls [.int 0]) rfl ?_
        refine lv_if_eq (tgt := 149) hx hb dX10_rest_142 (by decide) (fun _ => ?_) (fun c_63 => absurd c_63 (by decide))
        refine lv_iconst (v := 0) hx hb dX10_rest_149 (by decide) ?_
        exact M_z hx hb hr rfl hlocks (x22_58, x23_59, x24_60, x25_44, (i 36), (a 26), y27_45, (a 28), (a 29), (a 30), (a 31), (a 32), (a 33)) hP hD hK hS ⟨Or.inl ⟨rfl, by omega⟩, ⟨⟨⟨by omega, by omega⟩, by omega, fun h9 => by omega⟩, dp, hpr_56⟩⟩ (by first | exact Nat.le_of_ble_eq_true rfl | (simp only [rm_X10_rest]; omega)) (by first | exact Nat.le_of_ble_eq_true rfl | (simp only [rm_X10_rest]; omega)) dX10_rest_150
      · have hP : va_P (dC, dI) vwCl (mw g h0 b (va_up (va_up (va_up (va_up i 22 x22_58) 23 x23_59) 24 x24_60) 25 x25_44) (va_up a 27 y27_45)) _ := hP
        have hD : va_D _ (mw g h0 b (va_up (va_up (va_up (va_up i 22 x22_58) 23 x23_59) 24 x24_60) 25 x25_44) (va_up a 27 y27_45)) := hD
        refine W.eq (g2 := F0 m 142 ls [.int 1]) rfl ?_
        refine lv_if_eq (tgt := 149) hx hb dX10_rest_142 (by decide) (fun c_64 => absurd c_64 (by decide)) (fun _ => ?_)
        refine lv_iconst (v := 1) hx hb dX10_rest_145 (by decide) ?_
        refine lv_goto (tgt := 150) hx hb dX10_rest_146 (by decide) ?_
        exact M_z hx hb hr rfl hlocks (x22_58, x23_59, x24_60, x25_44, (i 36), (a 26), y27_45, (a 28), (a 29), (a 30), (a 31), (a 32), (a 33)) hP hD hK hS ⟨Or.inr ⟨rfl, trivial⟩, ⟨⟨⟨by omega, by omega⟩, by omega, fun h9 => by omega⟩, dp, hpr_56⟩⟩ (by first | exact Nat.le_of_ble_eq_true rfl | (simp only [rm_X10_rest]; omega)) (by first | exact Nat.le_of_ble_eq_true rfl | (simp only [rm_X10_rest]; omega)) dX10_rest_150
  by_cases c_65 : z_1 = 4
  · refine lv_tableIn (tgt := 90) hx hb dX10_rest_6 (by rw [c_65]; decide) (by rw [c_65]; decide) (by rw [c_65]; rfl) (by decide) ?_
    refine lv_aload_n hx hb dX10_rest_90 rfl (lv_at hl 0 rfl) ?_
    refine lv_iload_n hx hb dX10_rest_91 rfl (lv_at hl 1 rfl) ?_
    refine lv_iconst (v := 5) hx hb dX10_rest_92 (by decide) ?_
    refine lv_sipush (v := 1000) hx hb dX10_rest_93 (by decide) ?_
    refine M_V ⟨hx, hb, hml, hown, hts⟩ (m_X10_numbers l dC dI sa g h0 b i a kk (5 : Int32) (1000 : Int32) _ (show 0 ≤ (i 22).toInt ∧ (i 22).toInt ≤ (i 21).toInt ∧ (i 21).toInt ≤ 1500 from by omega) (show 0 ≤ (i 23).toInt from by omega) hk) (cwV 3 hts gX10_rest_X10_numbers rfl rfl rfl (by decide +kernel) ⟨(by first | exact Nat.le_of_ble_eq_true rfl | (simp only [rm_X10_numbers, rm_X10_rest]; omega)), (by first | exact Nat.le_of_ble_eq_true rfl | (simp only [rm_X10_numbers, rm_X10_rest]; omega))⟩) hP hD hK hS hA hev rfl rfl rfl rfl hl.1 rfl (Nat.le_of_ble_eq_true rfl) dX10_rest_96 ⟨(by first | exact Nat.le_of_ble_eq_true rfl | (simp only [rm_X10_rest]; omega)), (by first | exact Nat.le_of_ble_eq_true rfl | (simp only [rm_X10_rest]; omega))⟩ (fun r u H locs hw hP hD hS => ?_)
    obtain ⟨x22_66, x23_67, x24_68, x25_69, y27_70, y28_71⟩ := u
    have hw : ((r = some (.int 0) ∧ (0 < x23_67.toInt)) ∨ (r = some (.int 1) ∧ (True))) ∧ ((((i 22).toInt ≤ x22_66.toInt ∧ x22_66.toInt ≤ (i 21).toInt) ∧ 0 ≤ x23_67.toInt ∧ (0 < (i 23).toInt → 0 < x23_67.toInt)) ∧ (y27_70 = (a 27) ∨ ∃ v : Int32, (0 : Int32).toInt ≤ v.toInt ∧ v.toInt ≤ (5 : Int32).toInt ∧ y27_70 = upd (a 27) kk.toNatClampNeg v)) := hw
    obtain ⟨⟨rfl, hz2_73⟩ | ⟨rfl, hz2_73⟩, hw_72⟩ := hw
    · have hP : va_P (dC, dI) vwCl (mw g h0 b (va_up (va_up (va_up (va_up i 22 x22_66) 23 x23_67) 24 x24_68) 25 x25_69) (va_up (va_up a 27 y27_70) 28 y28_71)) _ := hP
      have hD : va_D _ (mw g h0 b (va_up (va_up (va_up (va_up i 22 x22_66) 23 x23_67) 24 x24_68) 25 x25_69) (va_up (va_up a 27 y27_70) 28 y28_71)) := hD
      refine W.eq (g2 := F0 m 99 ls [.int 0]) rfl ?_
      obtain ⟨hatq_75, hset_74⟩ := hw_72
      have hp_76 := PN.set hPN hq hVq hset_74 (fun _ => by decide)
      have hpr_77 := PR.tr (PR.rf hPN) hp_76
      refine lv_if_eq (tgt := 115) hx hb dX10_rest_99 (by decide) (fun _ => ?_) (fun c_78 => absurd c_78 (by decide))
      refine lv_iconst (v := 0) hx hb dX10_rest_115 (by decide) ?_
      exact M_z hx hb hr rfl hlocks (x22_66, x23_67, x24_68, x25_69, (i 36), (a 26), y27_70, y28_71, (a 29), (a 30), (a 31), (a 32), (a 33)) hP hD hK hS ⟨Or.inl ⟨rfl, by omega⟩, ⟨⟨⟨by omega, by omega⟩, by omega, fun h9 => by omega⟩, dp, hpr_77⟩⟩ (by first | exact Nat.le_of_ble_eq_true rfl | (simp only [rm_X10_rest]; omega)) (by first | exact Nat.le_of_ble_eq_true rfl | (simp only [rm_X10_rest]; omega)) dX10_rest_116
    · have hP : va_P (dC, dI) vwCl (mw g h0 b (va_up (va_up (va_up (va_up i 22 x22_66) 23 x23_67) 24 x24_68) 25 x25_69) (va_up (va_up a 27 y27_70) 28 y28_71)) _ := hP
      have hD : va_D _ (mw g h0 b (va_up (va_up (va_up (va_up i 22 x22_66) 23 x23_67) 24 x24_68) 25 x25_69) (va_up (va_up a 27 y27_70) 28 y28_71)) := hD
      refine W.eq (g2 := F0 m 99 ls [.int 1]) rfl ?_
      obtain ⟨hatq_80, hset_79⟩ := hw_72
      have hp_81 := PN.set hPN hq hVq hset_79 (fun _ => by decide)
      have hpr_82 := PR.tr (PR.rf hPN) hp_81
      refine lv_if_eq (tgt := 115) hx hb dX10_rest_99 (by decide) (fun c_83 => absurd c_83 (by decide)) (fun _ => ?_)
      refine lv_aload_n hx hb dX10_rest_102 rfl (lv_at hl 0 rfl) ?_
      refine lv_bipush (v := 59) hx hb dX10_rest_103 (by decide) ?_
      refine M_V ⟨hx, hb, hml, hown, hts⟩ (m_X10_need l dC dI sa g h0 b (va_up (va_up (va_up (va_up i 22 x22_66) 23 x23_67) 24 x24_68) 25 x25_69) (va_up (va_up a 27 y27_70) 28 y28_71) (59 : Int32) _ (show 0 ≤ x22_66.toInt ∧ x22_66.toInt ≤ (i 21).toInt ∧ (i 21).toInt ≤ 1500 from by omega) (show 0 ≤ x23_67.toInt from by omega)) (cwV 1 hts gX10_rest_X10_need rfl rfl rfl (by decide +kernel) ⟨(by first | exact Nat.le_of_ble_eq_true rfl | (simp only [rm_X10_need, rm_X10_rest]; omega)), (by first | exact Nat.le_of_ble_eq_true rfl | (simp only [rm_X10_need, rm_X10_rest]; omega))⟩) hP hD hK hS hA hev rfl rfl rfl rfl hl.1 rfl (Nat.le_of_ble_eq_true rfl) dX10_rest_105 ⟨(by first | exact Nat.le_of_ble_eq_true rfl | (simp only [rm_X10_rest]; omega)), (by first | exact Nat.le_of_ble_eq_true rfl | (simp only [rm_X10_rest]; omega))⟩ (fun r u H locs hw hP hD hS => ?_)
      obtain ⟨x22_84, x23_85, x24_86⟩ := u
      have hw : ((r = some (.int 0) ∧ (0 < x23_85.toInt)) ∨ (r = some (.int 1) ∧ (True))) ∧ ((x22_66.toInt ≤ x22_84.toInt ∧ x22_84.toInt ≤ (i 21).toInt) ∧ 0 ≤ x23_85.toInt ∧ (0 < x23_67.toInt → 0 < x23_85.toInt)) := hw
      obtain ⟨⟨rfl, hz2_88⟩ | ⟨rfl, hz2_88⟩, hw_87⟩ := hw
      · have hP : va_P (dC, dI) vwCl (mw g h0 b (va_up (va_up (va_up (va_up i 22 x22_84) 23 x23_85) 24 x24_86) 25 x25_69) (va_up (va_up a 27 y27_70) 28 y28_71)) _ := hP
        have hD : va_D _ (mw g h0 b (va_up (va_up (va_up (va_up i 22 x22_84) 23 x23_85) 24 x24_86) 25 x25_69) (va_up (va_up a 27 y27_70) 28 y28_71)) := hD
        refine W.eq (g2 := F0 m 108 ls [.int 0]) rfl ?_
        refine lv_if_eq (tgt := 115) hx hb dX10_rest_108 (by decide) (fun _ => ?_) (fun c_89 => absurd c_89 (by decide))
        refine lv_iconst (v := 0) hx hb dX10_rest_115 (by decide) ?_
        exact M_z hx hb hr rfl hlocks (x22_84, x23_85, x24_86, x25_69, (i 36), (a 26), y27_70, y28_71, (a 29), (a 30), (a 31), (a 32), (a 33)) hP hD hK hS ⟨Or.inl ⟨rfl, by omega⟩, ⟨⟨⟨by omega, by omega⟩, by omega, fun h9 => by omega⟩, dp, hpr_82⟩⟩ (by first | exact Nat.le_of_ble_eq_true rfl | (simp only [rm_X10_rest]; omega)) (by first | exact Nat.le_of_ble_eq_true rfl | (simp only [rm_X10_rest]; omega)) dX10_rest_116
      · have hP : va_P (dC, dI) vwCl (mw g h0 b (va_up (va_up (va_up (va_up i 22 x22_84) 23 x23_85) 24 x24_86) 25 x25_69) (va_up (va_up a 27 y27_70) 28 y28_71)) _ := hP
        have hD : va_D _ (mw g h0 b (va_up (va_up (va_up (va_up i 22 x22_84) 23 x23_85) 24 x24_86) 25 x25_69) (va_up (va_up a 27 y27_70) 28 y28_71)) := hD
        refine W.eq (g2 := F0 m 108 ls [.int 1]) rfl ?_
        refine lv_if_eq (tgt := 115) hx hb dX10_rest_108 (by decide) (fun c_90 => absurd c_90 (by decide)) (fun _ => ?_)
        refine lv_iconst (v := 1) hx hb dX10_rest_111 (by decide) ?_
        refine lv_goto (tgt := 116) hx hb dX10_rest_112 (by decide) ?_
        exact M_z hx hb hr rfl hlocks (x22_84, x23_85, x24_86, x25_69, (i 36), (a 26), y27_70, y28_71, (a 29), (a 30), (a 31), (a 32), (a 33)) hP hD hK hS ⟨Or.inr ⟨rfl, trivial⟩, ⟨⟨⟨by omega, by omega⟩, by omega, fun h9 => by omega⟩, dp, hpr_82⟩⟩ (by first | exact Nat.le_of_ble_eq_true rfl | (simp only [rm_X10_rest]; omega)) (by first | exact Nat.le_of_ble_eq_true rfl | (simp only [rm_X10_rest]; omega)) dX10_rest_116
  by_cases c_91 : z_1 = 5
  · refine lv_tableIn (tgt := 151) hx hb dX10_rest_6 (by rw [c_91]; decide) (by rw [c_91]; decide) (by rw [c_91]; rfl) (by decide) ?_
    refine lv_aload_n hx hb dX10_rest_151 rfl (lv_at hl 0 rfl) ?_
    refine lv_iload_n hx hb dX10_rest_152 rfl (lv_at hl 1 rfl) ?_
    refine lv_iconst (v := 0) hx hb dX10_rest_153 (by decide) ?_
    refine lv_iconst (v := 5) hx hb dX10_rest_154 (by decide) ?_
    refine M_V ⟨hx, hb, hml, hown, hts⟩ (m_X10_single l dC dI sa g h0 b i a kk (0 : Int32) (5 : Int32) _ (show 0 ≤ (i 22).toInt ∧ (i 22).toInt ≤ (i 21).toInt ∧ (i 21).toInt ≤ 1500 from by omega) (show 0 ≤ (i 23).toInt from by omega) hk) (cwV 3 hts gX10_rest_X10_single rfl rfl rfl (by decide +kernel) ⟨(by first | exact Nat.le_of_ble_eq_true rfl | (simp only [rm_X10_single, rm_X10_rest]; omega)), (by first | exact Nat.le_of_ble_eq_true rfl | (simp only [rm_X10_single, rm_X10_rest]; omega))⟩) hP hD hK hS hA hev rfl rfl rfl rfl hl.1 rfl (Nat.le_of_ble_eq_true rfl) dX10_rest_155 ⟨(by first | exact Nat.le_of_ble_eq_true rfl | (simp only [rm_X10_rest]; omega)), (by first | exact Nat.le_of_ble_eq_true rfl | (simp only [rm_X10_rest]; omega))⟩ (fun r u H locs hw hP hD hS => ?_)
    obtain ⟨x22_92, x23_93, x24_94, x25_95, y27_96⟩ := u
    have hw : ((r = some (.int 0) ∧ (0 < x23_93.toInt)) ∨ (r = some (.int 1) ∧ (True))) ∧ ((((i 22).toInt ≤ x22_92.toInt ∧ x22_92.toInt ≤ (i 21).toInt) ∧ 0 ≤ x23_93.toInt ∧ (0 < (i 23).toInt → 0 < x23_93.toInt)) ∧ (y27_96 = (a 27) ∨ ∃ v : Int32, (0 : Int32).toInt ≤ v.toInt ∧ v.toInt ≤ (5 : Int32).toInt ∧ y27_96 = upd (a 27) kk.toNatClampNeg v)) := hw
    obtain ⟨⟨rfl, hz2_98⟩ | ⟨rfl, hz2_98⟩, hw_97⟩ := hw
    · have hP : va_P (dC, dI) vwCl (mw g h0 b (va_up (va_up (va_up (va_up i 22 x22_92) 23 x23_93) 24 x24_94) 25 x25_95) (va_up a 27 y27_96)) _ := hP
      have hD : va_D _ (mw g h0 b (va_up (va_up (va_up (va_up i 22 x22_92) 23 x23_93) 24 x24_94) 25 x25_95) (va_up a 27 y27_96)) := hD
      refine W.eq (g2 := F0 m 158 ls [.int 0]) rfl ?_
      obtain ⟨hatq_100, hset_99⟩ := hw_97
      have hp_101 := PN.set hPN hq hVq hset_99 (fun _ => by decide)
      have hpr_102 := PR.tr (PR.rf hPN) hp_101
      refine lv_if_eq (tgt := 174) hx hb dX10_rest_158 (by decide) (fun _ => ?_) (fun c_103 => absurd c_103 (by decide))
      refine lv_iconst (v := 0) hx hb dX10_rest_174 (by decide) ?_
      exact M_z hx hb hr rfl hlocks (x22_92, x23_93, x24_94, x25_95, (i 36), (a 26), y27_96, (a 28), (a 29), (a 30), (a 31), (a 32), (a 33)) hP hD hK hS ⟨Or.inl ⟨rfl, by omega⟩, ⟨⟨⟨by omega, by omega⟩, by omega, fun h9 => by omega⟩, dp, hpr_102⟩⟩ (by first | exact Nat.le_of_ble_eq_true rfl | (simp only [rm_X10_rest]; omega)) (by first | exact Nat.le_of_ble_eq_true rfl | (simp only [rm_X10_rest]; omega)) dX10_rest_175
    · have hP : va_P (dC, dI) vwCl (mw g h0 b (va_up (va_up (va_up (va_up i 22 x22_92) 23 x23_93) 24 x24_94) 25 x25_95) (va_up a 27 y27_96)) _ := hP
      have hD : va_D _ (mw g h0 b (va_up (va_up (va_up (va_up i 22 x22_92) 23 x23_93) 24 x24_94) 25 x25_95) (va_up a 27 y27_96)) := hD
      refine W.eq (g2 := F0 m 158 ls [.int 1]) rfl ?_
      obtain ⟨hatq_105, hset_104⟩ := hw_97
      have hp_106 := PN.set hPN hq hVq hset_104 (fun _ => by decide)
      have hpr_107 := PR.tr (PR.rf hPN) hp_106
      refine lv_if_eq (tgt := 174) hx hb dX10_rest_158 (by decide) (fun c_108 => absurd c_108 (by decide)) (fun _ => ?_)
      refine lv_aload_n hx hb dX10_rest_161 rfl (lv_at hl 0 rfl) ?_
      refine lv_bipush (v := 59) hx hb dX10_rest_162 (by decide) ?_
      refine M_V ⟨hx, hb, hml, hown, hts⟩ (m_X10_need l dC dI sa g h0 b (va_up (va_up (va_up (va_up i 22 x22_92) 23 x23_93) 24 x24_94) 25 x25_95) (va_up a 27 y27_96) (59 : Int32) _ (show 0 ≤ x22_92.toInt ∧ x22_92.toInt ≤ (i 21).toInt ∧ (i 21).toInt ≤ 1500 from by omega) (show 0 ≤ x23_93.toInt from by omega)) (cwV 1 hts gX10_rest_X10_need rfl rfl rfl (by decide +kernel) ⟨(by first | exact Nat.le_of_ble_eq_true rfl | (simp only [rm_X10_need, rm_X10_rest]; omega)), (by first | exact Nat.le_of_ble_eq_true rfl | (simp only [rm_X10_need, rm_X10_rest]; omega))⟩) hP hD hK hS hA hev rfl rfl rfl rfl hl.1 rfl (Nat.le_of_ble_eq_true rfl) dX10_rest_164 ⟨(by first | exact Nat.le_of_ble_eq_true rfl | (simp only [rm_X10_rest]; omega)), (by first | exact Nat.le_of_ble_eq_true rfl | (simp only [rm_X10_rest]; omega))⟩ (fun r u H locs hw hP hD hS => ?_)
      obtain ⟨x22_109, x23_110, x24_111⟩ := u
      have hw : ((r = some (.int 0) ∧ (0 < x23_110.toInt)) ∨ (r = some (.int 1) ∧ (True))) ∧ ((x22_92.toInt ≤ x22_109.toInt ∧ x22_109.toInt ≤ (i 21).toInt) ∧ 0 ≤ x23_110.toInt ∧ (0 < x23_93.toInt → 0 < x23_110.toInt)) := hw
      obtain ⟨⟨rfl, hz2_113⟩ | ⟨rfl, hz2_113⟩, hw_112⟩ := hw
      · have hP : va_P (dC, dI) vwCl (mw g h0 b (va_up (va_up (va_up (va_up i 22 x22_109) 23 x23_110) 24 x24_111) 25 x25_95) (va_up a 27 y27_96)) _ := hP
        have hD : va_D _ (mw g h0 b (va_up (va_up (va_up (va_up i 22 x22_109) 23 x23_110) 24 x24_111) 25 x25_95) (va_up a 27 y27_96)) := hD
        refine W.eq (g2 := F0 m 167 ls [.int 0]) rfl ?_
        refine lv_if_eq (tgt := 174) hx hb dX10_rest_167 (by decide) (fun _ => ?_) (fun c_114 => absurd c_114 (by decide))
        refine lv_iconst (v := 0) hx hb dX10_rest_174 (by decide) ?_
        exact M_z hx hb hr rfl hlocks (x22_109, x23_110, x24_111, x25_95, (i 36), (a 26), y27_96, (a 28), (a 29), (a 30), (a 31), (a 32), (a 33)) hP hD hK hS ⟨Or.inl ⟨rfl, by omega⟩, ⟨⟨⟨by omega, by omega⟩, by omega, fun h9 => by omega⟩, dp, hpr_107⟩⟩ (by first | exact Nat.le_of_ble_eq_true rfl | (simp only [rm_X10_rest]; omega)) (by first | exact Nat.le_of_ble_eq_true rfl | (simp only [rm_X10_rest]; omega)) dX10_rest_175
      · have hP : va_P (dC, dI) vwCl (mw g h0 b (va_up (va_up (va_up (va_up i 22 x22_109) 23 x23_110) 24 x24_111) 25 x25_95) (va_up a 27 y27_96)) _ := hP
        have hD : va_D _ (mw g h0 b (va_up (va_up (va_up (va_up i 22 x22_109) 23 x23_110) 24 x24_111) 25 x25_95) (va_up a 27 y27_96)) := hD
        refine W.eq (g2 := F0 m 167 ls [.int 1]) rfl ?_
        refine lv_if_eq (tgt := 174) hx hb dX10_rest_167 (by decide) (fun c_115 => absurd c_115 (by decide)) (fun _ => ?_)
        refine lv_iconst (v := 1) hx hb dX10_rest_170 (by decide) ?_
        refine lv_goto (tgt := 175) hx hb dX10_rest_171 (by decide) ?_
        exact M_z hx hb hr rfl hlocks (x22_109, x23_110, x24_111, x25_95, (i 36), (a 26), y27_96, (a 28), (a 29), (a 30), (a 31), (a 32), (a 33)) hP hD hK hS ⟨Or.inr ⟨rfl, trivial⟩, ⟨⟨⟨by omega, by omega⟩, by omega, fun h9 => by omega⟩, dp, hpr_107⟩⟩ (by first | exact Nat.le_of_ble_eq_true rfl | (simp only [rm_X10_rest]; omega)) (by first | exact Nat.le_of_ble_eq_true rfl | (simp only [rm_X10_rest]; omega)) dX10_rest_175
  by_cases c_116 : z_1 = 6
  · refine lv_tableIn (tgt := 176) hx hb dX10_rest_6 (by rw [c_116]; decide) (by rw [c_116]; decide) (by rw [c_116]; rfl) (by decide) ?_
    refine lv_aload_n hx hb dX10_rest_176 rfl (lv_at hl 0 rfl) ?_
    refine lv_iload_n hx hb dX10_rest_177 rfl (lv_at hl 1 rfl) ?_
    refine lv_iconst (v := 1) hx hb dX10_rest_178 (by decide) ?_
    refine lv_bipush (v := 99) hx hb dX10_rest_179 (by decide) ?_
    refine M_V ⟨hx, hb, hml, hown, hts⟩ (m_X10_single l dC dI sa g h0 b i a kk (1 : Int32) (99 : Int32) _ (show 0 ≤ (i 22).toInt ∧ (i 22).toInt ≤ (i 21).toInt ∧ (i 21).toInt ≤ 1500 from by omega) (show 0 ≤ (i 23).toInt from by omega) hk) (cwV 3 hts gX10_rest_X10_single rfl rfl rfl (by decide +kernel) ⟨(by first | exact Nat.le_of_ble_eq_true rfl | (simp only [rm_X10_single, rm_X10_rest]; omega)), (by first | exact Nat.le_of_ble_eq_true rfl | (simp only [rm_X10_single, rm_X10_rest]; omega))⟩) hP hD hK hS hA hev rfl rfl rfl rfl hl.1 rfl (Nat.le_of_ble_eq_true rfl) dX10_rest_181 ⟨(by first | exact Nat.le_of_ble_eq_true rfl | (simp only [rm_X10_rest]; omega)), (by first | exact Nat.le_of_ble_eq_true rfl | (simp only [rm_X10_rest]; omega))⟩ (fun r u H locs hw hP hD hS => ?_)
    obtain ⟨x22_117, x23_118, x24_119, x25_120, y27_121⟩ := u
    have hw : ((r = some (.int 0) ∧ (0 < x23_118.toInt)) ∨ (r = some (.int 1) ∧ (True))) ∧ ((((i 22).toInt ≤ x22_117.toInt ∧ x22_117.toInt ≤ (i 21).toInt) ∧ 0 ≤ x23_118.toInt ∧ (0 < (i 23).toInt → 0 < x23_118.toInt)) ∧ (y27_121 = (a 27) ∨ ∃ v : Int32, (1 : Int32).toInt ≤ v.toInt ∧ v.toInt ≤ (99 : Int32).toInt ∧ y27_121 = upd (a 27) kk.toNatClampNeg v)) := hw
    obtain ⟨⟨rfl, hz2_123⟩ | ⟨rfl, hz2_123⟩, hw_122⟩ := hw
    · have hP : va_P (dC, dI) vwCl (mw g h0 b (va_up (va_up (va_up (va_up i 22 x22_117) 23 x23_118) 24 x24_119) 25 x25_120) (va_up a 27 y27_121)) _ := hP
      have hD : va_D _ (mw g h0 b (va_up (va_up (va_up (va_up i 22 x22_117) 23 x23_118) 24 x24_119) 25 x25_120) (va_up a 27 y27_121)) := hD
      refine W.eq (g2 := F0 m 184 ls [.int 0]) rfl ?_
      obtain ⟨hatq_125, hset_124⟩ := hw_122
      have hp_126 := PN.set hPN hq hVq hset_124 (fun h9 => absurd h9 (by rw [← hkq, ← ez_1, c_116]; decide))
      have hpr_127 := PR.tr (PR.rf hPN) hp_126
      refine lv_if_eq (tgt := 200) hx hb dX10_rest_184 (by decide) (fun _ => ?_) (fun c_128 => absurd c_128 (by decide))
      refine lv_iconst (v := 0) hx hb dX10_rest_200 (by decide) ?_
      exact M_z hx hb hr rfl hlocks (x22_117, x23_118, x24_119, x25_120, (i 36), (a 26), y27_121, (a 28), (a 29), (a 30), (a 31), (a 32), (a 33)) hP hD hK hS ⟨Or.inl ⟨rfl, by omega⟩, ⟨⟨⟨by omega, by omega⟩, by omega, fun h9 => by omega⟩, dp, hpr_127⟩⟩ (by first | exact Nat.le_of_ble_eq_true rfl | (simp only [rm_X10_rest]; omega)) (by first | exact Nat.le_of_ble_eq_true rfl | (simp only [rm_X10_rest]; omega)) dX10_rest_201
    · have hP : va_P (dC, dI) vwCl (mw g h0 b (va_up (va_up (va_up (va_up i 22 x22_117) 23 x23_118) 24 x24_119) 25 x25_120) (va_up a 27 y27_121)) _ := hP
      have hD : va_D _ (mw g h0 b (va_up (va_up (va_up (va_up i 22 x22_117) 23 x23_118) 24 x24_119) 25 x25_120) (va_up a 27 y27_121)) := hD
      refine W.eq (g2 := F0 m 184 ls [.int 1]) rfl ?_
      obtain ⟨hatq_130, hset_129⟩ := hw_122
      have hp_131 := PN.set hPN hq hVq hset_129 (fun h9 => absurd h9 (by rw [← hkq, ← ez_1, c_116]; decide))
      have hpr_132 := PR.tr (PR.rf hPN) hp_131
      refine lv_if_eq (tgt := 200) hx hb dX10_rest_184 (by decide) (fun c_133 => absurd c_133 (by decide)) (fun _ => ?_)
      refine lv_aload_n hx hb dX10_rest_187 rfl (lv_at hl 0 rfl) ?_
      refine lv_bipush (v := 59) hx hb dX10_rest_188 (by decide) ?_
      refine M_V ⟨hx, hb, hml, hown, hts⟩ (m_X10_need l dC dI sa g h0 b (va_up (va_up (va_up (va_up i 22 x22_117) 23 x23_118) 24 x24_119) 25 x25_120) (va_up a 27 y27_121) (59 : Int32) _ (show 0 ≤ x22_117.toInt ∧ x22_117.toInt ≤ (i 21).toInt ∧ (i 21).toInt ≤ 1500 from by omega) (show 0 ≤ x23_118.toInt from by omega)) (cwV 1 hts gX10_rest_X10_need rfl rfl rfl (by decide +kernel) ⟨(by first | exact Nat.le_of_ble_eq_true rfl | (simp only [rm_X10_need, rm_X10_rest]; omega)), (by first | exact Nat.le_of_ble_eq_true rfl | (simp only [rm_X10_need, rm_X10_rest]; omega))⟩) hP hD hK hS hA hev rfl rfl rfl rfl hl.1 rfl (Nat.le_of_ble_eq_true rfl) dX10_rest_190 ⟨(by first | exact Nat.le_of_ble_eq_true rfl | (simp only [rm_X10_rest]; omega)), (by first | exact Nat.le_of_ble_eq_true rfl | (simp only [rm_X10_rest]; omega))⟩ (fun r u H locs hw hP hD hS => ?_)
      obtain ⟨x22_134, x23_135, x24_136⟩ := u
      have hw : ((r = some (.int 0) ∧ (0 < x23_135.toInt)) ∨ (r = some (.int 1) ∧ (True))) ∧ ((x22_117.toInt ≤ x22_134.toInt ∧ x22_134.toInt ≤ (i 21).toInt) ∧ 0 ≤ x23_135.toInt ∧ (0 < x23_118.toInt → 0 < x23_135.toInt)) := hw
      obtain ⟨⟨rfl, hz2_138⟩ | ⟨rfl, hz2_138⟩, hw_137⟩ := hw
      · have hP : va_P (dC, dI) vwCl (mw g h0 b (va_up (va_up (va_up (va_up i 22 x22_134) 23 x23_135) 24 x24_136) 25 x25_120) (va_up a 27 y27_121)) _ := hP
        have hD : va_D _ (mw g h0 b (va_up (va_up (va_up (va_up i 22 x22_134) 23 x23_135) 24 x24_136) 25 x25_120) (va_up a 27 y27_121)) := hD
        refine W.eq (g2 := F0 m 193 ls [.int 0]) rfl ?_
        refine lv_if_eq (tgt := 200) hx hb dX10_rest_193 (by decide) (fun _ => ?_) (fun c_139 => absurd c_139 (by decide))
        refine lv_iconst (v := 0) hx hb dX10_rest_200 (by decide) ?_
        exact M_z hx hb hr rfl hlocks (x22_134, x23_135, x24_136, x25_120, (i 36), (a 26), y27_121, (a 28), (a 29), (a 30), (a 31), (a 32), (a 33)) hP hD hK hS ⟨Or.inl ⟨rfl, by omega⟩, ⟨⟨⟨by omega, by omega⟩, by omega, fun h9 => by omega⟩, dp, hpr_132⟩⟩ (by first | exact Nat.le_of_ble_eq_true rfl | (simp only [rm_X10_rest]; omega)) (by first | exact Nat.le_of_ble_eq_true rfl | (simp only [rm_X10_rest]; omega)) dX10_rest_201
      · have hP : va_P (dC, dI) vwCl (mw g h0 b (va_up (va_up (va_up (va_up i 22 x22_134) 23 x23_135) 24 x24_136) 25 x25_120) (va_up a 27 y27_121)) _ := hP
        have hD : va_D _ (mw g h0 b (va_up (va_up (va_up (va_up i 22 x22_134) 23 x23_135) 24 x24_136) 25 x25_120) (va_up a 27 y27_121)) := hD
        refine W.eq (g2 := F0 m 193 ls [.int 1]) rfl ?_
        refine lv_if_eq (tgt := 200) hx hb dX10_rest_193 (by decide) (fun c_140 => absurd c_140 (by decide)) (fun _ => ?_)
        refine lv_iconst (v := 1) hx hb dX10_rest_196 (by decide) ?_
        refine lv_goto (tgt := 201) hx hb dX10_rest_197 (by decide) ?_
        exact M_z hx hb hr rfl hlocks (x22_134, x23_135, x24_136, x25_120, (i 36), (a 26), y27_121, (a 28), (a 29), (a 30), (a 31), (a 32), (a 33)) hP hD hK hS ⟨Or.inr ⟨rfl, trivial⟩, ⟨⟨⟨by omega, by omega⟩, by omega, fun h9 => by omega⟩, dp, hpr_132⟩⟩ (by first | exact Nat.le_of_ble_eq_true rfl | (simp only [rm_X10_rest]; omega)) (by first | exact Nat.le_of_ble_eq_true rfl | (simp only [rm_X10_rest]; omega)) dX10_rest_201
  by_cases c_141 : z_1 = 7
  · refine lv_tableIn (tgt := 202) hx hb dX10_rest_6 (by rw [c_141]; decide) (by rw [c_141]; decide) (by rw [c_141]; rfl) (by decide) ?_
    refine lv_aload_n hx hb dX10_rest_202 rfl (lv_at hl 0 rfl) ?_
    refine lv_iload_n hx hb dX10_rest_203 rfl (lv_at hl 1 rfl) ?_
    refine lv_iconst (v := 0) hx hb dX10_rest_204 (by decide) ?_
    refine lv_bipush (v := 50) hx hb dX10_rest_205 (by decide) ?_
    refine M_V ⟨hx, hb, hml, hown, hts⟩ (m_X10_single l dC dI sa g h0 b i a kk (0 : Int32) (50 : Int32) _ (show 0 ≤ (i 22).toInt ∧ (i 22).toInt ≤ (i 21).toInt ∧ (i 21).toInt ≤ 1500 from by omega) (show 0 ≤ (i 23).toInt from by omega) hk) (cwV 3 hts gX10_rest_X10_single rfl rfl rfl (by decide +kernel) ⟨(by first | exact Nat.le_of_ble_eq_true rfl | (simp only [rm_X10_single, rm_X10_rest]; omega)), (by first | exact Nat.le_of_ble_eq_true rfl | (simp only [rm_X10_single, rm_X10_rest]; omega))⟩) hP hD hK hS hA hev rfl rfl rfl rfl hl.1 rfl (Nat.le_of_ble_eq_true rfl) dX10_rest_207 ⟨(by first | exact Nat.le_of_ble_eq_true rfl | (simp only [rm_X10_rest]; omega)), (by first | exact Nat.le_of_ble_eq_true rfl | (simp only [rm_X10_rest]; omega))⟩ (fun r u H locs hw hP hD hS => ?_)
    obtain ⟨x22_142, x23_143, x24_144, x25_145, y27_146⟩ := u
    have hw : ((r = some (.int 0) ∧ (0 < x23_143.toInt)) ∨ (r = some (.int 1) ∧ (True))) ∧ ((((i 22).toInt ≤ x22_142.toInt ∧ x22_142.toInt ≤ (i 21).toInt) ∧ 0 ≤ x23_143.toInt ∧ (0 < (i 23).toInt → 0 < x23_143.toInt)) ∧ (y27_146 = (a 27) ∨ ∃ v : Int32, (0 : Int32).toInt ≤ v.toInt ∧ v.toInt ≤ (50 : Int32).toInt ∧ y27_146 = upd (a 27) kk.toNatClampNeg v)) := hw
    obtain ⟨⟨rfl, hz2_148⟩ | ⟨rfl, hz2_148⟩, hw_147⟩ := hw
    · have hP : va_P (dC, dI) vwCl (mw g h0 b (va_up (va_up (va_up (va_up i 22 x22_142) 23 x23_143) 24 x24_144) 25 x25_145) (va_up a 27 y27_146)) _ := hP
      have hD : va_D _ (mw g h0 b (va_up (va_up (va_up (va_up i 22 x22_142) 23 x23_143) 24 x24_144) 25 x25_145) (va_up a 27 y27_146)) := hD
      refine W.eq (g2 := F0 m 210 ls [.int 0]) rfl ?_
      obtain ⟨hatq_150, hset_149⟩ := hw_147
      have hp_151 := PN.set hPN hq hVq hset_149 (fun h9 => absurd h9 (by rw [← hkq, ← ez_1, c_141]; decide))
      have hpr_152 := PR.tr (PR.rf hPN) hp_151
      refine lv_if_eq (tgt := 226) hx hb dX10_rest_210 (by decide) (fun _ => ?_) (fun c_153 => absurd c_153 (by decide))
      refine lv_iconst (v := 0) hx hb dX10_rest_226 (by decide) ?_
      exact M_z hx hb hr rfl hlocks (x22_142, x23_143, x24_144, x25_145, (i 36), (a 26), y27_146, (a 28), (a 29), (a 30), (a 31), (a 32), (a 33)) hP hD hK hS ⟨Or.inl ⟨rfl, by omega⟩, ⟨⟨⟨by omega, by omega⟩, by omega, fun h9 => by omega⟩, dp, hpr_152⟩⟩ (by first | exact Nat.le_of_ble_eq_true rfl | (simp only [rm_X10_rest]; omega)) (by first | exact Nat.le_of_ble_eq_true rfl | (simp only [rm_X10_rest]; omega)) dX10_rest_227
    · have hP : va_P (dC, dI) vwCl (mw g h0 b (va_up (va_up (va_up (va_up i 22 x22_142) 23 x23_143) 24 x24_144) 25 x25_145) (va_up a 27 y27_146)) _ := hP
      have hD : va_D _ (mw g h0 b (va_up (va_up (va_up (va_up i 22 x22_142) 23 x23_143) 24 x24_144) 25 x25_145) (va_up a 27 y27_146)) := hD
      refine W.eq (g2 := F0 m 210 ls [.int 1]) rfl ?_
      obtain ⟨hatq_155, hset_154⟩ := hw_147
      have hp_156 := PN.set hPN hq hVq hset_154 (fun h9 => absurd h9 (by rw [← hkq, ← ez_1, c_141]; decide))
      have hpr_157 := PR.tr (PR.rf hPN) hp_156
      refine lv_if_eq (tgt := 226) hx hb dX10_rest_210 (by decide) (fun c_158 => absurd c_158 (by decide)) (fun _ => ?_)
      refine lv_aload_n hx hb dX10_rest_213 rfl (lv_at hl 0 rfl) ?_
      refine lv_iload_n hx hb dX10_rest_214 rfl (lv_at hl 1 rfl) ?_
      refine lv_iconst (v := 0) hx hb dX10_rest_215 (by decide) ?_
      refine M_V ⟨hx, hb, hml, hown, hts⟩ (m_X10_block l dC dI sa g h0 b j bl dp (va_up (va_up (va_up (va_up i 22 x22_142) 23 x23_143) 24 x24_144) 25 x25_145) (va_up a 27 y27_146) kk (0 : Int32) _ (show 0 ≤ x22_142.toInt ∧ x22_142.toInt ≤ (i 21).toInt ∧ (i 21).toInt ≤ 1500 from by omega) (show 0 ≤ x23_143.toInt from by omega) hp_156.2.1 hBL hj (let h9 := PR.nd hpr_157 hVq hdq; ⟨q, hq, h9.1, h9.2⟩) IHS) (cwV 2 hts gX10_rest_X10_block rfl rfl rfl (by decide +kernel) ⟨(by first | exact Nat.le_of_ble_eq_true rfl | (simp only [rm_X10_block, rm_X10_rest]; omega)), (by first | exact Nat.le_of_ble_eq_true rfl | (simp only [rm_X10_block, rm_X10_rest]; omega))⟩) hP hD hK hS hA hev rfl rfl rfl rfl hl.1 rfl (Nat.le_of_ble_eq_true rfl) dX10_rest_216 ⟨(by first | exact Nat.le_of_ble_eq_true rfl | (simp only [rm_X10_rest]; omega)), (by first | exact Nat.le_of_ble_eq_true rfl | (simp only [rm_X10_rest]; omega))⟩ (fun r u H locs hw hP hD hS => ?_)
      obtain ⟨x22_159, x23_160, x24_161, x25_162, x36_163, y26_164, y27_165, y28_166, y29_167, y30_168, y31_169, y32_170, y33_171⟩ := u
      have hw : ((r = some (.int 0) ∧ (0 < x23_160.toInt)) ∨ (r = some (.int 1) ∧ (True))) ∧ (((x22_142.toInt ≤ x22_159.toInt ∧ x22_159.toInt ≤ (i 21).toInt) ∧ 0 ≤ x23_160.toInt ∧ (0 < x23_143.toInt → 0 < x23_160.toInt)) ∧ ∃ dpN : Nat → Nat, PR (i 36) x36_163 dp dpN (a 26) y27_146 (a 31) (a 32) (a 33) y26_164 y27_165 y31_169 y32_170 y33_171) := hw
      obtain ⟨⟨rfl, hz2_173⟩ | ⟨rfl, hz2_173⟩, hw_172⟩ := hw
      · have hP : va_P (dC, dI) vwCl (mw g h0 b (va_up (va_up (va_up (va_up (va_up i 22 x22_159) 23 x23_160) 24 x24_161) 25 x25_162) 36 x36_163) (va_up (va_up (va_up (va_up (va_up (va_up (va_up (va_up a 26 y26_164) 27 y27_165) 28 y28_166) 29 y29_167) 30 y30_168) 31 y31_169) 32 y32_170) 33 y33_171)) _ := hP
        have hD : va_D _ (mw g h0 b (va_up (va_up (va_up (va_up (va_up i 22 x22_159) 23 x23_160) 24 x24_161) 25 x25_162) 36 x36_163) (va_up (va_up (va_up (va_up (va_up (va_up (va_up (va_up a 26 y26_164) 27 y27_165) 28 y28_166) 29 y29_167) 30 y30_168) 31 y31_169) 32 y32_170) 33 y33_171)) := hD
        refine W.eq (g2 := F0 m 219 ls [.int 0]) rfl ?_
        obtain ⟨hatq_177, dp_175, hPR_174⟩ := hw_172
        have hpr_178 := PR.tr hpr_157 hPR_174
        refine lv_if_eq (tgt := 226) hx hb dX10_rest_219 (by decide) (fun _ => ?_) (fun c_179 => absurd c_179 (by decide))
        refine lv_iconst (v := 0) hx hb dX10_rest_226 (by decide) ?_
        exact M_z hx hb hr rfl hlocks (x22_159, x23_160, x24_161, x25_162, x36_163, y26_164, y27_165, y28_166, y29_167, y30_168, y31_169, y32_170, y33_171) hP hD hK hS ⟨Or.inl ⟨rfl, by omega⟩, ⟨⟨⟨by omega, by omega⟩, by omega, fun h9 => by omega⟩, dp_175, hpr_178⟩⟩ (by first | exact Nat.le_of_ble_eq_true rfl | (simp only [rm_X10_rest]; omega)) (by first | exact Nat.le_of_ble_eq_true rfl | (simp only [rm_X10_rest]; omega)) dX10_rest_227
      · have hP : va_P (dC, dI) vwCl (mw g h0 b (va_up (va_up (va_up (va_up (va_up i 22 x22_159) 23 x23_160) 24 x24_161) 25 x25_162) 36 x36_163) (va_up (va_up (va_up (va_up (va_up (va_up (va_up (va_up a 26 y26_164) 27 y27_165) 28 y28_166) 29 y29_167) 30 y30_168) 31 y31_169) 32 y32_170) 33 y33_171)) _ := hP
        have hD : va_D _ (mw g h0 b (va_up (va_up (va_up (va_up (va_up i 22 x22_159) 23 x23_160) 24 x24_161) 25 x25_162) 36 x36_163) (va_up (va_up (va_up (va_up (va_up (va_up (va_up (va_up a 26 y26_164) 27 y27_165) 28 y28_166) 29 y29_167) 30 y30_168) 31 y31_169) 32 y32_170) 33 y33_171)) := hD
        refine W.eq (g2 := F0 m 219 ls [.int 1]) rfl ?_
        obtain ⟨hatq_183, dp_181, hPR_180⟩ := hw_172
        have hpr_184 := PR.tr hpr_157 hPR_180
        refine lv_if_eq (tgt := 226) hx hb dX10_rest_219 (by decide) (fun c_185 => absurd c_185 (by decide)) (fun _ => ?_)
        refine lv_iconst (v := 1) hx hb dX10_rest_222 (by decide) ?_
        refine lv_goto (tgt := 227) hx hb dX10_rest_223 (by decide) ?_
        exact M_z hx hb hr rfl hlocks (x22_159, x23_160, x24_161, x25_162, x36_163, y26_164, y27_165, y28_166, y29_167, y30_168, y31_169, y32_170, y33_171) hP hD hK hS ⟨Or.inr ⟨rfl, trivial⟩, ⟨⟨⟨by omega, by omega⟩, by omega, fun h9 => by omega⟩, dp_181, hpr_184⟩⟩ (by first | exact Nat.le_of_ble_eq_true rfl | (simp only [rm_X10_rest]; omega)) (by first | exact Nat.le_of_ble_eq_true rfl | (simp only [rm_X10_rest]; omega)) dX10_rest_227
  by_cases c_186 : z_1 = 8
  · refine lv_tableIn (tgt := 228) hx hb dX10_rest_6 (by rw [c_186]; decide) (by rw [c_186]; decide) (by rw [c_186]; rfl) (by decide) ?_
    refine lv_aload_n hx hb dX10_rest_228 rfl (lv_at hl 0 rfl) ?_
    refine lv_iload_n hx hb dX10_rest_229 rfl (lv_at hl 1 rfl) ?_
    refine lv_iconst (v := 0) hx hb dX10_rest_230 (by decide) ?_
    refine lv_sipush (v := 200) hx hb dX10_rest_231 (by decide) ?_
    refine M_V ⟨hx, hb, hml, hown, hts⟩ (m_X10_single l dC dI sa g h0 b i a kk (0 : Int32) (200 : Int32) _ (show 0 ≤ (i 22).toInt ∧ (i 22).toInt ≤ (i 21).toInt ∧ (i 21).toInt ≤ 1500 from by omega) (show 0 ≤ (i 23).toInt from by omega) hk) (cwV 3 hts gX10_rest_X10_single rfl rfl rfl (by decide +kernel) ⟨(by first | exact Nat.le_of_ble_eq_true rfl | (simp only [rm_X10_single, rm_X10_rest]; omega)), (by first | exact Nat.le_of_ble_eq_true rfl | (simp only [rm_X10_single, rm_X10_rest]; omega))⟩) hP hD hK hS hA hev rfl rfl rfl rfl hl.1 rfl (Nat.le_of_ble_eq_true rfl) dX10_rest_234 ⟨(by first | exact Nat.le_of_ble_eq_true rfl | (simp only [rm_X10_rest]; omega)), (by first | exact Nat.le_of_ble_eq_true rfl | (simp only [rm_X10_rest]; omega))⟩ (fun r u H locs hw hP hD hS => ?_)
    obtain ⟨x22_187, x23_188, x24_189, x25_190, y27_191⟩ := u
    have hw : ((r = some (.int 0) ∧ (0 < x23_188.toInt)) ∨ (r = some (.int 1) ∧ (True))) ∧ ((((i 22).toInt ≤ x22_187.toInt ∧ x22_187.toInt ≤ (i 21).toInt) ∧ 0 ≤ x23_188.toInt ∧ (0 < (i 23).toInt → 0 < x23_188.toInt)) ∧ (y27_191 = (a 27) ∨ ∃ v : Int32, (0 : Int32).toInt ≤ v.toInt ∧ v.toInt ≤ (200 : Int32).toInt ∧ y27_191 = upd (a 27) kk.toNatClampNeg v)) := hw
    obtain ⟨⟨rfl, hz2_193⟩ | ⟨rfl, hz2_193⟩, hw_192⟩ := hw
    · have hP : va_P (dC, dI) vwCl (mw g h0 b (va_up (va_up (va_up (va_up i 22 x22_187) 23 x23_188) 24 x24_189) 25 x25_190) (va_up a 27 y27_191)) _ := hP
      have hD : va_D _ (mw g h0 b (va_up (va_up (va_up (va_up i 22 x22_187) 23 x23_188) 24 x24_189) 25 x25_190) (va_up a 27 y27_191)) := hD
      refine W.eq (g2 := F0 m 237 ls [.int 0]) rfl ?_
      obtain ⟨hatq_195, hset_194⟩ := hw_192
      have hp_196 := PN.set hPN hq hVq hset_194 (fun h9 => absurd h9 (by rw [← hkq, ← ez_1, c_186]; decide))
      have hpr_197 := PR.tr (PR.rf hPN) hp_196
      refine lv_if_eq (tgt := 253) hx hb dX10_rest_237 (by decide) (fun _ => ?_) (fun c_198 => absurd c_198 (by decide))
      refine lv_iconst (v := 0) hx hb dX10_rest_253 (by decide) ?_
      exact M_z hx hb hr rfl hlocks (x22_187, x23_188, x24_189, x25_190, (i 36), (a 26), y27_191, (a 28), (a 29), (a 30), (a 31), (a 32), (a 33)) hP hD hK hS ⟨Or.inl ⟨rfl, by omega⟩, ⟨⟨⟨by omega, by omega⟩, by omega, fun h9 => by omega⟩, dp, hpr_197⟩⟩ (by first | exact Nat.le_of_ble_eq_true rfl | (simp only [rm_X10_rest]; omega)) (by first | exact Nat.le_of_ble_eq_true rfl | (simp only [rm_X10_rest]; omega)) dX10_rest_254
    · have hP : va_P (dC, dI) vwCl (mw g h0 b (va_up (va_up (va_up (va_up i 22 x22_187) 23 x23_188) 24 x24_189) 25 x25_190) (va_up a 27 y27_191)) _ := hP
      have hD : va_D _ (mw g h0 b (va_up (va_up (va_up (va_up i 22 x22_187) 23 x23_188) 24 x24_189) 25 x25_190) (va_up a 27 y27_191)) := hD
      refine W.eq (g2 := F0 m 237 ls [.int 1]) rfl ?_
      obtain ⟨hatq_200, hset_199⟩ := hw_192
      have hp_201 := PN.set hPN hq hVq hset_199 (fun h9 => absurd h9 (by rw [← hkq, ← ez_1, c_186]; decide))
      have hpr_202 := PR.tr (PR.rf hPN) hp_201
      refine lv_if_eq (tgt := 253) hx hb dX10_rest_237 (by decide) (fun c_203 => absurd c_203 (by decide)) (fun _ => ?_)
      refine lv_aload_n hx hb dX10_rest_240 rfl (lv_at hl 0 rfl) ?_
      refine lv_iload_n hx hb dX10_rest_241 rfl (lv_at hl 1 rfl) ?_
      refine lv_iconst (v := 0) hx hb dX10_rest_242 (by decide) ?_
      refine M_V ⟨hx, hb, hml, hown, hts⟩ (m_X10_block l dC dI sa g h0 b j bl dp (va_up (va_up (va_up (va_up i 22 x22_187) 23 x23_188) 24 x24_189) 25 x25_190) (va_up a 27 y27_191) kk (0 : Int32) _ (show 0 ≤ x22_187.toInt ∧ x22_187.toInt ≤ (i 21).toInt ∧ (i 21).toInt ≤ 1500 from by omega) (show 0 ≤ x23_188.toInt from by omega) hp_201.2.1 hBL hj (let h9 := PR.nd hpr_202 hVq hdq; ⟨q, hq, h9.1, h9.2⟩) IHS) (cwV 2 hts gX10_rest_X10_block rfl rfl rfl (by decide +kernel) ⟨(by first | exact Nat.le_of_ble_eq_true rfl | (simp only [rm_X10_block, rm_X10_rest]; omega)), (by first | exact Nat.le_of_ble_eq_true rfl | (simp only [rm_X10_block, rm_X10_rest]; omega))⟩) hP hD hK hS hA hev rfl rfl rfl rfl hl.1 rfl (Nat.le_of_ble_eq_true rfl) dX10_rest_243 ⟨(by first | exact Nat.le_of_ble_eq_true rfl | (simp only [rm_X10_rest]; omega)), (by first | exact Nat.le_of_ble_eq_true rfl | (simp only [rm_X10_rest]; omega))⟩ (fun r u H locs hw hP hD hS => ?_)
      obtain ⟨x22_204, x23_205, x24_206, x25_207, x36_208, y26_209, y27_210, y28_211, y29_212, y30_213, y31_214, y32_215, y33_216⟩ := u
      have hw : ((r = some (.int 0) ∧ (0 < x23_205.toInt)) ∨ (r = some (.int 1) ∧ (True))) ∧ (((x22_187.toInt ≤ x22_204.toInt ∧ x22_204.toInt ≤ (i 21).toInt) ∧ 0 ≤ x23_205.toInt ∧ (0 < x23_188.toInt → 0 < x23_205.toInt)) ∧ ∃ dpN : Nat → Nat, PR (i 36) x36_208 dp dpN (a 26) y27_191 (a 31) (a 32) (a 33) y26_209 y27_210 y31_214 y32_215 y33_216) := hw
      obtain ⟨⟨rfl, hz2_218⟩ | ⟨rfl, hz2_218⟩, hw_217⟩ := hw
      · have hP : va_P (dC, dI) vwCl (mw g h0 b (va_up (va_up (va_up (va_up (va_up i 22 x22_204) 23 x23_205) 24 x24_206) 25 x25_207) 36 x36_208) (va_up (va_up (va_up (va_up (va_up (va_up (va_up (va_up a 26 y26_209) 27 y27_210) 28 y28_211) 29 y29_212) 30 y30_213) 31 y31_214) 32 y32_215) 33 y33_216)) _ := hP
        have hD : va_D _ (mw g h0 b (va_up (va_up (va_up (va_up (va_up i 22 x22_204) 23 x23_205) 24 x24_206) 25 x25_207) 36 x36_208) (va_up (va_up (va_up (va_up (va_up (va_up (va_up (va_up a 26 y26_209) 27 y27_210) 28 y28_211) 29 y29_212) 30 y30_213) 31 y31_214) 32 y32_215) 33 y33_216)) := hD
        refine W.eq (g2 := F0 m 246 ls [.int 0]) rfl ?_
        obtain ⟨hatq_222, dp_220, hPR_219⟩ := hw_217
        have hpr_223 := PR.tr hpr_202 hPR_219
        refine lv_if_eq (tgt := 253) hx hb dX10_rest_246 (by decide) (fun _ => ?_) (fun c_224 => absurd c_224 (by decide))
        refine lv_iconst (v := 0) hx hb dX10_rest_253 (by decide) ?_
        exact M_z hx hb hr rfl hlocks (x22_204, x23_205, x24_206, x25_207, x36_208, y26_209, y27_210, y28_211, y29_212, y30_213, y31_214, y32_215, y33_216) hP hD hK hS ⟨Or.inl ⟨rfl, by omega⟩, ⟨⟨⟨by omega, by omega⟩, by omega, fun h9 => by omega⟩, dp_220, hpr_223⟩⟩ (by first | exact Nat.le_of_ble_eq_true rfl | (simp only [rm_X10_rest]; omega)) (by first | exact Nat.le_of_ble_eq_true rfl | (simp only [rm_X10_rest]; omega)) dX10_rest_254
      · have hP : va_P (dC, dI) vwCl (mw g h0 b (va_up (va_up (va_up (va_up (va_up i 22 x22_204) 23 x23_205) 24 x24_206) 25 x25_207) 36 x36_208) (va_up (va_up (va_up (va_up (va_up (va_up (va_up (va_up a 26 y26_209) 27 y27_210) 28 y28_211) 29 y29_212) 30 y30_213) 31 y31_214) 32 y32_215) 33 y33_216)) _ := hP
        have hD : va_D _ (mw g h0 b (va_up (va_up (va_up (va_up (va_up i 22 x22_204) 23 x23_205) 24 x24_206) 25 x25_207) 36 x36_208) (va_up (va_up (va_up (va_up (va_up (va_up (va_up (va_up a 26 y26_209) 27 y27_210) 28 y28_211) 29 y29_212) 30 y30_213) 31 y31_214) 32 y32_215) 33 y33_216)) := hD
        refine W.eq (g2 := F0 m 246 ls [.int 1]) rfl ?_
        obtain ⟨hatq_228, dp_226, hPR_225⟩ := hw_217
        have hpr_229 := PR.tr hpr_202 hPR_225
        refine lv_if_eq (tgt := 253) hx hb dX10_rest_246 (by decide) (fun c_230 => absurd c_230 (by decide)) (fun _ => ?_)
        refine lv_iconst (v := 1) hx hb dX10_rest_249 (by decide) ?_
        refine lv_goto (tgt := 254) hx hb dX10_rest_250 (by decide) ?_
        exact M_z hx hb hr rfl hlocks (x22_204, x23_205, x24_206, x25_207, x36_208, y26_209, y27_210, y28_211, y29_212, y30_213, y31_214, y32_215, y33_216) hP hD hK hS ⟨Or.inr ⟨rfl, trivial⟩, ⟨⟨⟨by omega, by omega⟩, by omega, fun h9 => by omega⟩, dp_226, hpr_229⟩⟩ (by first | exact Nat.le_of_ble_eq_true rfl | (simp only [rm_X10_rest]; omega)) (by first | exact Nat.le_of_ble_eq_true rfl | (simp only [rm_X10_rest]; omega)) dX10_rest_254
  by_cases c_231 : z_1 = 9
  · refine lv_tableIn (tgt := 255) hx hb dX10_rest_6 (by rw [c_231]; decide) (by rw [c_231]; decide) (by rw [c_231]; rfl) (by decide) ?_
    refine lv_aload_n hx hb dX10_rest_255 rfl (lv_at hl 0 rfl) ?_
    refine lv_iload_n hx hb dX10_rest_256 rfl (lv_at hl 1 rfl) ?_
    refine M_V ⟨hx, hb, hml, hown, hts⟩ (m_X10_test l dC dI sa g h0 b i a kk _ (show 0 ≤ (i 22).toInt ∧ (i 22).toInt ≤ (i 21).toInt ∧ (i 21).toInt ≤ 1500 from by omega) (show 0 ≤ (i 23).toInt from by omega) hk) (cwV 1 hts gX10_rest_X10_test rfl rfl rfl (by decide +kernel) ⟨(by first | exact Nat.le_of_ble_eq_true rfl | (simp only [rm_X10_test, rm_X10_rest]; omega)), (by first | exact Nat.le_of_ble_eq_true rfl | (simp only [rm_X10_test, rm_X10_rest]; omega))⟩) hP hD hK hS hA hev rfl rfl rfl rfl hl.1 rfl (Nat.le_of_ble_eq_true rfl) dX10_rest_257 ⟨(by first | exact Nat.le_of_ble_eq_true rfl | (simp only [rm_X10_rest]; omega)), (by first | exact Nat.le_of_ble_eq_true rfl | (simp only [rm_X10_rest]; omega))⟩ (fun r u H locs hw hP hD hS => ?_)
    obtain ⟨x22_232, x23_233, x24_234, x25_235, y27_236, y28_237, y29_238, y30_239⟩ := u
    have hw : ((r = some (.int 0) ∧ (0 < x23_233.toInt)) ∨ (r = some (.int 1) ∧ (True))) ∧ ((((i 22).toInt ≤ x22_232.toInt ∧ x22_232.toInt ≤ (i 21).toInt) ∧ 0 ≤ x23_233.toInt ∧ (0 < (i 23).toInt → 0 < x23_233.toInt)) ∧ (y27_236 = (a 27) ∨ ∃ v : Int32, (0 : Int32).toInt ≤ v.toInt ∧ v.toInt ≤ (5 : Int32).toInt ∧ y27_236 = upd (a 27) kk.toNatClampNeg v)) := hw
    obtain ⟨⟨rfl, hz2_241⟩ | ⟨rfl, hz2_241⟩, hw_240⟩ := hw
    · have hP : va_P (dC, dI) vwCl (mw g h0 b (va_up (va_up (va_up (va_up i 22 x22_232) 23 x23_233) 24 x24_234) 25 x25_235) (va_up (va_up (va_up (va_up a 27 y27_236) 28 y28_237) 29 y29_238) 30 y30_239)) _ := hP
      have hD : va_D _ (mw g h0 b (va_up (va_up (va_up (va_up i 22 x22_232) 23 x23_233) 24 x24_234) 25 x25_235) (va_up (va_up (va_up (va_up a 27 y27_236) 28 y28_237) 29 y29_238) 30 y30_239)) := hD
      refine W.eq (g2 := F0 m 260 ls [.int 0]) rfl ?_
      obtain ⟨hatq_243, hset_242⟩ := hw_240
      have hp_244 := PN.set hPN hq hVq hset_242 (fun _ => by decide)
      have hpr_245 := PR.tr (PR.rf hPN) hp_244
      refine lv_if_eq (tgt := 272) hx hb dX10_rest_260 (by decide) (fun _ => ?_) (fun c_246 => absurd c_246 (by decide))
      refine lv_iconst (v := 0) hx hb dX10_rest_272 (by decide) ?_
      exact M_z hx hb hr rfl hlocks (x22_232, x23_233, x24_234, x25_235, (i 36), (a 26), y27_236, y28_237, y29_238, y30_239, (a 31), (a 32), (a 33)) hP hD hK hS ⟨Or.inl ⟨rfl, by omega⟩, ⟨⟨⟨by omega, by omega⟩, by omega, fun h9 => by omega⟩, dp, hpr_245⟩⟩ (by first | exact Nat.le_of_ble_eq_true rfl | (simp only [rm_X10_rest]; omega)) (by first | exact Nat.le_of_ble_eq_true rfl | (simp only [rm_X10_rest]; omega)) dX10_rest_273
    · have hP : va_P (dC, dI) vwCl (mw g h0 b (va_up (va_up (va_up (va_up i 22 x22_232) 23 x23_233) 24 x24_234) 25 x25_235) (va_up (va_up (va_up (va_up a 27 y27_236) 28 y28_237) 29 y29_238) 30 y30_239)) _ := hP
      have hD : va_D _ (mw g h0 b (va_up (va_up (va_up (va_up i 22 x22_232) 23 x23_233) 24 x24_234) 25 x25_235) (va_up (va_up (va_up (va_up a 27 y27_236) 28 y28_237) 29 y29_238) 30 y30_239)) := hD
      refine W.eq (g2 := F0 m 260 ls [.int 1]) rfl ?_
      obtain ⟨hatq_248, hset_247⟩ := hw_240
      have hp_249 := PN.set hPN hq hVq hset_247 (fun _ => by decide)
      have hpr_250 := PR.tr (PR.rf hPN) hp_249
      refine lv_if_eq (tgt := 272) hx hb dX10_rest_260 (by decide) (fun c_251 => absurd c_251 (by decide)) (fun _ => ?_)
      refine lv_aload_n hx hb dX10_rest_263 rfl (lv_at hl 0 rfl) ?_
      refine lv_iload_n hx hb dX10_rest_264 rfl (lv_at hl 1 rfl) ?_
      refine lv_iconst (v := 0) hx hb dX10_rest_265 (by decide) ?_
      refine M_V ⟨hx, hb, hml, hown, hts⟩ (m_X10_block l dC dI sa g h0 b j bl dp (va_up (va_up (va_up (va_up i 22 x22_232) 23 x23_233) 24 x24_234) 25 x25_235) (va_up (va_up (va_up (va_up a 27 y27_236) 28 y28_237) 29 y29_238) 30 y30_239) kk (0 : Int32) _ (show 0 ≤ x22_232.toInt ∧ x22_232.toInt ≤ (i 21).toInt ∧ (i 21).toInt ≤ 1500 from by omega) (show 0 ≤ x23_233.toInt from by omega) hp_249.2.1 hBL hj (let h9 := PR.nd hpr_250 hVq hdq; ⟨q, hq, h9.1, h9.2⟩) IHS) (cwV 2 hts gX10_rest_X10_block rfl rfl rfl (by decide +kernel) ⟨(by first | exact Nat.le_of_ble_eq_true rfl | (simp only [rm_X10_block, rm_X10_rest]; omega)), (by first | exact Nat.le_of_ble_eq_true rfl | (simp only [rm_X10_block, rm_X10_rest]; omega))⟩) hP hD hK hS hA hev rfl rfl rfl rfl hl.1 rfl (Nat.le_of_ble_eq_true rfl) dX10_rest_266 ⟨(by first | exact Nat.le_of_ble_eq_true rfl | (simp only [rm_X10_rest]; omega)), (by first | exact Nat.le_of_ble_eq_true rfl | (simp only [rm_X10_rest]; omega))⟩ (fun r u H locs hw hP hD hS => ?_)
      obtain ⟨x22_252, x23_253, x24_254, x25_255, x36_256, y26_257, y27_258, y28_259, y29_260, y30_261, y31_262, y32_263, y33_264⟩ := u
      have hw : ((r = some (.int 0) ∧ (0 < x23_253.toInt)) ∨ (r = some (.int 1) ∧ (True))) ∧ (((x22_232.toInt ≤ x22_252.toInt ∧ x22_252.toInt ≤ (i 21).toInt) ∧ 0 ≤ x23_253.toInt ∧ (0 < x23_233.toInt → 0 < x23_253.toInt)) ∧ ∃ dpN : Nat → Nat, PR (i 36) x36_256 dp dpN (a 26) y27_236 (a 31) (a 32) (a 33) y26_257 y27_258 y31_262 y32_263 y33_264) := hw
      obtain ⟨⟨rfl, hz2_266⟩ | ⟨rfl, hz2_266⟩, hw_265⟩ := hw
      · have hP : va_P (dC, dI) vwCl (mw g h0 b (va_up (va_up (va_up (va_up (va_up i 22 x22_252) 23 x23_253) 24 x24_254) 25 x25_255) 36 x36_256) (va_up (va_up (va_up (va_up (va_up (va_up (va_up (va_up a 26 y26_257) 27 y27_258) 28 y28_259) 29 y29_260) 30 y30_261) 31 y31_262) 32 y32_263) 33 y33_264)) _ := hP
        have hD : va_D _ (mw g h0 b (va_up (va_up (va_up (va_up (va_up i 22 x22_252) 23 x23_253) 24 x24_254) 25 x25_255) 36 x36_256) (va_up (va_up (va_up (va_up (va_up (va_up (va_up (va_up a 26 y26_257) 27 y27_258) 28 y28_259) 29 y29_260) 30 y30_261) 31 y31_262) 32 y32_263) 33 y33_264)) := hD
        refine W.eq (g2 := F0 m 269 ls [.int 0]) rfl ?_
        obtain ⟨hatq_270, dp_268, hPR_267⟩ := hw_265
        have hpr_271 := PR.tr hpr_250 hPR_267
        refine lv_if_ne (tgt := 274) hx hb dX10_rest_269 (by decide) (fun c_272 => absurd c_272 (by decide)) (fun _ => ?_)
        refine lv_iconst (v := 0) hx hb dX10_rest_272 (by decide) ?_
        exact M_z hx hb hr rfl hlocks (x22_252, x23_253, x24_254, x25_255, x36_256, y26_257, y27_258, y28_259, y29_260, y30_261, y31_262, y32_263, y33_264) hP hD hK hS ⟨Or.inl ⟨rfl, by omega⟩, ⟨⟨⟨by omega, by omega⟩, by omega, fun h9 => by omega⟩, dp_268, hpr_271⟩⟩ (by first | exact Nat.le_of_ble_eq_true rfl | (simp only [rm_X10_rest]; omega)) (by first | exact Nat.le_of_ble_eq_true rfl | (simp only [rm_X10_rest]; omega)) dX10_rest_273
      · have hP : va_P (dC, dI) vwCl (mw g h0 b (va_up (va_up (va_up (va_up (va_up i 22 x22_252) 23 x23_253) 24 x24_254) 25 x25_255) 36 x36_256) (va_up (va_up (va_up (va_up (va_up (va_up (va_up (va_up a 26 y26_257) 27 y27_258) 28 y28_259) 29 y29_260) 30 y30_261) 31 y31_262) 32 y32_263) 33 y33_264)) _ := hP
        have hD : va_D _ (mw g h0 b (va_up (va_up (va_up (va_up (va_up i 22 x22_252) 23 x23_253) 24 x24_254) 25 x25_255) 36 x36_256) (va_up (va_up (va_up (va_up (va_up (va_up (va_up (va_up a 26 y26_257) 27 y27_258) 28 y28_259) 29 y29_260) 30 y30_261) 31 y31_262) 32 y32_263) 33 y33_264)) := hD
        refine W.eq (g2 := F0 m 269 ls [.int 1]) rfl ?_
        obtain ⟨hatq_276, dp_274, hPR_273⟩ := hw_265
        have hpr_277 := PR.tr hpr_250 hPR_273
        refine lv_if_ne (tgt := 274) hx hb dX10_rest_269 (by decide) (fun _ => ?_) (fun c_278 => absurd c_278 (by decide))
        refine lv_aload_n hx hb dX10_rest_274 rfl (lv_at hl 0 rfl) ?_
        refine M_V ⟨hx, hb, hml, hown, hts⟩ (m_X10_word l dC dI sa g h0 b (va_up (va_up (va_up (va_up (va_up i 22 x22_252) 23 x23_253) 24 x24_254) 25 x25_255) 36 x36_256) (va_up (va_up (va_up (va_up (va_up (va_up (va_up (va_up a 26 y26_257) 27 y27_258) 28 y28_259) 29 y29_260) 30 y30_261) 31 y31_262) 32 y32_263) 33 y33_264)  _ (show 0 ≤ x22_252.toInt ∧ x22_252.toInt ≤ (i 21).toInt ∧ (i 21).toInt ≤ 1500 from by omega)) (cwV 0 hts gX10_rest_X10_word rfl rfl rfl (by decide +kernel) ⟨(by first | exact Nat.le_of_ble_eq_true rfl | (simp only [rm_X10_word, rm_X10_rest]; omega)), (by first | exact Nat.le_of_ble_eq_true rfl | (simp only [rm_X10_word, rm_X10_rest]; omega))⟩) hP hD hK hS hA hev rfl rfl rfl rfl hl.1 rfl (Nat.le_of_ble_eq_true rfl) dX10_rest_275 ⟨(by first | exact Nat.le_of_ble_eq_true rfl | (simp only [rm_X10_rest]; omega)), (by first | exact Nat.le_of_ble_eq_true rfl | (simp only [rm_X10_rest]; omega))⟩ (fun r u H locs hw hP hD hS => ?_)
        obtain ⟨x22_279, rfl⟩ : ∃ z, z = u := ⟨_, rfl⟩
        have hw : (∃ z : Int32, r = some (.int z) ∧ (z = -1 ∨ ∃ q : Nat, z = nI q ∧ q ≤ 18 ∧ x22_279.toInt + (lenS.getD q 0 : Int) ≤ (i 21).toInt)) ∧ (x22_252.toInt ≤ x22_279.toInt ∧ x22_279.toInt ≤ (i 21).toInt) := hw
        obtain ⟨⟨z_281, rfl, hz_z_281⟩, hw_280⟩ := hw
        have hP : va_P (dC, dI) vwCl (mw g h0 b (va_up (va_up (va_up (va_up (va_up i 22 x22_279) 23 x23_253) 24 x24_254) 25 x25_255) 36 x36_256) (va_up (va_up (va_up (va_up (va_up (va_up (va_up (va_up a 26 y26_257) 27 y27_258) 28 y28_259) 29 y29_260) 30 y30_261) 31 y31_262) 32 y32_263) 33 y33_264)) _ := hP
        have hD : va_D _ (mw g h0 b (va_up (va_up (va_up (va_up (va_up i 22 x22_279) 23 x23_253) 24 x24_254) 25 x25_255) 36 x36_256) (va_up (va_up (va_up (va_up (va_up (va_up (va_up (va_up a 26 y26_257) 27 y27_258) 28 y28_259) 29 y29_260) 30 y30_261) 31 y31_262) 32 y32_263) 33 y33_264)) := hD
        refine W.eq (g2 := F0 m 278 ls [.int z_281]) rfl ?_
        refine lv_bipush (v := 13) hx hb dX10_rest_278 (by decide) ?_
        refine lv_icmp_eq (tgt := 285) hx hb dX10_rest_280 (by decide) (fun c_282 => ?_) (fun c_282 => ?_)
        · have nc_282 := eq_i c_282
          have lc_282 : (13 : Int32).toInt = 13 := by decide
          refine lv_aload_n hx hb dX10_rest_285 rfl (lv_at hl 0 rfl) ?_
          refine lv_bipush (v := 13) hx hb dX10_rest_286 (by decide) ?_
          refine M_V ⟨hx, hb, hml, hown, hts⟩ (m_X10_pass l dC dI sa g h0 b (va_up (va_up (va_up (va_up (va_up i 22 x22_279) 23 x23_253) 24 x24_254) 25 x25_255) 36 x36_256) (va_up (va_up (va_up (va_up (va_up (va_up (va_up (va_up a 26 y26_257) 27 y27_258) 28 y28_259) 29 y29_260) 30 y30_261) 31 y31_262) 32 y32_263) 33 y33_264) (13 : Int32) _ (show 0 ≤ x22_279.toInt ∧ x22_279.toInt ≤ (i 21).toInt ∧ (i 21).toInt ≤ 1500 from by omega) (by rw [← c_282]; exact hz_z_281.resolve_left (fun h9 => absurd (c_282.symm.trans h9) (by decide)))) (cwV 1 hts gX10_rest_X10_pass rfl rfl rfl (by decide +kernel) ⟨(by first | exact Nat.le_of_ble_eq_true rfl | (simp only [rm_X10_pass, rm_X10_rest]; omega)), (by first | exact Nat.le_of_ble_eq_true rfl | (simp only [rm_X10_pass, rm_X10_rest]; omega))⟩) hP hD hK hS hA hev rfl rfl rfl rfl hl.1 rfl (Nat.le_of_ble_eq_true rfl) dX10_rest_288 ⟨(by first | exact Nat.le_of_ble_eq_true rfl | (simp only [rm_X10_rest]; omega)), (by first | exact Nat.le_of_ble_eq_true rfl | (simp only [rm_X10_rest]; omega))⟩ (fun r u H locs hw hP hD hS => ?_)
          obtain ⟨x22_283, rfl⟩ : ∃ z, z = u := ⟨_, rfl⟩
          have hw : (r = none) ∧ (x22_279.toInt ≤ x22_283.toInt ∧ x22_283.toInt ≤ (i 21).toInt) := hw
          obtain ⟨rfl, hw_284⟩ := hw
          have hP : va_P (dC, dI) vwCl (mw g h0 b (va_up (va_up (va_up (va_up (va_up i 22 x22_283) 23 x23_253) 24 x24_254) 25 x25_255) 36 x36_256) (va_up (va_up (va_up (va_up (va_up (va_up (va_up (va_up a 26 y26_257) 27 y27_258) 28 y28_259) 29 y29_260) 30 y30_261) 31 y31_262) 32 y32_263) 33 y33_264)) _ := hP
          have hD : va_D _ (mw g h0 b (va_up (va_up (va_up (va_up (va_up i 22 x22_283) 23 x23_253) 24 x24_254) 25 x25_255) 36 x36_256) (va_up (va_up (va_up (va_up (va_up (va_up (va_up (va_up a 26 y26_257) 27 y27_258) 28 y28_259) 29 y29_260) 30 y30_261) 31 y31_262) 32 y32_263) 33 y33_264)) := hD
          refine W.eq (g2 := F0 m 291 ls []) rfl ?_
          refine lv_aload_n hx hb dX10_rest_291 rfl (lv_at hl 0 rfl) ?_
          refine lv_iload_n hx hb dX10_rest_292 rfl (lv_at hl 1 rfl) ?_
          refine lv_iconst (v := 1) hx hb dX10_rest_293 (by decide) ?_
          refine M_V ⟨hx, hb, hml, hown, hts⟩ (m_X10_block l dC dI sa g h0 b j bl dp_274 (va_up (va_up (va_up (va_up (va_up i 22 x22_283) 23 x23_253) 24 x24_254) 25 x25_255) 36 x36_256) (va_up (va_up (va_up (va_up (va_up (va_up (va_up (va_up a 26 y26_257) 27 y27_258) 28 y28_259) 29 y29_260) 30 y30_261) 31 y31_262) 32 y32_263) 33 y33_264) kk (1 : Int32) _ (show 0 ≤ x22_283.toInt ∧ x22_283.toInt ≤ (i 21).toInt ∧ (i 21).toInt ≤ 1500 from by omega) (show 0 ≤ x23_253.toInt from by omega) hPR_273.2.1 hBL hj (let h9 := PR.nd hpr_277 hVq hdq; ⟨q, hq, h9.1, h9.2⟩) IHS) (cwV 2 hts gX10_rest_X10_block rfl rfl rfl (by decide +kernel) ⟨(by first | exact Nat.le_of_ble_eq_true rfl | (simp only [rm_X10_block, rm_X10_rest]; omega)), (by first | exact Nat.le_of_ble_eq_true rfl | (simp only [rm_X10_block, rm_X10_rest]; omega))⟩) hP hD hK hS hA hev rfl rfl rfl rfl hl.1 rfl (Nat.le_of_ble_eq_true rfl) dX10_rest_294 ⟨(by first | exact Nat.le_of_ble_eq_true rfl | (simp only [rm_X10_rest]; omega)), (by first | exact Nat.le_of_ble_eq_true rfl | (simp only [rm_X10_rest]; omega))⟩ (fun r u H locs hw hP hD hS => ?_)
          obtain ⟨x22_285, x23_286, x24_287, x25_288, x36_289, y26_290, y27_291, y28_292, y29_293, y30_294, y31_295, y32_296, y33_297⟩ := u
          have hw : ((r = some (.int 0) ∧ (0 < x23_286.toInt)) ∨ (r = some (.int 1) ∧ (True))) ∧ (((x22_283.toInt ≤ x22_285.toInt ∧ x22_285.toInt ≤ (i 21).toInt) ∧ 0 ≤ x23_286.toInt ∧ (0 < x23_253.toInt → 0 < x23_286.toInt)) ∧ ∃ dpN : Nat → Nat, PR x36_256 x36_289 dp_274 dpN y26_257 y27_258 y31_262 y32_263 y33_264 y26_290 y27_291 y31_295 y32_296 y33_297) := hw
          obtain ⟨⟨rfl, hz2_299⟩ | ⟨rfl, hz2_299⟩, hw_298⟩ := hw
          · have hP : va_P (dC, dI) vwCl (mw g h0 b (va_up (va_up (va_up (va_up (va_up i 22 x22_285) 23 x23_286) 24 x24_287) 25 x25_288) 36 x36_289) (va_up (va_up (va_up (va_up (va_up (va_up (va_up (va_up a 26 y26_290) 27 y27_291) 28 y28_292) 29 y29_293) 30 y30_294) 31 y31_295) 32 y32_296) 33 y33_297)) _ := hP
            have hD : va_D _ (mw g h0 b (va_up (va_up (va_up (va_up (va_up i 22 x22_285) 23 x23_286) 24 x24_287) 25 x25_288) 36 x36_289) (va_up (va_up (va_up (va_up (va_up (va_up (va_up (va_up a 26 y26_290) 27 y27_291) 28 y28_292) 29 y29_293) 30 y30_294) 31 y31_295) 32 y32_296) 33 y33_297)) := hD
            refine W.eq (g2 := F0 m 297 ls [.int 0]) rfl ?_
            obtain ⟨hatq_303, dp_301, hPR_300⟩ := hw_298
            have hpr_304 := PR.tr hpr_277 hPR_300
            exact M_z hx hb hr rfl hlocks (x22_285, x23_286, x24_287, x25_288, x36_289, y26_290, y27_291, y28_292, y29_293, y30_294, y31_295, y32_296, y33_297) hP hD hK hS ⟨Or.inl ⟨rfl, by omega⟩, ⟨⟨⟨by omega, by omega⟩, by omega, fun h9 => by omega⟩, dp_301, hpr_304⟩⟩ (by first | exact Nat.le_of_ble_eq_true rfl | (simp only [rm_X10_rest]; omega)) (by first | exact Nat.le_of_ble_eq_true rfl | (simp only [rm_X10_rest]; omega)) dX10_rest_297
          · have hP : va_P (dC, dI) vwCl (mw g h0 b (va_up (va_up (va_up (va_up (va_up i 22 x22_285) 23 x23_286) 24 x24_287) 25 x25_288) 36 x36_289) (va_up (va_up (va_up (va_up (va_up (va_up (va_up (va_up a 26 y26_290) 27 y27_291) 28 y28_292) 29 y29_293) 30 y30_294) 31 y31_295) 32 y32_296) 33 y33_297)) _ := hP
            have hD : va_D _ (mw g h0 b (va_up (va_up (va_up (va_up (va_up i 22 x22_285) 23 x23_286) 24 x24_287) 25 x25_288) 36 x36_289) (va_up (va_up (va_up (va_up (va_up (va_up (va_up (va_up a 26 y26_290) 27 y27_291) 28 y28_292) 29 y29_293) 30 y30_294) 31 y31_295) 32 y32_296) 33 y33_297)) := hD
            refine W.eq (g2 := F0 m 297 ls [.int 1]) rfl ?_
            obtain ⟨hatq_308, dp_306, hPR_305⟩ := hw_298
            have hpr_309 := PR.tr hpr_277 hPR_305
            exact M_z hx hb hr rfl hlocks (x22_285, x23_286, x24_287, x25_288, x36_289, y26_290, y27_291, y28_292, y29_293, y30_294, y31_295, y32_296, y33_297) hP hD hK hS ⟨Or.inr ⟨rfl, trivial⟩, ⟨⟨⟨by omega, by omega⟩, by omega, fun h9 => by omega⟩, dp_306, hpr_309⟩⟩ (by first | exact Nat.le_of_ble_eq_true rfl | (simp only [rm_X10_rest]; omega)) (by first | exact Nat.le_of_ble_eq_true rfl | (simp only [rm_X10_rest]; omega)) dX10_rest_297
        · have nc_282 := ne_i c_282
          have lc_282 : (13 : Int32).toInt = 13 := by decide
          refine lv_iconst (v := 1) hx hb dX10_rest_283 (by decide) ?_
          exact M_z hx hb hr rfl hlocks (x22_279, x23_253, x24_254, x25_255, x36_256, y26_257, y27_258, y28_259, y29_260, y30_261, y31_262, y32_263, y33_264) hP hD hK hS ⟨Or.inr ⟨rfl, trivial⟩, ⟨⟨⟨by omega, by omega⟩, by omega, fun h9 => by omega⟩, dp_274, hpr_277⟩⟩ (by first | exact Nat.le_of_ble_eq_true rfl | (simp only [rm_X10_rest]; omega)) (by first | exact Nat.le_of_ble_eq_true rfl | (simp only [rm_X10_rest]; omega)) dX10_rest_284
  by_cases c_310 : z_1 = 10
  · refine lv_tableIn (tgt := 298) hx hb dX10_rest_6 (by rw [c_310]; decide) (by rw [c_310]; decide) (by rw [c_310]; rfl) (by decide) ?_
    refine lv_aload_n hx hb dX10_rest_298 rfl (lv_at hl 0 rfl) ?_
    refine lv_iload_n hx hb dX10_rest_299 rfl (lv_at hl 1 rfl) ?_
    refine lv_iconst (v := 0) hx hb dX10_rest_300 (by decide) ?_
    refine M_V ⟨hx, hb, hml, hown, hts⟩ (m_X10_block l dC dI sa g h0 b j bl dp i a kk (0 : Int32) _ (show 0 ≤ (i 22).toInt ∧ (i 22).toInt ≤ (i 21).toInt ∧ (i 21).toInt ≤ 1500 from by omega) (show 0 ≤ (i 23).toInt from by omega) hPN hBL hj (let h9 := PR.nd (PR.rf hPN) hVq hdq; ⟨q, hq, h9.1, h9.2⟩) IHS) (cwV 2 hts gX10_rest_X10_block rfl rfl rfl (by decide +kernel) ⟨(by first | exact Nat.le_of_ble_eq_true rfl | (simp only [rm_X10_block, rm_X10_rest]; omega)), (by first | exact Nat.le_of_ble_eq_true rfl | (simp only [rm_X10_block, rm_X10_rest]; omega))⟩) hP hD hK hS hA hev rfl rfl rfl rfl hl.1 rfl (Nat.le_of_ble_eq_true rfl) dX10_rest_301 ⟨(by first | exact Nat.le_of_ble_eq_true rfl | (simp only [rm_X10_rest]; omega)), (by first | exact Nat.le_of_ble_eq_true rfl | (simp only [rm_X10_rest]; omega))⟩ (fun r u H locs hw hP hD hS => ?_)
    obtain ⟨x22_311, x23_312, x24_313, x25_314, x36_315, y26_316, y27_317, y28_318, y29_319, y30_320, y31_321, y32_322, y33_323⟩ := u
    have hw : ((r = some (.int 0) ∧ (0 < x23_312.toInt)) ∨ (r = some (.int 1) ∧ (True))) ∧ ((((i 22).toInt ≤ x22_311.toInt ∧ x22_311.toInt ≤ (i 21).toInt) ∧ 0 ≤ x23_312.toInt ∧ (0 < (i 23).toInt → 0 < x23_312.toInt)) ∧ ∃ dpN : Nat → Nat, PR (i 36) x36_315 dp dpN (a 26) (a 27) (a 31) (a 32) (a 33) y26_316 y27_317 y31_321 y32_322 y33_323) := hw
    obtain ⟨⟨rfl, hz2_325⟩ | ⟨rfl, hz2_325⟩, hw_324⟩ := hw
    · have hP : va_P (dC, dI) vwCl (mw g h0 b (va_up (va_up (va_up (va_up (va_up i 22 x22_311) 23 x23_312) 24 x24_313) 25 x25_314) 36 x36_315) (va_up (va_up (va_up (va_up (va_up (va_up (va_up (va_up a 26 y26_316) 27 y27_317) 28 y28_318) 29 y29_319) 30 y30_320) 31 y31_321) 32 y32_322) 33 y33_323)) _ := hP
      have hD : va_D _ (mw g h0 b (va_up (va_up (va_up (va_up (va_up i 22 x22_311) 23 x23_312) 24 x24_313) 25 x25_314) 36 x36_315) (va_up (va_up (va_up (va_up (va_up (va_up (va_up (va_up a 26 y26_316) 27 y27_317) 28 y28_318) 29 y29_319) 30 y30_320) 31 y31_321) 32 y32_322) 33 y33_323)) := hD
      refine W.eq (g2 := F0 m 304 ls [.int 0]) rfl ?_
      obtain ⟨hatq_329, dp_327, hPR_326⟩ := hw_324
      have hpr_330 := PR.tr (PR.rf hPN) hPR_326
      refine lv_if_eq (tgt := 329) hx hb dX10_rest_304 (by decide) (fun _ => ?_) (fun c_331 => absurd c_331 (by decide))
      refine lv_iconst (v := 0) hx hb dX10_rest_329 (by decide) ?_
      exact M_z hx hb hr rfl hlocks (x22_311, x23_312, x24_313, x25_314, x36_315, y26_316, y27_317, y28_318, y29_319, y30_320, y31_321, y32_322, y33_323) hP hD hK hS ⟨Or.inl ⟨rfl, by omega⟩, ⟨⟨⟨by omega, by omega⟩, by omega, fun h9 => by omega⟩, dp_327, hpr_330⟩⟩ (by first | exact Nat.le_of_ble_eq_true rfl | (simp only [rm_X10_rest]; omega)) (by first | exact Nat.le_of_ble_eq_true rfl | (simp only [rm_X10_rest]; omega)) dX10_rest_330
    · have hP : va_P (dC, dI) vwCl (mw g h0 b (va_up (va_up (va_up (va_up (va_up i 22 x22_311) 23 x23_312) 24 x24_313) 25 x25_314) 36 x36_315) (va_up (va_up (va_up (va_up (va_up (va_up (va_up (va_up a 26 y26_316) 27 y27_317) 28 y28_318) 29 y29_319) 30 y30_320) 31 y31_321) 32 y32_322) 33 y33_323)) _ := hP
      have hD : va_D _ (mw g h0 b (va_up (va_up (va_up (va_up (va_up i 22 x22_311) 23 x23_312) 24 x24_313) 25 x25_314) 36 x36_315) (va_up (va_up (va_up (va_up (va_up (va_up (va_up (va_up a 26 y26_316) 27 y27_317) 28 y28_318) 29 y29_319) 30 y30_320) 31 y31_321) 32 y32_322) 33 y33_323)) := hD
      refine W.eq (g2 := F0 m 304 ls [.int 1]) rfl ?_
      obtain ⟨hatq_335, dp_333, hPR_332⟩ := hw_324
      have hpr_336 := PR.tr (PR.rf hPN) hPR_332
      refine lv_if_eq (tgt := 329) hx hb dX10_rest_304 (by decide) (fun c_337 => absurd c_337 (by decide)) (fun _ => ?_)
      refine lv_aload_n hx hb dX10_rest_307 rfl (lv_at hl 0 rfl) ?_
      refine lv_bipush (v := 13) hx hb dX10_rest_308 (by decide) ?_
      refine M_V ⟨hx, hb, hml, hown, hts⟩ (m_X10_needWord l dC dI sa g h0 b (va_up (va_up (va_up (va_up (va_up i 22 x22_311) 23 x23_312) 24 x24_313) 25 x25_314) 36 x36_315) (va_up (va_up (va_up (va_up (va_up (va_up (va_up (va_up a 26 y26_316) 27 y27_317) 28 y28_318) 29 y29_319) 30 y30_320) 31 y31_321) 32 y32_322) 33 y33_323) (13 : Int32) _ (show 0 ≤ x22_311.toInt ∧ x22_311.toInt ≤ (i 21).toInt ∧ (i 21).toInt ≤ 1500 from by omega) (show 0 ≤ x23_312.toInt from by omega) (by decide)) (cwV 1 hts gX10_rest_X10_needWord rfl rfl rfl (by decide +kernel) ⟨(by first | exact Nat.le_of_ble_eq_true rfl | (simp only [rm_X10_needWord, rm_X10_rest]; omega)), (by first | exact Nat.le_of_ble_eq_true rfl | (simp only [rm_X10_needWord, rm_X10_rest]; omega))⟩) hP hD hK hS hA hev rfl rfl rfl rfl hl.1 rfl (Nat.le_of_ble_eq_true rfl) dX10_rest_310 ⟨(by first | exact Nat.le_of_ble_eq_true rfl | (simp only [rm_X10_rest]; omega)), (by first | exact Nat.le_of_ble_eq_true rfl | (simp only [rm_X10_rest]; omega))⟩ (fun r u H locs hw hP hD hS => ?_)
      obtain ⟨x22_338, x23_339, x24_340⟩ := u
      have hw : ((r = some (.int 0) ∧ (0 < x23_339.toInt)) ∨ (r = some (.int 1) ∧ (True))) ∧ ((x22_311.toInt ≤ x22_338.toInt ∧ x22_338.toInt ≤ (i 21).toInt) ∧ 0 ≤ x23_339.toInt ∧ (0 < x23_312.toInt → 0 < x23_339.toInt)) := hw
      obtain ⟨⟨rfl, hz2_342⟩ | ⟨rfl, hz2_342⟩, hw_341⟩ := hw
      · have hP : va_P (dC, dI) vwCl (mw g h0 b (va_up (va_up (va_up (va_up (va_up i 22 x22_338) 23 x23_339) 24 x24_340) 25 x25_314) 36 x36_315) (va_up (va_up (va_up (va_up (va_up (va_up (va_up (va_up a 26 y26_316) 27 y27_317) 28 y28_318) 29 y29_319) 30 y30_320) 31 y31_321) 32 y32_322) 33 y33_323)) _ := hP
        have hD : va_D _ (mw g h0 b (va_up (va_up (va_up (va_up (va_up i 22 x22_338) 23 x23_339) 24 x24_340) 25 x25_314) 36 x36_315) (va_up (va_up (va_up (va_up (va_up (va_up (va_up (va_up a 26 y26_316) 27 y27_317) 28 y28_318) 29 y29_319) 30 y30_320) 31 y31_321) 32 y32_322) 33 y33_323)) := hD
        refine W.eq (g2 := F0 m 313 ls [.int 0]) rfl ?_
        refine lv_if_eq (tgt := 329) hx hb dX10_rest_313 (by decide) (fun _ => ?_) (fun c_343 => absurd c_343 (by decide))
        refine lv_iconst (v := 0) hx hb dX10_rest_329 (by decide) ?_
        exact M_z hx hb hr rfl hlocks (x22_338, x23_339, x24_340, x25_314, x36_315, y26_316, y27_317, y28_318, y29_319, y30_320, y31_321, y32_322, y33_323) hP hD hK hS ⟨Or.inl ⟨rfl, by omega⟩, ⟨⟨⟨by omega, by omega⟩, by omega, fun h9 => by omega⟩, dp_333, hpr_336⟩⟩ (by first | exact Nat.le_of_ble_eq_true rfl | (simp only [rm_X10_rest]; omega)) (by first | exact Nat.le_of_ble_eq_true rfl | (simp only [rm_X10_rest]; omega)) dX10_rest_330
      · have hP : va_P (dC, dI) vwCl (mw g h0 b (va_up (va_up (va_up (va_up (va_up i 22 x22_338) 23 x23_339) 24 x24_340) 25 x25_314) 36 x36_315) (va_up (va_up (va_up (va_up (va_up (va_up (va_up (va_up a 26 y26_316) 27 y27_317) 28 y28_318) 29 y29_319) 30 y30_320) 31 y31_321) 32 y32_322) 33 y33_323)) _ := hP
        have hD : va_D _ (mw g h0 b (va_up (va_up (va_up (va_up (va_up i 22 x22_338) 23 x23_339) 24 x24_340) 25 x25_314) 36 x36_315) (va_up (va_up (va_up (va_up (va_up (va_up (va_up (va_up a 26 y26_316) 27 y27_317) 28 y28_318) 29 y29_319) 30 y30_320) 31 y31_321) 32 y32_322) 33 y33_323)) := hD
        refine W.eq (g2 := F0 m 313 ls [.int 1]) rfl ?_
        refine lv_if_eq (tgt := 329) hx hb dX10_rest_313 (by decide) (fun c_344 => absurd c_344 (by decide)) (fun _ => ?_)
        refine lv_aload_n hx hb dX10_rest_316 rfl (lv_at hl 0 rfl) ?_
        refine lv_iload_n hx hb dX10_rest_317 rfl (lv_at hl 1 rfl) ?_
        refine lv_iconst (v := 1) hx hb dX10_rest_318 (by decide) ?_
        refine M_V ⟨hx, hb, hml, hown, hts⟩ (m_X10_block l dC dI sa g h0 b j bl dp_333 (va_up (va_up (va_up (va_up (va_up i 22 x22_338) 23 x23_339) 24 x24_340) 25 x25_314) 36 x36_315) (va_up (va_up (va_up (va_up (va_up (va_up (va_up (va_up a 26 y26_316) 27 y27_317) 28 y28_318) 29 y29_319) 30 y30_320) 31 y31_321) 32 y32_322) 33 y33_323) kk (1 : Int32) _ (show 0 ≤ x22_338.toInt ∧ x22_338.toInt ≤ (i 21).toInt ∧ (i 21).toInt ≤ 1500 from by omega) (show 0 ≤ x23_339.toInt from by omega) hPR_332.2.1 hBL hj (let h9 := PR.nd hpr_336 hVq hdq; ⟨q, hq, h9.1, h9.2⟩) IHS) (cwV 2 hts gX10_rest_X10_block rfl rfl rfl (by decide +kernel) ⟨(by first | exact Nat.le_of_ble_eq_true rfl | (simp only [rm_X10_block, rm_X10_rest]; omega)), (by first | exact Nat.le_of_ble_eq_true rfl | (simp only [rm_X10_block, rm_X10_rest]; omega))⟩) hP hD hK hS hA hev rfl rfl rfl rfl hl.1 rfl (Nat.le_of_ble_eq_true rfl) dX10_rest_319 ⟨(by first | exact Nat.le_of_ble_eq_true rfl | (simp only [rm_X10_rest]; omega)), (by first | exact Nat.le_of_ble_eq_true rfl | (simp only [rm_X10_rest]; omega))⟩ (fun r u H locs hw hP hD hS => ?_)
        obtain ⟨x22_345, x23_346, x24_347, x25_348, x36_349, y26_350, y27_351, y28_352, y29_353, y30_354, y31_355, y32_356, y33_357⟩ := u
        have hw : ((r = some (.int 0) ∧ (0 < x23_346.toInt)) ∨ (r = some (.int 1) ∧ (True))) ∧ (((x22_338.toInt ≤ x22_345.toInt ∧ x22_345.toInt ≤ (i 21).toInt) ∧ 0 ≤ x23_346.toInt ∧ (0 < x23_339.toInt → 0 < x23_346.toInt)) ∧ ∃ dpN : Nat → Nat, PR x36_315 x36_349 dp_333 dpN y26_316 y27_317 y31_321 y32_322 y33_323 y26_350 y27_351 y31_355 y32_356 y33_357) := hw
        obtain ⟨⟨rfl, hz2_359⟩ | ⟨rfl, hz2_359⟩, hw_358⟩ := hw
        · have hP : va_P (dC, dI) vwCl (mw g h0 b (va_up (va_up (va_up (va_up (va_up i 22 x22_345) 23 x23_346) 24 x24_347) 25 x25_348) 36 x36_349) (va_up (va_up (va_up (va_up (va_up (va_up (va_up (va_up a 26 y26_350) 27 y27_351) 28 y28_352) 29 y29_353) 30 y30_354) 31 y31_355) 32 y32_356) 33 y33_357)) _ := hP
          have hD : va_D _ (mw g h0 b (va_up (va_up (va_up (va_up (va_up i 22 x22_345) 23 x23_346) 24 x24_347) 25 x25_348) 36 x36_349) (va_up (va_up (va_up (va_up (va_up (va_up (va_up (va_up a 26 y26_350) 27 y27_351) 28 y28_352) 29 y29_353) 30 y30_354) 31 y31_355) 32 y32_356) 33 y33_357)) := hD
          refine W.eq (g2 := F0 m 322 ls [.int 0]) rfl ?_
          obtain ⟨hatq_363, dp_361, hPR_360⟩ := hw_358
          have hpr_364 := PR.tr hpr_336 hPR_360
          refine lv_if_eq (tgt := 329) hx hb dX10_rest_322 (by decide) (fun _ => ?_) (fun c_365 => absurd c_365 (by decide))
          refine lv_iconst (v := 0) hx hb dX10_rest_329 (by decide) ?_
          exact M_z hx hb hr rfl hlocks (x22_345, x23_346, x24_347, x25_348, x36_349, y26_350, y27_351, y28_352, y29_353, y30_354, y31_355, y32_356, y33_357) hP hD hK hS ⟨Or.inl ⟨rfl, by omega⟩, ⟨⟨⟨by omega, by omega⟩, by omega, fun h9 => by omega⟩, dp_361, hpr_364⟩⟩ (by first | exact Nat.le_of_ble_eq_true rfl | (simp only [rm_X10_rest]; omega)) (by first | exact Nat.le_of_ble_eq_true rfl | (simp only [rm_X10_rest]; omega)) dX10_rest_330
        · have hP : va_P (dC, dI) vwCl (mw g h0 b (va_up (va_up (va_up (va_up (va_up i 22 x22_345) 23 x23_346) 24 x24_347) 25 x25_348) 36 x36_349) (va_up (va_up (va_up (va_up (va_up (va_up (va_up (va_up a 26 y26_350) 27 y27_351) 28 y28_352) 29 y29_353) 30 y30_354) 31 y31_355) 32 y32_356) 33 y33_357)) _ := hP
          have hD : va_D _ (mw g h0 b (va_up (va_up (va_up (va_up (va_up i 22 x22_345) 23 x23_346) 24 x24_347) 25 x25_348) 36 x36_349) (va_up (va_up (va_up (va_up (va_up (va_up (va_up (va_up a 26 y26_350) 27 y27_351) 28 y28_352) 29 y29_353) 30 y30_354) 31 y31_355) 32 y32_356) 33 y33_357)) := hD
          refine W.eq (g2 := F0 m 322 ls [.int 1]) rfl ?_
          obtain ⟨hatq_369, dp_367, hPR_366⟩ := hw_358
          have hpr_370 := PR.tr hpr_336 hPR_366
          refine lv_if_eq (tgt := 329) hx hb dX10_rest_322 (by decide) (fun c_371 => absurd c_371 (by decide)) (fun _ => ?_)
          refine lv_iconst (v := 1) hx hb dX10_rest_325 (by decide) ?_
          refine lv_goto (tgt := 330) hx hb dX10_rest_326 (by decide) ?_
          exact M_z hx hb hr rfl hlocks (x22_345, x23_346, x24_347, x25_348, x36_349, y26_350, y27_351, y28_352, y29_353, y30_354, y31_355, y32_356, y33_357) hP hD hK hS ⟨Or.inr ⟨rfl, trivial⟩, ⟨⟨⟨by omega, by omega⟩, by omega, fun h9 => by omega⟩, dp_367, hpr_370⟩⟩ (by first | exact Nat.le_of_ble_eq_true rfl | (simp only [rm_X10_rest]; omega)) (by first | exact Nat.le_of_ble_eq_true rfl | (simp only [rm_X10_rest]; omega)) dX10_rest_330
  refine lv_tableOut (tgt := 331) hx hb dX10_rest_6 (tab_out11 c_2 c_28 c_34 c_40 c_65 c_91 c_116 c_141 c_186 c_231 c_310) (by decide) ?_
  refine lv_aload_n hx hb dX10_rest_331 rfl (lv_at hl 0 rfl) ?_
  refine lv_iload_n hx hb dX10_rest_332 rfl (lv_at hl 1 rfl) ?_
  refine lv_iconst (v := 0) hx hb dX10_rest_333 (by decide) ?_
  refine M_V ⟨hx, hb, hml, hown, hts⟩ (m_X10_block l dC dI sa g h0 b j bl dp i a kk (0 : Int32) _ (show 0 ≤ (i 22).toInt ∧ (i 22).toInt ≤ (i 21).toInt ∧ (i 21).toInt ≤ 1500 from by omega) (show 0 ≤ (i 23).toInt from by omega) hPN hBL hj (let h9 := PR.nd (PR.rf hPN) hVq hdq; ⟨q, hq, h9.1, h9.2⟩) IHS) (cwV 2 hts gX10_rest_X10_block rfl rfl rfl (by decide +kernel) ⟨(by first | exact Nat.le_of_ble_eq_true rfl | (simp only [rm_X10_block, rm_X10_rest]; omega)), (by first | exact Nat.le_of_ble_eq_true rfl | (simp only [rm_X10_block, rm_X10_rest]; omega))⟩) hP hD hK hS hA hev rfl rfl rfl rfl hl.1 rfl (Nat.le_of_ble_eq_true rfl) dX10_rest_334 ⟨(by first | exact Nat.le_of_ble_eq_true rfl | (simp only [rm_X10_rest]; omega)), (by first | exact Nat.le_of_ble_eq_true rfl | (simp only [rm_X10_rest]; omega))⟩ (fun r u H locs hw hP hD hS => ?_)
  obtain ⟨x22_372, x23_373, x24_374, x25_375, x36_376, y26_377, y27_378, y28_379, y29_380, y30_381, y31_382, y32_383, y33_384⟩ := u
  have hw : ((r = some (.int 0) ∧ (0 < x23_373.toInt)) ∨ (r = some (.int 1) ∧ (True))) ∧ ((((i 22).toInt ≤ x22_372.toInt ∧ x22_372.toInt ≤ (i 21).toInt) ∧ 0 ≤ x23_373.toInt ∧ (0 < (i 23).toInt → 0 < x23_373.toInt)) ∧ ∃ dpN : Nat → Nat, PR (i 36) x36_376 dp dpN (a 26) (a 27) (a 31) (a 32) (a 33) y26_377 y27_378 y31_382 y32_383 y33_384) := hw
  obtain ⟨⟨rfl, hz2_386⟩ | ⟨rfl, hz2_386⟩, hw_385⟩ := hw
  · have hP : va_P (dC, dI) vwCl (mw g h0 b (va_up (va_up (va_up (va_up (va_up i 22 x22_372) 23 x23_373) 24 x24_374) 25 x25_375) 36 x36_376) (va_up (va_up (va_up (va_up (va_up (va_up (va_up (va_up a 26 y26_377) 27 y27_378) 28 y28_379) 29 y29_380) 30 y30_381) 31 y31_382) 32 y32_383) 33 y33_384)) _ := hP
    have hD : va_D _ (mw g h0 b (va_up (va_up (va_up (va_up (va_up i 22 x22_372) 23 x23_373) 24 x24_374) 25 x25_375) 36 x36_376) (va_up (va_up (va_up (va_up (va_up (va_up (va_up (va_up a 26 y26_377) 27 y27_378) 28 y28_379) 29 y29_380) 30 y30_381) 31 y31_382) 32 y32_383) 33 y33_384)) := hD
    refine W.eq (g2 := F0 m 337 ls [.int 0]) rfl ?_
    obtain ⟨hatq_390, dp_388, hPR_387⟩ := hw_385
    have hpr_391 := PR.tr (PR.rf hPN) hPR_387
    refine lv_if_eq (tgt := 362) hx hb dX10_rest_337 (by decide) (fun _ => ?_) (fun c_392 => absurd c_392 (by decide))
    refine lv_iconst (v := 0) hx hb dX10_rest_362 (by decide) ?_
    exact M_z hx hb hr rfl hlocks (x22_372, x23_373, x24_374, x25_375, x36_376, y26_377, y27_378, y28_379, y29_380, y30_381, y31_382, y32_383, y33_384) hP hD hK hS ⟨Or.inl ⟨rfl, by omega⟩, ⟨⟨⟨by omega, by omega⟩, by omega, fun h9 => by omega⟩, dp_388, hpr_391⟩⟩ (by first | exact Nat.le_of_ble_eq_true rfl | (simp only [rm_X10_rest]; omega)) (by first | exact Nat.le_of_ble_eq_true rfl | (simp only [rm_X10_rest]; omega)) dX10_rest_363
  · have hP : va_P (dC, dI) vwCl (mw g h0 b (va_up (va_up (va_up (va_up (va_up i 22 x22_372) 23 x23_373) 24 x24_374) 25 x25_375) 36 x36_376) (va_up (va_up (va_up (va_up (va_up (va_up (va_up (va_up a 26 y26_377) 27 y27_378) 28 y28_379) 29 y29_380) 30 y30_381) 31 y31_382) 32 y32_383) 33 y33_384)) _ := hP
    have hD : va_D _ (mw g h0 b (va_up (va_up (va_up (va_up (va_up i 22 x22_372) 23 x23_373) 24 x24_374) 25 x25_375) 36 x36_376) (va_up (va_up (va_up (va_up (va_up (va_up (va_up (va_up a 26 y26_377) 27 y27_378) 28 y28_379) 29 y29_380) 30 y30_381) 31 y31_382) 32 y32_383) 33 y33_384)) := hD
    refine W.eq (g2 := F0 m 337 ls [.int 1]) rfl ?_
    obtain ⟨hatq_396, dp_394, hPR_393⟩ := hw_385
    have hpr_397 := PR.tr (PR.rf hPN) hPR_393
    refine lv_if_eq (tgt := 362) hx hb dX10_rest_337 (by decide) (fun c_398 => absurd c_398 (by decide)) (fun _ => ?_)
    refine lv_aload_n hx hb dX10_rest_340 rfl (lv_at hl 0 rfl) ?_
    refine lv_bipush (v := 12) hx hb dX10_rest_341 (by decide) ?_
    refine M_V ⟨hx, hb, hml, hown, hts⟩ (m_X10_needWord l dC dI sa g h0 b (va_up (va_up (va_up (va_up (va_up i 22 x22_372) 23 x23_373) 24 x24_374) 25 x25_375) 36 x36_376) (va_up (va_up (va_up (va_up (va_up (va_up (va_up (va_up a 26 y26_377) 27 y27_378) 28 y28_379) 29 y29_380) 30 y30_381) 31 y31_382) 32 y32_383) 33 y33_384) (12 : Int32) _ (show 0 ≤ x22_372.toInt ∧ x22_372.toInt ≤ (i 21).toInt ∧ (i 21).toInt ≤ 1500 from by omega) (show 0 ≤ x23_373.toInt from by omega) (by decide)) (cwV 1 hts gX10_rest_X10_needWord rfl rfl rfl (by decide +kernel) ⟨(by first | exact Nat.le_of_ble_eq_true rfl | (simp only [rm_X10_needWord, rm_X10_rest]; omega)), (by first | exact Nat.le_of_ble_eq_true rfl | (simp only [rm_X10_needWord, rm_X10_rest]; omega))⟩) hP hD hK hS hA hev rfl rfl rfl rfl hl.1 rfl (Nat.le_of_ble_eq_true rfl) dX10_rest_343 ⟨(by first | exact Nat.le_of_ble_eq_true rfl | (simp only [rm_X10_rest]; omega)), (by first | exact Nat.le_of_ble_eq_true rfl | (simp only [rm_X10_rest]; omega))⟩ (fun r u H locs hw hP hD hS => ?_)
    obtain ⟨x22_399, x23_400, x24_401⟩ := u
    have hw : ((r = some (.int 0) ∧ (0 < x23_400.toInt)) ∨ (r = some (.int 1) ∧ (True))) ∧ ((x22_372.toInt ≤ x22_399.toInt ∧ x22_399.toInt ≤ (i 21).toInt) ∧ 0 ≤ x23_400.toInt ∧ (0 < x23_373.toInt → 0 < x23_400.toInt)) := hw
    obtain ⟨⟨rfl, hz2_403⟩ | ⟨rfl, hz2_403⟩, hw_402⟩ := hw
    · have hP : va_P (dC, dI) vwCl (mw g h0 b (va_up (va_up (va_up (va_up (va_up i 22 x22_399) 23 x23_400) 24 x24_401) 25 x25_375) 36 x36_376) (va_up (va_up (va_up (va_up (va_up (va_up (va_up (va_up a 26 y26_377) 27 y27_378) 28 y28_379) 29 y29_380) 30 y30_381) 31 y31_382) 32 y32_383) 33 y33_384)) _ := hP
      have hD : va_D _ (mw g h0 b (va_up (va_up (va_up (va_up (va_up i 22 x22_399) 23 x23_400) 24 x24_401) 25 x25_375) 36 x36_376) (va_up (va_up (va_up (va_up (va_up (va_up (va_up (va_up a 26 y26_377) 27 y27_378) 28 y28_379) 29 y29_380) 30 y30_381) 31 y31_382) 32 y32_383) 33 y33_384)) := hD
      refine W.eq (g2 := F0 m 346 ls [.int 0]) rfl ?_
      refine lv_if_eq (tgt := 362) hx hb dX10_rest_346 (by decide) (fun _ => ?_) (fun c_404 => absurd c_404 (by decide))
      refine lv_iconst (v := 0) hx hb dX10_rest_362 (by decide) ?_
      exact M_z hx hb hr rfl hlocks (x22_399, x23_400, x24_401, x25_375, x36_376, y26_377, y27_378, y28_379, y29_380, y30_381, y31_382, y32_383, y33_384) hP hD hK hS ⟨Or.inl ⟨rfl, by omega⟩, ⟨⟨⟨by omega, by omega⟩, by omega, fun h9 => by omega⟩, dp_394, hpr_397⟩⟩ (by first | exact Nat.le_of_ble_eq_true rfl | (simp only [rm_X10_rest]; omega)) (by first | exact Nat.le_of_ble_eq_true rfl | (simp only [rm_X10_rest]; omega)) dX10_rest_363
    · have hP : va_P (dC, dI) vwCl (mw g h0 b (va_up (va_up (va_up (va_up (va_up i 22 x22_399) 23 x23_400) 24 x24_401) 25 x25_375) 36 x36_376) (va_up (va_up (va_up (va_up (va_up (va_up (va_up (va_up a 26 y26_377) 27 y27_378) 28 y28_379) 29 y29_380) 30 y30_381) 31 y31_382) 32 y32_383) 33 y33_384)) _ := hP
      have hD : va_D _ (mw g h0 b (va_up (va_up (va_up (va_up (va_up i 22 x22_399) 23 x23_400) 24 x24_401) 25 x25_375) 36 x36_376) (va_up (va_up (va_up (va_up (va_up (va_up (va_up (va_up a 26 y26_377) 27 y27_378) 28 y28_379) 29 y29_380) 30 y30_381) 31 y31_382) 32 y32_383) 33 y33_384)) := hD
      refine W.eq (g2 := F0 m 346 ls [.int 1]) rfl ?_
      refine lv_if_eq (tgt := 362) hx hb dX10_rest_346 (by decide) (fun c_405 => absurd c_405 (by decide)) (fun _ => ?_)
      refine lv_aload_n hx hb dX10_rest_349 rfl (lv_at hl 0 rfl) ?_
      refine lv_iload_n hx hb dX10_rest_350 rfl (lv_at hl 1 rfl) ?_
      refine lv_iconst (v := 1) hx hb dX10_rest_351 (by decide) ?_
      refine M_V ⟨hx, hb, hml, hown, hts⟩ (m_X10_block l dC dI sa g h0 b j bl dp_394 (va_up (va_up (va_up (va_up (va_up i 22 x22_399) 23 x23_400) 24 x24_401) 25 x25_375) 36 x36_376) (va_up (va_up (va_up (va_up (va_up (va_up (va_up (va_up a 26 y26_377) 27 y27_378) 28 y28_379) 29 y29_380) 30 y30_381) 31 y31_382) 32 y32_383) 33 y33_384) kk (1 : Int32) _ (show 0 ≤ x22_399.toInt ∧ x22_399.toInt ≤ (i 21).toInt ∧ (i 21).toInt ≤ 1500 from by omega) (show 0 ≤ x23_400.toInt from by omega) hPR_393.2.1 hBL hj (let h9 := PR.nd hpr_397 hVq hdq; ⟨q, hq, h9.1, h9.2⟩) IHS) (cwV 2 hts gX10_rest_X10_block rfl rfl rfl (by decide +kernel) ⟨(by first | exact Nat.le_of_ble_eq_true rfl | (simp only [rm_X10_block, rm_X10_rest]; omega)), (by first | exact Nat.le_of_ble_eq_true rfl | (simp only [rm_X10_block, rm_X10_rest]; omega))⟩) hP hD hK hS hA hev rfl rfl rfl rfl hl.1 rfl (Nat.le_of_ble_eq_true rfl) dX10_rest_352 ⟨(by first | exact Nat.le_of_ble_eq_true rfl | (simp only [rm_X10_rest]; omega)), (by first | exact Nat.le_of_ble_eq_true rfl | (simp only [rm_X10_rest]; omega))⟩ (fun r u H locs hw hP hD hS => ?_)
      obtain ⟨x22_406, x23_407, x24_408, x25_409, x36_410, y26_411, y27_412, y28_413, y29_414, y30_415, y31_416, y32_417, y33_418⟩ := u
      have hw : ((r = some (.int 0) ∧ (0 < x23_407.toInt)) ∨ (r = some (.int 1) ∧ (True))) ∧ (((x22_399.toInt ≤ x22_406.toInt ∧ x22_406.toInt ≤ (i 21).toInt) ∧ 0 ≤ x23_407.toInt ∧ (0 < x23_400.toInt → 0 < x23_407.toInt)) ∧ ∃ dpN : Nat → Nat, PR x36_376 x36_410 dp_394 dpN y26_377 y27_378 y31_382 y32_383 y33_384 y26_411 y27_412 y31_416 y32_417 y33_418) := hw
      obtain ⟨⟨rfl, hz2_420⟩ | ⟨rfl, hz2_420⟩, hw_419⟩ := hw
      · have hP : va_P (dC, dI) vwCl (mw g h0 b (va_up (va_up (va_up (va_up (va_up i 22 x22_406) 23 x23_407) 24 x24_408) 25 x25_409) 36 x36_410) (va_up (va_up (va_up (va_up (va_up (va_up (va_up (va_up a 26 y26_411) 27 y27_412) 28 y28_413) 29 y29_414) 30 y30_415) 31 y31_416) 32 y32_417) 33 y33_418)) _ := hP
        have hD : va_D _ (mw g h0 b (va_up (va_up (va_up (va_up (va_up i 22 x22_406) 23 x23_407) 24 x24_408) 25 x25_409) 36 x36_410) (va_up (va_up (va_up (va_up (va_up (va_up (va_up (va_up a 26 y26_411) 27 y27_412) 28 y28_413) 29 y29_414) 30 y30_415) 31 y31_416) 32 y32_417) 33 y33_418)) := hD
        refine W.eq (g2 := F0 m 355 ls [.int 0]) rfl ?_
        obtain ⟨hatq_424, dp_422, hPR_421⟩ := hw_419
        have hpr_425 := PR.tr hpr_397 hPR_421
        refine lv_if_eq (tgt := 362) hx hb dX10_rest_355 (by decide) (fun _ => ?_) (fun c_426 => absurd c_426 (by decide))
        refine lv_iconst (v := 0) hx hb dX10_rest_362 (by decide) ?_
        exact M_z hx hb hr rfl hlocks (x22_406, x23_407, x24_408, x25_409, x36_410, y26_411, y27_412, y28_413, y29_414, y30_415, y31_416, y32_417, y33_418) hP hD hK hS ⟨Or.inl ⟨rfl, by omega⟩, ⟨⟨⟨by omega, by omega⟩, by omega, fun h9 => by omega⟩, dp_422, hpr_425⟩⟩ (by first | exact Nat.le_of_ble_eq_true rfl | (simp only [rm_X10_rest]; omega)) (by first | exact Nat.le_of_ble_eq_true rfl | (simp only [rm_X10_rest]; omega)) dX10_rest_363
      · have hP : va_P (dC, dI) vwCl (mw g h0 b (va_up (va_up (va_up (va_up (va_up i 22 x22_406) 23 x23_407) 24 x24_408) 25 x25_409) 36 x36_410) (va_up (va_up (va_up (va_up (va_up (va_up (va_up (va_up a 26 y26_411) 27 y27_412) 28 y28_413) 29 y29_414) 30 y30_415) 31 y31_416) 32 y32_417) 33 y33_418)) _ := hP
        have hD : va_D _ (mw g h0 b (va_up (va_up (va_up (va_up (va_up i 22 x22_406) 23 x23_407) 24 x24_408) 25 x25_409) 36 x36_410) (va_up (va_up (va_up (va_up (va_up (va_up (va_up (va_up a 26 y26_411) 27 y27_412) 28 y28_413) 29 y29_414) 30 y30_415) 31 y31_416) 32 y32_417) 33 y33_418)) := hD
        refine W.eq (g2 := F0 m 355 ls [.int 1]) rfl ?_
        obtain ⟨hatq_430, dp_428, hPR_427⟩ := hw_419
        have hpr_431 := PR.tr hpr_397 hPR_427
        refine lv_if_eq (tgt := 362) hx hb dX10_rest_355 (by decide) (fun c_432 => absurd c_432 (by decide)) (fun _ => ?_)
        refine lv_iconst (v := 1) hx hb dX10_rest_358 (by decide) ?_
        refine lv_goto (tgt := 363) hx hb dX10_rest_359 (by decide) ?_
        exact M_z hx hb hr rfl hlocks (x22_406, x23_407, x24_408, x25_409, x36_410, y26_411, y27_412, y28_413, y29_414, y30_415, y31_416, y32_417, y33_418) hP hD hK hS ⟨Or.inr ⟨rfl, trivial⟩, ⟨⟨⟨by omega, by omega⟩, by omega, fun h9 => by omega⟩, dp_428, hpr_431⟩⟩ (by first | exact Nat.le_of_ble_eq_true rfl | (simp only [rm_X10_rest]; omega)) (by first | exact Nat.le_of_ble_eq_true rfl | (simp only [rm_X10_rest]; omega)) dX10_rest_363

theorem inw_X10_step_10 : ∀ w ∈ wsX100, w ∈ wsX10_step := by decide +kernel
set_option maxHeartbeats 1000000 in
set_option maxRecDepth 100000 in
theorem m_X10_step (l : Launch) (dC : Nat → ClassId) (dI : Nat → Nat → Nat) (sa : Nat → Nat) (g : Nat → Nat) (h0 : Nat) (b : Nat → Nat) (j : Nat) (bl : Nat) (dp : Nat → Nat) (i : Nat → Int32) (a : Nat → Nat → Int32) (sz : Nat) (hSI : 0 ≤ (i 22).toInt ∧ (i 22).toInt ≤ (i 21).toInt ∧ (i 21).toInt ≤ 1500) (hFK : 0 ≤ (i 23).toInt) (hPN : PN (i 36) dp (a 26) (a 27) (a 31) (a 32) (a 33)) (hBL : (i 38) = nI bl) (hj : bl + j = 8) (IHS : ∀ j' bl' : Nat, bl' + j' = 8 → j = j' + 1 → ∀ (dp : Nat → Nat) (i : Nat → Int32) (a : Nat → Nat → Int32) (ib : Int32) (sz : Nat) (hSI : 0 ≤ (i 22).toInt ∧ (i 22).toInt ≤ (i 21).toInt ∧ (i 21).toInt ≤ 1500) (hFK : 0 ≤ (i 23).toInt) (hPN : PN (i 36) dp (a 26) (a 27) (a 31) (a 32) (a 33)) (hBL : (i 38) = nI bl'), CT l dC dI sa yX10_steps wsX10_steps (rm_X10_steps j' bl' dp) [.ref h0, .int ib] (mw g h0 b i a) (tyM g) sz (fun (r : Option Value) (u : Int32 × Int32 × Int32 × Int32 × Int32 × (Nat → Int32) × (Nat → Int32) × (Nat → Int32) × (Nat → Int32) × (Nat → Int32) × (Nat → Int32) × (Nat → Int32) × (Nat → Int32)) => match u with | (x22, x23, x24, x25, x36, y26, y27, y28, y29, y30, y31, y32, y33) => (∃ z : Int32, r = some (.int z)) ∧ ((((i 22).toInt ≤ x22.toInt ∧ x22.toInt ≤ (i 21).toInt) ∧ 0 ≤ x23.toInt ∧ (0 < (i 23).toInt → 0 < x23.toInt)) ∧ ∃ dpN : Nat → Nat, PR (i 36) x36 dp dpN (a 26) (a 27) (a 31) (a 32) (a 33) y26 y27 y31 y32 y33 ∧ (∀ z : Int32, r = some (.int z) → (z = -2 ∧ 0 < x23.toInt) ∨ lk (PV x36) dpN bl' z))) (fun (u : Int32 × Int32 × Int32 × Int32 × Int32 × (Nat → Int32) × (Nat → Int32) × (Nat → Int32) × (Nat → Int32) × (Nat → Int32) × (Nat → Int32) × (Nat → Int32) × (Nat → Int32)) => match u with | (x22, x23, x24, x25, x36, y26, y27, y28, y29, y30, y31, y32, y33) => mw g h0 b (va_up (va_up (va_up (va_up (va_up i 22 x22) 23 x23) 24 x24) 25 x25) 36 x36) (va_up (va_up (va_up (va_up (va_up (va_up (va_up (va_up a 26 y26) 27 y27) 28 y28) 29 y29) 30 y30) 31 y31) 32 y32) 33 y33)) (fun _ => []) 0 0) : CT l dC dI sa yX10_step wsX10_step (rm_X10_step j bl dp) [.ref h0] (mw g h0 b i a) (tyM g) sz (fun (r : Option Value) (u : Int32 × Int32 × Int32 × Int32 × Int32 × (Nat → Int32) × (Nat → Int32) × (Nat → Int32) × (Nat → Int32) × (Nat → Int32) × (Nat → Int32) × (Nat → Int32) × (Nat → Int32)) => match u with | (x22, x23, x24, x25, x36, y26, y27, y28, y29, y30, y31, y32, y33) => (∃ z : Int32, r = some (.int z)) ∧ ((((i 22).toInt ≤ x22.toInt ∧ x22.toInt ≤ (i 21).toInt) ∧ 0 ≤ x23.toInt ∧ (0 < (i 23).toInt → 0 < x23.toInt)) ∧ ∃ dpN : Nat → Nat, PR (i 36) x36 dp dpN (a 26) (a 27) (a 31) (a 32) (a 33) y26 y27 y31 y32 y33 ∧ (∀ z : Int32, r = some (.int z) → (z = -1 ∧ 0 < x23.toInt) ∨ (∃ q : Nat, z = nI q ∧ PV x36 q ∧ dpN q = bl) ∧ (i 36).toInt < x36.toInt))) (fun (u : Int32 × Int32 × Int32 × Int32 × Int32 × (Nat → Int32) × (Nat → Int32) × (Nat → Int32) × (Nat → Int32) × (Nat → Int32) × (Nat → Int32) × (Nat → Int32) × (Nat → Int32)) => match u with | (x22, x23, x24, x25, x36, y26, y27, y28, y29, y30, y31, y32, y33) => mw g h0 b (va_up (va_up (va_up (va_up (va_up i 22 x22) 23 x23) 24 x24) 25 x25) 36 x36) (va_up (va_up (va_up (va_up (va_up (va_up (va_up (va_up a 26 y26) 27 y27) 28 y28) 29 y29) 30 y30) 31 y31) 32 y32) 33 y33)) (fun _ => []) 0 0 := by
  refine CT.start (cc := cX10_step) (maxL := 3) (ret := (some .int)) (by decide) rfl (Nat.le_of_ble_eq_true rfl) ?_
  intro p e s m below meth c ls hst hP hK hD hev hS hl
  obtain ⟨hx, hb, hr, hml, hts, hown, hlocks, hin⟩ := hst
  have hown : s.vm.findClass RX10 = some m.cls := hown
  have hA : ∀ q : Nat, s.heap.size ≤ q → va_A (mw g h0 b i a) s.heap.size q := fun _ h => Or.inr h
  have hl : lv_has ls 3 [(0, .ref h0)] := hl
  refine lv_aload_n hx hb dX10_step_0 rfl (lv_at hl 0 rfl) ?_
  refine M_V ⟨hx, hb, hml, hown, hts⟩ (m_X10_word l dC dI sa g h0 b i a  _ (show 0 ≤ (i 22).toInt ∧ (i 22).toInt ≤ (i 21).toInt ∧ (i 21).toInt ≤ 1500 from by omega)) (cwV 0 hts gX10_step_X10_word rfl rfl rfl (by decide +kernel) ⟨(by first | exact Nat.le_of_ble_eq_true rfl | (simp only [rm_X10_word, rm_X10_step]; omega)), (by first | exact Nat.le_of_ble_eq_true rfl | (simp only [rm_X10_word, rm_X10_step]; omega))⟩) hP hD hK hS hA hev rfl rfl rfl rfl hl.1 rfl (Nat.le_of_ble_eq_true rfl) dX10_step_1 ⟨(by first | exact Nat.le_of_ble_eq_true rfl | (simp only [rm_X10_step]; omega)), (by first | exact Nat.le_of_ble_eq_true rfl | (simp only [rm_X10_step]; omega))⟩ (fun r u H locs hw hP hD hS => ?_)
  obtain ⟨x22_1, rfl⟩ : ∃ z, z = u := ⟨_, rfl⟩
  have hw : (∃ z : Int32, r = some (.int z) ∧ (z = -1 ∨ ∃ q : Nat, z = nI q ∧ q ≤ 18 ∧ x22_1.toInt + (lenS.getD q 0 : Int) ≤ (i 21).toInt)) ∧ ((i 22).toInt ≤ x22_1.toInt ∧ x22_1.toInt ≤ (i 21).toInt) := hw
  obtain ⟨⟨z_3, rfl, hz_z_3⟩, hw_2⟩ := hw
  have hP : va_P (dC, dI) vwCl (mw g h0 b (va_up i 22 x22_1) a) _ := hP
  have hD : va_D _ (mw g h0 b (va_up i 22 x22_1) a) := hD
  refine W.eq (g2 := F0 m 4 ls [.int z_3]) rfl ?_
  refine lv_istore_n (lv' := [(1, .int z_3), (0, .ref h0)]) hx hb dX10_step_4 rfl hl (by decide) rfl (fun ls hl => ?_)
  refine lv_iload_n hx hb dX10_step_5 rfl (lv_at hl 0 rfl) ?_
  refine lv_iconst (v := (-1)) hx hb dX10_step_6 (by decide) ?_
  refine lv_icmp_eq (tgt := 16) hx hb dX10_step_7 (by decide) (fun c_4 => ?_) (fun c_4 => ?_)
  · have nc_4 := eq_i c_4
    have lc_4 : ((-1) : Int32).toInt = -1 := by decide
    refine lv_aload_n hx hb dX10_step_16 rfl (lv_at hl 1 rfl) ?_
    refine lv_iconst (v := 1) hx hb dX10_step_17 (by decide) ?_
    refine lv_aload_n hx hb dX10_step_18 rfl (lv_at hl 1 rfl) ?_
    refine va_get (D := (dC, dI)) (ci := 10) (v := .int x22_1) (C := RX10) (T := TX10) (N := 51) hx hb hts inw_X10_step_10 hown hK hP 0 rfl rfl 22 (by decide) (hts (.fieldLink RX10 168 "VatHouseModel" "at" "I") (by decide +kernel)) (fun _ h9 => h9) rfl dX10_step_19 ?_
    refine M_V ⟨hx, hb, hml, hown, hts⟩ (m_X10_wrong l dC dI sa g h0 b (va_up i 22 x22_1) a (1 : Int32) x22_1 _ (by decide) (show 0 ≤ (i 23).toInt from by omega)) (cwV 2 hts gX10_step_X10_wrong rfl rfl rfl (by decide +kernel) ⟨(by first | exact Nat.le_of_ble_eq_true rfl | (simp only [rm_X10_wrong, rm_X10_step]; omega)), (by first | exact Nat.le_of_ble_eq_true rfl | (simp only [rm_X10_wrong, rm_X10_step]; omega))⟩) hP hD hK hS hA hev rfl rfl rfl rfl hl.1 rfl (Nat.le_of_ble_eq_true rfl) dX10_step_22 ⟨(by first | exact Nat.le_of_ble_eq_true rfl | (simp only [rm_X10_step]; omega)), (by first | exact Nat.le_of_ble_eq_true rfl | (simp only [rm_X10_step]; omega))⟩ (fun r u H locs hw hP hD hS => ?_)
    obtain ⟨x23_5, x24_6⟩ := u
    have hw : ((r = some (.int 0) ∧ (0 < x23_5.toInt)) ∨ (r = some (.int 1) ∧ (False))) ∧ (True) := hw
    obtain ⟨⟨rfl, hz2_8⟩ | ⟨rfl, hz2_8⟩, hw_7⟩ := hw
    · have hP : va_P (dC, dI) vwCl (mw g h0 b (va_up (va_up (va_up i 22 x22_1) 23 x23_5) 24 x24_6) a) _ := hP
      have hD : va_D _ (mw g h0 b (va_up (va_up (va_up i 22 x22_1) 23 x23_5) 24 x24_6) a) := hD
      refine W.eq (g2 := F0 m 25 ls [.int 0]) rfl ?_
      refine lv_pop hx hb dX10_step_25 rfl ?_
      refine lv_iconst (v := (-1)) hx hb dX10_step_26 (by decide) ?_
      exact M_i hx hb hr hlocks (x22_1, x23_5, x24_6, (i 25), (i 36), (a 26), (a 27), (a 28), (a 29), (a 30), (a 31), (a 32), (a 33)) hP hD hK hS ⟨⟨_, rfl⟩, ⟨⟨⟨by omega, by omega⟩, by omega, fun h9 => by omega⟩, dp, (PR.rf hPN), fun z9 h9 => Or.inl ⟨by cases h9; rfl, by omega⟩⟩⟩ (by first | exact Nat.le_of_ble_eq_true rfl | (simp only [rm_X10_step]; omega)) (by first | exact Nat.le_of_ble_eq_true rfl | (simp only [rm_X10_step]; omega)) dX10_step_27
    · have hP : va_P (dC, dI) vwCl (mw g h0 b (va_up (va_up (va_up i 22 x22_1) 23 x23_5) 24 x24_6) a) _ := hP
      have hD : va_D _ (mw g h0 b (va_up (va_up (va_up i 22 x22_1) 23 x23_5) 24 x24_6) a) := hD
      refine W.eq (g2 := F0 m 25 ls [.int 1]) rfl ?_
      exact hz2_8.elim
  · have nc_4 := ne_i c_4
    have lc_4 : ((-1) : Int32).toInt = -1 := by decide
    refine lv_iload_n hx hb dX10_step_10 rfl (lv_at hl 0 rfl) ?_
    refine lv_bipush (v := 11) hx hb dX10_step_11 (by decide) ?_
    refine lv_icmp_le (tgt := 28) hx hb dX10_step_13 (by decide) (fun c_9 => ?_) (fun c_9 => ?_)
    · have nc_9 := le_i c_9
      have lc_9 : (11 : Int32).toInt = 11 := by decide
      refine lv_aload_n hx hb dX10_step_28 rfl (lv_at hl 1 rfl) ?_
      refine va_get (D := (dC, dI)) (ci := 10) (v := .int (i 36)) (C := RX10) (T := TX10) (N := 51) hx hb hts inw_X10_step_10 hown hK hP 0 rfl rfl 36 (by decide) (hts (.fieldLink RX10 249 "VatHouseModel" "nodes" "I") (by decide +kernel)) (fun _ h9 => h9) rfl dX10_step_29 ?_
      refine lv_sipush (v := 300) hx hb dX10_step_32 (by decide) ?_
      refine lv_icmp_ne (tgt := 50) hx hb dX10_step_35 (by decide) (fun c_10 => ?_) (fun c_10 => ?_)
      · have nc_10 := ne_i c_10
        have lc_10 : (300 : Int32).toInt = 300 := by decide
        refine lv_sipush (v := 2400) hx hb dX10_step_50 (by decide) ?_
        refine lv_aload_n hx hb dX10_step_53 rfl (lv_at hl 1 rfl) ?_
        refine va_get (D := (dC, dI)) (ci := 10) (v := .int (i 36)) (C := RX10) (T := TX10) (N := 51) hx hb hts inw_X10_step_10 hown hK hP 0 rfl rfl 36 (by decide) (hts (.fieldLink RX10 249 "VatHouseModel" "nodes" "I") (by decide +kernel)) (fun _ h9 => h9) rfl dX10_step_54 ?_
        refine lv_iadd hx hb dX10_step_57 ?_
        refine lv_topi (fun z_11 ez_11 => ?_)
        refine lv_istore_n (lv' := [(2, .int z_11), (1, .int z_3), (0, .ref h0)]) hx hb dX10_step_58 rfl hl (by decide) rfl (fun ls hl => ?_)
        refine lv_aload_n hx hb dX10_step_59 rfl (lv_at hl 2 rfl) ?_
        refine lv_dup hx hb dX10_step_60 rfl ?_
        refine va_get (D := (dC, dI)) (ci := 10) (v := .int (i 36)) (C := RX10) (T := TX10) (N := 51) hx hb hts inw_X10_step_10 hown hK hP 0 rfl rfl 36 (by decide) (hts (.fieldLink RX10 249 "VatHouseModel" "nodes" "I") (by decide +kernel)) (fun _ h9 => h9) rfl dX10_step_61 ?_
        refine lv_iconst (v := 1) hx hb dX10_step_64 (by decide) ?_
        refine lv_iadd hx hb dX10_step_65 ?_
        refine lv_topi (fun z_12 ez_12 => ?_)
        refine va_put (D := (dC, dI)) (ci := 10) (v := .int z_12) (ty := .int) (C := RX10) (T := TX10) (N := 51) hx hb hts inw_X10_step_10 tyX10 tyX10_ok nmX10 hown hK hP hD hS 0 rfl rfl 36 (by decide) (hts (.fieldLink RX10 249 "VatHouseModel" "nodes" "I") (by decide +kernel)) (fun _ h9 => h9) rfl (by decide +kernel) rfl rfl (Nat.le_of_ble_eq_true rfl) dX10_step_66 (fun H locs hP hD hS => ?_)
        have hP : va_P (dC, dI) vwCl (mw g h0 b (va_up (va_up i 22 x22_1) 36 z_12) a) _ := hP
        have hD : va_D _ (mw g h0 b (va_up (va_up i 22 x22_1) 36 z_12) a) := hD
        obtain ⟨q, hq, hVq, hdq, hnn, hp0⟩ := PN.new (w := z_3) (bl := bl) hPN (by omega) ez_11 ez_12 (by omega)
        have hk : vp_in z_11 2700 := by rw [hq]; exact vp_in_nI (by have := hVq.2; have := hp0.2.1.2.1; omega) (by decide)
        refine lv_aload_n hx hb dX10_step_69 rfl (lv_at hl 2 rfl) ?_
        refine va_get (D := (dC, dI)) (ci := 10) (v := .ref (b 26)) (C := RX10) (T := TX10) (N := 51) hx hb hts inw_X10_step_10 hown hK hP 0 rfl rfl 26 (by decide) (hts (.fieldLink RX10 60 "VatHouseModel" "kind" "[I") (by decide +kernel)) (fun _ h9 => h9) rfl dX10_step_70 ?_
        refine lv_iload_n hx hb dX10_step_73 rfl (lv_at hl 0 rfl) ?_
        refine lv_iload_n hx hb dX10_step_74 rfl (lv_at hl 1 rfl) ?_
        refine va_iast hx hb hK hP hD hS 16 15 rfl rfl (by assumption) dX10_step_75 (fun H locs hP hD hS => ?_)
        have hP : va_P (dC, dI) vwCl (mw g h0 b (va_up (va_up i 22 x22_1) 36 z_12) (va_up a 26 (upd (a 26) z_11.toNatClampNeg z_3))) _ := hP
        have hD : va_D _ (mw g h0 b (va_up (va_up i 22 x22_1) 36 z_12) (va_up a 26 (upd (a 26) z_11.toNatClampNeg z_3))) := hD
        obtain ⟨f_13, ef_13⟩ : ∃ z, z = (upd (a 26) z_11.toNatClampNeg z_3) := ⟨_, rfl⟩
        rw [← ef_13] at hP hD
        refine lv_aload_n hx hb dX10_step_76 rfl (lv_at hl 2 rfl) ?_
        refine va_get (D := (dC, dI)) (ci := 10) (v := .ref (b 27)) (C := RX10) (T := TX10) (N := 51) hx hb hts inw_X10_step_10 hown hK hP 0 rfl rfl 27 (by decide) (hts (.fieldLink RX10 63 "VatHouseModel" "one" "[I") (by decide +kernel)) (fun _ h9 => h9) rfl dX10_step_77 ?_
        refine lv_iload_n hx hb dX10_step_80 rfl (lv_at hl 0 rfl) ?_
        refine lv_iconst (v := 0) hx hb dX10_step_81 (by decide) ?_
        refine va_iast hx hb hK hP hD hS 17 16 rfl rfl (by assumption) dX10_step_82 (fun H locs hP hD hS => ?_)
        have hP : va_P (dC, dI) vwCl (mw g h0 b (va_up (va_up i 22 x22_1) 36 z_12) (va_up (va_up a 26 f_13) 27 (upd (a 27) z_11.toNatClampNeg (0 : Int32)))) _ := hP
        have hD : va_D _ (mw g h0 b (va_up (va_up i 22 x22_1) 36 z_12) (va_up (va_up a 26 f_13) 27 (upd (a 27) z_11.toNatClampNeg (0 : Int32)))) := hD
        obtain ⟨f_14, ef_14⟩ : ∃ z, z = (upd (a 27) z_11.toNatClampNeg (0 : Int32)) := ⟨_, rfl⟩
        rw [← ef_14] at hP hD
        refine lv_aload_n hx hb dX10_step_83 rfl (lv_at hl 2 rfl) ?_
        refine va_get (D := (dC, dI)) (ci := 10) (v := .ref (b 28)) (C := RX10) (T := TX10) (N := 51) hx hb hts inw_X10_step_10 hown hK hP 0 rfl rfl 28 (by decide) (hts (.fieldLink RX10 66 "VatHouseModel" "two" "[I") (by decide +kernel)) (fun _ h9 => h9) rfl dX10_step_84 ?_
        refine lv_iload_n hx hb dX10_step_87 rfl (lv_at hl 0 rfl) ?_
        refine lv_iconst (v := 0) hx hb dX10_step_88 (by decide) ?_
        refine va_iast hx hb hK hP hD hS 18 17 rfl rfl (by assumption) dX10_step_89 (fun H locs hP hD hS => ?_)
        have hP : va_P (dC, dI) vwCl (mw g h0 b (va_up (va_up i 22 x22_1) 36 z_12) (va_up (va_up (va_up a 26 f_13) 27 f_14) 28 (upd (a 28) z_11.toNatClampNeg (0 : Int32)))) _ := hP
        have hD : va_D _ (mw g h0 b (va_up (va_up i 22 x22_1) 36 z_12) (va_up (va_up (va_up a 26 f_13) 27 f_14) 28 (upd (a 28) z_11.toNatClampNeg (0 : Int32)))) := hD
        obtain ⟨f_15, ef_15⟩ : ∃ z, z = (upd (a 28) z_11.toNatClampNeg (0 : Int32)) := ⟨_, rfl⟩
        rw [← ef_15] at hP hD
        refine lv_aload_n hx hb dX10_step_90 rfl (lv_at hl 2 rfl) ?_
        refine va_get (D := (dC, dI)) (ci := 10) (v := .ref (b 31)) (C := RX10) (T := TX10) (N := 51) hx hb hts inw_X10_step_10 hown hK hP 0 rfl rfl 31 (by decide) (hts (.fieldLink RX10 75 "VatHouseModel" "inner" "[I") (by decide +kernel)) (fun _ h9 => h9) rfl dX10_step_91 ?_
        refine lv_iload_n hx hb dX10_step_94 rfl (lv_at hl 0 rfl) ?_
        refine lv_iconst (v := (-1)) hx hb dX10_step_95 (by decide) ?_
        refine va_iast hx hb hK hP hD hS 21 20 rfl rfl (by assumption) dX10_step_96 (fun H locs hP hD hS => ?_)
        have hP : va_P (dC, dI) vwCl (mw g h0 b (va_up (va_up i 22 x22_1) 36 z_12) (va_up (va_up (va_up (va_up a 26 f_13) 27 f_14) 28 f_15) 31 (upd (a 31) z_11.toNatClampNeg ((-1) : Int32)))) _ := hP
        have hD : va_D _ (mw g h0 b (va_up (va_up i 22 x22_1) 36 z_12) (va_up (va_up (va_up (va_up a 26 f_13) 27 f_14) 28 f_15) 31 (upd (a 31) z_11.toNatClampNeg ((-1) : Int32)))) := hD
        obtain ⟨f_16, ef_16⟩ : ∃ z, z = (upd (a 31) z_11.toNatClampNeg ((-1) : Int32)) := ⟨_, rfl⟩
        rw [← ef_16] at hP hD
        refine lv_aload_n hx hb dX10_step_97 rfl (lv_at hl 2 rfl) ?_
        refine va_get (D := (dC, dI)) (ci := 10) (v := .ref (b 32)) (C := RX10) (T := TX10) (N := 51) hx hb hts inw_X10_step_10 hown hK hP 0 rfl rfl 32 (by decide) (hts (.fieldLink RX10 78 "VatHouseModel" "other" "[I") (by decide +kernel)) (fun _ h9 => h9) rfl dX10_step_98 ?_
        refine lv_iload_n hx hb dX10_step_101 rfl (lv_at hl 0 rfl) ?_
        refine lv_iconst (v := (-1)) hx hb dX10_step_102 (by decide) ?_
        refine va_iast hx hb hK hP hD hS 22 21 rfl rfl (by assumption) dX10_step_103 (fun H locs hP hD hS => ?_)
        have hP : va_P (dC, dI) vwCl (mw g h0 b (va_up (va_up i 22 x22_1) 36 z_12) (va_up (va_up (va_up (va_up (va_up a 26 f_13) 27 f_14) 28 f_15) 31 f_16) 32 (upd (a 32) z_11.toNatClampNeg ((-1) : Int32)))) _ := hP
        have hD : va_D _ (mw g h0 b (va_up (va_up i 22 x22_1) 36 z_12) (va_up (va_up (va_up (va_up (va_up a 26 f_13) 27 f_14) 28 f_15) 31 f_16) 32 (upd (a 32) z_11.toNatClampNeg ((-1) : Int32)))) := hD
        obtain ⟨f_17, ef_17⟩ : ∃ z, z = (upd (a 32) z_11.toNatClampNeg ((-1) : Int32)) := ⟨_, rfl⟩
        rw [← ef_17] at hP hD
        refine lv_aload_n hx hb dX10_step_104 rfl (lv_at hl 2 rfl) ?_
        refine va_get (D := (dC, dI)) (ci := 10) (v := .ref (b 33)) (C := RX10) (T := TX10) (N := 51) hx hb hts inw_X10_step_10 hown hK hP 0 rfl rfl 33 (by decide) (hts (.fieldLink RX10 81 "VatHouseModel" "next" "[I") (by decide +kernel)) (fun _ h9 => h9) rfl dX10_step_105 ?_
        refine lv_iload_n hx hb dX10_step_108 rfl (lv_at hl 0 rfl) ?_
        refine lv_iconst (v := (-1)) hx hb dX10_step_109 (by decide) ?_
        refine va_iast hx hb hK hP hD hS 23 22 rfl rfl (by assumption) dX10_step_110 (fun H locs hP hD hS => ?_)
        have hP : va_P (dC, dI) vwCl (mw g h0 b (va_up (va_up i 22 x22_1) 36 z_12) (va_up (va_up (va_up (va_up (va_up (va_up a 26 f_13) 27 f_14) 28 f_15) 31 f_16) 32 f_17) 33 (upd (a 33) z_11.toNatClampNeg ((-1) : Int32)))) _ := hP
        have hD : va_D _ (mw g h0 b (va_up (va_up i 22 x22_1) 36 z_12) (va_up (va_up (va_up (va_up (va_up (va_up a 26 f_13) 27 f_14) 28 f_15) 31 f_16) 32 f_17) 33 (upd (a 33) z_11.toNatClampNeg ((-1) : Int32)))) := hD
        obtain ⟨f_18, ef_18⟩ : ∃ z, z = (upd (a 33) z_11.toNatClampNeg ((-1) : Int32)) := ⟨_, rfl⟩
        rw [← ef_18] at hP hD
        rw [← ef_13, ← ef_14, ← ef_16, ← ef_17, ← ef_18] at hp0
        have hpr_19 := PR.tr (PR.rf hPN) hp0
        refine lv_aload_n hx hb dX10_step_111 rfl (lv_at hl 2 rfl) ?_
        refine lv_iload_n hx hb dX10_step_112 rfl (lv_at hl 1 rfl) ?_
        refine M_V ⟨hx, hb, hml, hown, hts⟩ (m_X10_pass l dC dI sa g h0 b (va_up (va_up i 22 x22_1) 36 z_12) (va_up (va_up (va_up (va_up (va_up (va_up a 26 f_13) 27 f_14) 28 f_15) 31 f_16) 32 f_17) 33 f_18) z_3 _ (show 0 ≤ x22_1.toInt ∧ x22_1.toInt ≤ (i 21).toInt ∧ (i 21).toInt ≤ 1500 from by omega) (hz_z_3.resolve_left c_4)) (cwV 1 hts gX10_step_X10_pass rfl rfl rfl (by decide +kernel) ⟨(by first | exact Nat.le_of_ble_eq_true rfl | (simp only [rm_X10_pass, rm_X10_step]; omega)), (by first | exact Nat.le_of_ble_eq_true rfl | (simp only [rm_X10_pass, rm_X10_step]; omega))⟩) hP hD hK hS hA hev rfl rfl rfl rfl hl.1 rfl (Nat.le_of_ble_eq_true rfl) dX10_step_113 ⟨(by first | exact Nat.le_of_ble_eq_true rfl | (simp only [rm_X10_step]; omega)), (by first | exact Nat.le_of_ble_eq_true rfl | (simp only [rm_X10_step]; omega))⟩ (fun r u H locs hw hP hD hS => ?_)
        obtain ⟨x22_20, rfl⟩ : ∃ z, z = u := ⟨_, rfl⟩
        have hw : (r = none) ∧ (x22_1.toInt ≤ x22_20.toInt ∧ x22_20.toInt ≤ (i 21).toInt) := hw
        obtain ⟨rfl, hw_21⟩ := hw
        have hP : va_P (dC, dI) vwCl (mw g h0 b (va_up (va_up i 22 x22_20) 36 z_12) (va_up (va_up (va_up (va_up (va_up (va_up a 26 f_13) 27 f_14) 28 f_15) 31 f_16) 32 f_17) 33 f_18)) _ := hP
        have hD : va_D _ (mw g h0 b (va_up (va_up i 22 x22_20) 36 z_12) (va_up (va_up (va_up (va_up (va_up (va_up a 26 f_13) 27 f_14) 28 f_15) 31 f_16) 32 f_17) 33 f_18)) := hD
        refine W.eq (g2 := F0 m 116 ls []) rfl ?_
        refine lv_aload_n hx hb dX10_step_116 rfl (lv_at hl 2 rfl) ?_
        refine lv_iload_n hx hb dX10_step_117 rfl (lv_at hl 0 rfl) ?_
        refine M_V ⟨hx, hb, hml, hown, hts⟩ (m_X10_rest l dC dI sa g h0 b j bl (va_up dp q bl) (va_up (va_up i 22 x22_20) 36 z_12) (va_up (va_up (va_up (va_up (va_up (va_up a 26 f_13) 27 f_14) 28 f_15) 31 f_16) 32 f_17) 33 f_18) z_11 _ (show 0 ≤ x22_20.toInt ∧ x22_20.toInt ≤ (i 21).toInt ∧ (i 21).toInt ≤ 1500 from by omega) (show 0 ≤ (i 23).toInt from by omega) hp0.2.1 hBL hj (show ∃ q0 : Nat, z_11 = nI q0 ∧ PV z_12 q0 ∧ (va_up dp q bl) q0 = bl from ⟨q, hq, hVq, hdq⟩) IHS) (cwV 1 hts gX10_step_X10_rest rfl rfl rfl (by decide +kernel) ⟨(by first | exact Nat.le_of_ble_eq_true rfl | (simp only [rm_X10_rest, rm_X10_step]; omega)), (by first | exact Nat.le_of_ble_eq_true rfl | (simp only [rm_X10_rest, rm_X10_step]; omega))⟩) hP hD hK hS hA hev rfl rfl rfl rfl hl.1 rfl (Nat.le_of_ble_eq_true rfl) dX10_step_118 ⟨(by first | exact Nat.le_of_ble_eq_true rfl | (simp only [rm_X10_step]; omega)), (by first | exact Nat.le_of_ble_eq_true rfl | (simp only [rm_X10_step]; omega))⟩ (fun r u H locs hw hP hD hS => ?_)
        obtain ⟨x22_22, x23_23, x24_24, x25_25, x36_26, y26_27, y27_28, y28_29, y29_30, y30_31, y31_32, y32_33, y33_34⟩ := u
        have hw : ((r = some (.int 0) ∧ (0 < x23_23.toInt)) ∨ (r = some (.int 1) ∧ (True))) ∧ (((x22_20.toInt ≤ x22_22.toInt ∧ x22_22.toInt ≤ (i 21).toInt) ∧ 0 ≤ x23_23.toInt ∧ (0 < (i 23).toInt → 0 < x23_23.toInt)) ∧ ∃ dpN : Nat → Nat, PR z_12 x36_26 (va_up dp q bl) dpN f_13 f_14 f_16 f_17 f_18 y26_27 y27_28 y31_32 y32_33 y33_34) := hw
        obtain ⟨⟨rfl, hz2_36⟩ | ⟨rfl, hz2_36⟩, hw_35⟩ := hw
        · have hP : va_P (dC, dI) vwCl (mw g h0 b (va_up (va_up (va_up (va_up (va_up i 22 x22_22) 23 x23_23) 24 x24_24) 25 x25_25) 36 x36_26) (va_up (va_up (va_up (va_up (va_up (va_up (va_up (va_up a 26 y26_27) 27 y27_28) 28 y28_29) 29 y29_30) 30 y30_31) 31 y31_32) 32 y32_33) 33 y33_34)) _ := hP
          have hD : va_D _ (mw g h0 b (va_up (va_up (va_up (va_up (va_up i 22 x22_22) 23 x23_23) 24 x24_24) 25 x25_25) 36 x36_26) (va_up (va_up (va_up (va_up (va_up (va_up (va_up (va_up a 26 y26_27) 27 y27_28) 28 y28_29) 29 y29_30) 30 y30_31) 31 y31_32) 32 y32_33) 33 y33_34)) := hD
          refine W.eq (g2 := F0 m 121 ls [.int 0]) rfl ?_
          obtain ⟨hatq_40, dp_38, hPR_37⟩ := hw_35
          have hpr_41 := PR.tr hpr_19 hPR_37
          refine lv_if_eq (tgt := 128) hx hb dX10_step_121 (by decide) (fun _ => ?_) (fun c_42 => absurd c_42 (by decide))
          refine lv_iconst (v := (-1)) hx hb dX10_step_128 (by decide) ?_
          exact M_i hx hb hr hlocks (x22_22, x23_23, x24_24, x25_25, x36_26, y26_27, y27_28, y28_29, y29_30, y30_31, y31_32, y32_33, y33_34) hP hD hK hS ⟨⟨_, rfl⟩, ⟨⟨⟨by omega, by omega⟩, by omega, fun h9 => by omega⟩, dp_38, hpr_41, fun z9 h9 => Or.inl ⟨by cases h9; rfl, by omega⟩⟩⟩ (by first | exact Nat.le_of_ble_eq_true rfl | (simp only [rm_X10_step]; omega)) (by first | exact Nat.le_of_ble_eq_true rfl | (simp only [rm_X10_step]; omega)) dX10_step_129
        · have hP : va_P (dC, dI) vwCl (mw g h0 b (va_up (va_up (va_up (va_up (va_up i 22 x22_22) 23 x23_23) 24 x24_24) 25 x25_25) 36 x36_26) (va_up (va_up (va_up (va_up (va_up (va_up (va_up (va_up a 26 y26_27) 27 y27_28) 28 y28_29) 29 y29_30) 30 y30_31) 31 y31_32) 32 y32_33) 33 y33_34)) _ := hP
          have hD : va_D _ (mw g h0 b (va_up (va_up (va_up (va_up (va_up i 22 x22_22) 23 x23_23) 24 x24_24) 25 x25_25) 36 x36_26) (va_up (va_up (va_up (va_up (va_up (va_up (va_up (va_up a 26 y26_27) 27 y27_28) 28 y28_29) 29 y29_30) 30 y30_31) 31 y31_32) 32 y32_33) 33 y33_34)) := hD
          refine W.eq (g2 := F0 m 121 ls [.int 1]) rfl ?_
          obtain ⟨hatq_46, dp_44, hPR_43⟩ := hw_35
          have hpr_47 := PR.tr hpr_19 hPR_43
          refine lv_if_eq (tgt := 128) hx hb dX10_step_121 (by decide) (fun c_48 => absurd c_48 (by decide)) (fun _ => ?_)
          refine lv_iload_n hx hb dX10_step_124 rfl (lv_at hl 0 rfl) ?_
          refine lv_goto (tgt := 129) hx hb dX10_step_125 (by decide) ?_
          exact M_i hx hb hr hlocks (x22_22, x23_23, x24_24, x25_25, x36_26, y26_27, y27_28, y28_29, y29_30, y30_31, y31_32, y32_33, y33_34) hP hD hK hS ⟨⟨_, rfl⟩, ⟨⟨⟨by omega, by omega⟩, by omega, fun h9 => by omega⟩, dp_44, hpr_47, fun z9 h9 => by cases h9; exact Or.inr ⟨⟨q, hq, PR.nd hPR_43 hVq hdq⟩, by have := hPR_43.2.2.2; omega⟩⟩⟩ (by first | exact Nat.le_of_ble_eq_true rfl | (simp only [rm_X10_step]; omega)) (by first | exact Nat.le_of_ble_eq_true rfl | (simp only [rm_X10_step]; omega)) dX10_step_129
      · have nc_10 := eq_i c_10
        have lc_10 : (300 : Int32).toInt = 300 := by decide
        refine lv_aload_n hx hb dX10_step_38 rfl (lv_at hl 1 rfl) ?_
        refine lv_iconst (v := 2) hx hb dX10_step_39 (by decide) ?_
        refine lv_aload_n hx hb dX10_step_40 rfl (lv_at hl 1 rfl) ?_
        refine va_get (D := (dC, dI)) (ci := 10) (v := .int x22_1) (C := RX10) (T := TX10) (N := 51) hx hb hts inw_X10_step_10 hown hK hP 0 rfl rfl 22 (by decide) (hts (.fieldLink RX10 168 "VatHouseModel" "at" "I") (by decide +kernel)) (fun _ h9 => h9) rfl dX10_step_41 ?_
        refine M_V ⟨hx, hb, hml, hown, hts⟩ (m_X10_wrong l dC dI sa g h0 b (va_up i 22 x22_1) a (2 : Int32) x22_1 _ (by decide) (show 0 ≤ (i 23).toInt from by omega)) (cwV 2 hts gX10_step_X10_wrong rfl rfl rfl (by decide +kernel) ⟨(by first | exact Nat.le_of_ble_eq_true rfl | (simp only [rm_X10_wrong, rm_X10_step]; omega)), (by first | exact Nat.le_of_ble_eq_true rfl | (simp only [rm_X10_wrong, rm_X10_step]; omega))⟩) hP hD hK hS hA hev rfl rfl rfl rfl hl.1 rfl (Nat.le_of_ble_eq_true rfl) dX10_step_44 ⟨(by first | exact Nat.le_of_ble_eq_true rfl | (simp only [rm_X10_step]; omega)), (by first | exact Nat.le_of_ble_eq_true rfl | (simp only [rm_X10_step]; omega))⟩ (fun r u H locs hw hP hD hS => ?_)
        obtain ⟨x23_49, x24_50⟩ := u
        have hw : ((r = some (.int 0) ∧ (0 < x23_49.toInt)) ∨ (r = some (.int 1) ∧ (False))) ∧ (True) := hw
        obtain ⟨⟨rfl, hz2_52⟩ | ⟨rfl, hz2_52⟩, hw_51⟩ := hw
        · have hP : va_P (dC, dI) vwCl (mw g h0 b (va_up (va_up (va_up i 22 x22_1) 23 x23_49) 24 x24_50) a) _ := hP
          have hD : va_D _ (mw g h0 b (va_up (va_up (va_up i 22 x22_1) 23 x23_49) 24 x24_50) a) := hD
          refine W.eq (g2 := F0 m 47 ls [.int 0]) rfl ?_
          refine lv_pop hx hb dX10_step_47 rfl ?_
          refine lv_iconst (v := (-1)) hx hb dX10_step_48 (by decide) ?_
          exact M_i hx hb hr hlocks (x22_1, x23_49, x24_50, (i 25), (i 36), (a 26), (a 27), (a 28), (a 29), (a 30), (a 31), (a 32), (a 33)) hP hD hK hS ⟨⟨_, rfl⟩, ⟨⟨⟨by omega, by omega⟩, by omega, fun h9 => by omega⟩, dp, (PR.rf hPN), fun z9 h9 => Or.inl ⟨by cases h9; rfl, by omega⟩⟩⟩ (by first | exact Nat.le_of_ble_eq_true rfl | (simp only [rm_X10_step]; omega)) (by first | exact Nat.le_of_ble_eq_true rfl | (simp only [rm_X10_step]; omega)) dX10_step_49
        · have hP : va_P (dC, dI) vwCl (mw g h0 b (va_up (va_up (va_up i 22 x22_1) 23 x23_49) 24 x24_50) a) _ := hP
          have hD : va_D _ (mw g h0 b (va_up (va_up (va_up i 22 x22_1) 23 x23_49) 24 x24_50) a) := hD
          refine W.eq (g2 := F0 m 47 ls [.int 1]) rfl ?_
          exact hz2_52.elim
    · have nc_9 := nle_i c_9
      have lc_9 : (11 : Int32).toInt = 11 := by decide
      refine lv_aload_n hx hb dX10_step_16 rfl (lv_at hl 1 rfl) ?_
      refine lv_iconst (v := 1) hx hb dX10_step_17 (by decide) ?_
      refine lv_aload_n hx hb dX10_step_18 rfl (lv_at hl 1 rfl) ?_
      refine va_get (D := (dC, dI)) (ci := 10) (v := .int x22_1) (C := RX10) (T := TX10) (N := 51) hx hb hts inw_X10_step_10 hown hK hP 0 rfl rfl 22 (by decide) (hts (.fieldLink RX10 168 "VatHouseModel" "at" "I") (by decide +kernel)) (fun _ h9 => h9) rfl dX10_step_19 ?_
      refine M_V ⟨hx, hb, hml, hown, hts⟩ (m_X10_wrong l dC dI sa g h0 b (va_up i 22 x22_1) a (1 : Int32) x22_1 _ (by decide) (show 0 ≤ (i 23).toInt from by omega)) (cwV 2 hts gX10_step_X10_wrong rfl rfl rfl (by decide +kernel) ⟨(by first | exact Nat.le_of_ble_eq_true rfl | (simp only [rm_X10_wrong, rm_X10_step]; omega)), (by first | exact Nat.le_of_ble_eq_true rfl | (simp only [rm_X10_wrong, rm_X10_step]; omega))⟩) hP hD hK hS hA hev rfl rfl rfl rfl hl.1 rfl (Nat.le_of_ble_eq_true rfl) dX10_step_22 ⟨(by first | exact Nat.le_of_ble_eq_true rfl | (simp only [rm_X10_step]; omega)), (by first | exact Nat.le_of_ble_eq_true rfl | (simp only [rm_X10_step]; omega))⟩ (fun r u H locs hw hP hD hS => ?_)
      obtain ⟨x23_53, x24_54⟩ := u
      have hw : ((r = some (.int 0) ∧ (0 < x23_53.toInt)) ∨ (r = some (.int 1) ∧ (False))) ∧ (True) := hw
      obtain ⟨⟨rfl, hz2_56⟩ | ⟨rfl, hz2_56⟩, hw_55⟩ := hw
      · have hP : va_P (dC, dI) vwCl (mw g h0 b (va_up (va_up (va_up i 22 x22_1) 23 x23_53) 24 x24_54) a) _ := hP
        have hD : va_D _ (mw g h0 b (va_up (va_up (va_up i 22 x22_1) 23 x23_53) 24 x24_54) a) := hD
        refine W.eq (g2 := F0 m 25 ls [.int 0]) rfl ?_
        refine lv_pop hx hb dX10_step_25 rfl ?_
        refine lv_iconst (v := (-1)) hx hb dX10_step_26 (by decide) ?_
        exact M_i hx hb hr hlocks (x22_1, x23_53, x24_54, (i 25), (i 36), (a 26), (a 27), (a 28), (a 29), (a 30), (a 31), (a 32), (a 33)) hP hD hK hS ⟨⟨_, rfl⟩, ⟨⟨⟨by omega, by omega⟩, by omega, fun h9 => by omega⟩, dp, (PR.rf hPN), fun z9 h9 => Or.inl ⟨by cases h9; rfl, by omega⟩⟩⟩ (by first | exact Nat.le_of_ble_eq_true rfl | (simp only [rm_X10_step]; omega)) (by first | exact Nat.le_of_ble_eq_true rfl | (simp only [rm_X10_step]; omega)) dX10_step_27
      · have hP : va_P (dC, dI) vwCl (mw g h0 b (va_up (va_up (va_up i 22 x22_1) 23 x23_53) 24 x24_54) a) _ := hP
        have hD : va_D _ (mw g h0 b (va_up (va_up (va_up i 22 x22_1) 23 x23_53) 24 x24_54) a) := hD
        refine W.eq (g2 := F0 m 25 ls [.int 1]) rfl ?_
        exact hz2_56.elim

theorem inw_X10_steps_10 : ∀ w ∈ wsX100, w ∈ wsX10_steps := by decide +kernel
set_option maxHeartbeats 1000000 in
set_option maxRecDepth 100000 in
theorem m_X10_steps (l : Launch) (dC : Nat → ClassId) (dI : Nat → Nat → Nat) (sa : Nat → Nat) (g : Nat → Nat) (h0 : Nat) (b : Nat → Nat) (j : Nat) (bl : Nat) (dp : Nat → Nat) (i : Nat → Int32) (a : Nat → Nat → Int32) (ib : Int32) (sz : Nat) (hSI : 0 ≤ (i 22).toInt ∧ (i 22).toInt ≤ (i 21).toInt ∧ (i 21).toInt ≤ 1500) (hFK : 0 ≤ (i 23).toInt) (hPN : PN (i 36) dp (a 26) (a 27) (a 31) (a 32) (a 33)) (hBL : (i 38) = nI bl) (hj : bl + j = 8) (IHS : ∀ j' bl' : Nat, bl' + j' = 8 → j = j' + 1 → ∀ (dp : Nat → Nat) (i : Nat → Int32) (a : Nat → Nat → Int32) (ib : Int32) (sz : Nat) (hSI : 0 ≤ (i 22).toInt ∧ (i 22).toInt ≤ (i 21).toInt ∧ (i 21).toInt ≤ 1500) (hFK : 0 ≤ (i 23).toInt) (hPN : PN (i 36) dp (a 26) (a 27) (a 31) (a 32) (a 33)) (hBL : (i 38) = nI bl'), CT l dC dI sa yX10_steps wsX10_steps (rm_X10_steps j' bl' dp) [.ref h0, .int ib] (mw g h0 b i a) (tyM g) sz (fun (r : Option Value) (u : Int32 × Int32 × Int32 × Int32 × Int32 × (Nat → Int32) × (Nat → Int32) × (Nat → Int32) × (Nat → Int32) × (Nat → Int32) × (Nat → Int32) × (Nat → Int32) × (Nat → Int32)) => match u with | (x22, x23, x24, x25, x36, y26, y27, y28, y29, y30, y31, y32, y33) => (∃ z : Int32, r = some (.int z)) ∧ ((((i 22).toInt ≤ x22.toInt ∧ x22.toInt ≤ (i 21).toInt) ∧ 0 ≤ x23.toInt ∧ (0 < (i 23).toInt → 0 < x23.toInt)) ∧ ∃ dpN : Nat → Nat, PR (i 36) x36 dp dpN (a 26) (a 27) (a 31) (a 32) (a 33) y26 y27 y31 y32 y33 ∧ (∀ z : Int32, r = some (.int z) → (z = -2 ∧ 0 < x23.toInt) ∨ lk (PV x36) dpN bl' z))) (fun (u : Int32 × Int32 × Int32 × Int32 × Int32 × (Nat → Int32) × (Nat → Int32) × (Nat → Int32) × (Nat → Int32) × (Nat → Int32) × (Nat → Int32) × (Nat → Int32) × (Nat → Int32)) => match u with | (x22, x23, x24, x25, x36, y26, y27, y28, y29, y30, y31, y32, y33) => mw g h0 b (va_up (va_up (va_up (va_up (va_up i 22 x22) 23 x23) 24 x24) 25 x25) 36 x36) (va_up (va_up (va_up (va_up (va_up (va_up (va_up (va_up a 26 y26) 27 y27) 28 y28) 29 y29) 30 y30) 31 y31) 32 y32) 33 y33)) (fun _ => []) 0 0) : CT l dC dI sa yX10_steps wsX10_steps (rm_X10_steps j bl dp) [.ref h0, .int ib] (mw g h0 b i a) (tyM g) sz (fun (r : Option Value) (u : Int32 × Int32 × Int32 × Int32 × Int32 × (Nat → Int32) × (Nat → Int32) × (Nat → Int32) × (Nat → Int32) × (Nat → Int32) × (Nat → Int32) × (Nat → Int32) × (Nat → Int32)) => match u with | (x22, x23, x24, x25, x36, y26, y27, y28, y29, y30, y31, y32, y33) => (∃ z : Int32, r = some (.int z)) ∧ ((((i 22).toInt ≤ x22.toInt ∧ x22.toInt ≤ (i 21).toInt) ∧ 0 ≤ x23.toInt ∧ (0 < (i 23).toInt → 0 < x23.toInt)) ∧ ∃ dpN : Nat → Nat, PR (i 36) x36 dp dpN (a 26) (a 27) (a 31) (a 32) (a 33) y26 y27 y31 y32 y33 ∧ (∀ z : Int32, r = some (.int z) → (z = -2 ∧ 0 < x23.toInt) ∨ lk (PV x36) dpN bl z))) (fun (u : Int32 × Int32 × Int32 × Int32 × Int32 × (Nat → Int32) × (Nat → Int32) × (Nat → Int32) × (Nat → Int32) × (Nat → Int32) × (Nat → Int32) × (Nat → Int32) × (Nat → Int32)) => match u with | (x22, x23, x24, x25, x36, y26, y27, y28, y29, y30, y31, y32, y33) => mw g h0 b (va_up (va_up (va_up (va_up (va_up i 22 x22) 23 x23) 24 x24) 25 x25) 36 x36) (va_up (va_up (va_up (va_up (va_up (va_up (va_up (va_up a 26 y26) 27 y27) 28 y28) 29 y29) 30 y30) 31 y31) 32 y32) 33 y33)) (fun _ => []) 0 0 := by
  refine CT.start (cc := cX10_steps) (maxL := 5) (ret := (some .int)) (by decide) rfl (Nat.le_of_ble_eq_true rfl) ?_
  intro p e s m below meth c ls hst hP hK hD hev hS hl
  obtain ⟨hx, hb, hr, hml, hts, hown, hlocks, hin⟩ := hst
  have hown : s.vm.findClass RX10 = some m.cls := hown
  have hA : ∀ q : Nat, s.heap.size ≤ q → va_A (mw g h0 b i a) s.heap.size q := fun _ h => Or.inr h
  have hl : lv_has ls 5 [(0, .ref h0), (1, .int ib)] := hl
  refine lv_iconst (v := (-1)) hx hb dX10_steps_0 (by decide) ?_
  refine lv_istore_n (lv' := [(2, .int (-1)), (0, .ref h0), (1, .int ib)]) hx hb dX10_steps_1 rfl hl (by decide) rfl (fun ls hl => ?_)
  refine lv_iconst (v := (-1)) hx hb dX10_steps_2 (by decide) ?_
  refine lv_istore_n (lv' := [(3, .int (-1)), (2, .int (-1)), (0, .ref h0), (1, .int ib)]) hx hb dX10_steps_3 rfl hl (by decide) rfl (fun ls hl => ?_)
  refine lv_aload_n hx hb dX10_steps_4 rfl (lv_at hl 2 rfl) ?_
  refine M_V ⟨hx, hb, hml, hown, hts⟩ (m_X10_skip l dC dI sa g h0 b i a  _ (show 0 ≤ (i 22).toInt ∧ (i 22).toInt ≤ (i 21).toInt ∧ (i 21).toInt ≤ 1500 from by omega)) (cwV 0 hts gX10_steps_X10_skip rfl rfl rfl (by decide +kernel) ⟨(by first | exact Nat.le_of_ble_eq_true rfl | (simp only [rm_X10_skip, rm_X10_steps]; omega)), (by first | exact Nat.le_of_ble_eq_true rfl | (simp only [rm_X10_skip, rm_X10_steps]; omega))⟩) hP hD hK hS hA hev rfl rfl rfl rfl hl.1 rfl (Nat.le_of_ble_eq_true rfl) dX10_steps_5 ⟨(by first | exact Nat.le_of_ble_eq_true rfl | (simp only [rm_X10_steps]; omega)), (by first | exact Nat.le_of_ble_eq_true rfl | (simp only [rm_X10_steps]; omega))⟩ (fun r u H locs hw hP hD hS => ?_)
  obtain ⟨x22_1, rfl⟩ : ∃ z, z = u := ⟨_, rfl⟩
  have hw : (r = none) ∧ ((i 22).toInt ≤ x22_1.toInt ∧ x22_1.toInt ≤ (i 21).toInt) := hw
  obtain ⟨rfl, hw_2⟩ := hw
  have hP : va_P (dC, dI) vwCl (mw g h0 b (va_up i 22 x22_1) a) _ := hP
  have hD : va_D _ (mw g h0 b (va_up i 22 x22_1) a) := hD
  refine W.eq (g2 := F0 m 8 ls []) rfl ?_
  have lp : ∀ (n : Nat) (hh : Int32) (la : Int32) (l22 : Int32) (l23 : Int32) (l24 : Int32) (l25 : Int32) (l36 : Int32) (l26 : Nat → Int32) (l27 : Nat → Int32) (l28 : Nat → Int32) (l29 : Nat → Int32) (l30 : Nat → Int32) (l31 : Nat → Int32) (l32 : Nat → Int32) (l33 : Nat → Int32) (H : Heap) (locs : List Loc) (ls : Array Slot), ((300 - l36.toInt).toNat < n) → ((i 22).toInt ≤ l22.toInt ∧ l22.toInt ≤ (i 21).toInt) → (0 ≤ l23.toInt ∧ (0 < (i 23).toInt → 0 < l23.toInt)) → (∃ dp1 : Nat → Nat, PR (i 36) l36 dp dp1 (a 26) (a 27) (a 31) (a 32) (a 33) l26 l27 l31 l32 l33 ∧ lk (PV l36) dp1 bl hh ∧ lk (PV l36) dp1 bl la) → va_P (dC, dI) vwCl (mw g h0 b (va_up (va_up (va_up (va_up (va_up i 22 l22) 23 l23) 24 l24) 25 l25) 36 l36) (va_up (va_up (va_up (va_up (va_up (va_up (va_up (va_up a 26 l26) 27 l27) 28 l28) 29 l29) 30 l30) 31 l31) 32 l32) 33 l33)) H → va_D (va_A (mw g h0 b i a) s.heap.size) (mw g h0 b (va_up (va_up (va_up (va_up (va_up i 22 l22) 23 l23) 24 l24) 25 l25) 36 l36) (va_up (va_up (va_up (va_up (va_up (va_up (va_up (va_up a 26 l26) 27 l27) 28 l28) 29 l29) 30 l30) 31 l31) 32 l32) 33 l33)) → va_S (va_A (mw g h0 b i a) s.heap.size) s.heap H locs → lv_has ls 5 [(2, .int hh), (3, .int la), (0, .ref h0), (1, .int ib)] → W p l e (rm_X10_steps j bl dp) s m [.ref h0, .int ib].toArray below meth c H locs 0 0 (MQ below (Qg (fun (r : Option Value) (u : Int32 × Int32 × Int32 × Int32 × Int32 × (Nat → Int32) × (Nat → Int32) × (Nat → Int32) × (Nat → Int32) × (Nat → Int32) × (Nat → Int32) × (Nat → Int32) × (Nat → Int32)) => match u with | (x22, x23, x24, x25, x36, y26, y27, y28, y29, y30, y31, y32, y33) => (∃ z : Int32, r = some (.int z)) ∧ ((((i 22).toInt ≤ x22.toInt ∧ x22.toInt ≤ (i 21).toInt) ∧ 0 ≤ x23.toInt ∧ (0 < (i 23).toInt → 0 < x23.toInt)) ∧ ∃ dpN : Nat → Nat, PR (i 36) x36 dp dpN (a 26) (a 27) (a 31) (a 32) (a 33) y26 y27 y31 y32 y33 ∧ (∀ z : Int32, r = some (.int z) → (z = -2 ∧ 0 < x23.toInt) ∨ lk (PV x36) dpN bl z))) (fun u t => QW dC dI (va_A (mw g h0 b i a) s.heap.size) ((fun (u : Int32 × Int32 × Int32 × Int32 × Int32 × (Nat → Int32) × (Nat → Int32) × (Nat → Int32) × (Nat → Int32) × (Nat → Int32) × (Nat → Int32) × (Nat → Int32) × (Nat → Int32)) => match u with | (x22, x23, x24, x25, x36, y26, y27, y28, y29, y30, y31, y32, y33) => mw g h0 b (va_up (va_up (va_up (va_up (va_up i 22 x22) 23 x23) 24 x24) 25 x25) 36 x36) (va_up (va_up (va_up (va_up (va_up (va_up (va_up (va_up a 26 y26) 27 y27) 28 y28) 29 y29) 30 y30) 31 y31) 32 y32) 33 y33)) u) [] t) (va_A (mw g h0 b i a) s.heap.size)) [.ref h0, .int ib].toArray s 0 0 (va_A (mw g h0 b i a) s.heap.size)) (F0 m 8 ls []) := by
    intro n
    induction n with
    | zero => intro hh la l22 l23 l24 l25 l36 l26 l27 l28 l29 l30 l31 l32 l33 H locs ls hm hat hfk hpr hP hD hS hl; exact absurd hm (by omega)
    | succ n ih =>
      intro hh la l22 l23 l24 l25 l36 l26 l27 l28 l29 l30 l31 l32 l33 H locs ls hm hat hfk hpr hP hD hS hl
      refine lv_iload_n hx hb dX10_steps_8 rfl (lv_at hl 3 rfl) ?_
      obtain ⟨dp1, hpr1, hlk1, hlk2⟩ := hpr
      refine lv_if_eq (tgt := 24) hx hb dX10_steps_9 (by decide) (fun c_3 => ?_) (fun c_3 => ?_)
      · have nc_3 := eq_i c_3
        have lc_3 : (0 : Int32).toInt = 0 := by decide
        refine lv_aload_n hx hb dX10_steps_24 rfl (lv_at hl 2 rfl) ?_
        refine va_get (D := (dC, dI)) (ci := 10) (v := .int l22) (C := RX10) (T := TX10) (N := 51) hx hb hts inw_X10_steps_10 hown hK hP 0 rfl rfl 22 (by decide) (hts (.fieldLink RX10 168 "VatHouseModel" "at" "I") (by decide +kernel)) (fun _ h9 => h9) rfl dX10_steps_25 ?_
        refine lv_aload_n hx hb dX10_steps_28 rfl (lv_at hl 2 rfl) ?_
        refine va_get (D := (dC, dI)) (ci := 10) (v := .int (i 21)) (C := RX10) (T := TX10) (N := 51) hx hb hts inw_X10_steps_10 hown hK hP 0 rfl rfl 21 (by decide) (hts (.fieldLink RX10 171 "VatHouseModel" "size" "I") (by decide +kernel)) (fun _ h9 => h9) rfl dX10_steps_29 ?_
        refine lv_icmp_ge (tgt := 79) hx hb dX10_steps_32 (by decide) (fun c_4 => ?_) (fun c_4 => ?_)
        · have nc_4 := le_i c_4
          refine lv_iload_n hx hb dX10_steps_79 rfl (lv_at hl 3 rfl) ?_
          refine lv_if_eq (tgt := 93) hx hb dX10_steps_80 (by decide) (fun c_5 => ?_) (fun c_5 => ?_)
          · have nc_5 := eq_i c_5
            have lc_5 : (0 : Int32).toInt = 0 := by decide
            refine lv_iload_n hx hb dX10_steps_93 rfl (lv_at hl 0 rfl) ?_
            exact M_i hx hb hr hlocks (l22, l23, l24, l25, l36, l26, l27, l28, l29, l30, l31, l32, l33) hP hD hK hS ⟨⟨_, rfl⟩, ⟨⟨⟨by omega, by omega⟩, by omega, fun h9 => by omega⟩, dp1, hpr1, fun z9 h9 => by cases h9; exact Or.inr hlk1⟩⟩ (by first | exact Nat.le_of_ble_eq_true rfl | (simp only [rm_X10_steps]; omega)) (by first | exact Nat.le_of_ble_eq_true rfl | (simp only [rm_X10_steps]; omega)) dX10_steps_94
          · have nc_5 := ne_i c_5
            have lc_5 : (0 : Int32).toInt = 0 := by decide
            refine lv_aload_n hx hb dX10_steps_83 rfl (lv_at hl 2 rfl) ?_
            refine lv_dup hx hb dX10_steps_84 rfl ?_
            refine va_get (D := (dC, dI)) (ci := 10) (v := .int l22) (C := RX10) (T := TX10) (N := 51) hx hb hts inw_X10_steps_10 hown hK hP 0 rfl rfl 22 (by decide) (hts (.fieldLink RX10 168 "VatHouseModel" "at" "I") (by decide +kernel)) (fun _ h9 => h9) rfl dX10_steps_85 ?_
            refine lv_iconst (v := 1) hx hb dX10_steps_88 (by decide) ?_
            refine lv_iadd hx hb dX10_steps_89 ?_
            refine lv_topi (fun z_6 ez_6 => ?_)
            have tz9 := incz (y := i 21) (by rw [Int32.le_iff_toInt_le]; omega) ez_6
            refine va_put (D := (dC, dI)) (ci := 10) (v := .int z_6) (ty := .int) (C := RX10) (T := TX10) (N := 51) hx hb hts inw_X10_steps_10 tyX10 tyX10_ok nmX10 hown hK hP hD hS 0 rfl rfl 22 (by decide) (hts (.fieldLink RX10 168 "VatHouseModel" "at" "I") (by decide +kernel)) (fun _ h9 => h9) rfl (by decide +kernel) rfl rfl (Nat.le_of_ble_eq_true rfl) dX10_steps_90 (fun H locs hP hD hS => ?_)
            have hP : va_P (dC, dI) vwCl (mw g h0 b (va_up (va_up (va_up (va_up (va_up i 22 z_6) 23 l23) 24 l24) 25 l25) 36 l36) (va_up (va_up (va_up (va_up (va_up (va_up (va_up (va_up a 26 l26) 27 l27) 28 l28) 29 l29) 30 l30) 31 l31) 32 l32) 33 l33)) _ := hP
            have hD : va_D _ (mw g h0 b (va_up (va_up (va_up (va_up (va_up i 22 z_6) 23 l23) 24 l24) 25 l25) 36 l36) (va_up (va_up (va_up (va_up (va_up (va_up (va_up (va_up a 26 l26) 27 l27) 28 l28) 29 l29) 30 l30) 31 l31) 32 l32) 33 l33)) := hD
            refine lv_iload_n hx hb dX10_steps_93 rfl (lv_at hl 0 rfl) ?_
            exact M_i hx hb hr hlocks (z_6, l23, l24, l25, l36, l26, l27, l28, l29, l30, l31, l32, l33) hP hD hK hS ⟨⟨_, rfl⟩, ⟨⟨⟨by omega, by omega⟩, by omega, fun h9 => by omega⟩, dp1, hpr1, fun z9 h9 => by cases h9; exact Or.inr hlk1⟩⟩ (by first | exact Nat.le_of_ble_eq_true rfl | (simp only [rm_X10_steps]; omega)) (by first | exact Nat.le_of_ble_eq_true rfl | (simp only [rm_X10_steps]; omega)) dX10_steps_94
        · have nc_4 := nle_i c_4
          refine lv_aload_n hx hb dX10_steps_35 rfl (lv_at hl 2 rfl) ?_
          refine M_V ⟨hx, hb, hml, hown, hts⟩ (m_X10_step l dC dI sa g h0 b j bl dp1 (va_up (va_up (va_up (va_up (va_up i 22 l22) 23 l23) 24 l24) 25 l25) 36 l36) (va_up (va_up (va_up (va_up (va_up (va_up (va_up (va_up a 26 l26) 27 l27) 28 l28) 29 l29) 30 l30) 31 l31) 32 l32) 33 l33)  _ (show 0 ≤ l22.toInt ∧ l22.toInt ≤ (i 21).toInt ∧ (i 21).toInt ≤ 1500 from by omega) (show 0 ≤ l23.toInt from by omega) hpr1.2.1 hBL hj IHS) (cwV 0 hts gX10_steps_X10_step rfl rfl rfl (by decide +kernel) ⟨(by first | exact Nat.le_of_ble_eq_true rfl | (simp only [rm_X10_step, rm_X10_steps]; omega)), (by first | exact Nat.le_of_ble_eq_true rfl | (simp only [rm_X10_step, rm_X10_steps]; omega))⟩) hP hD hK hS hA hev rfl rfl rfl rfl hl.1 rfl (Nat.le_of_ble_eq_true rfl) dX10_steps_36 ⟨(by first | exact Nat.le_of_ble_eq_true rfl | (simp only [rm_X10_steps]; omega)), (by first | exact Nat.le_of_ble_eq_true rfl | (simp only [rm_X10_steps]; omega))⟩ (fun r u H locs hw hP hD hS => ?_)
          obtain ⟨x22_7, x23_8, x24_9, x25_10, x36_11, y26_12, y27_13, y28_14, y29_15, y30_16, y31_17, y32_18, y33_19⟩ := u
          have hw : (∃ z : Int32, r = some (.int z)) ∧ (((l22.toInt ≤ x22_7.toInt ∧ x22_7.toInt ≤ (i 21).toInt) ∧ 0 ≤ x23_8.toInt ∧ (0 < l23.toInt → 0 < x23_8.toInt)) ∧ ∃ dpN : Nat → Nat, PR l36 x36_11 dp1 dpN l26 l27 l31 l32 l33 y26_12 y27_13 y31_17 y32_18 y33_19 ∧ (∀ z : Int32, r = some (.int z) → (z = -1 ∧ 0 < x23_8.toInt) ∨ (∃ q : Nat, z = nI q ∧ PV x36_11 q ∧ dpN q = bl) ∧ l36.toInt < x36_11.toInt)) := hw
          obtain ⟨⟨z_21, rfl⟩, hw_20⟩ := hw
          have hP : va_P (dC, dI) vwCl (mw g h0 b (va_up (va_up (va_up (va_up (va_up i 22 x22_7) 23 x23_8) 24 x24_9) 25 x25_10) 36 x36_11) (va_up (va_up (va_up (va_up (va_up (va_up (va_up (va_up a 26 y26_12) 27 y27_13) 28 y28_14) 29 y29_15) 30 y30_16) 31 y31_17) 32 y32_18) 33 y33_19)) _ := hP
          have hD : va_D _ (mw g h0 b (va_up (va_up (va_up (va_up (va_up i 22 x22_7) 23 x23_8) 24 x24_9) 25 x25_10) 36 x36_11) (va_up (va_up (va_up (va_up (va_up (va_up (va_up (va_up a 26 y26_12) 27 y27_13) 28 y28_14) 29 y29_15) 30 y30_16) 31 y31_17) 32 y32_18) 33 y33_19)) := hD
          refine W.eq (g2 := F0 m 39 ls [.int z_21]) rfl ?_
          obtain ⟨hatq_25, dp_23, hPR_22, hres_24⟩ := hw_20
          have hres_24 := hres_24 _ rfl
          have hpr_26 := PR.tr hpr1 hPR_22
          refine lv_istore (lv' := [(4, .int z_21), (2, .int hh), (3, .int la), (0, .ref h0), (1, .int ib)]) hx hb dX10_steps_39 hl (by decide) rfl (fun ls hl => ?_)
          refine lv_iload hx hb dX10_steps_41 (lv_at hl 0 rfl) ?_
          refine lv_iconst (v := (-1)) hx hb dX10_steps_43 (by decide) ?_
          refine lv_icmp_ne (tgt := 50) hx hb dX10_steps_44 (by decide) (fun c_27 => ?_) (fun c_27 => ?_)
          · have nc_27 := ne_i c_27
            have lc_27 : ((-1) : Int32).toInt = -1 := by decide
            obtain ⟨⟨qk, hk1, hk2, hk3⟩, hlt⟩ := hres_24.resolve_left (fun h9 => c_27 h9.1)
            have h300 := hPR_22.2.1.2.1
            refine lv_iload_n hx hb dX10_steps_50 rfl (lv_at hl 2 rfl) ?_
            refine lv_iconst (v := (-1)) hx hb dX10_steps_51 (by decide) ?_
            refine lv_icmp_ne (tgt := 61) hx hb dX10_steps_52 (by decide) (fun c_28 => ?_) (fun c_28 => ?_)
            · have nc_28 := ne_i c_28
              have lc_28 : ((-1) : Int32).toInt = -1 := by decide
              obtain ⟨ql, hl1, hl2, hl3⟩ := hlk2.node c_28
              have hndl := PR.nd hPR_22 hl2 hl3
              have hkl : vp_in la 2700 := lk.in hpr1.2.1.2.2 hlk2 c_28
              refine lv_aload_n hx hb dX10_steps_61 rfl (lv_at hl 3 rfl) ?_
              refine va_get (D := (dC, dI)) (ci := 10) (v := .ref (b 33)) (C := RX10) (T := TX10) (N := 51) hx hb hts inw_X10_steps_10 hown hK hP 0 rfl rfl 33 (by decide) (hts (.fieldLink RX10 81 "VatHouseModel" "next" "[I") (by decide +kernel)) (fun _ h9 => h9) rfl dX10_steps_62 ?_
              refine lv_iload_n hx hb dX10_steps_65 rfl (lv_at hl 2 rfl) ?_
              refine lv_iload hx hb dX10_steps_66 (lv_at hl 0 rfl) ?_
              refine va_iast hx hb hK hP hD hS 23 22 rfl rfl (by assumption) dX10_steps_68 (fun H locs hP hD hS => ?_)
              have hP : va_P (dC, dI) vwCl (mw g h0 b (va_up (va_up (va_up (va_up (va_up i 22 x22_7) 23 x23_8) 24 x24_9) 25 x25_10) 36 x36_11) (va_up (va_up (va_up (va_up (va_up (va_up (va_up (va_up a 26 y26_12) 27 y27_13) 28 y28_14) 29 y29_15) 30 y30_16) 31 y31_17) 32 y32_18) 33 (upd y33_19 la.toNatClampNeg z_21))) _ := hP
              have hD : va_D _ (mw g h0 b (va_up (va_up (va_up (va_up (va_up i 22 x22_7) 23 x23_8) 24 x24_9) 25 x25_10) 36 x36_11) (va_up (va_up (va_up (va_up (va_up (va_up (va_up (va_up a 26 y26_12) 27 y27_13) 28 y28_14) 29 y29_15) 30 y30_16) 31 y31_17) 32 y32_18) 33 (upd y33_19 la.toNatClampNeg z_21))) := hD
              obtain ⟨f_29, ef_29⟩ : ∃ z, z = (upd y33_19 la.toNatClampNeg z_21) := ⟨_, rfl⟩
              rw [← ef_29] at hP hD
              have hpn := PN.next hPR_22.2.1 hl1 hndl.1 (Or.inr ⟨qk, hk1, hk2, hk3.trans hndl.2.symm⟩)
              rw [← ef_29] at hpn
              have hpr_30 := PR.tr hpr_26 hpn
              refine lv_iload hx hb dX10_steps_69 (lv_at hl 0 rfl) ?_
              refine lv_istore_n (lv' := [(3, .int z_21), (4, .int z_21), (2, .int hh), (0, .ref h0), (1, .int ib)]) hx hb dX10_steps_71 rfl hl (by decide) rfl (fun ls hl => ?_)
              refine lv_aload_n hx hb dX10_steps_72 rfl (lv_at hl 3 rfl) ?_
              refine M_V ⟨hx, hb, hml, hown, hts⟩ (m_X10_skip l dC dI sa g h0 b (va_up (va_up (va_up (va_up (va_up i 22 x22_7) 23 x23_8) 24 x24_9) 25 x25_10) 36 x36_11) (va_up (va_up (va_up (va_up (va_up (va_up (va_up (va_up a 26 y26_12) 27 y27_13) 28 y28_14) 29 y29_15) 30 y30_16) 31 y31_17) 32 y32_18) 33 f_29)  _ (show 0 ≤ x22_7.toInt ∧ x22_7.toInt ≤ (i 21).toInt ∧ (i 21).toInt ≤ 1500 from by omega)) (cwV 0 hts gX10_steps_X10_skip rfl rfl rfl (by decide +kernel) ⟨(by first | exact Nat.le_of_ble_eq_true rfl | (simp only [rm_X10_skip, rm_X10_steps]; omega)), (by first | exact Nat.le_of_ble_eq_true rfl | (simp only [rm_X10_skip, rm_X10_steps]; omega))⟩) hP hD hK hS hA hev rfl rfl rfl rfl hl.1 rfl (Nat.le_of_ble_eq_true rfl) dX10_steps_73 ⟨(by first | exact Nat.le_of_ble_eq_true rfl | (simp only [rm_X10_steps]; omega)), (by first | exact Nat.le_of_ble_eq_true rfl | (simp only [rm_X10_steps]; omega))⟩ (fun r u H locs hw hP hD hS => ?_)
              obtain ⟨x22_31, rfl⟩ : ∃ z, z = u := ⟨_, rfl⟩
              have hw : (r = none) ∧ (x22_7.toInt ≤ x22_31.toInt ∧ x22_31.toInt ≤ (i 21).toInt) := hw
              obtain ⟨rfl, hw_32⟩ := hw
              have hP : va_P (dC, dI) vwCl (mw g h0 b (va_up (va_up (va_up (va_up (va_up i 22 x22_31) 23 x23_8) 24 x24_9) 25 x25_10) 36 x36_11) (va_up (va_up (va_up (va_up (va_up (va_up (va_up (va_up a 26 y26_12) 27 y27_13) 28 y28_14) 29 y29_15) 30 y30_16) 31 y31_17) 32 y32_18) 33 f_29)) _ := hP
              have hD : va_D _ (mw g h0 b (va_up (va_up (va_up (va_up (va_up i 22 x22_31) 23 x23_8) 24 x24_9) 25 x25_10) 36 x36_11) (va_up (va_up (va_up (va_up (va_up (va_up (va_up (va_up a 26 y26_12) 27 y27_13) 28 y28_14) 29 y29_15) 30 y30_16) 31 y31_17) 32 y32_18) 33 f_29)) := hD
              refine W.eq (g2 := F0 m 76 ls []) rfl ?_
              refine lv_goto (tgt := 8) hx hb dX10_steps_76 (by decide) ?_
              exact ih hh z_21 x22_31 x23_8 x24_9 x25_10 x36_11 y26_12 y27_13 y28_14 y29_15 y30_16 y31_17 y32_18 f_29 _ _ _ (nx300 hm hlt h300) (by omega) (⟨hatq_25.2.1, fun h9 => hatq_25.2.2 (hfk.2 h9)⟩) (⟨dp_23, hpr_30, PR.lk hPR_22 hlk1, (Or.inr ⟨qk, hk1, hk2, hk3⟩)⟩) hP hD hS (lv_sub hl [2, 0, 3, 4] rfl)
            · have nc_28 := eq_i c_28
              have lc_28 : ((-1) : Int32).toInt = -1 := by decide
              refine lv_iload hx hb dX10_steps_55 (lv_at hl 0 rfl) ?_
              refine lv_istore_n (lv' := [(2, .int z_21), (4, .int z_21), (3, .int la), (0, .ref h0), (1, .int ib)]) hx hb dX10_steps_57 rfl hl (by decide) rfl (fun ls hl => ?_)
              refine lv_goto (tgt := 69) hx hb dX10_steps_58 (by decide) ?_
              refine lv_iload hx hb dX10_steps_69 (lv_at hl 1 rfl) ?_
              refine lv_istore_n (lv' := [(3, .int z_21), (2, .int z_21), (4, .int z_21), (0, .ref h0), (1, .int ib)]) hx hb dX10_steps_71 rfl hl (by decide) rfl (fun ls hl => ?_)
              refine lv_aload_n hx hb dX10_steps_72 rfl (lv_at hl 3 rfl) ?_
              refine M_V ⟨hx, hb, hml, hown, hts⟩ (m_X10_skip l dC dI sa g h0 b (va_up (va_up (va_up (va_up (va_up i 22 x22_7) 23 x23_8) 24 x24_9) 25 x25_10) 36 x36_11) (va_up (va_up (va_up (va_up (va_up (va_up (va_up (va_up a 26 y26_12) 27 y27_13) 28 y28_14) 29 y29_15) 30 y30_16) 31 y31_17) 32 y32_18) 33 y33_19)  _ (show 0 ≤ x22_7.toInt ∧ x22_7.toInt ≤ (i 21).toInt ∧ (i 21).toInt ≤ 1500 from by omega)) (cwV 0 hts gX10_steps_X10_skip rfl rfl rfl (by decide +kernel) ⟨(by first | exact Nat.le_of_ble_eq_true rfl | (simp only [rm_X10_skip, rm_X10_steps]; omega)), (by first | exact Nat.le_of_ble_eq_true rfl | (simp only [rm_X10_skip, rm_X10_steps]; omega))⟩) hP hD hK hS hA hev rfl rfl rfl rfl hl.1 rfl (Nat.le_of_ble_eq_true rfl) dX10_steps_73 ⟨(by first | exact Nat.le_of_ble_eq_true rfl | (simp only [rm_X10_steps]; omega)), (by first | exact Nat.le_of_ble_eq_true rfl | (simp only [rm_X10_steps]; omega))⟩ (fun r u H locs hw hP hD hS => ?_)
              obtain ⟨x22_33, rfl⟩ : ∃ z, z = u := ⟨_, rfl⟩
              have hw : (r = none) ∧ (x22_7.toInt ≤ x22_33.toInt ∧ x22_33.toInt ≤ (i 21).toInt) := hw
              obtain ⟨rfl, hw_34⟩ := hw
              have hP : va_P (dC, dI) vwCl (mw g h0 b (va_up (va_up (va_up (va_up (va_up i 22 x22_33) 23 x23_8) 24 x24_9) 25 x25_10) 36 x36_11) (va_up (va_up (va_up (va_up (va_up (va_up (va_up (va_up a 26 y26_12) 27 y27_13) 28 y28_14) 29 y29_15) 30 y30_16) 31 y31_17) 32 y32_18) 33 y33_19)) _ := hP
              have hD : va_D _ (mw g h0 b (va_up (va_up (va_up (va_up (va_up i 22 x22_33) 23 x23_8) 24 x24_9) 25 x25_10) 36 x36_11) (va_up (va_up (va_up (va_up (va_up (va_up (va_up (va_up a 26 y26_12) 27 y27_13) 28 y28_14) 29 y29_15) 30 y30_16) 31 y31_17) 32 y32_18) 33 y33_19)) := hD
              refine W.eq (g2 := F0 m 76 ls []) rfl ?_
              refine lv_goto (tgt := 8) hx hb dX10_steps_76 (by decide) ?_
              exact ih z_21 z_21 x22_33 x23_8 x24_9 x25_10 x36_11 y26_12 y27_13 y28_14 y29_15 y30_16 y31_17 y32_18 y33_19 _ _ _ (nx300 hm hlt h300) (by omega) (⟨hatq_25.2.1, fun h9 => hatq_25.2.2 (hfk.2 h9)⟩) (⟨dp_23, hpr_26, (Or.inr ⟨qk, hk1, hk2, hk3⟩), (Or.inr ⟨qk, hk1, hk2, hk3⟩)⟩) hP hD hS (lv_sub hl [1, 0, 3, 4] rfl)
          · have nc_27 := eq_i c_27
            have lc_27 : ((-1) : Int32).toInt = -1 := by decide
            have hf0 := (hres_24.resolve_right (fun h9 => by obtain ⟨⟨q9, g1, g2, g3⟩, g4⟩ := h9; exact (nq_ne g1 g2 hPR_22.2.1.2.1).1 c_27)).2
            refine lv_bipush (v := (-2)) hx hb dX10_steps_47 (by decide) ?_
            exact M_i hx hb hr hlocks (x22_7, x23_8, x24_9, x25_10, x36_11, y26_12, y27_13, y28_14, y29_15, y30_16, y31_17, y32_18, y33_19) hP hD hK hS ⟨⟨_, rfl⟩, ⟨⟨⟨by omega, by omega⟩, by omega, fun h9 => by omega⟩, dp_23, hpr_26, fun z9 h9 => Or.inl ⟨by cases h9; rfl, hf0⟩⟩⟩ (by first | exact Nat.le_of_ble_eq_true rfl | (simp only [rm_X10_steps]; omega)) (by first | exact Nat.le_of_ble_eq_true rfl | (simp only [rm_X10_steps]; omega)) dX10_steps_49
      · have nc_3 := ne_i c_3
        have lc_3 : (0 : Int32).toInt = 0 := by decide
        refine lv_aload_n hx hb dX10_steps_12 rfl (lv_at hl 2 rfl) ?_
        refine lv_bipush (v := 125) hx hb dX10_steps_13 (by decide) ?_
        refine M_V ⟨hx, hb, hml, hown, hts⟩ (m_X10_isSign l dC dI sa g h0 b (va_up (va_up (va_up (va_up (va_up i 22 l22) 23 l23) 24 l24) 25 l25) 36 l36) (va_up (va_up (va_up (va_up (va_up (va_up (va_up (va_up a 26 l26) 27 l27) 28 l28) 29 l29) 30 l30) 31 l31) 32 l32) 33 l33) (125 : Int32) _ (show 0 ≤ l22.toInt ∧ l22.toInt ≤ (i 21).toInt ∧ (i 21).toInt ≤ 1500 from by omega)) (cwV 1 hts gX10_steps_X10_isSign rfl rfl rfl (by decide +kernel) ⟨(by first | exact Nat.le_of_ble_eq_true rfl | (simp only [rm_X10_isSign, rm_X10_steps]; omega)), (by first | exact Nat.le_of_ble_eq_true rfl | (simp only [rm_X10_isSign, rm_X10_steps]; omega))⟩) hP hD hK hS hA hev rfl rfl rfl rfl hl.1 rfl (Nat.le_of_ble_eq_true rfl) dX10_steps_15 ⟨(by first | exact Nat.le_of_ble_eq_true rfl | (simp only [rm_X10_steps]; omega)), (by first | exact Nat.le_of_ble_eq_true rfl | (simp only [rm_X10_steps]; omega))⟩ (fun r u H locs hw hP hD hS => ?_)
        obtain ⟨x22_35, rfl⟩ : ∃ z, z = u := ⟨_, rfl⟩
        have hw : ((r = some (.int 0) ∧ (True)) ∨ (r = some (.int 1) ∧ (x22_35.toInt < (i 21).toInt))) ∧ (l22.toInt ≤ x22_35.toInt ∧ x22_35.toInt ≤ (i 21).toInt) := hw
        obtain ⟨⟨rfl, hz2_37⟩ | ⟨rfl, hz2_37⟩, hw_36⟩ := hw
        · have hP : va_P (dC, dI) vwCl (mw g h0 b (va_up (va_up (va_up (va_up (va_up i 22 x22_35) 23 l23) 24 l24) 25 l25) 36 l36) (va_up (va_up (va_up (va_up (va_up (va_up (va_up (va_up a 26 l26) 27 l27) 28 l28) 29 l29) 30 l30) 31 l31) 32 l32) 33 l33)) _ := hP
          have hD : va_D _ (mw g h0 b (va_up (va_up (va_up (va_up (va_up i 22 x22_35) 23 l23) 24 l24) 25 l25) 36 l36) (va_up (va_up (va_up (va_up (va_up (va_up (va_up (va_up a 26 l26) 27 l27) 28 l28) 29 l29) 30 l30) 31 l31) 32 l32) 33 l33)) := hD
          refine W.eq (g2 := F0 m 18 ls [.int 0]) rfl ?_
          refine lv_if_ne (tgt := 79) hx hb dX10_steps_18 (by decide) (fun c_38 => absurd c_38 (by decide)) (fun _ => ?_)
          refine lv_goto (tgt := 35) hx hb dX10_steps_21 (by decide) ?_
          refine lv_aload_n hx hb dX10_steps_35 rfl (lv_at hl 2 rfl) ?_
          refine M_V ⟨hx, hb, hml, hown, hts⟩ (m_X10_step l dC dI sa g h0 b j bl dp1 (va_up (va_up (va_up (va_up (va_up i 22 x22_35) 23 l23) 24 l24) 25 l25) 36 l36) (va_up (va_up (va_up (va_up (va_up (va_up (va_up (va_up a 26 l26) 27 l27) 28 l28) 29 l29) 30 l30) 31 l31) 32 l32) 33 l33)  _ (show 0 ≤ x22_35.toInt ∧ x22_35.toInt ≤ (i 21).toInt ∧ (i 21).toInt ≤ 1500 from by omega) (show 0 ≤ l23.toInt from by omega) hpr1.2.1 hBL hj IHS) (cwV 0 hts gX10_steps_X10_step rfl rfl rfl (by decide +kernel) ⟨(by first | exact Nat.le_of_ble_eq_true rfl | (simp only [rm_X10_step, rm_X10_steps]; omega)), (by first | exact Nat.le_of_ble_eq_true rfl | (simp only [rm_X10_step, rm_X10_steps]; omega))⟩) hP hD hK hS hA hev rfl rfl rfl rfl hl.1 rfl (Nat.le_of_ble_eq_true rfl) dX10_steps_36 ⟨(by first | exact Nat.le_of_ble_eq_true rfl | (simp only [rm_X10_steps]; omega)), (by first | exact Nat.le_of_ble_eq_true rfl | (simp only [rm_X10_steps]; omega))⟩ (fun r u H locs hw hP hD hS => ?_)
          obtain ⟨x22_39, x23_40, x24_41, x25_42, x36_43, y26_44, y27_45, y28_46, y29_47, y30_48, y31_49, y32_50, y33_51⟩ := u
          have hw : (∃ z : Int32, r = some (.int z)) ∧ (((x22_35.toInt ≤ x22_39.toInt ∧ x22_39.toInt ≤ (i 21).toInt) ∧ 0 ≤ x23_40.toInt ∧ (0 < l23.toInt → 0 < x23_40.toInt)) ∧ ∃ dpN : Nat → Nat, PR l36 x36_43 dp1 dpN l26 l27 l31 l32 l33 y26_44 y27_45 y31_49 y32_50 y33_51 ∧ (∀ z : Int32, r = some (.int z) → (z = -1 ∧ 0 < x23_40.toInt) ∨ (∃ q : Nat, z = nI q ∧ PV x36_43 q ∧ dpN q = bl) ∧ l36.toInt < x36_43.toInt)) := hw
          obtain ⟨⟨z_53, rfl⟩, hw_52⟩ := hw
          have hP : va_P (dC, dI) vwCl (mw g h0 b (va_up (va_up (va_up (va_up (va_up i 22 x22_39) 23 x23_40) 24 x24_41) 25 x25_42) 36 x36_43) (va_up (va_up (va_up (va_up (va_up (va_up (va_up (va_up a 26 y26_44) 27 y27_45) 28 y28_46) 29 y29_47) 30 y30_48) 31 y31_49) 32 y32_50) 33 y33_51)) _ := hP
          have hD : va_D _ (mw g h0 b (va_up (va_up (va_up (va_up (va_up i 22 x22_39) 23 x23_40) 24 x24_41) 25 x25_42) 36 x36_43) (va_up (va_up (va_up (va_up (va_up (va_up (va_up (va_up a 26 y26_44) 27 y27_45) 28 y28_46) 29 y29_47) 30 y30_48) 31 y31_49) 32 y32_50) 33 y33_51)) := hD
          refine W.eq (g2 := F0 m 39 ls [.int z_53]) rfl ?_
          obtain ⟨hatq_57, dp_55, hPR_54, hres_56⟩ := hw_52
          have hres_56 := hres_56 _ rfl
          have hpr_58 := PR.tr hpr1 hPR_54
          refine lv_istore (lv' := [(4, .int z_53), (2, .int hh), (3, .int la), (0, .ref h0), (1, .int ib)]) hx hb dX10_steps_39 hl (by decide) rfl (fun ls hl => ?_)
          refine lv_iload hx hb dX10_steps_41 (lv_at hl 0 rfl) ?_
          refine lv_iconst (v := (-1)) hx hb dX10_steps_43 (by decide) ?_
          refine lv_icmp_ne (tgt := 50) hx hb dX10_steps_44 (by decide) (fun c_59 => ?_) (fun c_59 => ?_)
          · have nc_59 := ne_i c_59
            have lc_59 : ((-1) : Int32).toInt = -1 := by decide
            obtain ⟨⟨qk, hk1, hk2, hk3⟩, hlt⟩ := hres_56.resolve_left (fun h9 => c_59 h9.1)
            have h300 := hPR_54.2.1.2.1
            refine lv_iload_n hx hb dX10_steps_50 rfl (lv_at hl 2 rfl) ?_
            refine lv_iconst (v := (-1)) hx hb dX10_steps_51 (by decide) ?_
            refine lv_icmp_ne (tgt := 61) hx hb dX10_steps_52 (by decide) (fun c_60 => ?_) (fun c_60 => ?_)
            · have nc_60 := ne_i c_60
              have lc_60 : ((-1) : Int32).toInt = -1 := by decide
              obtain ⟨ql, hl1, hl2, hl3⟩ := hlk2.node c_60
              have hndl := PR.nd hPR_54 hl2 hl3
              have hkl : vp_in la 2700 := lk.in hpr1.2.1.2.2 hlk2 c_60
              refine lv_aload_n hx hb dX10_steps_61 rfl (lv_at hl 3 rfl) ?_
              refine va_get (D := (dC, dI)) (ci := 10) (v := .ref (b 33)) (C := RX10) (T := TX10) (N := 51) hx hb hts inw_X10_steps_10 hown hK hP 0 rfl rfl 33 (by decide) (hts (.fieldLink RX10 81 "VatHouseModel" "next" "[I") (by decide +kernel)) (fun _ h9 => h9) rfl dX10_steps_62 ?_
              refine lv_iload_n hx hb dX10_steps_65 rfl (lv_at hl 2 rfl) ?_
              refine lv_iload hx hb dX10_steps_66 (lv_at hl 0 rfl) ?_
              refine va_iast hx hb hK hP hD hS 23 22 rfl rfl (by assumption) dX10_steps_68 (fun H locs hP hD hS => ?_)
              have hP : va_P (dC, dI) vwCl (mw g h0 b (va_up (va_up (va_up (va_up (va_up i 22 x22_39) 23 x23_40) 24 x24_41) 25 x25_42) 36 x36_43) (va_up (va_up (va_up (va_up (va_up (va_up (va_up (va_up a 26 y26_44) 27 y27_45) 28 y28_46) 29 y29_47) 30 y30_48) 31 y31_49) 32 y32_50) 33 (upd y33_51 la.toNatClampNeg z_53))) _ := hP
              have hD : va_D _ (mw g h0 b (va_up (va_up (va_up (va_up (va_up i 22 x22_39) 23 x23_40) 24 x24_41) 25 x25_42) 36 x36_43) (va_up (va_up (va_up (va_up (va_up (va_up (va_up (va_up a 26 y26_44) 27 y27_45) 28 y28_46) 29 y29_47) 30 y30_48) 31 y31_49) 32 y32_50) 33 (upd y33_51 la.toNatClampNeg z_53))) := hD
              obtain ⟨f_61, ef_61⟩ : ∃ z, z = (upd y33_51 la.toNatClampNeg z_53) := ⟨_, rfl⟩
              rw [← ef_61] at hP hD
              have hpn := PN.next hPR_54.2.1 hl1 hndl.1 (Or.inr ⟨qk, hk1, hk2, hk3.trans hndl.2.symm⟩)
              rw [← ef_61] at hpn
              have hpr_62 := PR.tr hpr_58 hpn
              refine lv_iload hx hb dX10_steps_69 (lv_at hl 0 rfl) ?_
              refine lv_istore_n (lv' := [(3, .int z_53), (4, .int z_53), (2, .int hh), (0, .ref h0), (1, .int ib)]) hx hb dX10_steps_71 rfl hl (by decide) rfl (fun ls hl => ?_)
              refine lv_aload_n hx hb dX10_steps_72 rfl (lv_at hl 3 rfl) ?_
              refine M_V ⟨hx, hb, hml, hown, hts⟩ (m_X10_skip l dC dI sa g h0 b (va_up (va_up (va_up (va_up (va_up i 22 x22_39) 23 x23_40) 24 x24_41) 25 x25_42) 36 x36_43) (va_up (va_up (va_up (va_up (va_up (va_up (va_up (va_up a 26 y26_44) 27 y27_45) 28 y28_46) 29 y29_47) 30 y30_48) 31 y31_49) 32 y32_50) 33 f_61)  _ (show 0 ≤ x22_39.toInt ∧ x22_39.toInt ≤ (i 21).toInt ∧ (i 21).toInt ≤ 1500 from by omega)) (cwV 0 hts gX10_steps_X10_skip rfl rfl rfl (by decide +kernel) ⟨(by first | exact Nat.le_of_ble_eq_true rfl | (simp only [rm_X10_skip, rm_X10_steps]; omega)), (by first | exact Nat.le_of_ble_eq_true rfl | (simp only [rm_X10_skip, rm_X10_steps]; omega))⟩) hP hD hK hS hA hev rfl rfl rfl rfl hl.1 rfl (Nat.le_of_ble_eq_true rfl) dX10_steps_73 ⟨(by first | exact Nat.le_of_ble_eq_true rfl | (simp only [rm_X10_steps]; omega)), (by first | exact Nat.le_of_ble_eq_true rfl | (simp only [rm_X10_steps]; omega))⟩ (fun r u H locs hw hP hD hS => ?_)
              obtain ⟨x22_63, rfl⟩ : ∃ z, z = u := ⟨_, rfl⟩
              have hw : (r = none) ∧ (x22_39.toInt ≤ x22_63.toInt ∧ x22_63.toInt ≤ (i 21).toInt) := hw
              obtain ⟨rfl, hw_64⟩ := hw
              have hP : va_P (dC, dI) vwCl (mw g h0 b (va_up (va_up (va_up (va_up (va_up i 22 x22_63) 23 x23_40) 24 x24_41) 25 x25_42) 36 x36_43) (va_up (va_up (va_up (va_up (va_up (va_up (va_up (va_up a 26 y26_44) 27 y27_45) 28 y28_46) 29 y29_47) 30 y30_48) 31 y31_49) 32 y32_50) 33 f_61)) _ := hP
              have hD : va_D _ (mw g h0 b (va_up (va_up (va_up (va_up (va_up i 22 x22_63) 23 x23_40) 24 x24_41) 25 x25_42) 36 x36_43) (va_up (va_up (va_up (va_up (va_up (va_up (va_up (va_up a 26 y26_44) 27 y27_45) 28 y28_46) 29 y29_47) 30 y30_48) 31 y31_49) 32 y32_50) 33 f_61)) := hD
              refine W.eq (g2 := F0 m 76 ls []) rfl ?_
              refine lv_goto (tgt := 8) hx hb dX10_steps_76 (by decide) ?_
              exact ih hh z_53 x22_63 x23_40 x24_41 x25_42 x36_43 y26_44 y27_45 y28_46 y29_47 y30_48 y31_49 y32_50 f_61 _ _ _ (nx300 hm hlt h300) (by omega) (⟨hatq_57.2.1, fun h9 => hatq_57.2.2 (hfk.2 h9)⟩) (⟨dp_55, hpr_62, PR.lk hPR_54 hlk1, (Or.inr ⟨qk, hk1, hk2, hk3⟩)⟩) hP hD hS (lv_sub hl [2, 0, 3, 4] rfl)
            · have nc_60 := eq_i c_60
              have lc_60 : ((-1) : Int32).toInt = -1 := by decide
              refine lv_iload hx hb dX10_steps_55 (lv_at hl 0 rfl) ?_
              refine lv_istore_n (lv' := [(2, .int z_53), (4, .int z_53), (3, .int la), (0, .ref h0), (1, .int ib)]) hx hb dX10_steps_57 rfl hl (by decide) rfl (fun ls hl => ?_)
              refine lv_goto (tgt := 69) hx hb dX10_steps_58 (by decide) ?_
              refine lv_iload hx hb dX10_steps_69 (lv_at hl 1 rfl) ?_
              refine lv_istore_n (lv' := [(3, .int z_53), (2, .int z_53), (4, .int z_53), (0, .ref h0), (1, .int ib)]) hx hb dX10_steps_71 rfl hl (by decide) rfl (fun ls hl => ?_)
              refine lv_aload_n hx hb dX10_steps_72 rfl (lv_at hl 3 rfl) ?_
              refine M_V ⟨hx, hb, hml, hown, hts⟩ (m_X10_skip l dC dI sa g h0 b (va_up (va_up (va_up (va_up (va_up i 22 x22_39) 23 x23_40) 24 x24_41) 25 x25_42) 36 x36_43) (va_up (va_up (va_up (va_up (va_up (va_up (va_up (va_up a 26 y26_44) 27 y27_45) 28 y28_46) 29 y29_47) 30 y30_48) 31 y31_49) 32 y32_50) 33 y33_51)  _ (show 0 ≤ x22_39.toInt ∧ x22_39.toInt ≤ (i 21).toInt ∧ (i 21).toInt ≤ 1500 from by omega)) (cwV 0 hts gX10_steps_X10_skip rfl rfl rfl (by decide +kernel) ⟨(by first | exact Nat.le_of_ble_eq_true rfl | (simp only [rm_X10_skip, rm_X10_steps]; omega)), (by first | exact Nat.le_of_ble_eq_true rfl | (simp only [rm_X10_skip, rm_X10_steps]; omega))⟩) hP hD hK hS hA hev rfl rfl rfl rfl hl.1 rfl (Nat.le_of_ble_eq_true rfl) dX10_steps_73 ⟨(by first | exact Nat.le_of_ble_eq_true rfl | (simp only [rm_X10_steps]; omega)), (by first | exact Nat.le_of_ble_eq_true rfl | (simp only [rm_X10_steps]; omega))⟩ (fun r u H locs hw hP hD hS => ?_)
              obtain ⟨x22_65, rfl⟩ : ∃ z, z = u := ⟨_, rfl⟩
              have hw : (r = none) ∧ (x22_39.toInt ≤ x22_65.toInt ∧ x22_65.toInt ≤ (i 21).toInt) := hw
              obtain ⟨rfl, hw_66⟩ := hw
              have hP : va_P (dC, dI) vwCl (mw g h0 b (va_up (va_up (va_up (va_up (va_up i 22 x22_65) 23 x23_40) 24 x24_41) 25 x25_42) 36 x36_43) (va_up (va_up (va_up (va_up (va_up (va_up (va_up (va_up a 26 y26_44) 27 y27_45) 28 y28_46) 29 y29_47) 30 y30_48) 31 y31_49) 32 y32_50) 33 y33_51)) _ := hP
              have hD : va_D _ (mw g h0 b (va_up (va_up (va_up (va_up (va_up i 22 x22_65) 23 x23_40) 24 x24_41) 25 x25_42) 36 x36_43) (va_up (va_up (va_up (va_up (va_up (va_up (va_up (va_up a 26 y26_44) 27 y27_45) 28 y28_46) 29 y29_47) 30 y30_48) 31 y31_49) 32 y32_50) 33 y33_51)) := hD
              refine W.eq (g2 := F0 m 76 ls []) rfl ?_
              refine lv_goto (tgt := 8) hx hb dX10_steps_76 (by decide) ?_
              exact ih z_53 z_53 x22_65 x23_40 x24_41 x25_42 x36_43 y26_44 y27_45 y28_46 y29_47 y30_48 y31_49 y32_50 y33_51 _ _ _ (nx300 hm hlt h300) (by omega) (⟨hatq_57.2.1, fun h9 => hatq_57.2.2 (hfk.2 h9)⟩) (⟨dp_55, hpr_58, (Or.inr ⟨qk, hk1, hk2, hk3⟩), (Or.inr ⟨qk, hk1, hk2, hk3⟩)⟩) hP hD hS (lv_sub hl [1, 0, 3, 4] rfl)
          · have nc_59 := eq_i c_59
            have lc_59 : ((-1) : Int32).toInt = -1 := by decide
            have hf0 := (hres_56.resolve_right (fun h9 => by obtain ⟨⟨q9, g1, g2, g3⟩, g4⟩ := h9; exact (nq_ne g1 g2 hPR_54.2.1.2.1).1 c_59)).2
            refine lv_bipush (v := (-2)) hx hb dX10_steps_47 (by decide) ?_
            exact M_i hx hb hr hlocks (x22_39, x23_40, x24_41, x25_42, x36_43, y26_44, y27_45, y28_46, y29_47, y30_48, y31_49, y32_50, y33_51) hP hD hK hS ⟨⟨_, rfl⟩, ⟨⟨⟨by omega, by omega⟩, by omega, fun h9 => by omega⟩, dp_55, hpr_58, fun z9 h9 => Or.inl ⟨by cases h9; rfl, hf0⟩⟩⟩ (by first | exact Nat.le_of_ble_eq_true rfl | (simp only [rm_X10_steps]; omega)) (by first | exact Nat.le_of_ble_eq_true rfl | (simp only [rm_X10_steps]; omega)) dX10_steps_49
        · have hP : va_P (dC, dI) vwCl (mw g h0 b (va_up (va_up (va_up (va_up (va_up i 22 x22_35) 23 l23) 24 l24) 25 l25) 36 l36) (va_up (va_up (va_up (va_up (va_up (va_up (va_up (va_up a 26 l26) 27 l27) 28 l28) 29 l29) 30 l30) 31 l31) 32 l32) 33 l33)) _ := hP
          have hD : va_D _ (mw g h0 b (va_up (va_up (va_up (va_up (va_up i 22 x22_35) 23 l23) 24 l24) 25 l25) 36 l36) (va_up (va_up (va_up (va_up (va_up (va_up (va_up (va_up a 26 l26) 27 l27) 28 l28) 29 l29) 30 l30) 31 l31) 32 l32) 33 l33)) := hD
          refine W.eq (g2 := F0 m 18 ls [.int 1]) rfl ?_
          refine lv_if_ne (tgt := 79) hx hb dX10_steps_18 (by decide) (fun _ => ?_) (fun c_67 => absurd c_67 (by decide))
          refine lv_iload_n hx hb dX10_steps_79 rfl (lv_at hl 3 rfl) ?_
          refine lv_if_eq (tgt := 93) hx hb dX10_steps_80 (by decide) (fun c_68 => ?_) (fun c_68 => ?_)
          · have nc_68 := eq_i c_68
            have lc_68 : (0 : Int32).toInt = 0 := by decide
            refine lv_iload_n hx hb dX10_steps_93 rfl (lv_at hl 0 rfl) ?_
            exact M_i hx hb hr hlocks (x22_35, l23, l24, l25, l36, l26, l27, l28, l29, l30, l31, l32, l33) hP hD hK hS ⟨⟨_, rfl⟩, ⟨⟨⟨by omega, by omega⟩, by omega, fun h9 => by omega⟩, dp1, hpr1, fun z9 h9 => by cases h9; exact Or.inr hlk1⟩⟩ (by first | exact Nat.le_of_ble_eq_true rfl | (simp only [rm_X10_steps]; omega)) (by first | exact Nat.le_of_ble_eq_true rfl | (simp only [rm_X10_steps]; omega)) dX10_steps_94
          · have nc_68 := ne_i c_68
            have lc_68 : (0 : Int32).toInt = 0 := by decide
            refine lv_aload_n hx hb dX10_steps_83 rfl (lv_at hl 2 rfl) ?_
            refine lv_dup hx hb dX10_steps_84 rfl ?_
            refine va_get (D := (dC, dI)) (ci := 10) (v := .int x22_35) (C := RX10) (T := TX10) (N := 51) hx hb hts inw_X10_steps_10 hown hK hP 0 rfl rfl 22 (by decide) (hts (.fieldLink RX10 168 "VatHouseModel" "at" "I") (by decide +kernel)) (fun _ h9 => h9) rfl dX10_steps_85 ?_
            refine lv_iconst (v := 1) hx hb dX10_steps_88 (by decide) ?_
            refine lv_iadd hx hb dX10_steps_89 ?_
            refine lv_topi (fun z_69 ez_69 => ?_)
            have tz9 := incz (y := i 21) (by rw [Int32.le_iff_toInt_le]; omega) ez_69
            refine va_put (D := (dC, dI)) (ci := 10) (v := .int z_69) (ty := .int) (C := RX10) (T := TX10) (N := 51) hx hb hts inw_X10_steps_10 tyX10 tyX10_ok nmX10 hown hK hP hD hS 0 rfl rfl 22 (by decide) (hts (.fieldLink RX10 168 "VatHouseModel" "at" "I") (by decide +kernel)) (fun _ h9 => h9) rfl (by decide +kernel) rfl rfl (Nat.le_of_ble_eq_true rfl) dX10_steps_90 (fun H locs hP hD hS => ?_)
            have hP : va_P (dC, dI) vwCl (mw g h0 b (va_up (va_up (va_up (va_up (va_up i 22 z_69) 23 l23) 24 l24) 25 l25) 36 l36) (va_up (va_up (va_up (va_up (va_up (va_up (va_up (va_up a 26 l26) 27 l27) 28 l28) 29 l29) 30 l30) 31 l31) 32 l32) 33 l33)) _ := hP
            have hD : va_D _ (mw g h0 b (va_up (va_up (va_up (va_up (va_up i 22 z_69) 23 l23) 24 l24) 25 l25) 36 l36) (va_up (va_up (va_up (va_up (va_up (va_up (va_up (va_up a 26 l26) 27 l27) 28 l28) 29 l29) 30 l30) 31 l31) 32 l32) 33 l33)) := hD
            refine lv_iload_n hx hb dX10_steps_93 rfl (lv_at hl 0 rfl) ?_
            exact M_i hx hb hr hlocks (z_69, l23, l24, l25, l36, l26, l27, l28, l29, l30, l31, l32, l33) hP hD hK hS ⟨⟨_, rfl⟩, ⟨⟨⟨by omega, by omega⟩, by omega, fun h9 => by omega⟩, dp1, hpr1, fun z9 h9 => by cases h9; exact Or.inr hlk1⟩⟩ (by first | exact Nat.le_of_ble_eq_true rfl | (simp only [rm_X10_steps]; omega)) (by first | exact Nat.le_of_ble_eq_true rfl | (simp only [rm_X10_steps]; omega)) dX10_steps_94
  exact lp ((300 - (i 36).toInt).toNat + 1) ((-1) : Int32) ((-1) : Int32) x22_1 (i 23) (i 24) (i 25) (i 36) (a 26) (a 27) (a 28) (a 29) (a 30) (a 31) (a 32) (a 33) _ _ _ (by omega) (by omega) (⟨by omega, fun h9 => by omega⟩) (⟨dp, PR.rf hPN, Or.inl rfl, Or.inl rfl⟩) hP hD hS (lv_sub hl [1, 0, 2, 3] rfl)

theorem X10_steps_all (l : Launch) (dC : Nat → ClassId) (dI : Nat → Nat → Nat) (sa : Nat → Nat) (g : Nat → Nat) (h0 : Nat) (b : Nat → Nat) : ∀ (j bl : Nat), bl + j = 8 → ∀ (dp : Nat → Nat) (i : Nat → Int32) (a : Nat → Nat → Int32) (ib : Int32) (sz : Nat) (hSI : 0 ≤ (i 22).toInt ∧ (i 22).toInt ≤ (i 21).toInt ∧ (i 21).toInt ≤ 1500) (hFK : 0 ≤ (i 23).toInt) (hPN : PN (i 36) dp (a 26) (a 27) (a 31) (a 32) (a 33)) (hBL : (i 38) = nI bl), CT l dC dI sa yX10_steps wsX10_steps (rm_X10_steps j bl dp) [.ref h0, .int ib] (mw g h0 b i a) (tyM g) sz (fun (r : Option Value) (u : Int32 × Int32 × Int32 × Int32 × Int32 × (Nat → Int32) × (Nat → Int32) × (Nat → Int32) × (Nat → Int32) × (Nat → Int32) × (Nat → Int32) × (Nat → Int32) × (Nat → Int32)) => match u with | (x22, x23, x24, x25, x36, y26, y27, y28, y29, y30, y31, y32, y33) => (∃ z : Int32, r = some (.int z)) ∧ ((((i 22).toInt ≤ x22.toInt ∧ x22.toInt ≤ (i 21).toInt) ∧ 0 ≤ x23.toInt ∧ (0 < (i 23).toInt → 0 < x23.toInt)) ∧ ∃ dpN : Nat → Nat, PR (i 36) x36 dp dpN (a 26) (a 27) (a 31) (a 32) (a 33) y26 y27 y31 y32 y33 ∧ (∀ z : Int32, r = some (.int z) → (z = -2 ∧ 0 < x23.toInt) ∨ lk (PV x36) dpN bl z))) (fun (u : Int32 × Int32 × Int32 × Int32 × Int32 × (Nat → Int32) × (Nat → Int32) × (Nat → Int32) × (Nat → Int32) × (Nat → Int32) × (Nat → Int32) × (Nat → Int32) × (Nat → Int32)) => match u with | (x22, x23, x24, x25, x36, y26, y27, y28, y29, y30, y31, y32, y33) => mw g h0 b (va_up (va_up (va_up (va_up (va_up i 22 x22) 23 x23) 24 x24) 25 x25) 36 x36) (va_up (va_up (va_up (va_up (va_up (va_up (va_up (va_up a 26 y26) 27 y27) 28 y28) 29 y29) 30 y30) 31 y31) 32 y32) 33 y33)) (fun _ => []) 0 0 := by
  intro j
  induction j with
  | zero => exact fun bl hj dp i a ib sz hSI hFK hPN hBL => m_X10_steps l dC dI sa g h0 b 0 bl dp i a ib sz hSI hFK hPN hBL hj (fun j' d' _ h => absurd h (by omega))
  | succ j ih =>
    exact fun bl hj dp i a ib sz hSI hFK hPN hBL => m_X10_steps l dC dI sa g h0 b (j + 1) bl dp i a ib sz hSI hFK hPN hBL hj (fun j' d' hd' h => by
      obtain rfl : j = j' := by omega
      exact ih d' hd')
