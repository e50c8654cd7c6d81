noncomputable abbrev rm_X10_dippedE : Room := { frames := 2, cells := 0, slots := 0, locals := 49 }
set_option maxHeartbeats 4000000 in
set_option maxRecDepth 100000 in
theorem m_X10_dippedE (l : Launch) (dC : Nat → ClassId) (dI : Nat → Nat → Nat) (sa : Nat → Nat) (g : Nat → Nat) (h0 : Nat) (b : Nat → Nat) (i : Nat → Int32) (a : Nat → Nat → Int32) (ck : Int32) (vv : Int32) (mm : Int32) (sz : Nat) (hc30 : vp_in ck 30) (hv6 : vp_in vv 6) (hwt : 1 ≤ ((a 13) ck.toNatClampNeg).toInt ∧ ((a 13) ck.toNatClampNeg).toInt ≤ 50) : CT l dC dI sa yX10_dipped wsX10_dipped rm_X10_dippedE [.ref h0, .int ck, .int vv, .int mm] (mw g h0 b i a) (tyM g) sz (fun (r : Option Value) (u : Int32 × Int32 × (Nat → Int32) × (Nat → Int32) × (Nat → Int32) × (Nat → Int32) × (Nat → Int32) × (Nat → Int32) × (Nat → Int32) × (Nat → Int32) × (Nat → Int32) × (Nat → Int32)) => match u with | (x41, x42, y4, y5, y6, y7, y8, y9, y10, y14, y17, y18) => (∃ z : Int32, r = some (.int z) ∧ (z = (dpA (i, a) ck.toNatClampNeg vv.toNatClampNeg mm).1)) ∧ (x41 = (dpA (i, a) ck.toNatClampNeg vv.toNatClampNeg mm).2.1 41 ∧ x42 = (dpA (i, a) ck.toNatClampNeg vv.toNatClampNeg mm).2.1 42 ∧ y4 = (dpA (i, a) ck.toNatClampNeg vv.toNatClampNeg mm).2.2 4 ∧ y5 = (dpA (i, a) ck.toNatClampNeg vv.toNatClampNeg mm).2.2 5 ∧ y6 = (dpA (i, a) ck.toNatClampNeg vv.toNatClampNeg mm).2.2 6 ∧ y7 = (dpA (i, a) ck.toNatClampNeg vv.toNatClampNeg mm).2.2 7 ∧ y8 = (dpA (i, a) ck.toNatClampNeg vv.toNatClampNeg mm).2.2 8 ∧ y9 = (dpA (i, a) ck.toNatClampNeg vv.toNatClampNeg mm).2.2 9 ∧ y10 = (dpA (i, a) ck.toNatClampNeg vv.toNatClampNeg mm).2.2 10 ∧ y14 = (dpA (i, a) ck.toNatClampNeg vv.toNatClampNeg mm).2.2 14 ∧ y17 = (dpA (i, a) ck.toNatClampNeg vv.toNatClampNeg mm).2.2 17 ∧ y18 = (dpA (i, a) ck.toNatClampNeg vv.toNatClampNeg mm).2.2 18)) (fun (u : Int32 × Int32 × (Nat → Int32) × (Nat → Int32) × (Nat → Int32) × (Nat → Int32) × (Nat → Int32) × (Nat → Int32) × (Nat → Int32) × (Nat → Int32) × (Nat → Int32) × (Nat → Int32)) => match u with | (x41, x42, y4, y5, y6, y7, y8, y9, y10, y14, y17, y18) => mw g h0 b (va_up (va_up i 41 x41) 42 x42) (va_up (va_up (va_up (va_up (va_up (va_up (va_up (va_up (va_up (va_up a 4 y4) 5 y5) 6 y6) 7 y7) 8 y8) 9 y9) 10 y10) 14 y14) 17 y17) 18 y18)) (fun _ => []) 0 0 := by
  refine CT.start (cc := cX10_dipped) (maxL := 4) (ret := (some .int)) (by decide) rfl (Nat.le_of_ble_eq_true rfl) ?_
  intro p e s m below meth c ls hst hP hK hD hev hS hl
  obtain ⟨hx, hb, hr, hml, hts, hown, hlocks, hin⟩ := hst
  have hown : s.vm.findClass RX10 = some m.cls := hown
  have hA : ∀ q : Nat, s.heap.size ≤ q → va_A (mw g h0 b i a) s.heap.size q := fun _ h => Or.inr h
  have hl : lv_has ls 4 [(0, .ref h0), (1, .int ck), (2, .int vv), (3, .int mm)] := hl
  refine lv_aload_n hx hb dX10_dipped_0 rfl (lv_at hl 0 rfl) ?_
  refine va_get (D := (dC, dI)) (ci := 10) (v := .ref (b 7)) (C := RX10) (T := TX10) (N := 51) hx hb hts inw_X10_dipped_10 hown hK hP 0 rfl rfl 7 (by decide) (hts (.fieldLink RX10 19 "VatHouseModel" "state" "[I") (List.mem_of_getElem? (i := 1) (by exact rfl))) (fun _ h9 => h9) rfl dX10_dipped_1 ?_
  refine lv_iload_n hx hb dX10_dipped_4 rfl (lv_at hl 2 rfl) ?_
  refine va_iald hx hb hK hP 4 3 rfl rfl (by assumption) dX10_dipped_5 ?_
  refine lv_topi (fun z_1 ez_1 => ?_)
  have ez_1 : z_1 = (a 7) vv.toNatClampNeg := ez_1
  refine lv_iconst (v := 2) hx hb dX10_dipped_6 (by decide) ?_
  refine lv_icmp_ne (tgt := 12) hx hb dX10_dipped_7 (by decide) (fun c_2 => ?_) (fun c_2 => ?_)
  · have nc_2 := ne_i c_2
    have lc_2 : (2 : Int32).toInt = 2 := by decide
    refine lv_aload_n hx hb dX10_dipped_12 rfl (lv_at hl 0 rfl) ?_
    refine lv_iload_n hx hb dX10_dipped_13 rfl (lv_at hl 1 rfl) ?_
    refine lv_iload_n hx hb dX10_dipped_14 rfl (lv_at hl 2 rfl) ?_
    refine lv_iload_n hx hb dX10_dipped_15 rfl (lv_at hl 3 rfl) ?_
    refine M_V ⟨hx, hb, hml, hown, hts⟩ (m_X10_movesE l dC dI sa g h0 b i a ck vv mm _ hc30 hv6 hwt) (cwV 3 hts gX10_dipped_X10_moves rfl rfl rfl (by decide +kernel) ⟨Nat.le_of_ble_eq_true rfl, Nat.le_of_ble_eq_true rfl⟩) hP hD hK hS hA hev rfl rfl rfl rfl hl.1 rfl (Nat.le_of_ble_eq_true rfl) dX10_dipped_16 ⟨(Nat.le_of_ble_eq_true rfl), (Nat.le_of_ble_eq_true rfl)⟩ (fun r u H locs hw hP hD hS => ?_)
    have hw : (∃ z : Int32, r = some (.int z) ∧ (z = mvV ((a 4) vv.toNatClampNeg) ((a 7) vv.toNatClampNeg) ((a 13) ck.toNatClampNeg) ((a 14) ck.toNatClampNeg) ((a 15) ck.toNatClampNeg) mm)) ∧ (True) := hw
    obtain ⟨⟨z_4, rfl, hz_z_4⟩, hw_3⟩ := hw
    have hP : va_P (dC, dI) vwCl (mw g h0 b i a) _ := hP
    have hD : va_D _ (mw g h0 b i a) := hD
    refine W.eq (g2 := F0 m 19 ls [.int z_4]) rfl ?_
    refine lv_if_ne (tgt := 24) hx hb dX10_dipped_19 (by decide) (fun c_5 => ?_) (fun c_5 => ?_)
    · have nc_5 := ne_i c_5
      have lc_5 : (0 : Int32).toInt = 0 := by decide
      refine lv_aload_n hx hb dX10_dipped_24 rfl (lv_at hl 0 rfl) ?_
      refine lv_dup hx hb dX10_dipped_25 rfl ?_
      refine va_get (D := (dC, dI)) (ci := 10) (v := .int (i 42)) (C := RX10) (T := TX10) (N := 51) hx hb hts inw_X10_dipped_10 hown hK hP 0 rfl rfl 42 (by decide) (hts (.fieldLink RX10 310 "VatHouseModel" "ranGrains" "I") (List.mem_of_getElem? (i := 2) (by exact rfl))) (fun _ h9 => h9) rfl dX10_dipped_26 ?_
      refine lv_aload_n hx hb dX10_dipped_29 rfl (lv_at hl 0 rfl) ?_
      refine lv_iload_n hx hb dX10_dipped_30 rfl (lv_at hl 1 rfl) ?_
      refine lv_iload_n hx hb dX10_dipped_31 rfl (lv_at hl 2 rfl) ?_
      refine lv_iload_n hx hb dX10_dipped_32 rfl (lv_at hl 3 rfl) ?_
      refine M_V ⟨hx, hb, hml, hown, hts⟩ (m_X10_dipsE l dC dI sa g h0 b i a ck vv mm _ hc30 hv6 hwt) (cwV 3 hts gX10_dipped_X10_dips rfl rfl rfl (by decide +kernel) ⟨Nat.le_of_ble_eq_true rfl, Nat.le_of_ble_eq_true rfl⟩) hP hD hK hS hA hev rfl rfl rfl rfl hl.1 rfl (Nat.le_of_ble_eq_true rfl) dX10_dipped_33 ⟨(Nat.le_of_ble_eq_true rfl), (Nat.le_of_ble_eq_true rfl)⟩ (fun r u H locs hw hP hD hS => ?_)
      obtain ⟨y4_6, y5_7, y6_8, y7_9, y8_10, y9_11, y10_12, y14_13, y17_14, y18_15⟩ := u
      have hw : (∃ z : Int32, r = some (.int z) ∧ (z = mvV ((a 4) vv.toNatClampNeg) ((a 7) vv.toNatClampNeg) ((a 13) ck.toNatClampNeg) ((a 14) ck.toNatClampNeg) ((a 15) ck.toNatClampNeg) mm)) ∧ (y4_6 = upd (a 4) vv.toNatClampNeg (((a 4) vv.toNatClampNeg) - (mvV ((a 4) vv.toNatClampNeg) ((a 7) vv.toNatClampNeg) ((a 13) ck.toNatClampNeg) ((a 14) ck.toNatClampNeg) ((a 15) ck.toNatClampNeg) mm)) ∧ y5_7 = upd (a 5) vv.toNatClampNeg (skF ((a 5) vv.toNatClampNeg) mm) ∧ y6_8 = upd (a 6) vv.toNatClampNeg (((a 6) vv.toNatClampNeg) + mm) ∧ y7_9 = upd (a 7) vv.toNatClampNeg (skS ((a 6) vv.toNatClampNeg) ((a 5) vv.toNatClampNeg) ((a 7) vv.toNatClampNeg) mm) ∧ y8_10 = upd (a 8) vv.toNatClampNeg (((a 8) vv.toNatClampNeg) + 1) ∧ y9_11 = upd (a 9) vv.toNatClampNeg (((a 9) vv.toNatClampNeg) ||| (1 <<< (ck &&& 31))) ∧ y10_12 = upd (a 10) vv.toNatClampNeg (1) ∧ y14_13 = upd (a 14) ck.toNatClampNeg (((a 14) ck.toNatClampNeg) + (mvV ((a 4) vv.toNatClampNeg) ((a 7) vv.toNatClampNeg) ((a 13) ck.toNatClampNeg) ((a 14) ck.toNatClampNeg) ((a 15) ck.toNatClampNeg) mm)) ∧ y17_14 = upd (a 17) ck.toNatClampNeg (((a 17) ck.toNatClampNeg) ||| (1 <<< (vv &&& 31))) ∧ y18_15 = upd (a 18) ck.toNatClampNeg (((a 18) ck.toNatClampNeg) + 1)) := hw
      obtain ⟨⟨z_17, rfl, hz_z_17⟩, hw_16⟩ := hw
      have hP : va_P (dC, dI) vwCl (mw g h0 b i (va_up (va_up (va_up (va_up (va_up (va_up (va_up (va_up (va_up (va_up a 4 y4_6) 5 y5_7) 6 y6_8) 7 y7_9) 8 y8_10) 9 y9_11) 10 y10_12) 14 y14_13) 17 y17_14) 18 y18_15)) _ := hP
      have hD : va_D _ (mw g h0 b i (va_up (va_up (va_up (va_up (va_up (va_up (va_up (va_up (va_up (va_up a 4 y4_6) 5 y5_7) 6 y6_8) 7 y7_9) 8 y8_10) 9 y9_11) 10 y10_12) 14 y14_13) 17 y17_14) 18 y18_15)) := hD
      refine W.eq (g2 := F0 m 36 ls [.int z_17, .int (i 42), .ref h0]) rfl ?_
      obtain ⟨hf_184, hf_185, hf_186, hf_187, hf_188, hf_189, hf_1810, hf_1814, hf_1817, hf_1818⟩ := hw_16
      refine lv_iadd hx hb dX10_dipped_36 ?_
      refine lv_topi (fun z_19 ez_19 => ?_)
      refine va_put (D := (dC, dI)) (ci := 10) (v := .int z_19) (ty := .int) (C := RX10) (T := TX10) (N := 51) hx hb hts inw_X10_dipped_10 tyX10 tyX10_ok nmX10 hown hK hP hD hS 0 rfl rfl 42 (by decide) (hts (.fieldLink RX10 310 "VatHouseModel" "ranGrains" "I") (List.mem_of_getElem? (i := 2) (by exact rfl))) (fun _ h9 => h9) rfl (tyX10_ok 42 (by decide)) rfl rfl (Nat.le_of_ble_eq_true rfl) dX10_dipped_37 (fun H locs hP hD hS => ?_)
      have hP : va_P (dC, dI) vwCl (mw g h0 b (va_up i 42 z_19) (va_up (va_up (va_up (va_up (va_up (va_up (va_up (va_up (va_up (va_up a 4 y4_6) 5 y5_7) 6 y6_8) 7 y7_9) 8 y8_10) 9 y9_11) 10 y10_12) 14 y14_13) 17 y17_14) 18 y18_15)) _ := hP
      have hD : va_D _ (mw g h0 b (va_up i 42 z_19) (va_up (va_up (va_up (va_up (va_up (va_up (va_up (va_up (va_up (va_up a 4 y4_6) 5 y5_7) 6 y6_8) 7 y7_9) 8 y8_10) 9 y9_11) 10 y10_12) 14 y14_13) 17 y17_14) 18 y18_15)) := hD
      refine lv_aload_n hx hb dX10_dipped_40 rfl (lv_at hl 0 rfl) ?_
      refine lv_dup hx hb dX10_dipped_41 rfl ?_
      refine va_get (D := (dC, dI)) (ci := 10) (v := .int (i 41)) (C := RX10) (T := TX10) (N := 51) hx hb hts inw_X10_dipped_10 hown hK hP 0 rfl rfl 41 (by decide) (hts (.fieldLink RX10 313 "VatHouseModel" "ranDips" "I") (List.mem_of_getElem? (i := 3) (by exact rfl))) (fun _ h9 => h9) rfl dX10_dipped_42 ?_
      refine lv_iconst (v := 1) hx hb dX10_dipped_45 (by decide) ?_
      refine lv_iadd hx hb dX10_dipped_46 ?_
      refine lv_topi (fun z_20 ez_20 => ?_)
      refine va_put (D := (dC, dI)) (ci := 10) (v := .int z_20) (ty := .int) (C := RX10) (T := TX10) (N := 51) hx hb hts inw_X10_dipped_10 tyX10 tyX10_ok nmX10 hown hK hP hD hS 0 rfl rfl 41 (by decide) (hts (.fieldLink RX10 313 "VatHouseModel" "ranDips" "I") (List.mem_of_getElem? (i := 3) (by exact rfl))) (fun _ h9 => h9) rfl (tyX10_ok 41 (by decide)) rfl rfl (Nat.le_of_ble_eq_true rfl) dX10_dipped_47 (fun H locs hP hD hS => ?_)
      have hP : va_P (dC, dI) vwCl (mw g h0 b (va_up (va_up i 41 z_20) 42 z_19) (va_up (va_up (va_up (va_up (va_up (va_up (va_up (va_up (va_up (va_up a 4 y4_6) 5 y5_7) 6 y6_8) 7 y7_9) 8 y8_10) 9 y9_11) 10 y10_12) 14 y14_13) 17 y17_14) 18 y18_15)) _ := hP
      have hD : va_D _ (mw g h0 b (va_up (va_up i 41 z_20) 42 z_19) (va_up (va_up (va_up (va_up (va_up (va_up (va_up (va_up (va_up (va_up a 4 y4_6) 5 y5_7) 6 y6_8) 7 y7_9) 8 y8_10) 9 y9_11) 10 y10_12) 14 y14_13) 17 y17_14) 18 y18_15)) := hD
      refine lv_iconst (v := 0) hx hb dX10_dipped_50 (by decide) ?_
      exact M_i hx hb hr hlocks (z_20, z_19, y4_6, y5_7, y6_8, y7_9, y8_10, y9_11, y10_12, y14_13, y17_14, y18_15) hP hD hK hS ⟨⟨_, rfl, (by rw [show dpA (i, a) ck.toNatClampNeg vv.toNatClampNeg mm = _ from (if_neg (fun h7 => c_2 (ez_1.trans h7))).trans (if_neg (fun h7 => c_5 (hz_z_4.trans h7)))])⟩, (by rw [show dpA (i, a) ck.toNatClampNeg vv.toNatClampNeg mm = _ from (if_neg (fun h7 => c_2 (ez_1.trans h7))).trans (if_neg (fun h7 => c_5 (hz_z_4.trans h7)))]; exact ⟨(by rw [ez_20]; rfl), (by rw [ez_19, hz_z_17]; rfl), hf_184, hf_185, hf_186, hf_187, hf_188, (by rw [hf_189]; exact congrArg (fun z : Int32 => upd (a 9) vv.toNatClampNeg (a 9 vv.toNatClampNeg ||| (1 <<< (z &&& 31)))) (vi_nI hc30)), hf_1810, hf_1814, (by rw [hf_1817]; exact congrArg (fun z : Int32 => upd (a 17) ck.toNatClampNeg (a 17 ck.toNatClampNeg ||| (1 <<< (z &&& 31)))) (vi_nI hv6)), hf_1818⟩)⟩ (Nat.le_of_ble_eq_true rfl) (Nat.le_of_ble_eq_true rfl) dX10_dipped_51
    · have nc_5 := eq_i c_5
      have lc_5 : (0 : Int32).toInt = 0 := by decide
      refine lv_iconst (v := 2) hx hb dX10_dipped_22 (by decide) ?_
      exact M_i hx hb hr hlocks ((i 41), (i 42), (a 4), (a 5), (a 6), (a 7), (a 8), (a 9), (a 10), (a 14), (a 17), (a 18)) hP hD hK hS ⟨⟨_, rfl, (by rw [show dpA (i, a) ck.toNatClampNeg vv.toNatClampNeg mm = _ from (if_neg (fun h7 => c_2 (ez_1.trans h7))).trans (if_pos (hz_z_4.symm.trans c_5))])⟩, (by rw [show dpA (i, a) ck.toNatClampNeg vv.toNatClampNeg mm = _ from (if_neg (fun h7 => c_2 (ez_1.trans h7))).trans (if_pos (hz_z_4.symm.trans c_5))]; exact ⟨rfl, rfl, rfl, rfl, rfl, rfl, rfl, rfl, rfl, rfl, rfl, rfl⟩)⟩ (Nat.le_of_ble_eq_true rfl) (Nat.le_of_ble_eq_true rfl) dX10_dipped_23
  · have nc_2 := eq_i c_2
    have lc_2 : (2 : Int32).toInt = 2 := by decide
    refine lv_iconst (v := 1) hx hb dX10_dipped_10 (by decide) ?_
    exact M_i hx hb hr hlocks ((i 41), (i 42), (a 4), (a 5), (a 6), (a 7), (a 8), (a 9), (a 10), (a 14), (a 17), (a 18)) hP hD hK hS ⟨⟨_, rfl, (by rw [show dpA (i, a) ck.toNatClampNeg vv.toNatClampNeg mm = _ from if_pos (ez_1.symm.trans c_2)])⟩, (by rw [show dpA (i, a) ck.toNatClampNeg vv.toNatClampNeg mm = _ from if_pos (ez_1.symm.trans c_2)]; exact ⟨rfl, rfl, rfl, rfl, rfl, rfl, rfl, rfl, rfl, rfl, rfl, rfl⟩)⟩ (Nat.le_of_ble_eq_true rfl) (Nat.le_of_ble_eq_true rfl) dX10_dipped_11

theorem cnt_1 {c c2 l : Int32} (h : c.toInt ≤ l.toInt) (hn : ¬ c = l) (e : c2 = c + 1) : c2.toInt = c.toInt + 1 ∧ c2.toInt ≤ l.toInt := by
  rw [← Int32.toInt_inj] at hn
  have := l.toInt_lt
  have c1 : (1 : Int32).toInt = 1 := by decide
  have h2 : c2.toInt = c.toInt + 1 := by rw [e, ad_i (by have := c.le_toInt; omega) (by omega), c1]
  omega

noncomputable abbrev rm_X10_restedE : Room := { frames := 1, cells := 0, slots := 0, locals := 21 }
set_option maxHeartbeats 4000000 in
set_option maxRecDepth 100000 in
theorem m_X10_restedE (l : Launch) (dC : Nat → ClassId) (dI : Nat → Nat → Nat) (sa : Nat → Nat) (g : Nat → Nat) (h0 : Nat) (b : Nat → Nat) (i : Nat → Int32) (a : Nat → Nat → Int32) (nn : Int32) (sz : Nat) (hL : (i 40).toInt ≤ (i 39).toInt) (h01 : H01 (a 10)) : CT l dC dI sa yX10_rested wsX10_rested rm_X10_restedE [.ref h0, .int nn] (mw g h0 b i a) (tyM g) sz (fun (r : Option Value) (u : Int32 × Int32 × Int32 × (Nat → Int32) × (Nat → Int32) × (Nat → Int32) × (Nat → Int32) × (Nat → Int32)) => match u with | (x1, x40, x43, y5, y6, y7, y10, y11) => (∃ z : Int32, r = some (.int z) ∧ (z = (reA nn.toNatClampNeg (i, a)).1)) ∧ ((i 40).toInt ≤ x40.toInt ∧ x40.toInt ≤ (i 39).toInt ∧ H01 y10 ∧ x1 = (reA nn.toNatClampNeg (i, a)).2.1 1 ∧ x40 = (reA nn.toNatClampNeg (i, a)).2.1 40 ∧ x43 = (reA nn.toNatClampNeg (i, a)).2.1 43 ∧ y5 = (reA nn.toNatClampNeg (i, a)).2.2 5 ∧ y6 = (reA nn.toNatClampNeg (i, a)).2.2 6 ∧ y7 = (reA nn.toNatClampNeg (i, a)).2.2 7 ∧ y10 = (reA nn.toNatClampNeg (i, a)).2.2 10 ∧ y11 = (reA nn.toNatClampNeg (i, a)).2.2 11)) (fun (u : Int32 × Int32 × Int32 × (Nat → Int32) × (Nat → Int32) × (Nat → Int32) × (Nat → Int32) × (Nat → Int32)) => match u with | (x1, x40, x43, y5, y6, y7, y10, y11) => mw g h0 b (va_up (va_up (va_up i 1 x1) 40 x40) 43 x43) (va_up (va_up (va_up (va_up (va_up a 5 y5) 6 y6) 7 y7) 10 y10) 11 y11)) (fun _ => []) 0 0 := by
  refine CT.start (cc := cX10_rested) (maxL := 3) (ret := (some .int)) (by decide) rfl (Nat.le_of_ble_eq_true rfl) ?_
  intro p e s m below meth c ls hst hP hK hD hev hS hl
  obtain ⟨hx, hb, hr, hml, hts, hown, hlocks, hin⟩ := hst
  have hown : s.vm.findClass RX10 = some m.cls := hown
  have hA : ∀ q : Nat, s.heap.size ≤ q → va_A (mw g h0 b i a) s.heap.size q := fun _ h => Or.inr h
  have hl : lv_has ls 3 [(0, .ref h0), (1, .int nn)] := hl
  refine lv_iconst (v := 0) hx hb dX10_rested_0 (by decide) ?_
  refine lv_istore_n (lv' := [(2, .int 0), (0, .ref h0), (1, .int nn)]) hx hb dX10_rested_1 rfl hl (by decide) rfl (fun ls hl => ?_)
  have lp : ∀ (n : Nat) (ii : Int32) (l1 : Int32) (l40 : Int32) (l43 : Int32) (l5 : Nat → Int32) (l6 : Nat → Int32) (l7 : Nat → Int32) (l10 : Nat → Int32) (l11 : Nat → Int32) (H : Heap) (locs : List Loc) (ls : Array Slot), (((i 39).toInt - l40.toInt).toNat + 1 < n) → (l40.toInt ≤ (i 39).toInt) → ((i 40).toInt ≤ l40.toInt) → (H01 l10) → (∃ q : Nat, ii = nI q ∧ q ≤ nn.toNatClampNeg ∧ reA (nn.toNatClampNeg - q) (rbI i l1 (i 2) l40 (i 41) (i 42) l43, rbA a (a 4) l5 l6 l7 (a 8) (a 9) l10 l11 (a 14) (a 15) (a 17) (a 18)) = reA nn.toNatClampNeg (i, a)) → va_P (dC, dI) vwCl (mw g h0 b (va_up (va_up (va_up i 1 l1) 40 l40) 43 l43) (va_up (va_up (va_up (va_up (va_up a 5 l5) 6 l6) 7 l7) 10 l10) 11 l11)) H → va_D (va_A (mw g h0 b i a) s.heap.size) (mw g h0 b (va_up (va_up (va_up i 1 l1) 40 l40) 43 l43) (va_up (va_up (va_up (va_up (va_up a 5 l5) 6 l6) 7 l7) 10 l10) 11 l11)) → va_S (va_A (mw g h0 b i a) s.heap.size) s.heap H locs → lv_has ls 3 [(2, .int ii), (0, .ref h0), (1, .int nn)] → W p l e rm_X10_restedE s m [.ref h0, .int nn].toArray below meth c H locs 0 0 (MQ below (Qg (fun (r : Option Value) (u : Int32 × Int32 × Int32 × (Nat → Int32) × (Nat → Int32) × (Nat → Int32) × (Nat → Int32) × (Nat → Int32)) => match u with | (x1, x40, x43, y5, y6, y7, y10, y11) => (∃ z : Int32, r = some (.int z) ∧ (z = (reA nn.toNatClampNeg (i, a)).1)) ∧ ((i 40).toInt ≤ x40.toInt ∧ x40.toInt ≤ (i 39).toInt ∧ H01 y10 ∧ x1 = (reA nn.toNatClampNeg (i, a)).2.1 1 ∧ x40 = (reA nn.toNatClampNeg (i, a)).2.1 40 ∧ x43 = (reA nn.toNatClampNeg (i, a)).2.1 43 ∧ y5 = (reA nn.toNatClampNeg (i, a)).2.2 5 ∧ y6 = (reA nn.toNatClampNeg (i, a)).2.2 6 ∧ y7 = (reA nn.toNatClampNeg (i, a)).2.2 7 ∧ y10 = (reA nn.toNatClampNeg (i, a)).2.2 10 ∧ y11 = (reA nn.toNatClampNeg (i, a)).2.2 11)) (fun u t => QW dC dI (va_A (mw g h0 b i a) s.heap.size) ((fun (u : Int32 × Int32 × Int32 × (Nat → Int32) × (Nat → Int32) × (Nat → Int32) × (Nat → Int32) × (Nat → Int32)) => match u with | (x1, x40, x43, y5, y6, y7, y10, y11) => mw g h0 b (va_up (va_up (va_up i 1 x1) 40 x40) 43 x43) (va_up (va_up (va_up (va_up (va_up a 5 y5) 6 y6) 7 y7) 10 y10) 11 y11)) u) [] t) (va_A (mw g h0 b i a) s.heap.size)) [.ref h0, .int nn].toArray s 0 0 (va_A (mw g h0 b i a) s.heap.size)) (F0 m 2 ls []) := by
    intro n
    induction n with
    | zero => intro ii l1 l40 l43 l5 l6 l7 l10 l11 H locs ls hm hLl hge h1l hR hP hD hS hl; exact absurd hm (by omega)
    | succ n ih =>
      intro ii l1 l40 l43 l5 l6 l7 l10 l11 H locs ls hm hLl hge h1l hR hP hD hS hl
      refine lv_iload_n hx hb dX10_rested_2 rfl (lv_at hl 0 rfl) ?_
      obtain ⟨q, hq, hqn, hre⟩ := hR
      refine lv_iload_n hx hb dX10_rested_3 rfl (lv_at hl 2 rfl) ?_
      refine lv_icmp_ge (tgt := 38) hx hb dX10_rested_4 (by decide) (fun c_1 => ?_) (fun c_1 => ?_)
      · have nc_1 := le_i c_1
        refine lv_iconst (v := 0) hx hb dX10_rested_38 (by decide) ?_
        exact M_i hx hb hr hlocks (l1, l40, l43, l5, l6, l7, l10, l11) hP hD hK hS ⟨⟨_, rfl, (by rw [show reA nn.toNatClampNeg (i, a) = _ from hre.symm.trans (by rw [q_end hq hqn c_1, Nat.sub_self]; rfl : _ = ((0 : Int32), (rbI i l1 (i 2) l40 (i 41) (i 42) l43, rbA a (a 4) l5 l6 l7 (a 8) (a 9) l10 l11 (a 14) (a 15) (a 17) (a 18))))])⟩, ⟨by omega, by omega, h1l, (by rw [show reA nn.toNatClampNeg (i, a) = _ from hre.symm.trans (by rw [q_end hq hqn c_1, Nat.sub_self]; rfl : _ = ((0 : Int32), (rbI i l1 (i 2) l40 (i 41) (i 42) l43, rbA a (a 4) l5 l6 l7 (a 8) (a 9) l10 l11 (a 14) (a 15) (a 17) (a 18))))]; exact ⟨rfl, rfl, rfl, rfl, rfl, rfl, rfl, rfl⟩)⟩⟩ (Nat.le_of_ble_eq_true rfl) (Nat.le_of_ble_eq_true rfl) dX10_rested_39
      · have nc_1 := nle_i c_1
        have hqlt := q_lt hq hqn c_1
        refine lv_aload_n hx hb dX10_rested_7 rfl (lv_at hl 1 rfl) ?_
        refine M_V ⟨hx, hb, hml, hown, hts⟩ (m_X10_countsE l dC dI sa g h0 b (va_up (va_up (va_up i 1 l1) 40 l40) 43 l43) (va_up (va_up (va_up (va_up (va_up a 5 l5) 6 l6) 7 l7) 10 l10) 11 l11)  _ ) (cwV 0 hts gX10_rested_X10_counts rfl rfl rfl (by decide +kernel) ⟨Nat.le_of_ble_eq_true rfl, Nat.le_of_ble_eq_true rfl⟩) hP hD hK hS hA hev rfl rfl rfl rfl hl.1 rfl (Nat.le_of_ble_eq_true rfl) dX10_rested_8 ⟨(Nat.le_of_ble_eq_true rfl), (Nat.le_of_ble_eq_true rfl)⟩ (fun r u H locs hw hP hD hS => ?_)
        obtain ⟨x40_2, rfl⟩ : ∃ z, z = u := ⟨_, rfl⟩
        have hw : ((r = some (.int 0) ∧ (l40 = (i 39) ∧ x40_2 = l40)) ∨ (r = some (.int 1) ∧ (¬ l40 = (i 39) ∧ x40_2 = l40 + 1))) ∧ (True) := hw
        obtain ⟨⟨rfl, hz2_4⟩ | ⟨rfl, hz2_4⟩, hw_3⟩ := hw
        · have hP : va_P (dC, dI) vwCl (mw g h0 b (va_up (va_up (va_up i 1 l1) 40 x40_2) 43 l43) (va_up (va_up (va_up (va_up (va_up a 5 l5) 6 l6) 7 l7) 10 l10) 11 l11)) _ := hP
          have hD : va_D _ (mw g h0 b (va_up (va_up (va_up i 1 l1) 40 x40_2) 43 l43) (va_up (va_up (va_up (va_up (va_up a 5 l5) 6 l6) 7 l7) 10 l10) 11 l11)) := hD
          refine W.eq (g2 := F0 m 11 ls [.int 0]) rfl ?_
          have hct0 := hz2_4.2
          have hct9 := congrArg Int32.toInt hct0
          refine lv_if_ne (tgt := 18) hx hb dX10_rested_11 (by decide) (fun c_5 => absurd c_5 (by decide)) (fun _ => ?_)
          refine lv_sipush (v := 1000) hx hb dX10_rested_14 (by decide) ?_
          exact M_i hx hb hr hlocks (l1, x40_2, l43, l5, l6, l7, l10, l11) hP hD hK hS ⟨⟨_, rfl, (by rw [show reA nn.toNatClampNeg (i, a) = _ from hre.symm.trans (reA_lim (s := (rbI i l1 (i 2) l40 (i 41) (i 42) l43, rbA a (a 4) l5 l6 l7 (a 8) (a 9) l10 l11 (a 14) (a 15) (a 17) (a 18))) hz2_4.1 (by omega))])⟩, ⟨by omega, by omega, h1l, (by rw [show reA nn.toNatClampNeg (i, a) = _ from hre.symm.trans (reA_lim (s := (rbI i l1 (i 2) l40 (i 41) (i 42) l43, rbA a (a 4) l5 l6 l7 (a 8) (a 9) l10 l11 (a 14) (a 15) (a 17) (a 18))) hz2_4.1 (by omega))]; exact ⟨rfl, hz2_4.2, rfl, rfl, rfl, rfl, rfl, rfl⟩)⟩⟩ (Nat.le_of_ble_eq_true rfl) (Nat.le_of_ble_eq_true rfl) dX10_rested_17
        · have hP : va_P (dC, dI) vwCl (mw g h0 b (va_up (va_up (va_up i 1 l1) 40 x40_2) 43 l43) (va_up (va_up (va_up (va_up (va_up a 5 l5) 6 l6) 7 l7) 10 l10) 11 l11)) _ := hP
          have hD : va_D _ (mw g h0 b (va_up (va_up (va_up i 1 l1) 40 x40_2) 43 l43) (va_up (va_up (va_up (va_up (va_up a 5 l5) 6 l6) 7 l7) 10 l10) 11 l11)) := hD
          refine W.eq (g2 := F0 m 11 ls [.int 1]) rfl ?_
          have hct1 := cnt_1 hLl hz2_4.1 hz2_4.2
          refine lv_if_ne (tgt := 18) hx hb dX10_rested_11 (by decide) (fun _ => ?_) (fun c_6 => absurd c_6 (by decide))
          refine lv_aload_n hx hb dX10_rested_18 rfl (lv_at hl 1 rfl) ?_
          refine M_V ⟨hx, hb, hml, hown, hts⟩ (m_X10_hourE l dC dI sa g h0 b (va_up (va_up (va_up i 1 l1) 40 x40_2) 43 l43) (va_up (va_up (va_up (va_up (va_up a 5 l5) 6 l6) 7 l7) 10 l10) 11 l11)  _ h1l) (cwV 0 hts gX10_rested_X10_hour rfl rfl rfl (by decide +kernel) ⟨Nat.le_of_ble_eq_true rfl, Nat.le_of_ble_eq_true rfl⟩) hP hD hK hS hA hev rfl rfl rfl rfl hl.1 rfl (Nat.le_of_ble_eq_true rfl) dX10_rested_19 ⟨(Nat.le_of_ble_eq_true rfl), (Nat.le_of_ble_eq_true rfl)⟩ (fun r u H locs hw hP hD hS => ?_)
          obtain ⟨x1_7, y5_8, y6_9, y7_10, y10_11, y11_12⟩ := u
          have hw : (r = none) ∧ (x1_7 = l1 + 1 ∧ y5_8 = ho5 l5 ∧ y6_9 = ho6 l5 l6 l7 l10 l11 ∧ y7_10 = ho7 l5 l7 l10 l11 ∧ y10_11 = ho10 l10 ∧ y11_12 = ho11 l10 l11) := hw
          obtain ⟨rfl, hw_13⟩ := hw
          have hP : va_P (dC, dI) vwCl (mw g h0 b (va_up (va_up (va_up i 1 x1_7) 40 x40_2) 43 l43) (va_up (va_up (va_up (va_up (va_up a 5 y5_8) 6 y6_9) 7 y7_10) 10 y10_11) 11 y11_12)) _ := hP
          have hD : va_D _ (mw g h0 b (va_up (va_up (va_up i 1 x1_7) 40 x40_2) 43 l43) (va_up (va_up (va_up (va_up (va_up a 5 y5_8) 6 y6_9) 7 y7_10) 10 y10_11) 11 y11_12)) := hD
          refine W.eq (g2 := F0 m 22 ls []) rfl ?_
          obtain ⟨hp1, hp5, hp6, hp7, hp10, hp11⟩ := hw_13
          refine lv_aload_n hx hb dX10_rested_22 rfl (lv_at hl 1 rfl) ?_
          refine lv_dup hx hb dX10_rested_23 rfl ?_
          refine va_get (D := (dC, dI)) (ci := 10) (v := .int l43) (C := RX10) (T := TX10) (N := 51) hx hb hts inw_X10_rested_10 hown hK hP 0 rfl rfl 43 (by decide) (hts (.fieldLink RX10 316 "VatHouseModel" "ranHours" "I") (List.mem_of_getElem? (i := 1) (by exact rfl))) (fun _ h9 => h9) rfl dX10_rested_24 ?_
          refine lv_iconst (v := 1) hx hb dX10_rested_27 (by decide) ?_
          refine lv_iadd hx hb dX10_rested_28 ?_
          refine lv_topi (fun z_14 ez_14 => ?_)
          refine va_put (D := (dC, dI)) (ci := 10) (v := .int z_14) (ty := .int) (C := RX10) (T := TX10) (N := 51) hx hb hts inw_X10_rested_10 tyX10 tyX10_ok nmX10 hown hK hP hD hS 0 rfl rfl 43 (by decide) (hts (.fieldLink RX10 316 "VatHouseModel" "ranHours" "I") (List.mem_of_getElem? (i := 1) (by exact rfl))) (fun _ h9 => h9) rfl (tyX10_ok 43 (by decide)) rfl rfl (Nat.le_of_ble_eq_true rfl) dX10_rested_29 (fun H locs hP hD hS => ?_)
          have hP : va_P (dC, dI) vwCl (mw g h0 b (va_up (va_up (va_up i 1 x1_7) 40 x40_2) 43 z_14) (va_up (va_up (va_up (va_up (va_up a 5 y5_8) 6 y6_9) 7 y7_10) 10 y10_11) 11 y11_12)) _ := hP
          have hD : va_D _ (mw g h0 b (va_up (va_up (va_up i 1 x1_7) 40 x40_2) 43 z_14) (va_up (va_up (va_up (va_up (va_up a 5 y5_8) 6 y6_9) 7 y7_10) 10 y10_11) 11 y11_12)) := hD
          refine lv_iinc (v := (ii + 1)) (lv' := [(2, .int (ii + 1)), (0, .ref h0), (1, .int nn)]) hx hb dX10_rested_32 hl (k := 0) rfl rfl (by decide) rfl (fun ls hl => ?_)
          refine lv_goto (tgt := 2) hx hb dX10_rested_35 (by decide) ?_
          exact ih (ii + 1) x1_7 x40_2 z_14 y5_8 y6_9 y7_10 y10_11 y11_12 _ _ _ (by omega) (by omega) (by omega) ((by rw [hp10]; exact H01.ho)) (⟨q + 1, by rw [hq]; exact nI_1 q, by omega, (by rw [show (rbI i x1_7 (i 2) x40_2 (i 41) (i 42) z_14, rbA a (a 4) y5_8 y6_9 y7_10 (a 8) (a 9) y10_11 y11_12 (a 14) (a 15) (a 17) (a 18)) = _ from (rb_of (s := (i, a)) (s' := h1A (rbI i l1 (i 2) l40 (i 41) (i 42) l43, rbA a (a 4) l5 l6 l7 (a 8) (a 9) l10 l11 (a 14) (a 15) (a 17) (a 18))) (FK.rb.tr FK.h1) hp1 rfl hz2_4.2 rfl rfl ez_14 rfl hp5 hp6 hp7 rfl rfl hp10 hp11 rfl rfl rfl rfl).symm, show nn.toNatClampNeg - (q + 1) = nn.toNatClampNeg - q - 1 by omega, ← reA_nx (s := (rbI i l1 (i 2) l40 (i 41) (i 42) l43, rbA a (a 4) l5 l6 l7 (a 8) (a 9) l10 l11 (a 14) (a 15) (a 17) (a 18))) hz2_4.1 (by omega)]; exact hre)⟩) hP hD hS (lv_sub hl [0, 1, 2] rfl)
  exact lp (((i 39).toInt - (i 40).toInt).toNat + 2) (0 : Int32) (i 1) (i 40) (i 43) (a 5) (a 6) (a 7) (a 10) (a 11) _ _ _ (by omega) (by omega) (by omega) (h01) (⟨0, nI_0.symm, Nat.zero_le _, (by rw [show (rbI i (i 1) (i 2) (i 40) (i 41) (i 42) (i 43), rbA a (a 4) (a 5) (a 6) (a 7) (a 8) (a 9) (a 10) (a 11) (a 14) (a 15) (a 17) (a 18)) = (i, a) from rb_id (s := (i, a))]; rfl)⟩) hP hD hS (lv_sub hl [0, 1, 2] rfl)

noncomputable abbrev rm_X10_holdsE : Room := { frames := 1, cells := 0, slots := 0, locals := 21 }
set_option maxHeartbeats 4000000 in
set_option maxRecDepth 100000 in
theorem m_X10_holdsE (l : Launch) (dC : Nat → ClassId) (dI : Nat → Nat → Nat) (sa : Nat → Nat) (g : Nat → Nat) (h0 : Nat) (b : Nat → Nat) (i : Nat → Int32) (a : Nat → Nat → Int32) (kk : Int32) (ck : Int32) (sz : Nat) (hk : vp_in kk 2700) (ho : vp_in ((a 27) kk.toNatClampNeg) 6) (hc30 : vp_in ck 30) (hwt : 1 ≤ ((a 13) ck.toNatClampNeg).toInt ∧ ((a 13) ck.toNatClampNeg).toInt ≤ 50) : CT l dC dI sa yX10_holds wsX10_holds rm_X10_holdsE [.ref h0, .int kk, .int ck] (mw g h0 b i a) (tyM g) sz (fun (r : Option Value) (_ : Unit) => ((r = some (.int 0) ∧ (¬ hdA (i, a) kk.toNatClampNeg ck.toNatClampNeg)) ∨ (r = some (.int 1) ∧ (hdA (i, a) kk.toNatClampNeg ck.toNatClampNeg))) ∧ (True)) (fun (_ : Unit) => mw g h0 b i a) (fun _ => []) 0 0 := by
  refine CT.start (cc := cX10_holds) (maxL := 4) (ret := (some .boolean)) (by decide) rfl (Nat.le_of_ble_eq_true rfl) ?_
  intro p e s m below meth c ls hst hP hK hD hev hS hl
  obtain ⟨hx, hb, hr, hml, hts, hown, hlocks, hin⟩ := hst
  have hown : s.vm.findClass RX10 = some m.cls := hown
  have hA : ∀ q : Nat, s.heap.size ≤ q → va_A (mw g h0 b i a) s.heap.size q := fun _ h => Or.inr h
  have hl : lv_has ls 4 [(0, .ref h0), (1, .int kk), (2, .int ck)] := hl
  refine lv_aload_n hx hb dX10_holds_0 rfl (lv_at hl 0 rfl) ?_
  refine va_get (D := (dC, dI)) (ci := 10) (v := .ref (b 29)) (C := RX10) (T := TX10) (N := 51) hx hb hts inw_X10_holds_10 hown hK hP 0 rfl rfl 29 (by decide) (hts (.fieldLink RX10 69 "VatHouseModel" "look" "[I") (List.mem_of_getElem? (i := 1) (by exact rfl))) (fun _ h9 => h9) rfl dX10_holds_1 ?_
  refine lv_iload_n hx hb dX10_holds_4 rfl (lv_at hl 1 rfl) ?_
  refine va_iald hx hb hK hP 19 18 rfl rfl (by assumption) dX10_holds_5 ?_
  refine lv_topi (fun z_1 ez_1 => ?_)
  have ez_1 : z_1 = (a 29) kk.toNatClampNeg := ez_1
  refine lv_bipush (v := 14) hx hb dX10_holds_6 (by decide) ?_
  refine lv_icmp_ne (tgt := 19) hx hb dX10_holds_8 (by decide) (fun c_2 => ?_) (fun c_2 => ?_)
  · have nc_2 := ne_i c_2
    have lc_2 : (14 : Int32).toInt = 14 := by decide
    refine lv_aload_n hx hb dX10_holds_19 rfl (lv_at hl 0 rfl) ?_
    refine va_get (D := (dC, dI)) (ci := 10) (v := .ref (b 29)) (C := RX10) (T := TX10) (N := 51) hx hb hts inw_X10_holds_10 hown hK hP 0 rfl rfl 29 (by decide) (hts (.fieldLink RX10 69 "VatHouseModel" "look" "[I") (List.mem_of_getElem? (i := 1) (by exact rfl))) (fun _ h9 => h9) rfl dX10_holds_20 ?_
    refine lv_iload_n hx hb dX10_holds_23 rfl (lv_at hl 1 rfl) ?_
    refine va_iald hx hb hK hP 19 18 rfl rfl (by assumption) dX10_holds_24 ?_
    refine lv_topi (fun z_3 ez_3 => ?_)
    have ez_3 : z_3 = (a 29) kk.toNatClampNeg := ez_3
    refine lv_bipush (v := 15) hx hb dX10_holds_25 (by decide) ?_
    refine lv_icmp_ne (tgt := 39) hx hb dX10_holds_27 (by decide) (fun c_4 => ?_) (fun c_4 => ?_)
    · have nc_4 := ne_i c_4
      have lc_4 : (15 : Int32).toInt = 15 := by decide
      refine lv_aload_n hx hb dX10_holds_39 rfl (lv_at hl 0 rfl) ?_
      refine va_get (D := (dC, dI)) (ci := 10) (v := .ref (b 29)) (C := RX10) (T := TX10) (N := 51) hx hb hts inw_X10_holds_10 hown hK hP 0 rfl rfl 29 (by decide) (hts (.fieldLink RX10 69 "VatHouseModel" "look" "[I") (List.mem_of_getElem? (i := 1) (by exact rfl))) (fun _ h9 => h9) rfl dX10_holds_40 ?_
      refine lv_iload_n hx hb dX10_holds_43 rfl (lv_at hl 1 rfl) ?_
      refine va_iald hx hb hK hP 19 18 rfl rfl (by assumption) dX10_holds_44 ?_
      refine lv_topi (fun z_5 ez_5 => ?_)
      have ez_5 : z_5 = (a 29) kk.toNatClampNeg := ez_5
      refine lv_bipush (v := 16) hx hb dX10_holds_45 (by decide) ?_
      refine lv_icmp_ne (tgt := 60) hx hb dX10_holds_47 (by decide) (fun c_6 => ?_) (fun c_6 => ?_)
      · have nc_6 := ne_i c_6
        have lc_6 : (16 : Int32).toInt = 16 := by decide
        refine lv_aload_n hx hb dX10_holds_60 rfl (lv_at hl 0 rfl) ?_
        refine va_get (D := (dC, dI)) (ci := 10) (v := .ref (b 29)) (C := RX10) (T := TX10) (N := 51) hx hb hts inw_X10_holds_10 hown hK hP 0 rfl rfl 29 (by decide) (hts (.fieldLink RX10 69 "VatHouseModel" "look" "[I") (List.mem_of_getElem? (i := 1) (by exact rfl))) (fun _ h9 => h9) rfl dX10_holds_61 ?_
        refine lv_iload_n hx hb dX10_holds_64 rfl (lv_at hl 1 rfl) ?_
        refine va_iald hx hb hK hP 19 18 rfl rfl (by assumption) dX10_holds_65 ?_
        refine lv_topi (fun z_7 ez_7 => ?_)
        have ez_7 : z_7 = (a 29) kk.toNatClampNeg := ez_7
        refine lv_bipush (v := 17) hx hb dX10_holds_66 (by decide) ?_
        refine lv_icmp_ne (tgt := 85) hx hb dX10_holds_68 (by decide) (fun c_8 => ?_) (fun c_8 => ?_)
        · have nc_8 := ne_i c_8
          have lc_8 : (17 : Int32).toInt = 17 := by decide
          refine lv_aload_n hx hb dX10_holds_85 rfl (lv_at hl 0 rfl) ?_
          refine va_get (D := (dC, dI)) (ci := 10) (v := .ref (b 5)) (C := RX10) (T := TX10) (N := 51) hx hb hts inw_X10_holds_10 hown hK hP 0 rfl rfl 5 (by decide) (hts (.fieldLink RX10 13 "VatHouseModel" "food" "[I") (List.mem_of_getElem? (i := 6) (by exact rfl))) (fun _ h9 => h9) rfl dX10_holds_86 ?_
          refine lv_aload_n hx hb dX10_holds_89 rfl (lv_at hl 0 rfl) ?_
          refine va_get (D := (dC, dI)) (ci := 10) (v := .ref (b 27)) (C := RX10) (T := TX10) (N := 51) hx hb hts inw_X10_holds_10 hown hK hP 0 rfl rfl 27 (by decide) (hts (.fieldLink RX10 63 "VatHouseModel" "one" "[I") (List.mem_of_getElem? (i := 5) (by exact rfl))) (fun _ h9 => h9) rfl dX10_holds_90 ?_
          refine lv_iload_n hx hb dX10_holds_93 rfl (lv_at hl 1 rfl) ?_
          refine va_iald hx hb hK hP 17 16 rfl rfl (by assumption) dX10_holds_94 ?_
          refine lv_topi (fun z_9 ez_9 => ?_)
          have ez_9 : z_9 = (a 27) kk.toNatClampNeg := ez_9
          refine va_iald hx hb hK hP 2 1 rfl rfl (by rw [ez_9]; exact ho) dX10_holds_95 ?_
          refine lv_topi (fun z_10 ez_10 => ?_)
          have ez_10 : z_10 = (a 5) z_9.toNatClampNeg := ez_10
          refine lv_istore_n (lv' := [(3, .int z_10), (0, .ref h0), (1, .int kk), (2, .int ck)]) hx hb dX10_holds_96 rfl hl (by decide) rfl (fun ls hl => ?_)
          have hlk : lkA (i, a) kk.toNatClampNeg ck.toNatClampNeg = z_10 := (show (if a 29 kk.toNatClampNeg = 14 then a 15 ck.toNatClampNeg / a 13 ck.toNatClampNeg else if a 29 kk.toNatClampNeg = 15 then a 14 ck.toNatClampNeg else if a 29 kk.toNatClampNeg = 16 then i 1 - i 1 / 24 * 24 else if a 29 kk.toNatClampNeg = 17 then a 4 (a 27 kk.toNatClampNeg).toNatClampNeg else a 5 (a 27 kk.toNatClampNeg).toNatClampNeg) = z_10 from (by have c_29 := c_2; (try simp only [ez_1, ez_3, ez_5, ez_7, ez_9, ez_10, upd_at, upd_upd, upd_id] at c_29); have c_49 := c_4; (try simp only [ez_1, ez_3, ez_5, ez_7, ez_9, ez_10, upd_at, upd_upd, upd_id] at c_49); have c_69 := c_6; (try simp only [ez_1, ez_3, ez_5, ez_7, ez_9, ez_10, upd_at, upd_upd, upd_id] at c_69); have c_89 := c_8; (try simp only [ez_1, ez_3, ez_5, ez_7, ez_9, ez_10, upd_at, upd_upd, upd_id] at c_89); simp only [ez_1, ez_3, ez_5, ez_7, ez_9, ez_10, upd_at, upd_upd, upd_id, if_neg c_29, if_neg c_49, if_neg c_69, if_neg c_89, upd_upd, upd_id]))
          refine lv_aload_n hx hb dX10_holds_97 rfl (lv_at hl 1 rfl) ?_
          refine va_get (D := (dC, dI)) (ci := 10) (v := .ref (b 30)) (C := RX10) (T := TX10) (N := 51) hx hb hts inw_X10_holds_10 hown hK hP 0 rfl rfl 30 (by decide) (hts (.fieldLink RX10 72 "VatHouseModel" "sign" "[I") (List.mem_of_getElem? (i := 7) (by exact rfl))) (fun _ h9 => h9) rfl dX10_holds_98 ?_
          refine lv_iload_n hx hb dX10_holds_101 rfl (lv_at hl 2 rfl) ?_
          refine va_iald hx hb hK hP 20 19 rfl rfl (by assumption) dX10_holds_102 ?_
          refine lv_topi (fun z_11 ez_11 => ?_)
          have ez_11 : z_11 = (a 30) kk.toNatClampNeg := ez_11
          refine lv_bipush (v := 60) hx hb dX10_holds_103 (by decide) ?_
          refine lv_icmp_ne (tgt := 126) hx hb dX10_holds_105 (by decide) (fun c_12 => ?_) (fun c_12 => ?_)
          · have nc_12 := ne_i c_12
            have lc_12 : (60 : Int32).toInt = 60 := by decide
            refine lv_iload_n hx hb dX10_holds_126 rfl (lv_at hl 0 rfl) ?_
            refine lv_aload_n hx hb dX10_holds_127 rfl (lv_at hl 1 rfl) ?_
            refine va_get (D := (dC, dI)) (ci := 10) (v := .ref (b 28)) (C := RX10) (T := TX10) (N := 51) hx hb hts inw_X10_holds_10 hown hK hP 0 rfl rfl 28 (by decide) (hts (.fieldLink RX10 66 "VatHouseModel" "two" "[I") (List.mem_of_getElem? (i := 8) (by exact rfl))) (fun _ h9 => h9) rfl dX10_holds_128 ?_
            refine lv_iload_n hx hb dX10_holds_131 rfl (lv_at hl 2 rfl) ?_
            refine va_iald hx hb hK hP 18 17 rfl rfl (by assumption) dX10_holds_132 ?_
            refine lv_topi (fun z_13 ez_13 => ?_)
            have ez_13 : z_13 = (a 28) kk.toNatClampNeg := ez_13
            refine lv_icmp_ne (tgt := 140) hx hb dX10_holds_133 (by decide) (fun c_14 => ?_) (fun c_14 => ?_)
            · have nc_14 := ne_i c_14
              refine lv_iconst (v := 0) hx hb dX10_holds_140 (by decide) ?_
              exact M_z hx hb hr rfl hlocks () hP hD hK hS ⟨Or.inl ⟨rfl, hd_n2 (s := (i, a)) (fun h7 => c_12 (ez_11.trans h7)) hlk ez_13 c_14⟩, trivial⟩ (Nat.le_of_ble_eq_true rfl) (Nat.le_of_ble_eq_true rfl) dX10_holds_141
            · have nc_14 := eq_i c_14
              refine lv_iconst (v := 1) hx hb dX10_holds_136 (by decide) ?_
              refine lv_goto (tgt := 141) hx hb dX10_holds_137 (by decide) ?_
              exact M_z hx hb hr rfl hlocks () hP hD hK hS ⟨Or.inr ⟨rfl, hd_y2 (s := (i, a)) (fun h7 => c_12 (ez_11.trans h7)) hlk ez_13 c_14⟩, trivial⟩ (Nat.le_of_ble_eq_true rfl) (Nat.le_of_ble_eq_true rfl) dX10_holds_141
          · have nc_12 := eq_i c_12
            have lc_12 : (60 : Int32).toInt = 60 := by decide
            refine lv_iload_n hx hb dX10_holds_108 rfl (lv_at hl 0 rfl) ?_
            refine lv_aload_n hx hb dX10_holds_109 rfl (lv_at hl 1 rfl) ?_
            refine va_get (D := (dC, dI)) (ci := 10) (v := .ref (b 28)) (C := RX10) (T := TX10) (N := 51) hx hb hts inw_X10_holds_10 hown hK hP 0 rfl rfl 28 (by decide) (hts (.fieldLink RX10 66 "VatHouseModel" "two" "[I") (List.mem_of_getElem? (i := 8) (by exact rfl))) (fun _ h9 => h9) rfl dX10_holds_110 ?_
            refine lv_iload_n hx hb dX10_holds_113 rfl (lv_at hl 2 rfl) ?_
            refine va_iald hx hb hK hP 18 17 rfl rfl (by assumption) dX10_holds_114 ?_
            refine lv_topi (fun z_15 ez_15 => ?_)
            have ez_15 : z_15 = (a 28) kk.toNatClampNeg := ez_15
            refine lv_icmp_ge (tgt := 122) hx hb dX10_holds_115 (by decide) (fun c_16 => ?_) (fun c_16 => ?_)
            · have nc_16 := le_i c_16
              refine lv_iconst (v := 0) hx hb dX10_holds_122 (by decide) ?_
              refine lv_goto (tgt := 141) hx hb dX10_holds_123 (by decide) ?_
              exact M_z hx hb hr rfl hlocks () hP hD hK hS ⟨Or.inl ⟨rfl, hd_n1 (s := (i, a)) (ez_11.symm.trans c_12) hlk ez_15 (le_nlt c_16)⟩, trivial⟩ (Nat.le_of_ble_eq_true rfl) (Nat.le_of_ble_eq_true rfl) dX10_holds_141
            · have nc_16 := nle_i c_16
              refine lv_iconst (v := 1) hx hb dX10_holds_118 (by decide) ?_
              refine lv_goto (tgt := 141) hx hb dX10_holds_119 (by decide) ?_
              exact M_z hx hb hr rfl hlocks () hP hD hK hS ⟨Or.inr ⟨rfl, hd_y1 (s := (i, a)) (ez_11.symm.trans c_12) hlk ez_15 (nle_lt c_16)⟩, trivial⟩ (Nat.le_of_ble_eq_true rfl) (Nat.le_of_ble_eq_true rfl) dX10_holds_141
        · have nc_8 := eq_i c_8
          have lc_8 : (17 : Int32).toInt = 17 := by decide
          refine lv_aload_n hx hb dX10_holds_71 rfl (lv_at hl 0 rfl) ?_
          refine va_get (D := (dC, dI)) (ci := 10) (v := .ref (b 4)) (C := RX10) (T := TX10) (N := 51) hx hb hts inw_X10_holds_10 hown hK hP 0 rfl rfl 4 (by decide) (hts (.fieldLink RX10 7 "VatHouseModel" "grains" "[I") (List.mem_of_getElem? (i := 4) (by exact rfl))) (fun _ h9 => h9) rfl dX10_holds_72 ?_
          refine lv_aload_n hx hb dX10_holds_75 rfl (lv_at hl 0 rfl) ?_
          refine va_get (D := (dC, dI)) (ci := 10) (v := .ref (b 27)) (C := RX10) (T := TX10) (N := 51) hx hb hts inw_X10_holds_10 hown hK hP 0 rfl rfl 27 (by decide) (hts (.fieldLink RX10 63 "VatHouseModel" "one" "[I") (List.mem_of_getElem? (i := 5) (by exact rfl))) (fun _ h9 => h9) rfl dX10_holds_76 ?_
          refine lv_iload_n hx hb dX10_holds_79 rfl (lv_at hl 1 rfl) ?_
          refine va_iald hx hb hK hP 17 16 rfl rfl (by assumption) dX10_holds_80 ?_
          refine lv_topi (fun z_17 ez_17 => ?_)
          have ez_17 : z_17 = (a 27) kk.toNatClampNeg := ez_17
          refine va_iald hx hb hK hP 1 0 rfl rfl (by rw [ez_17]; exact ho) dX10_holds_81 ?_
          refine lv_topi (fun z_18 ez_18 => ?_)
          have ez_18 : z_18 = (a 4) z_17.toNatClampNeg := ez_18
          refine lv_goto (tgt := 96) hx hb dX10_holds_82 (by decide) ?_
          refine lv_istore_n (lv' := [(3, .int z_18), (0, .ref h0), (1, .int kk), (2, .int ck)]) hx hb dX10_holds_96 rfl hl (by decide) rfl (fun ls hl => ?_)
          have hlk : lkA (i, a) kk.toNatClampNeg ck.toNatClampNeg = z_18 := (show (if a 29 kk.toNatClampNeg = 14 then a 15 ck.toNatClampNeg / a 13 ck.toNatClampNeg else if a 29 kk.toNatClampNeg = 15 then a 14 ck.toNatClampNeg else if a 29 kk.toNatClampNeg = 16 then i 1 - i 1 / 24 * 24 else if a 29 kk.toNatClampNeg = 17 then a 4 (a 27 kk.toNatClampNeg).toNatClampNeg else a 5 (a 27 kk.toNatClampNeg).toNatClampNeg) = z_18 from (by have c_29 := c_2; (try simp only [ez_1, ez_3, ez_5, ez_7, ez_17, ez_18, upd_at, upd_upd, upd_id] at c_29); have c_49 := c_4; (try simp only [ez_1, ez_3, ez_5, ez_7, ez_17, ez_18, upd_at, upd_upd, upd_id] at c_49); have c_69 := c_6; (try simp only [ez_1, ez_3, ez_5, ez_7, ez_17, ez_18, upd_at, upd_upd, upd_id] at c_69); have c_89 := c_8; (try simp only [ez_1, ez_3, ez_5, ez_7, ez_17, ez_18, upd_at, upd_upd, upd_id] at c_89); simp only [ez_1, ez_3, ez_5, ez_7, ez_17, ez_18, upd_at, upd_upd, upd_id, if_neg c_29, if_neg c_49, if_neg c_69, if_pos c_89, upd_upd, upd_id]))
          refine lv_aload_n hx hb dX10_holds_97 rfl (lv_at hl 1 rfl) ?_
          refine va_get (D := (dC, dI)) (ci := 10) (v := .ref (b 30)) (C := RX10) (T := TX10) (N := 51) hx hb hts inw_X10_holds_10 hown hK hP 0 rfl rfl 30 (by decide) (hts (.fieldLink RX10 72 "VatHouseModel" "sign" "[I") (List.mem_of_getElem? (i := 7) (by exact rfl))) (fun _ h9 => h9) rfl dX10_holds_98 ?_
          refine lv_iload_n hx hb dX10_holds_101 rfl (lv_at hl 2 rfl) ?_
          refine va_iald hx hb hK hP 20 19 rfl rfl (by assumption) dX10_holds_102 ?_
          refine lv_topi (fun z_19 ez_19 => ?_)
          have ez_19 : z_19 = (a 30) kk.toNatClampNeg := ez_19
          refine lv_bipush (v := 60) hx hb dX10_holds_103 (by decide) ?_
          refine lv_icmp_ne (tgt := 126) hx hb dX10_holds_105 (by decide) (fun c_20 => ?_) (fun c_20 => ?_)
          · have nc_20 := ne_i c_20
            have lc_20 : (60 : Int32).toInt = 60 := by decide
            refine lv_iload_n hx hb dX10_holds_126 rfl (lv_at hl 0 rfl) ?_
            refine lv_aload_n hx hb dX10_holds_127 rfl (lv_at hl 1 rfl) ?_
            refine va_get (D := (dC, dI)) (ci := 10) (v := .ref (b 28)) (C := RX10) (T := TX10) (N := 51) hx hb hts inw_X10_holds_10 hown hK hP 0 rfl rfl 28 (by decide) (hts (.fieldLink RX10 66 "VatHouseModel" "two" "[I") (List.mem_of_getElem? (i := 8) (by exact rfl))) (fun _ h9 => h9) rfl dX10_holds_128 ?_
            refine lv_iload_n hx hb dX10_holds_131 rfl (lv_at hl 2 rfl) ?_
            refine va_iald hx hb hK hP 18 17 rfl rfl (by assumption) dX10_holds_132 ?_
            refine lv_topi (fun z_21 ez_21 => ?_)
            have ez_21 : z_21 = (a 28) kk.toNatClampNeg := ez_21
            refine lv_icmp_ne (tgt := 140) hx hb dX10_holds_133 (by decide) (fun c_22 => ?_) (fun c_22 => ?_)
            · have nc_22 := ne_i c_22
              refine lv_iconst (v := 0) hx hb dX10_holds_140 (by decide) ?_
              exact M_z hx hb hr rfl hlocks () hP hD hK hS ⟨Or.inl ⟨rfl, hd_n2 (s := (i, a)) (fun h7 => c_20 (ez_19.trans h7)) hlk ez_21 c_22⟩, trivial⟩ (Nat.le_of_ble_eq_true rfl) (Nat.le_of_ble_eq_true rfl) dX10_holds_141
            · have nc_22 := eq_i c_22
              refine lv_iconst (v := 1) hx hb dX10_holds_136 (by decide) ?_
              refine lv_goto (tgt := 141) hx hb dX10_holds_137 (by decide) ?_
              exact M_z hx hb hr rfl hlocks () hP hD hK hS ⟨Or.inr ⟨rfl, hd_y2 (s := (i, a)) (fun h7 => c_20 (ez_19.trans h7)) hlk ez_21 c_22⟩, trivial⟩ (Nat.le_of_ble_eq_true rfl) (Nat.le_of_ble_eq_true rfl) dX10_holds_141
          · have nc_20 := eq_i c_20
            have lc_20 : (60 : Int32).toInt = 60 := by decide
            refine lv_iload_n hx hb dX10_holds_108 rfl (lv_at hl 0 rfl) ?_
            refine lv_aload_n hx hb dX10_holds_109 rfl (lv_at hl 1 rfl) ?_
            refine va_get (D := (dC, dI)) (ci := 10) (v := .ref (b 28)) (C := RX10) (T := TX10) (N := 51) hx hb hts inw_X10_holds_10 hown hK hP 0 rfl rfl 28 (by decide) (hts (.fieldLink RX10 66 "VatHouseModel" "two" "[I") (List.mem_of_getElem? (i := 8) (by exact rfl))) (fun _ h9 => h9) rfl dX10_holds_110 ?_
            refine lv_iload_n hx hb dX10_holds_113 rfl (lv_at hl 2 rfl) ?_
            refine va_iald hx hb hK hP 18 17 rfl rfl (by assumption) dX10_holds_114 ?_
            refine lv_topi (fun z_23 ez_23 => ?_)
            have ez_23 : z_23 = (a 28) kk.toNatClampNeg := ez_23
            refine lv_icmp_ge (tgt := 122) hx hb dX10_holds_115 (by decide) (fun c_24 => ?_) (fun c_24 => ?_)
            · have nc_24 := le_i c_24
              refine lv_iconst (v := 0) hx hb dX10_holds_122 (by decide) ?_
              refine lv_goto (tgt := 141) hx hb dX10_holds_123 (by decide) ?_
              exact M_z hx hb hr rfl hlocks () hP hD hK hS ⟨Or.inl ⟨rfl, hd_n1 (s := (i, a)) (ez_19.symm.trans c_20) hlk ez_23 (le_nlt c_24)⟩, trivial⟩ (Nat.le_of_ble_eq_true rfl) (Nat.le_of_ble_eq_true rfl) dX10_holds_141
            · have nc_24 := nle_i c_24
              refine lv_iconst (v := 1) hx hb dX10_holds_118 (by decide) ?_
              refine lv_goto (tgt := 141) hx hb dX10_holds_119 (by decide) ?_
              exact M_z hx hb hr rfl hlocks () hP hD hK hS ⟨Or.inr ⟨rfl, hd_y1 (s := (i, a)) (ez_19.symm.trans c_20) hlk ez_23 (nle_lt c_24)⟩, trivial⟩ (Nat.le_of_ble_eq_true rfl) (Nat.le_of_ble_eq_true rfl) dX10_holds_141
      · have nc_6 := eq_i c_6
        have lc_6 : (16 : Int32).toInt = 16 := by decide
        refine lv_aload_n hx hb dX10_holds_50 rfl (lv_at hl 0 rfl) ?_
        refine va_get (D := (dC, dI)) (ci := 10) (v := .int (i 1)) (C := RX10) (T := TX10) (N := 51) hx hb hts inw_X10_holds_10 hown hK hP 0 rfl rfl 1 (by decide) (hts (.fieldLink RX10 131 "VatHouseModel" "hours" "I") (List.mem_of_getElem? (i := 3) (by exact rfl))) (fun _ h9 => h9) rfl dX10_holds_51 ?_
        refine lv_bipush (v := 24) hx hb dX10_holds_54 (by decide) ?_
        refine lv_irem hx hb dX10_holds_56 (by decide) ?_
        refine lv_topi (fun z_25 ez_25 => ?_)
        refine lv_goto (tgt := 96) hx hb dX10_holds_57 (by decide) ?_
        refine lv_istore_n (lv' := [(3, .int z_25), (0, .ref h0), (1, .int kk), (2, .int ck)]) hx hb dX10_holds_96 rfl hl (by decide) rfl (fun ls hl => ?_)
        have hlk : lkA (i, a) kk.toNatClampNeg ck.toNatClampNeg = z_25 := (show (if a 29 kk.toNatClampNeg = 14 then a 15 ck.toNatClampNeg / a 13 ck.toNatClampNeg else if a 29 kk.toNatClampNeg = 15 then a 14 ck.toNatClampNeg else if a 29 kk.toNatClampNeg = 16 then i 1 - i 1 / 24 * 24 else if a 29 kk.toNatClampNeg = 17 then a 4 (a 27 kk.toNatClampNeg).toNatClampNeg else a 5 (a 27 kk.toNatClampNeg).toNatClampNeg) = z_25 from (by have c_29 := c_2; (try simp only [ez_1, ez_3, ez_5, ez_25, upd_at, upd_upd, upd_id] at c_29); have c_49 := c_4; (try simp only [ez_1, ez_3, ez_5, ez_25, upd_at, upd_upd, upd_id] at c_49); have c_69 := c_6; (try simp only [ez_1, ez_3, ez_5, ez_25, upd_at, upd_upd, upd_id] at c_69); simp only [ez_1, ez_3, ez_5, ez_25, upd_at, upd_upd, upd_id, if_neg c_29, if_neg c_49, if_pos c_69, upd_upd, upd_id]))
        refine lv_aload_n hx hb dX10_holds_97 rfl (lv_at hl 1 rfl) ?_
        refine va_get (D := (dC, dI)) (ci := 10) (v := .ref (b 30)) (C := RX10) (T := TX10) (N := 51) hx hb hts inw_X10_holds_10 hown hK hP 0 rfl rfl 30 (by decide) (hts (.fieldLink RX10 72 "VatHouseModel" "sign" "[I") (List.mem_of_getElem? (i := 7) (by exact rfl))) (fun _ h9 => h9) rfl dX10_holds_98 ?_
        refine lv_iload_n hx hb dX10_holds_101 rfl (lv_at hl 2 rfl) ?_
        refine va_iald hx hb hK hP 20 19 rfl rfl (by assumption) dX10_holds_102 ?_
        refine lv_topi (fun z_26 ez_26 => ?_)
        have ez_26 : z_26 = (a 30) kk.toNatClampNeg := ez_26
        refine lv_bipush (v := 60) hx hb dX10_holds_103 (by decide) ?_
        refine lv_icmp_ne (tgt := 126) hx hb dX10_holds_105 (by decide) (fun c_27 => ?_) (fun c_27 => ?_)
        · have nc_27 := ne_i c_27
          have lc_27 : (60 : Int32).toInt = 60 := by decide
          refine lv_iload_n hx hb dX10_holds_126 rfl (lv_at hl 0 rfl) ?_
          refine lv_aload_n hx hb dX10_holds_127 rfl (lv_at hl 1 rfl) ?_
          refine va_get (D := (dC, dI)) (ci := 10) (v := .ref (b 28)) (C := RX10) (T := TX10) (N := 51) hx hb hts inw_X10_holds_10 hown hK hP 0 rfl rfl 28 (by decide) (hts (.fieldLink RX10 66 "VatHouseModel" "two" "[I") (List.mem_of_getElem? (i := 8) (by exact rfl))) (fun _ h9 => h9) rfl dX10_holds_128 ?_
          refine lv_iload_n hx hb dX10_holds_131 rfl (lv_at hl 2 rfl) ?_
          refine va_iald hx hb hK hP 18 17 rfl rfl (by assumption) dX10_holds_132 ?_
          refine lv_topi (fun z_28 ez_28 => ?_)
          have ez_28 : z_28 = (a 28) kk.toNatClampNeg := ez_28
          refine lv_icmp_ne (tgt := 140) hx hb dX10_holds_133 (by decide) (fun c_29 => ?_) (fun c_29 => ?_)
          · have nc_29 := ne_i c_29
            refine lv_iconst (v := 0) hx hb dX10_holds_140 (by decide) ?_
            exact M_z hx hb hr rfl hlocks () hP hD hK hS ⟨Or.inl ⟨rfl, hd_n2 (s := (i, a)) (fun h7 => c_27 (ez_26.trans h7)) hlk ez_28 c_29⟩, trivial⟩ (Nat.le_of_ble_eq_true rfl) (Nat.le_of_ble_eq_true rfl) dX10_holds_141
          · have nc_29 := eq_i c_29
            refine lv_iconst (v := 1) hx hb dX10_holds_136 (by decide) ?_
            refine lv_goto (tgt := 141) hx hb dX10_holds_137 (by decide) ?_
            exact M_z hx hb hr rfl hlocks () hP hD hK hS ⟨Or.inr ⟨rfl, hd_y2 (s := (i, a)) (fun h7 => c_27 (ez_26.trans h7)) hlk ez_28 c_29⟩, trivial⟩ (Nat.le_of_ble_eq_true rfl) (Nat.le_of_ble_eq_true rfl) dX10_holds_141
        · have nc_27 := eq_i c_27
          have lc_27 : (60 : Int32).toInt = 60 := by decide
          refine lv_iload_n hx hb dX10_holds_108 rfl (lv_at hl 0 rfl) ?_
          refine lv_aload_n hx hb dX10_holds_109 rfl (lv_at hl 1 rfl) ?_
          refine va_get (D := (dC, dI)) (ci := 10) (v := .ref (b 28)) (C := RX10) (T := TX10) (N := 51) hx hb hts inw_X10_holds_10 hown hK hP 0 rfl rfl 28 (by decide) (hts (.fieldLink RX10 66 "VatHouseModel" "two" "[I") (List.mem_of_getElem? (i := 8) (by exact rfl))) (fun _ h9 => h9) rfl dX10_holds_110 ?_
          refine lv_iload_n hx hb dX10_holds_113 rfl (lv_at hl 2 rfl) ?_
          refine va_iald hx hb hK hP 18 17 rfl rfl (by assumption) dX10_holds_114 ?_
          refine lv_topi (fun z_30 ez_30 => ?_)
          have ez_30 : z_30 = (a 28) kk.toNatClampNeg := ez_30
          refine lv_icmp_ge (tgt := 122) hx hb dX10_holds_115 (by decide) (fun c_31 => ?_) (fun c_31 => ?_)
          · have nc_31 := le_i c_31
            refine lv_iconst (v := 0) hx hb dX10_holds_122 (by decide) ?_
            refine lv_goto (tgt := 141) hx hb dX10_holds_123 (by decide) ?_
            exact M_z hx hb hr rfl hlocks () hP hD hK hS ⟨Or.inl ⟨rfl, hd_n1 (s := (i, a)) (ez_26.symm.trans c_27) hlk ez_30 (le_nlt c_31)⟩, trivial⟩ (Nat.le_of_ble_eq_true rfl) (Nat.le_of_ble_eq_true rfl) dX10_holds_141
          · have nc_31 := nle_i c_31
            refine lv_iconst (v := 1) hx hb dX10_holds_118 (by decide) ?_
            refine lv_goto (tgt := 141) hx hb dX10_holds_119 (by decide) ?_
            exact M_z hx hb hr rfl hlocks () hP hD hK hS ⟨Or.inr ⟨rfl, hd_y1 (s := (i, a)) (ez_26.symm.trans c_27) hlk ez_30 (nle_lt c_31)⟩, trivial⟩ (Nat.le_of_ble_eq_true rfl) (Nat.le_of_ble_eq_true rfl) dX10_holds_141
    · have nc_4 := eq_i c_4
      have lc_4 : (15 : Int32).toInt = 15 := by decide
      refine lv_aload_n hx hb dX10_holds_30 rfl (lv_at hl 0 rfl) ?_
      refine va_get (D := (dC, dI)) (ci := 10) (v := .ref (b 14)) (C := RX10) (T := TX10) (N := 51) hx hb hts inw_X10_holds_10 hown hK hP 0 rfl rfl 14 (by decide) (hts (.fieldLink RX10 38 "VatHouseModel" "loose" "[I") (List.mem_of_getElem? (i := 2) (by exact rfl))) (fun _ h9 => h9) rfl dX10_holds_31 ?_
      refine lv_iload_n hx hb dX10_holds_34 rfl (lv_at hl 2 rfl) ?_
      refine va_iald hx hb hK hP 10 9 rfl rfl (by assumption) dX10_holds_35 ?_
      refine lv_topi (fun z_32 ez_32 => ?_)
      have ez_32 : z_32 = (a 14) ck.toNatClampNeg := ez_32
      refine lv_goto (tgt := 96) hx hb dX10_holds_36 (by decide) ?_
      refine lv_istore_n (lv' := [(3, .int z_32), (0, .ref h0), (1, .int kk), (2, .int ck)]) hx hb dX10_holds_96 rfl hl (by decide) rfl (fun ls hl => ?_)
      have hlk : lkA (i, a) kk.toNatClampNeg ck.toNatClampNeg = z_32 := (show (if a 29 kk.toNatClampNeg = 14 then a 15 ck.toNatClampNeg / a 13 ck.toNatClampNeg else if a 29 kk.toNatClampNeg = 15 then a 14 ck.toNatClampNeg else if a 29 kk.toNatClampNeg = 16 then i 1 - i 1 / 24 * 24 else if a 29 kk.toNatClampNeg = 17 then a 4 (a 27 kk.toNatClampNeg).toNatClampNeg else a 5 (a 27 kk.toNatClampNeg).toNatClampNeg) = z_32 from (by have c_29 := c_2; (try simp only [ez_1, ez_3, ez_32, upd_at, upd_upd, upd_id] at c_29); have c_49 := c_4; (try simp only [ez_1, ez_3, ez_32, upd_at, upd_upd, upd_id] at c_49); simp only [ez_1, ez_3, ez_32, upd_at, upd_upd, upd_id, if_neg c_29, if_pos c_49, upd_upd, upd_id]))
      refine lv_aload_n hx hb dX10_holds_97 rfl (lv_at hl 1 rfl) ?_
      refine va_get (D := (dC, dI)) (ci := 10) (v := .ref (b 30)) (C := RX10) (T := TX10) (N := 51) hx hb hts inw_X10_holds_10 hown hK hP 0 rfl rfl 30 (by decide) (hts (.fieldLink RX10 72 "VatHouseModel" "sign" "[I") (List.mem_of_getElem? (i := 7) (by exact rfl))) (fun _ h9 => h9) rfl dX10_holds_98 ?_
      refine lv_iload_n hx hb dX10_holds_101 rfl (lv_at hl 2 rfl) ?_
      refine va_iald hx hb hK hP 20 19 rfl rfl (by assumption) dX10_holds_102 ?_
      refine lv_topi (fun z_33 ez_33 => ?_)
      have ez_33 : z_33 = (a 30) kk.toNatClampNeg := ez_33
      refine lv_bipush (v := 60) hx hb dX10_holds_103 (by decide) ?_
      refine lv_icmp_ne (tgt := 126) hx hb dX10_holds_105 (by decide) (fun c_34 => ?_) (fun c_34 => ?_)
      · have nc_34 := ne_i c_34
        have lc_34 : (60 : Int32).toInt = 60 := by decide
        refine lv_iload_n hx hb dX10_holds_126 rfl (lv_at hl 0 rfl) ?_
        refine lv_aload_n hx hb dX10_holds_127 rfl (lv_at hl 1 rfl) ?_
        refine va_get (D := (dC, dI)) (ci := 10) (v := .ref (b 28)) (C := RX10) (T := TX10) (N := 51) hx hb hts inw_X10_holds_10 hown hK hP 0 rfl rfl 28 (by decide) (hts (.fieldLink RX10 66 "VatHouseModel" "two" "[I") (List.mem_of_getElem? (i := 8) (by exact rfl))) (fun _ h9 => h9) rfl dX10_holds_128 ?_
        refine lv_iload_n hx hb dX10_holds_131 rfl (lv_at hl 2 rfl) ?_
        refine va_iald hx hb hK hP 18 17 rfl rfl (by assumption) dX10_holds_132 ?_
        refine lv_topi (fun z_35 ez_35 => ?_)
        have ez_35 : z_35 = (a 28) kk.toNatClampNeg := ez_35
        refine lv_icmp_ne (tgt := 140) hx hb dX10_holds_133 (by decide) (fun c_36 => ?_) (fun c_36 => ?_)
        · have nc_36 := ne_i c_36
          refine lv_iconst (v := 0) hx hb dX10_holds_140 (by decide) ?_
          exact M_z hx hb hr rfl hlocks () hP hD hK hS ⟨Or.inl ⟨rfl, hd_n2 (s := (i, a)) (fun h7 => c_34 (ez_33.trans h7)) hlk ez_35 c_36⟩, trivial⟩ (Nat.le_of_ble_eq_true rfl) (Nat.le_of_ble_eq_true rfl) dX10_holds_141
        · have nc_36 := eq_i c_36
          refine lv_iconst (v := 1) hx hb dX10_holds_136 (by decide) ?_
          refine lv_goto (tgt := 141) hx hb dX10_holds_137 (by decide) ?_
          exact M_z hx hb hr rfl hlocks () hP hD hK hS ⟨Or.inr ⟨rfl, hd_y2 (s := (i, a)) (fun h7 => c_34 (ez_33.trans h7)) hlk ez_35 c_36⟩, trivial⟩ (Nat.le_of_ble_eq_true rfl) (Nat.le_of_ble_eq_true rfl) dX10_holds_141
      · have nc_34 := eq_i c_34
        have lc_34 : (60 : Int32).toInt = 60 := by decide
        refine lv_iload_n hx hb dX10_holds_108 rfl (lv_at hl 0 rfl) ?_
        refine lv_aload_n hx hb dX10_holds_109 rfl (lv_at hl 1 rfl) ?_
        refine va_get (D := (dC, dI)) (ci := 10) (v := .ref (b 28)) (C := RX10) (T := TX10) (N := 51) hx hb hts inw_X10_holds_10 hown hK hP 0 rfl rfl 28 (by decide) (hts (.fieldLink RX10 66 "VatHouseModel" "two" "[I") (List.mem_of_getElem? (i := 8) (by exact rfl))) (fun _ h9 => h9) rfl dX10_holds_110 ?_
        refine lv_iload_n hx hb dX10_holds_113 rfl (lv_at hl 2 rfl) ?_
        refine va_iald hx hb hK hP 18 17 rfl rfl (by assumption) dX10_holds_114 ?_
        refine lv_topi (fun z_37 ez_37 => ?_)
        have ez_37 : z_37 = (a 28) kk.toNatClampNeg := ez_37
        refine lv_icmp_ge (tgt := 122) hx hb dX10_holds_115 (by decide) (fun c_38 => ?_) (fun c_38 => ?_)
        · have nc_38 := le_i c_38
          refine lv_iconst (v := 0) hx hb dX10_holds_122 (by decide) ?_
          refine lv_goto (tgt := 141) hx hb dX10_holds_123 (by decide) ?_
          exact M_z hx hb hr rfl hlocks () hP hD hK hS ⟨Or.inl ⟨rfl, hd_n1 (s := (i, a)) (ez_33.symm.trans c_34) hlk ez_37 (le_nlt c_38)⟩, trivial⟩ (Nat.le_of_ble_eq_true rfl) (Nat.le_of_ble_eq_true rfl) dX10_holds_141
        · have nc_38 := nle_i c_38
          refine lv_iconst (v := 1) hx hb dX10_holds_118 (by decide) ?_
          refine lv_goto (tgt := 141) hx hb dX10_holds_119 (by decide) ?_
          exact M_z hx hb hr rfl hlocks () hP hD hK hS ⟨Or.inr ⟨rfl, hd_y1 (s := (i, a)) (ez_33.symm.trans c_34) hlk ez_37 (nle_lt c_38)⟩, trivial⟩ (Nat.le_of_ble_eq_true rfl) (Nat.le_of_ble_eq_true rfl) dX10_holds_141
  · have nc_2 := eq_i c_2
    have lc_2 : (14 : Int32).toInt = 14 := by decide
    refine lv_aload_n hx hb dX10_holds_11 rfl (lv_at hl 0 rfl) ?_
    refine lv_iload_n hx hb dX10_holds_12 rfl (lv_at hl 2 rfl) ?_
    refine M_V ⟨hx, hb, hml, hown, hts⟩ (m_X10_shadeOfE l dC dI sa g h0 b i a ck _ hc30 hwt) (cwV 1 hts gX10_holds_X10_shadeOf rfl rfl rfl (by decide +kernel) ⟨Nat.le_of_ble_eq_true rfl, Nat.le_of_ble_eq_true rfl⟩) hP hD hK hS hA hev rfl rfl rfl rfl hl.1 rfl (Nat.le_of_ble_eq_true rfl) dX10_holds_13 ⟨(Nat.le_of_ble_eq_true rfl), (Nat.le_of_ble_eq_true rfl)⟩ (fun r u H locs hw hP hD hS => ?_)
    have hw : (∃ z : Int32, r = some (.int z) ∧ (z = ((a 15) ck.toNatClampNeg) / ((a 13) ck.toNatClampNeg))) ∧ (True) := hw
    obtain ⟨⟨z_40, rfl, hz_z_40⟩, hw_39⟩ := hw
    have hP : va_P (dC, dI) vwCl (mw g h0 b i a) _ := hP
    have hD : va_D _ (mw g h0 b i a) := hD
    refine W.eq (g2 := F0 m 16 ls [.int z_40]) rfl ?_
    have ez_40 := hz_z_40
    refine lv_goto (tgt := 96) hx hb dX10_holds_16 (by decide) ?_
    refine lv_istore_n (lv' := [(3, .int z_40), (0, .ref h0), (1, .int kk), (2, .int ck)]) hx hb dX10_holds_96 rfl hl (by decide) rfl (fun ls hl => ?_)
    have hlk : lkA (i, a) kk.toNatClampNeg ck.toNatClampNeg = z_40 := (show (if a 29 kk.toNatClampNeg = 14 then a 15 ck.toNatClampNeg / a 13 ck.toNatClampNeg else if a 29 kk.toNatClampNeg = 15 then a 14 ck.toNatClampNeg else if a 29 kk.toNatClampNeg = 16 then i 1 - i 1 / 24 * 24 else if a 29 kk.toNatClampNeg = 17 then a 4 (a 27 kk.toNatClampNeg).toNatClampNeg else a 5 (a 27 kk.toNatClampNeg).toNatClampNeg) = z_40 from (by have c_29 := c_2; (try simp only [ez_1, ez_40, upd_at, upd_upd, upd_id] at c_29); simp only [ez_1, ez_40, upd_at, upd_upd, upd_id, if_pos c_29, upd_upd, upd_id]))
    refine lv_aload_n hx hb dX10_holds_97 rfl (lv_at hl 1 rfl) ?_
    refine va_get (D := (dC, dI)) (ci := 10) (v := .ref (b 30)) (C := RX10) (T := TX10) (N := 51) hx hb hts inw_X10_holds_10 hown hK hP 0 rfl rfl 30 (by decide) (hts (.fieldLink RX10 72 "VatHouseModel" "sign" "[I") (List.mem_of_getElem? (i := 7) (by exact rfl))) (fun _ h9 => h9) rfl dX10_holds_98 ?_
    refine lv_iload_n hx hb dX10_holds_101 rfl (lv_at hl 2 rfl) ?_
    refine va_iald hx hb hK hP 20 19 rfl rfl (by assumption) dX10_holds_102 ?_
    refine lv_topi (fun z_41 ez_41 => ?_)
    have ez_41 : z_41 = (a 30) kk.toNatClampNeg := ez_41
    refine lv_bipush (v := 60) hx hb dX10_holds_103 (by decide) ?_
    refine lv_icmp_ne (tgt := 126) hx hb dX10_holds_105 (by decide) (fun c_42 => ?_) (fun c_42 => ?_)
    · have nc_42 := ne_i c_42
      have lc_42 : (60 : Int32).toInt = 60 := by decide
      refine lv_iload_n hx hb dX10_holds_126 rfl (lv_at hl 0 rfl) ?_
      refine lv_aload_n hx hb dX10_holds_127 rfl (lv_at hl 1 rfl) ?_
      refine va_get (D := (dC, dI)) (ci := 10) (v := .ref (b 28)) (C := RX10) (T := TX10) (N := 51) hx hb hts inw_X10_holds_10 hown hK hP 0 rfl rfl 28 (by decide) (hts (.fieldLink RX10 66 "VatHouseModel" "two" "[I") (List.mem_of_getElem? (i := 8) (by exact rfl))) (fun _ h9 => h9) rfl dX10_holds_128 ?_
      refine lv_iload_n hx hb dX10_holds_131 rfl (lv_at hl 2 rfl) ?_
      refine va_iald hx hb hK hP 18 17 rfl rfl (by assumption) dX10_holds_132 ?_
      refine lv_topi (fun z_43 ez_43 => ?_)
      have ez_43 : z_43 = (a 28) kk.toNatClampNeg := ez_43
      refine lv_icmp_ne (tgt := 140) hx hb dX10_holds_133 (by decide) (fun c_44 => ?_) (fun c_44 => ?_)
      · have nc_44 := ne_i c_44
        refine lv_iconst (v := 0) hx hb dX10_holds_140 (by decide) ?_
        exact M_z hx hb hr rfl hlocks () hP hD hK hS ⟨Or.inl ⟨rfl, hd_n2 (s := (i, a)) (fun h7 => c_42 (ez_41.trans h7)) hlk ez_43 c_44⟩, trivial⟩ (Nat.le_of_ble_eq_true rfl) (Nat.le_of_ble_eq_true rfl) dX10_holds_141
      · have nc_44 := eq_i c_44
        refine lv_iconst (v := 1) hx hb dX10_holds_136 (by decide) ?_
        refine lv_goto (tgt := 141) hx hb dX10_holds_137 (by decide) ?_
        exact M_z hx hb hr rfl hlocks () hP hD hK hS ⟨Or.inr ⟨rfl, hd_y2 (s := (i, a)) (fun h7 => c_42 (ez_41.trans h7)) hlk ez_43 c_44⟩, trivial⟩ (Nat.le_of_ble_eq_true rfl) (Nat.le_of_ble_eq_true rfl) dX10_holds_141
    · have nc_42 := eq_i c_42
      have lc_42 : (60 : Int32).toInt = 60 := by decide
      refine lv_iload_n hx hb dX10_holds_108 rfl (lv_at hl 0 rfl) ?_
      refine lv_aload_n hx hb dX10_holds_109 rfl (lv_at hl 1 rfl) ?_
      refine va_get (D := (dC, dI)) (ci := 10) (v := .ref (b 28)) (C := RX10) (T := TX10) (N := 51) hx hb hts inw_X10_holds_10 hown hK hP 0 rfl rfl 28 (by decide) (hts (.fieldLink RX10 66 "VatHouseModel" "two" "[I") (List.mem_of_getElem? (i := 8) (by exact rfl))) (fun _ h9 => h9) rfl dX10_holds_110 ?_
      refine lv_iload_n hx hb dX10_holds_113 rfl (lv_at hl 2 rfl) ?_
      refine va_iald hx hb hK hP 18 17 rfl rfl (by assumption) dX10_holds_114 ?_
      refine lv_topi (fun z_45 ez_45 => ?_)
      have ez_45 : z_45 = (a 28) kk.toNatClampNeg := ez_45
      refine lv_icmp_ge (tgt := 122) hx hb dX10_holds_115 (by decide) (fun c_46 => ?_) (fun c_46 => ?_)
      · have nc_46 := le_i c_46
        refine lv_iconst (v := 0) hx hb dX10_holds_122 (by decide) ?_
        refine lv_goto (tgt := 141) hx hb dX10_holds_123 (by decide) ?_
        exact M_z hx hb hr rfl hlocks () hP hD hK hS ⟨Or.inl ⟨rfl, hd_n1 (s := (i, a)) (ez_41.symm.trans c_42) hlk ez_45 (le_nlt c_46)⟩, trivial⟩ (Nat.le_of_ble_eq_true rfl) (Nat.le_of_ble_eq_true rfl) dX10_holds_141
      · have nc_46 := nle_i c_46
        refine lv_iconst (v := 1) hx hb dX10_holds_118 (by decide) ?_
        refine lv_goto (tgt := 141) hx hb dX10_holds_119 (by decide) ?_
        exact M_z hx hb hr rfl hlocks () hP hD hK hS ⟨Or.inr ⟨rfl, hd_y1 (s := (i, a)) (ez_41.symm.trans c_42) hlk ez_45 (nle_lt c_46)⟩, trivial⟩ (Nat.le_of_ble_eq_true rfl) (Nat.le_of_ble_eq_true rfl) dX10_holds_141
