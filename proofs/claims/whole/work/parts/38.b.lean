theorem n1_0 {P : Prop} (h : (1 : Int32) = 0) : P := absurd h (by decide)
theorem n2_0 {P : Prop} (h : (2 : Int32) = 0) : P := absurd h (by decide)
theorem in_V {v : Int32} (h : inV v) : vp_in v 6 := in_i h.1 h.2
theorem in_C {s : AS} {k : Int32} (h : inC s k) (hn : (s.1 12).toInt ≤ 30) : vp_in k 30 := in_i h.1 (by have := h.2; omega)

noncomputable abbrev rm_X10_chargeE : Room := { frames := 2, cells := 0, slots := 0, locals := 43 }
set_option maxHeartbeats 4000000 in
set_option maxRecDepth 100000 in
theorem m_X10_chargeE (l : Launch) (dC : Nat → ClassId) (dI : Nat → Nat → Nat) (sa : Nat → Nat) (g : Nat → Nat) (h0 : Nat) (b : Nat → Nat) (i : Nat → Int32) (a : Nat → Nat → Int32) (vv : Int32) (nn : Int32) (sz : Nat) : CT l dC dI sa yX10_charge wsX10_charge rm_X10_chargeE [.ref h0, .int vv, .int nn] (mw g h0 b i a) (tyM g) sz (fun (r : Option Value) (u : Int32 × Int32 × (Nat → Int32)) => match u with | (x0, x3, y4) => (∃ z : Int32, r = some (.int z)) ∧ (x0 = (chG vv nn (i, a)).1 ∧ ((chG vv nn (i, a)).1 = 0 → r = some (.int (chG vv nn (i, a)).2.1)) ∧ x3 = (chG vv nn (i, a)).2.2.1 3 ∧ y4 = (chG vv nn (i, a)).2.2.2 4)) (fun (u : Int32 × Int32 × (Nat → Int32)) => match u with | (x0, x3, y4) => mw g h0 b (va_up (va_up i 0 x0) 3 x3) (va_up a 4 y4)) (fun _ => []) 0 0 := by
  refine CT.start (cc := cX10_charge) (maxL := 3) (ret := (some .int)) (by decide) rfl (Nat.le_of_ble_eq_true rfl) ?_
  intro p e s m below meth c ls hst hP hK hD hev hS hl
  obtain ⟨hx, hb, hr, hml, hts, hown, hlocks, hin⟩ := hst
  have hown : s.vm.findClass RX10 = some m.cls := hown
  have hA : ∀ q : Nat, s.heap.size ≤ q → va_A (mw g h0 b i a) s.heap.size q := fun _ h => Or.inr h
  have hl : lv_has ls 3 [(0, .ref h0), (1, .int vv), (2, .int nn)] := hl
  refine lv_aload_n hx hb dX10_charge_0 rfl (lv_at hl 0 rfl) ?_
  refine lv_iload_n hx hb dX10_charge_1 rfl (lv_at hl 1 rfl) ?_
  refine M_V ⟨hx, hb, hml, hown, hts⟩ (m_X10_isVatE l dC dI sa g h0 b i a vv _ ) (cwV 1 hts gX10_charge_X10_isVat rfl rfl rfl (by decide +kernel) ⟨Nat.le_of_ble_eq_true rfl, Nat.le_of_ble_eq_true rfl⟩) hP hD hK hS hA hev rfl rfl rfl rfl hl.1 rfl (Nat.le_of_ble_eq_true rfl) dX10_charge_2 ⟨(Nat.le_of_ble_eq_true rfl), (Nat.le_of_ble_eq_true rfl)⟩ (fun r u H locs hw hP hD hS => ?_)
  obtain ⟨x0_1, rfl⟩ : ∃ z, z = u := ⟨_, rfl⟩
  have hw : ((r = some (.int 0) ∧ (¬ inV vv ∧ x0_1 = 1)) ∨ (r = some (.int 1) ∧ (inV vv ∧ x0_1 = 0))) ∧ (True) := hw
  obtain ⟨⟨rfl, hz2_3⟩ | ⟨rfl, hz2_3⟩, hw_2⟩ := hw
  · have hP : va_P (dC, dI) vwCl (mw g h0 b (va_up i 0 x0_1) a) _ := hP
    have hD : va_D _ (mw g h0 b (va_up i 0 x0_1) a) := hD
    refine W.eq (g2 := F0 m 5 ls [.int 0]) rfl ?_
    refine lv_if_ne (tgt := 10) hx hb dX10_charge_5 (by decide) (fun c_4 => absurd c_4 (by decide)) (fun _ => ?_)
    refine lv_iconst (v := 0) hx hb dX10_charge_8 (by decide) ?_
    exact M_i hx hb hr hlocks (x0_1, (i 3), (a 4)) hP hD hK hS ⟨⟨_, rfl⟩, (by rw [show chG vv nn (i, a) = _ from if_neg hz2_3.1]; exact ⟨hz2_3.2, fun h9 => (by first | exact n1_0 h9 | exact n2_0 h9), rfl, rfl⟩)⟩ (Nat.le_of_ble_eq_true rfl) (Nat.le_of_ble_eq_true rfl) dX10_charge_9
  · have hP : va_P (dC, dI) vwCl (mw g h0 b (va_up i 0 x0_1) a) _ := hP
    have hD : va_D _ (mw g h0 b (va_up i 0 x0_1) a) := hD
    refine W.eq (g2 := F0 m 5 ls [.int 1]) rfl ?_
    have hv6 := in_V hz2_3.1
    refine lv_if_ne (tgt := 10) hx hb dX10_charge_5 (by decide) (fun _ => ?_) (fun c_5 => absurd c_5 (by decide))
    refine lv_iload_n hx hb dX10_charge_10 rfl (lv_at hl 2 rfl) ?_
    refine lv_iconst (v := 1) hx hb dX10_charge_11 (by decide) ?_
    refine lv_icmp_lt (tgt := 28) hx hb dX10_charge_12 (by decide) (fun c_6 => ?_) (fun c_6 => ?_)
    · have nc_6 := lt_i c_6
      have lc_6 : (1 : Int32).toInt = 1 := by decide
      refine lv_iconst (v := (-1)) hx hb dX10_charge_28 (by decide) ?_
      exact M_i hx hb hr hlocks (x0_1, (i 3), (a 4)) hP hD hK hS ⟨⟨_, rfl⟩, (by rw [show chG vv nn (i, a) = _ from (if_pos hz2_3.1).trans (if_pos (Or.inl c_6))]; exact ⟨hz2_3.2, fun h9 => rfl, rfl, rfl⟩)⟩ (Nat.le_of_ble_eq_true rfl) (Nat.le_of_ble_eq_true rfl) dX10_charge_29
    · have nc_6 := nlt_i c_6
      have lc_6 : (1 : Int32).toInt = 1 := by decide
      refine lv_iload_n hx hb dX10_charge_15 rfl (lv_at hl 2 rfl) ?_
      refine lv_ldc (v := 1000000) hx hb hown (hts (.constant RX10 119 (1000000)) (List.mem_of_getElem? (i := 1) (by exact rfl))) dX10_charge_16 ?_
      refine lv_aload_n hx hb dX10_charge_18 rfl (lv_at hl 0 rfl) ?_
      refine va_get (D := (dC, dI)) (ci := 10) (v := .ref (b 4)) (C := RX10) (T := TX10) (N := 51) hx hb hts inw_X10_charge_10 hown hK hP 0 rfl rfl 4 (by decide) (hts (.fieldLink RX10 7 "VatHouseModel" "grains" "[I") (List.mem_of_getElem? (i := 2) (by exact rfl))) (fun _ h9 => h9) rfl dX10_charge_19 ?_
      refine lv_iload_n hx hb dX10_charge_22 rfl (lv_at hl 1 rfl) ?_
      refine va_iald hx hb hK hP 1 0 rfl rfl (by assumption) dX10_charge_23 ?_
      refine lv_topi (fun z_7 ez_7 => ?_)
      have ez_7 : z_7 = (a 4) vv.toNatClampNeg := ez_7
      refine lv_isub hx hb dX10_charge_24 ?_
      refine lv_topi (fun z_8 ez_8 => ?_)
      refine lv_icmp_le (tgt := 30) hx hb dX10_charge_25 (by decide) (fun c_9 => ?_) (fun c_9 => ?_)
      · have nc_9 := le_i c_9
        refine lv_aload_n hx hb dX10_charge_30 rfl (lv_at hl 0 rfl) ?_
        refine va_get (D := (dC, dI)) (ci := 10) (v := .ref (b 4)) (C := RX10) (T := TX10) (N := 51) hx hb hts inw_X10_charge_10 hown hK hP 0 rfl rfl 4 (by decide) (hts (.fieldLink RX10 7 "VatHouseModel" "grains" "[I") (List.mem_of_getElem? (i := 2) (by exact rfl))) (fun _ h9 => h9) rfl dX10_charge_31 ?_
        refine lv_iload_n hx hb dX10_charge_34 rfl (lv_at hl 1 rfl) ?_
        refine lv_dup2_11 hx hb dX10_charge_35 rfl rfl ?_
        refine va_iald hx hb hK hP 1 0 rfl rfl (by assumption) dX10_charge_36 ?_
        refine lv_topi (fun z_10 ez_10 => ?_)
        have ez_10 : z_10 = (a 4) vv.toNatClampNeg := ez_10
        refine lv_iload_n hx hb dX10_charge_37 rfl (lv_at hl 2 rfl) ?_
        refine lv_iadd hx hb dX10_charge_38 ?_
        refine lv_topi (fun z_11 ez_11 => ?_)
        refine va_iast hx hb hK hP hD hS 1 0 rfl rfl (by assumption) dX10_charge_39 (fun H locs hP hD hS => ?_)
        have hP : va_P (dC, dI) vwCl (mw g h0 b (va_up i 0 x0_1) (va_up a 4 (upd (a 4) vv.toNatClampNeg z_11))) _ := hP
        have hD : va_D _ (mw g h0 b (va_up i 0 x0_1) (va_up a 4 (upd (a 4) vv.toNatClampNeg z_11))) := hD
        obtain ⟨f_12, ef_12⟩ : ∃ z, z = (upd (a 4) vv.toNatClampNeg z_11) := ⟨_, rfl⟩
        rw [← ef_12] at hP hD
        refine lv_aload_n hx hb dX10_charge_40 rfl (lv_at hl 0 rfl) ?_
        refine lv_dup hx hb dX10_charge_41 rfl ?_
        refine va_get (D := (dC, dI)) (ci := 10) (v := .int (i 3)) (C := RX10) (T := TX10) (N := 51) hx hb hts inw_X10_charge_10 hown hK hP 0 rfl rfl 3 (by decide) (hts (.fieldLink RX10 120 "VatHouseModel" "put" "I") (List.mem_of_getElem? (i := 3) (by exact rfl))) (fun _ h9 => h9) rfl dX10_charge_42 ?_
        refine lv_iload_n hx hb dX10_charge_45 rfl (lv_at hl 2 rfl) ?_
        refine lv_iadd hx hb dX10_charge_46 ?_
        refine lv_topi (fun z_13 ez_13 => ?_)
        refine va_put (D := (dC, dI)) (ci := 10) (v := .int z_13) (ty := .int) (C := RX10) (T := TX10) (N := 51) hx hb hts inw_X10_charge_10 tyX10 tyX10_ok nmX10 hown hK hP hD hS 0 rfl rfl 3 (by decide) (hts (.fieldLink RX10 120 "VatHouseModel" "put" "I") (List.mem_of_getElem? (i := 3) (by exact rfl))) (fun _ h9 => h9) rfl (tyX10_ok 3 (by decide)) rfl rfl (Nat.le_of_ble_eq_true rfl) dX10_charge_47 (fun H locs hP hD hS => ?_)
        have hP : va_P (dC, dI) vwCl (mw g h0 b (va_up (va_up i 0 x0_1) 3 z_13) (va_up a 4 f_12)) _ := hP
        have hD : va_D _ (mw g h0 b (va_up (va_up i 0 x0_1) 3 z_13) (va_up a 4 f_12)) := hD
        refine lv_aload_n hx hb dX10_charge_50 rfl (lv_at hl 0 rfl) ?_
        refine va_get (D := (dC, dI)) (ci := 10) (v := .ref (b 4)) (C := RX10) (T := TX10) (N := 51) hx hb hts inw_X10_charge_10 hown hK hP 0 rfl rfl 4 (by decide) (hts (.fieldLink RX10 7 "VatHouseModel" "grains" "[I") (List.mem_of_getElem? (i := 2) (by exact rfl))) (fun _ h9 => h9) rfl dX10_charge_51 ?_
        refine lv_iload_n hx hb dX10_charge_54 rfl (lv_at hl 1 rfl) ?_
        refine va_iald hx hb hK hP 1 0 rfl rfl (by assumption) dX10_charge_55 ?_
        refine lv_topi (fun z_14 ez_14 => ?_)
        have ez_14 : z_14 = f_12 vv.toNatClampNeg := ez_14
        exact M_i hx hb hr hlocks (x0_1, z_13, f_12) hP hD hK hS ⟨⟨_, rfl⟩, (by rw [show chG vv nn (i, a) = _ from (if_pos hz2_3.1).trans (if_neg (by rintro (h8 | h8); exact c_6 h8; exact le_nlt (by have h7 := c_9; simp only [ez_7, ez_8] at h7; exact h7) h8))]; exact ⟨hz2_3.2, fun h9 => (by simp only [ez_7, ez_8, ez_10, ez_11, ez_13, ez_14, ef_12, upd_at]), ez_13, (by simp only [ef_12, ez_7, ez_8, ez_10, ez_11, ez_13, ez_14]; rfl)⟩)⟩ (Nat.le_of_ble_eq_true rfl) (Nat.le_of_ble_eq_true rfl) dX10_charge_56
      · have nc_9 := nle_i c_9
        refine lv_iconst (v := (-1)) hx hb dX10_charge_28 (by decide) ?_
        exact M_i hx hb hr hlocks (x0_1, (i 3), (a 4)) hP hD hK hS ⟨⟨_, rfl⟩, (by rw [show chG vv nn (i, a) = _ from (if_pos hz2_3.1).trans (if_pos (Or.inr (by have h8 := nle_lt c_9; simp only [ez_7, ez_8] at h8; exact h8)))]; exact ⟨hz2_3.2, fun h9 => rfl, rfl, rfl⟩)⟩ (Nat.le_of_ble_eq_true rfl) (Nat.le_of_ble_eq_true rfl) dX10_charge_29

noncomputable abbrev rm_X10_feedE : Room := { frames := 2, cells := 0, slots := 0, locals := 43 }
set_option maxHeartbeats 4000000 in
set_option maxRecDepth 100000 in
theorem m_X10_feedE (l : Launch) (dC : Nat → ClassId) (dI : Nat → Nat → Nat) (sa : Nat → Nat) (g : Nat → Nat) (h0 : Nat) (b : Nat → Nat) (i : Nat → Int32) (a : Nat → Nat → Int32) (vv : Int32) (nn : Int32) (sz : Nat) : CT l dC dI sa yX10_feed wsX10_feed rm_X10_feedE [.ref h0, .int vv, .int nn] (mw g h0 b i a) (tyM g) sz (fun (r : Option Value) (u : Int32 × (Nat → Int32) × (Nat → Int32)) => match u with | (x0, y5, y7) => (∃ z : Int32, r = some (.int z)) ∧ (x0 = (fdS vv nn (i, a)).1 ∧ ((fdS vv nn (i, a)).1 = 0 → r = some (.int (fdS vv nn (i, a)).2.1)) ∧ y5 = (fdS vv nn (i, a)).2.2.2 5 ∧ y7 = (fdS vv nn (i, a)).2.2.2 7)) (fun (u : Int32 × (Nat → Int32) × (Nat → Int32)) => match u with | (x0, y5, y7) => mw g h0 b (va_up i 0 x0) (va_up (va_up a 5 y5) 7 y7)) (fun _ => []) 0 0 := by
  refine CT.start (cc := cX10_feed) (maxL := 3) (ret := (some .int)) (by decide) rfl (Nat.le_of_ble_eq_true rfl) ?_
  intro p e s m below meth c ls hst hP hK hD hev hS hl
  obtain ⟨hx, hb, hr, hml, hts, hown, hlocks, hin⟩ := hst
  have hown : s.vm.findClass RX10 = some m.cls := hown
  have hA : ∀ q : Nat, s.heap.size ≤ q → va_A (mw g h0 b i a) s.heap.size q := fun _ h => Or.inr h
  have hl : lv_has ls 3 [(0, .ref h0), (1, .int vv), (2, .int nn)] := hl
  refine lv_aload_n hx hb dX10_feed_0 rfl (lv_at hl 0 rfl) ?_
  refine lv_iload_n hx hb dX10_feed_1 rfl (lv_at hl 1 rfl) ?_
  refine M_V ⟨hx, hb, hml, hown, hts⟩ (m_X10_isVatE l dC dI sa g h0 b i a vv _ ) (cwV 1 hts gX10_feed_X10_isVat rfl rfl rfl (by decide +kernel) ⟨Nat.le_of_ble_eq_true rfl, Nat.le_of_ble_eq_true rfl⟩) hP hD hK hS hA hev rfl rfl rfl rfl hl.1 rfl (Nat.le_of_ble_eq_true rfl) dX10_feed_2 ⟨(Nat.le_of_ble_eq_true rfl), (Nat.le_of_ble_eq_true rfl)⟩ (fun r u H locs hw hP hD hS => ?_)
  obtain ⟨x0_1, rfl⟩ : ∃ z, z = u := ⟨_, rfl⟩
  have hw : ((r = some (.int 0) ∧ (¬ inV vv ∧ x0_1 = 1)) ∨ (r = some (.int 1) ∧ (inV vv ∧ x0_1 = 0))) ∧ (True) := hw
  obtain ⟨⟨rfl, hz2_3⟩ | ⟨rfl, hz2_3⟩, hw_2⟩ := hw
  · have hP : va_P (dC, dI) vwCl (mw g h0 b (va_up i 0 x0_1) a) _ := hP
    have hD : va_D _ (mw g h0 b (va_up i 0 x0_1) a) := hD
    refine W.eq (g2 := F0 m 5 ls [.int 0]) rfl ?_
    refine lv_if_eq (tgt := 33) hx hb dX10_feed_5 (by decide) (fun _ => ?_) (fun c_4 => absurd c_4 (by decide))
    refine lv_iconst (v := 0) hx hb dX10_feed_33 (by decide) ?_
    exact M_i hx hb hr hlocks (x0_1, (a 5), (a 7)) hP hD hK hS ⟨⟨_, rfl⟩, (by rw [show fdS vv nn (i, a) = _ from if_neg hz2_3.1]; exact ⟨hz2_3.2, fun h9 => (by first | exact n1_0 h9 | exact n2_0 h9), rfl, rfl⟩)⟩ (Nat.le_of_ble_eq_true rfl) (Nat.le_of_ble_eq_true rfl) dX10_feed_34
  · have hP : va_P (dC, dI) vwCl (mw g h0 b (va_up i 0 x0_1) a) _ := hP
    have hD : va_D _ (mw g h0 b (va_up i 0 x0_1) a) := hD
    refine W.eq (g2 := F0 m 5 ls [.int 1]) rfl ?_
    have hv6 := in_V hz2_3.1
    refine lv_if_eq (tgt := 33) hx hb dX10_feed_5 (by decide) (fun c_5 => absurd c_5 (by decide)) (fun _ => ?_)
    refine lv_aload_n hx hb dX10_feed_8 rfl (lv_at hl 0 rfl) ?_
    refine lv_iload_n hx hb dX10_feed_9 rfl (lv_at hl 2 rfl) ?_
    refine lv_iconst (v := 1) hx hb dX10_feed_10 (by decide) ?_
    refine lv_icmp_lt (tgt := 25) hx hb dX10_feed_11 (by decide) (fun c_6 => ?_) (fun c_6 => ?_)
    · have nc_6 := lt_i c_6
      have lc_6 : (1 : Int32).toInt = 1 := by decide
      refine lv_iconst (v := 0) hx hb dX10_feed_25 (by decide) ?_
      refine lv_iconst (v := 2) hx hb dX10_feed_26 (by decide) ?_
      refine M_V ⟨hx, hb, hml, hown, hts⟩ (m_X10_rightX l dC dI sa g h0 b (va_up i 0 x0_1) a (0 : Int32) (2 : Int32) _ (by decide) hz2_3.2) (cwV 2 hts gX10_feed_X10_right rfl rfl rfl (by decide +kernel) ⟨Nat.le_of_ble_eq_true rfl, Nat.le_of_ble_eq_true rfl⟩) hP hD hK hS hA hev rfl rfl rfl rfl hl.1 rfl (Nat.le_of_ble_eq_true rfl) dX10_feed_27 ⟨(Nat.le_of_ble_eq_true rfl), (Nat.le_of_ble_eq_true rfl)⟩ (fun r u H locs hw hP hD hS => ?_)
      obtain ⟨x0_7, rfl⟩ : ∃ z, z = u := ⟨_, rfl⟩
      have hw : ((r = some (.int 0) ∧ ((0 : Int32) = 0 ∧ x0_7 = (2 : Int32))) ∨ (r = some (.int 1) ∧ (¬ (0 : Int32) = 0 ∧ x0_7 = 0))) ∧ (True) := hw
      obtain ⟨⟨rfl, hz2_9⟩ | ⟨rfl, hz2_9⟩, hw_8⟩ := hw
      · have hP : va_P (dC, dI) vwCl (mw g h0 b (va_up i 0 x0_7) a) _ := hP
        have hD : va_D _ (mw g h0 b (va_up i 0 x0_7) a) := hD
        refine W.eq (g2 := F0 m 30 ls [.int 0]) rfl ?_
        refine lv_if_ne (tgt := 35) hx hb dX10_feed_30 (by decide) (fun c_10 => absurd c_10 (by decide)) (fun _ => ?_)
        refine lv_iconst (v := 0) hx hb dX10_feed_33 (by decide) ?_
        exact M_i hx hb hr hlocks (x0_7, (a 5), (a 7)) hP hD hK hS ⟨⟨_, rfl⟩, (by rw [show fdS vv nn (i, a) = _ from (if_pos hz2_3.1).trans (if_neg (fun h8 => le_nlt h8.1 c_6))]; exact ⟨hz2_9.2, fun h9 => (by first | exact n1_0 h9 | exact n2_0 h9), rfl, rfl⟩)⟩ (Nat.le_of_ble_eq_true rfl) (Nat.le_of_ble_eq_true rfl) dX10_feed_34
      · have hP : va_P (dC, dI) vwCl (mw g h0 b (va_up i 0 x0_7) a) _ := hP
        have hD : va_D _ (mw g h0 b (va_up i 0 x0_7) a) := hD
        refine W.eq (g2 := F0 m 30 ls [.int 1]) rfl ?_
        exact absurd rfl hz2_9.1
    · have nc_6 := nlt_i c_6
      have lc_6 : (1 : Int32).toInt = 1 := by decide
      refine lv_iload_n hx hb dX10_feed_14 rfl (lv_at hl 2 rfl) ?_
      refine lv_sipush (v := 1000) hx hb dX10_feed_15 (by decide) ?_
      refine lv_icmp_gt (tgt := 25) hx hb dX10_feed_18 (by decide) (fun c_11 => ?_) (fun c_11 => ?_)
      · have nc_11 := lt_i c_11
        have lc_11 : (1000 : Int32).toInt = 1000 := by decide
        refine lv_iconst (v := 0) hx hb dX10_feed_25 (by decide) ?_
        refine lv_iconst (v := 2) hx hb dX10_feed_26 (by decide) ?_
        refine M_V ⟨hx, hb, hml, hown, hts⟩ (m_X10_rightX l dC dI sa g h0 b (va_up i 0 x0_1) a (0 : Int32) (2 : Int32) _ (by decide) hz2_3.2) (cwV 2 hts gX10_feed_X10_right rfl rfl rfl (by decide +kernel) ⟨Nat.le_of_ble_eq_true rfl, Nat.le_of_ble_eq_true rfl⟩) hP hD hK hS hA hev rfl rfl rfl rfl hl.1 rfl (Nat.le_of_ble_eq_true rfl) dX10_feed_27 ⟨(Nat.le_of_ble_eq_true rfl), (Nat.le_of_ble_eq_true rfl)⟩ (fun r u H locs hw hP hD hS => ?_)
        obtain ⟨x0_12, rfl⟩ : ∃ z, z = u := ⟨_, rfl⟩
        have hw : ((r = some (.int 0) ∧ ((0 : Int32) = 0 ∧ x0_12 = (2 : Int32))) ∨ (r = some (.int 1) ∧ (¬ (0 : Int32) = 0 ∧ x0_12 = 0))) ∧ (True) := hw
        obtain ⟨⟨rfl, hz2_14⟩ | ⟨rfl, hz2_14⟩, hw_13⟩ := hw
        · have hP : va_P (dC, dI) vwCl (mw g h0 b (va_up i 0 x0_12) a) _ := hP
          have hD : va_D _ (mw g h0 b (va_up i 0 x0_12) a) := hD
          refine W.eq (g2 := F0 m 30 ls [.int 0]) rfl ?_
          refine lv_if_ne (tgt := 35) hx hb dX10_feed_30 (by decide) (fun c_15 => absurd c_15 (by decide)) (fun _ => ?_)
          refine lv_iconst (v := 0) hx hb dX10_feed_33 (by decide) ?_
          exact M_i hx hb hr hlocks (x0_12, (a 5), (a 7)) hP hD hK hS ⟨⟨_, rfl⟩, (by rw [show fdS vv nn (i, a) = _ from (if_pos hz2_3.1).trans (if_neg (fun h8 => le_nlt h8.2 c_11))]; exact ⟨hz2_14.2, fun h9 => (by first | exact n1_0 h9 | exact n2_0 h9), rfl, rfl⟩)⟩ (Nat.le_of_ble_eq_true rfl) (Nat.le_of_ble_eq_true rfl) dX10_feed_34
        · have hP : va_P (dC, dI) vwCl (mw g h0 b (va_up i 0 x0_12) a) _ := hP
          have hD : va_D _ (mw g h0 b (va_up i 0 x0_12) a) := hD
          refine W.eq (g2 := F0 m 30 ls [.int 1]) rfl ?_
          exact absurd rfl hz2_14.1
      · have nc_11 := nlt_i c_11
        have lc_11 : (1000 : Int32).toInt = 1000 := by decide
        refine lv_iconst (v := 1) hx hb dX10_feed_21 (by decide) ?_
        refine lv_goto (tgt := 26) hx hb dX10_feed_22 (by decide) ?_
        refine lv_iconst (v := 2) hx hb dX10_feed_26 (by decide) ?_
        refine M_V ⟨hx, hb, hml, hown, hts⟩ (m_X10_rightX l dC dI sa g h0 b (va_up i 0 x0_1) a (1 : Int32) (2 : Int32) _ (by decide) hz2_3.2) (cwV 2 hts gX10_feed_X10_right rfl rfl rfl (by decide +kernel) ⟨Nat.le_of_ble_eq_true rfl, Nat.le_of_ble_eq_true rfl⟩) hP hD hK hS hA hev rfl rfl rfl rfl hl.1 rfl (Nat.le_of_ble_eq_true rfl) dX10_feed_27 ⟨(Nat.le_of_ble_eq_true rfl), (Nat.le_of_ble_eq_true rfl)⟩ (fun r u H locs hw hP hD hS => ?_)
        obtain ⟨x0_16, rfl⟩ : ∃ z, z = u := ⟨_, rfl⟩
        have hw : ((r = some (.int 0) ∧ ((1 : Int32) = 0 ∧ x0_16 = (2 : Int32))) ∨ (r = some (.int 1) ∧ (¬ (1 : Int32) = 0 ∧ x0_16 = 0))) ∧ (True) := hw
        obtain ⟨⟨rfl, hz2_18⟩ | ⟨rfl, hz2_18⟩, hw_17⟩ := hw
        · have hP : va_P (dC, dI) vwCl (mw g h0 b (va_up i 0 x0_16) a) _ := hP
          have hD : va_D _ (mw g h0 b (va_up i 0 x0_16) a) := hD
          refine W.eq (g2 := F0 m 30 ls [.int 0]) rfl ?_
          exact absurd hz2_18.1 (by decide)
        · have hP : va_P (dC, dI) vwCl (mw g h0 b (va_up i 0 x0_16) a) _ := hP
          have hD : va_D _ (mw g h0 b (va_up i 0 x0_16) a) := hD
          refine W.eq (g2 := F0 m 30 ls [.int 1]) rfl ?_
          refine lv_if_ne (tgt := 35) hx hb dX10_feed_30 (by decide) (fun _ => ?_) (fun c_19 => absurd c_19 (by decide))
          refine lv_aload_n hx hb dX10_feed_35 rfl (lv_at hl 0 rfl) ?_
          refine lv_iload_n hx hb dX10_feed_36 rfl (lv_at hl 1 rfl) ?_
          refine lv_iload_n hx hb dX10_feed_37 rfl (lv_at hl 2 rfl) ?_
          refine M_V ⟨hx, hb, hml, hown, hts⟩ (m_X10_feedsE l dC dI sa g h0 b (va_up i 0 x0_16) a vv nn _ hv6) (cwV 2 hts gX10_feed_X10_feeds rfl rfl rfl (by decide +kernel) ⟨Nat.le_of_ble_eq_true rfl, Nat.le_of_ble_eq_true rfl⟩) hP hD hK hS hA hev rfl rfl rfl rfl hl.1 rfl (Nat.le_of_ble_eq_true rfl) dX10_feed_38 ⟨(Nat.le_of_ble_eq_true rfl), (Nat.le_of_ble_eq_true rfl)⟩ (fun r u H locs hw hP hD hS => ?_)
          obtain ⟨y5_20, y7_21⟩ := u
          have hw : ((r = some (.int 0) ∧ (¬ 1000 < ((a 5) vv.toNatClampNeg) + nn)) ∨ (r = some (.int 1) ∧ (1000 < ((a 5) vv.toNatClampNeg) + nn))) ∧ (y5_20 = upd (a 5) vv.toNatClampNeg (tfF ((a 5) vv.toNatClampNeg) nn) ∧ y7_21 = upd (a 7) vv.toNatClampNeg (tfS ((a 5) vv.toNatClampNeg) ((a 7) vv.toNatClampNeg) nn)) := hw
          obtain ⟨⟨rfl, hz2_23⟩ | ⟨rfl, hz2_23⟩, hw_22⟩ := hw
          · have hP : va_P (dC, dI) vwCl (mw g h0 b (va_up i 0 x0_16) (va_up (va_up a 5 y5_20) 7 y7_21)) _ := hP
            have hD : va_D _ (mw g h0 b (va_up i 0 x0_16) (va_up (va_up a 5 y5_20) 7 y7_21)) := hD
            refine W.eq (g2 := F0 m 41 ls [.int 0]) rfl ?_
            obtain ⟨hf_245, hf_247⟩ := hw_22
            refine lv_pop hx hb dX10_feed_41 rfl ?_
            refine lv_aload_n hx hb dX10_feed_42 rfl (lv_at hl 0 rfl) ?_
            refine va_get (D := (dC, dI)) (ci := 10) (v := .ref (b 7)) (C := RX10) (T := TX10) (N := 51) hx hb hts inw_X10_feed_10 hown hK hP 0 rfl rfl 7 (by decide) (hts (.fieldLink RX10 19 "VatHouseModel" "state" "[I") (List.mem_of_getElem? (i := 1) (by exact rfl))) (fun _ h9 => h9) rfl dX10_feed_43 ?_
            refine lv_iload_n hx hb dX10_feed_46 rfl (lv_at hl 1 rfl) ?_
            refine va_iald hx hb hK hP 4 3 rfl rfl (by assumption) dX10_feed_47 ?_
            refine lv_topi (fun z_25 ez_25 => ?_)
            have ez_25 : z_25 = y7_21 vv.toNatClampNeg := ez_25
            exact M_i hx hb hr hlocks (x0_16, y5_20, y7_21) hP hD hK hS ⟨⟨_, rfl⟩, (by rw [show fdS vv nn (i, a) = _ from (if_pos hz2_3.1).trans (if_pos ⟨nlt_le c_6, nlt_le c_11⟩)]; exact ⟨hz2_18.2, fun h9 => (by rw [ez_25, hf_247, upd_at]), hf_245, hf_247⟩)⟩ (Nat.le_of_ble_eq_true rfl) (Nat.le_of_ble_eq_true rfl) dX10_feed_48
          · have hP : va_P (dC, dI) vwCl (mw g h0 b (va_up i 0 x0_16) (va_up (va_up a 5 y5_20) 7 y7_21)) _ := hP
            have hD : va_D _ (mw g h0 b (va_up i 0 x0_16) (va_up (va_up a 5 y5_20) 7 y7_21)) := hD
            refine W.eq (g2 := F0 m 41 ls [.int 1]) rfl ?_
            obtain ⟨hf_265, hf_267⟩ := hw_22
            refine lv_pop hx hb dX10_feed_41 rfl ?_
            refine lv_aload_n hx hb dX10_feed_42 rfl (lv_at hl 0 rfl) ?_
            refine va_get (D := (dC, dI)) (ci := 10) (v := .ref (b 7)) (C := RX10) (T := TX10) (N := 51) hx hb hts inw_X10_feed_10 hown hK hP 0 rfl rfl 7 (by decide) (hts (.fieldLink RX10 19 "VatHouseModel" "state" "[I") (List.mem_of_getElem? (i := 1) (by exact rfl))) (fun _ h9 => h9) rfl dX10_feed_43 ?_
            refine lv_iload_n hx hb dX10_feed_46 rfl (lv_at hl 1 rfl) ?_
            refine va_iald hx hb hK hP 4 3 rfl rfl (by assumption) dX10_feed_47 ?_
            refine lv_topi (fun z_27 ez_27 => ?_)
            have ez_27 : z_27 = y7_21 vv.toNatClampNeg := ez_27
            exact M_i hx hb hr hlocks (x0_16, y5_20, y7_21) hP hD hK hS ⟨⟨_, rfl⟩, (by rw [show fdS vv nn (i, a) = _ from (if_pos hz2_3.1).trans (if_pos ⟨nlt_le c_6, nlt_le c_11⟩)]; exact ⟨hz2_18.2, fun h9 => (by rw [ez_27, hf_267, upd_at]), hf_265, hf_267⟩)⟩ (Nat.le_of_ble_eq_true rfl) (Nat.le_of_ble_eq_true rfl) dX10_feed_48

noncomputable abbrev rm_X10_limeE : Room := { frames := 2, cells := 0, slots := 0, locals := 43 }
set_option maxHeartbeats 4000000 in
set_option maxRecDepth 100000 in
theorem m_X10_limeE (l : Launch) (dC : Nat → ClassId) (dI : Nat → Nat → Nat) (sa : Nat → Nat) (g : Nat → Nat) (h0 : Nat) (b : Nat → Nat) (i : Nat → Int32) (a : Nat → Nat → Int32) (vv : Int32) (sz : Nat) : CT l dC dI sa yX10_lime wsX10_lime rm_X10_limeE [.ref h0, .int vv] (mw g h0 b i a) (tyM g) sz (fun (r : Option Value) (u : Int32 × (Nat → Int32) × (Nat → Int32) × (Nat → Int32)) => match u with | (x0, y5, y6, y7) => (∃ z : Int32, r = some (.int z)) ∧ (x0 = (lmS vv (i, a)).1 ∧ ((lmS vv (i, a)).1 = 0 → r = some (.int (lmS vv (i, a)).2.1)) ∧ y5 = (lmS vv (i, a)).2.2.2 5 ∧ y6 = (lmS vv (i, a)).2.2.2 6 ∧ y7 = (lmS vv (i, a)).2.2.2 7)) (fun (u : Int32 × (Nat → Int32) × (Nat → Int32) × (Nat → Int32)) => match u with | (x0, y5, y6, y7) => mw g h0 b (va_up i 0 x0) (va_up (va_up (va_up a 5 y5) 6 y6) 7 y7)) (fun _ => []) 0 0 := by
  refine CT.start (cc := cX10_lime) (maxL := 2) (ret := (some .int)) (by decide) rfl (Nat.le_of_ble_eq_true rfl) ?_
  intro p e s m below meth c ls hst hP hK hD hev hS hl
  obtain ⟨hx, hb, hr, hml, hts, hown, hlocks, hin⟩ := hst
  have hown : s.vm.findClass RX10 = some m.cls := hown
  have hA : ∀ q : Nat, s.heap.size ≤ q → va_A (mw g h0 b i a) s.heap.size q := fun _ h => Or.inr h
  have hl : lv_has ls 2 [(0, .ref h0), (1, .int vv)] := hl
  refine lv_aload_n hx hb dX10_lime_0 rfl (lv_at hl 0 rfl) ?_
  refine lv_iload_n hx hb dX10_lime_1 rfl (lv_at hl 1 rfl) ?_
  refine M_V ⟨hx, hb, hml, hown, hts⟩ (m_X10_isVatE l dC dI sa g h0 b i a vv _ ) (cwV 1 hts gX10_lime_X10_isVat rfl rfl rfl (by decide +kernel) ⟨Nat.le_of_ble_eq_true rfl, Nat.le_of_ble_eq_true rfl⟩) hP hD hK hS hA hev rfl rfl rfl rfl hl.1 rfl (Nat.le_of_ble_eq_true rfl) dX10_lime_2 ⟨(Nat.le_of_ble_eq_true rfl), (Nat.le_of_ble_eq_true rfl)⟩ (fun r u H locs hw hP hD hS => ?_)
  obtain ⟨x0_1, rfl⟩ : ∃ z, z = u := ⟨_, rfl⟩
  have hw : ((r = some (.int 0) ∧ (¬ inV vv ∧ x0_1 = 1)) ∨ (r = some (.int 1) ∧ (inV vv ∧ x0_1 = 0))) ∧ (True) := hw
  obtain ⟨⟨rfl, hz2_3⟩ | ⟨rfl, hz2_3⟩, hw_2⟩ := hw
  · have hP : va_P (dC, dI) vwCl (mw g h0 b (va_up i 0 x0_1) a) _ := hP
    have hD : va_D _ (mw g h0 b (va_up i 0 x0_1) a) := hD
    refine W.eq (g2 := F0 m 5 ls [.int 0]) rfl ?_
    refine lv_if_ne (tgt := 10) hx hb dX10_lime_5 (by decide) (fun c_4 => absurd c_4 (by decide)) (fun _ => ?_)
    refine lv_iconst (v := 0) hx hb dX10_lime_8 (by decide) ?_
    exact M_i hx hb hr hlocks (x0_1, (a 5), (a 6), (a 7)) hP hD hK hS ⟨⟨_, rfl⟩, (by rw [show lmS vv (i, a) = _ from if_neg hz2_3.1]; exact ⟨hz2_3.2, fun h9 => (by first | exact n1_0 h9 | exact n2_0 h9), rfl, rfl, rfl⟩)⟩ (Nat.le_of_ble_eq_true rfl) (Nat.le_of_ble_eq_true rfl) dX10_lime_9
  · have hP : va_P (dC, dI) vwCl (mw g h0 b (va_up i 0 x0_1) a) _ := hP
    have hD : va_D _ (mw g h0 b (va_up i 0 x0_1) a) := hD
    refine W.eq (g2 := F0 m 5 ls [.int 1]) rfl ?_
    have hv6 := in_V hz2_3.1
    refine lv_if_ne (tgt := 10) hx hb dX10_lime_5 (by decide) (fun _ => ?_) (fun c_5 => absurd c_5 (by decide))
    refine lv_aload_n hx hb dX10_lime_10 rfl (lv_at hl 0 rfl) ?_
    refine lv_iload_n hx hb dX10_lime_11 rfl (lv_at hl 1 rfl) ?_
    refine M_V ⟨hx, hb, hml, hown, hts⟩ (m_X10_limesE l dC dI sa g h0 b (va_up i 0 x0_1) a vv _ hv6) (cwV 1 hts gX10_lime_X10_limes rfl rfl rfl (by decide +kernel) ⟨Nat.le_of_ble_eq_true rfl, Nat.le_of_ble_eq_true rfl⟩) hP hD hK hS hA hev rfl rfl rfl rfl hl.1 rfl (Nat.le_of_ble_eq_true rfl) dX10_lime_12 ⟨(Nat.le_of_ble_eq_true rfl), (Nat.le_of_ble_eq_true rfl)⟩ (fun r u H locs hw hP hD hS => ?_)
    obtain ⟨y5_6, y6_7, y7_8⟩ := u
    have hw : (r = none) ∧ (y5_6 = upd (a 5) vv.toNatClampNeg (((a 5) vv.toNatClampNeg) / 2) ∧ y6_7 = upd (a 6) vv.toNatClampNeg (liM ((a 7) vv.toNatClampNeg) ((a 6) vv.toNatClampNeg)) ∧ y7_8 = upd (a 7) vv.toNatClampNeg (liS ((a 7) vv.toNatClampNeg) ((a 5) vv.toNatClampNeg))) := hw
    obtain ⟨rfl, hw_9⟩ := hw
    have hP : va_P (dC, dI) vwCl (mw g h0 b (va_up i 0 x0_1) (va_up (va_up (va_up a 5 y5_6) 6 y6_7) 7 y7_8)) _ := hP
    have hD : va_D _ (mw g h0 b (va_up i 0 x0_1) (va_up (va_up (va_up a 5 y5_6) 6 y6_7) 7 y7_8)) := hD
    refine W.eq (g2 := F0 m 15 ls []) rfl ?_
    obtain ⟨hf_105, hf_106, hf_107⟩ := hw_9
    refine lv_aload_n hx hb dX10_lime_15 rfl (lv_at hl 0 rfl) ?_
    refine va_get (D := (dC, dI)) (ci := 10) (v := .ref (b 7)) (C := RX10) (T := TX10) (N := 51) hx hb hts inw_X10_lime_10 hown hK hP 0 rfl rfl 7 (by decide) (hts (.fieldLink RX10 19 "VatHouseModel" "state" "[I") (List.mem_of_getElem? (i := 1) (by exact rfl))) (fun _ h9 => h9) rfl dX10_lime_16 ?_
    refine lv_iload_n hx hb dX10_lime_19 rfl (lv_at hl 1 rfl) ?_
    refine va_iald hx hb hK hP 4 3 rfl rfl (by assumption) dX10_lime_20 ?_
    refine lv_topi (fun z_11 ez_11 => ?_)
    have ez_11 : z_11 = y7_8 vv.toNatClampNeg := ez_11
    exact M_i hx hb hr hlocks (x0_1, y5_6, y6_7, y7_8) hP hD hK hS ⟨⟨_, rfl⟩, (by rw [show lmS vv (i, a) = _ from if_pos hz2_3.1]; exact ⟨hz2_3.2, fun h9 => (by rw [ez_11, hf_107, upd_at]), hf_105, hf_106, hf_107⟩)⟩ (Nat.le_of_ble_eq_true rfl) (Nat.le_of_ble_eq_true rfl) dX10_lime_21

noncomputable abbrev rm_X10_clothE : Room := { frames := 0, cells := 0, slots := 0, locals := 0 }
set_option maxHeartbeats 4000000 in
set_option maxRecDepth 100000 in
theorem m_X10_clothE (l : Launch) (dC : Nat → ClassId) (dI : Nat → Nat → Nat) (sa : Nat → Nat) (g : Nat → Nat) (h0 : Nat) (b : Nat → Nat) (i : Nat → Int32) (a : Nat → Nat → Int32) (ww : Int32) (sz : Nat) (hRC : RC (i, a)) : CT l dC dI sa yX10_cloth wsX10_cloth rm_X10_clothE [.ref h0, .int ww] (mw g h0 b i a) (tyM g) sz (fun (r : Option Value) (u : Int32 × Int32 × (Nat → Int32)) => match u with | (x0, x12, y13) => (∃ z : Int32, r = some (.int z)) ∧ (x0 = (clS ww (i, a)).1 ∧ ((clS ww (i, a)).1 = 0 → r = some (.int (clS ww (i, a)).2.1)) ∧ x12 = (clS ww (i, a)).2.2.1 12 ∧ y13 = (clS ww (i, a)).2.2.2 13)) (fun (u : Int32 × Int32 × (Nat → Int32)) => match u with | (x0, x12, y13) => mw g h0 b (va_up (va_up i 0 x0) 12 x12) (va_up a 13 y13)) (fun _ => []) 0 0 := by
  refine CT.start (cc := cX10_cloth) (maxL := 2) (ret := (some .int)) (by decide) rfl (Nat.le_of_ble_eq_true rfl) ?_
  intro p e s m below meth c ls hst hP hK hD hev hS hl
  obtain ⟨hx, hb, hr, hml, hts, hown, hlocks, hin⟩ := hst
  have hown : s.vm.findClass RX10 = some m.cls := hown
  have hA : ∀ q : Nat, s.heap.size ≤ q → va_A (mw g h0 b i a) s.heap.size q := fun _ h => Or.inr h
  have hl : lv_has ls 2 [(0, .ref h0), (1, .int ww)] := hl
  refine lv_aload_n hx hb dX10_cloth_0 rfl (lv_at hl 0 rfl) ?_
  refine lv_iconst (v := 0) hx hb dX10_cloth_1 (by decide) ?_
  refine va_put (D := (dC, dI)) (ci := 10) (v := .int 0) (ty := .int) (C := RX10) (T := TX10) (N := 51) hx hb hts inw_X10_cloth_10 tyX10 tyX10_ok nmX10 hown hK hP hD hS 0 rfl rfl 0 (by decide) (hts (.fieldLink RX10 105 "VatHouseModel" "thrown" "I") (List.mem_of_getElem? (i := 1) (by exact rfl))) (fun _ h9 => h9) rfl (tyX10_ok 0 (by decide)) rfl rfl (Nat.le_of_ble_eq_true rfl) dX10_cloth_2 (fun H locs hP hD hS => ?_)
  have hP : va_P (dC, dI) vwCl (mw g h0 b (va_up i 0 (0 : Int32)) a) _ := hP
  have hD : va_D _ (mw g h0 b (va_up i 0 (0 : Int32)) a) := hD
  refine lv_aload_n hx hb dX10_cloth_5 rfl (lv_at hl 0 rfl) ?_
  refine va_get (D := (dC, dI)) (ci := 10) (v := .int (i 12)) (C := RX10) (T := TX10) (N := 51) hx hb hts inw_X10_cloth_10 hown hK hP 0 rfl rfl 12 (by decide) (hts (.fieldLink RX10 112 "VatHouseModel" "cloths" "I") (List.mem_of_getElem? (i := 2) (by exact rfl))) (fun _ h9 => h9) rfl dX10_cloth_6 ?_
  refine lv_bipush (v := 30) hx hb dX10_cloth_9 (by decide) ?_
  refine lv_icmp_eq (tgt := 25) hx hb dX10_cloth_11 (by decide) (fun c_1 => ?_) (fun c_1 => ?_)
  · have nc_1 := eq_i c_1
    have lc_1 : (30 : Int32).toInt = 30 := by decide
    refine lv_iconst (v := (-1)) hx hb dX10_cloth_25 (by decide) ?_
    exact M_i hx hb hr hlocks ((0 : Int32), (i 12), (a 13)) hP hD hK hS ⟨⟨_, rfl⟩, (by rw [show clS ww (i, a) = _ from if_pos (Or.inl c_1)]; exact ⟨rfl, fun h9 => rfl, rfl, rfl⟩)⟩ (Nat.le_of_ble_eq_true rfl) (Nat.le_of_ble_eq_true rfl) dX10_cloth_26
  · have nc_1 := ne_i c_1
    have lc_1 : (30 : Int32).toInt = 30 := by decide
    refine lv_iload_n hx hb dX10_cloth_14 rfl (lv_at hl 1 rfl) ?_
    refine lv_iconst (v := 1) hx hb dX10_cloth_15 (by decide) ?_
    refine lv_icmp_lt (tgt := 25) hx hb dX10_cloth_16 (by decide) (fun c_2 => ?_) (fun c_2 => ?_)
    · have nc_2 := lt_i c_2
      have lc_2 : (1 : Int32).toInt = 1 := by decide
      refine lv_iconst (v := (-1)) hx hb dX10_cloth_25 (by decide) ?_
      exact M_i hx hb hr hlocks ((0 : Int32), (i 12), (a 13)) hP hD hK hS ⟨⟨_, rfl⟩, (by rw [show clS ww (i, a) = _ from if_pos (Or.inr (Or.inl c_2))]; exact ⟨rfl, fun h9 => rfl, rfl, rfl⟩)⟩ (Nat.le_of_ble_eq_true rfl) (Nat.le_of_ble_eq_true rfl) dX10_cloth_26
    · have nc_2 := nlt_i c_2
      have lc_2 : (1 : Int32).toInt = 1 := by decide
      refine lv_iload_n hx hb dX10_cloth_19 rfl (lv_at hl 1 rfl) ?_
      refine lv_bipush (v := 50) hx hb dX10_cloth_20 (by decide) ?_
      refine lv_icmp_le (tgt := 27) hx hb dX10_cloth_22 (by decide) (fun c_3 => ?_) (fun c_3 => ?_)
      · have nc_3 := le_i c_3
        have lc_3 : (50 : Int32).toInt = 50 := by decide
        refine lv_aload_n hx hb dX10_cloth_27 rfl (lv_at hl 0 rfl) ?_
        refine va_get (D := (dC, dI)) (ci := 10) (v := .ref (b 13)) (C := RX10) (T := TX10) (N := 51) hx hb hts inw_X10_cloth_10 hown hK hP 0 rfl rfl 13 (by decide) (hts (.fieldLink RX10 35 "VatHouseModel" "weight" "[I") (List.mem_of_getElem? (i := 3) (by exact rfl))) (fun _ h9 => h9) rfl dX10_cloth_28 ?_
        refine lv_aload_n hx hb dX10_cloth_31 rfl (lv_at hl 0 rfl) ?_
        refine va_get (D := (dC, dI)) (ci := 10) (v := .int (i 12)) (C := RX10) (T := TX10) (N := 51) hx hb hts inw_X10_cloth_10 hown hK hP 0 rfl rfl 12 (by decide) (hts (.fieldLink RX10 112 "VatHouseModel" "cloths" "I") (List.mem_of_getElem? (i := 2) (by exact rfl))) (fun _ h9 => h9) rfl dX10_cloth_32 ?_
        refine lv_iload_n hx hb dX10_cloth_35 rfl (lv_at hl 1 rfl) ?_
        refine va_iast hx hb hK hP hD hS 9 8 rfl rfl (in_i (by have := hRC.1.1; omega) (by have h8 : (i 12).toInt ≤ 30 := hRC.1.2; omega)) dX10_cloth_36 (fun H locs hP hD hS => ?_)
        have hP : va_P (dC, dI) vwCl (mw g h0 b (va_up i 0 (0 : Int32)) (va_up a 13 (upd (a 13) (i 12).toNatClampNeg ww))) _ := hP
        have hD : va_D _ (mw g h0 b (va_up i 0 (0 : Int32)) (va_up a 13 (upd (a 13) (i 12).toNatClampNeg ww))) := hD
        obtain ⟨f_4, ef_4⟩ : ∃ z, z = (upd (a 13) (i 12).toNatClampNeg ww) := ⟨_, rfl⟩
        rw [← ef_4] at hP hD
        refine lv_aload_n hx hb dX10_cloth_37 rfl (lv_at hl 0 rfl) ?_
        refine lv_dup hx hb dX10_cloth_38 rfl ?_
        refine va_get (D := (dC, dI)) (ci := 10) (v := .int (i 12)) (C := RX10) (T := TX10) (N := 51) hx hb hts inw_X10_cloth_10 hown hK hP 0 rfl rfl 12 (by decide) (hts (.fieldLink RX10 112 "VatHouseModel" "cloths" "I") (List.mem_of_getElem? (i := 2) (by exact rfl))) (fun _ h9 => h9) rfl dX10_cloth_39 ?_
        refine lv_iconst (v := 1) hx hb dX10_cloth_42 (by decide) ?_
        refine lv_iadd hx hb dX10_cloth_43 ?_
        refine lv_topi (fun z_5 ez_5 => ?_)
        refine va_put (D := (dC, dI)) (ci := 10) (v := .int z_5) (ty := .int) (C := RX10) (T := TX10) (N := 51) hx hb hts inw_X10_cloth_10 tyX10 tyX10_ok nmX10 hown hK hP hD hS 0 rfl rfl 12 (by decide) (hts (.fieldLink RX10 112 "VatHouseModel" "cloths" "I") (List.mem_of_getElem? (i := 2) (by exact rfl))) (fun _ h9 => h9) rfl (tyX10_ok 12 (by decide)) rfl rfl (Nat.le_of_ble_eq_true rfl) dX10_cloth_44 (fun H locs hP hD hS => ?_)
        have hP : va_P (dC, dI) vwCl (mw g h0 b (va_up (va_up i 0 (0 : Int32)) 12 z_5) (va_up a 13 f_4)) _ := hP
        have hD : va_D _ (mw g h0 b (va_up (va_up i 0 (0 : Int32)) 12 z_5) (va_up a 13 f_4)) := hD
        refine lv_aload_n hx hb dX10_cloth_47 rfl (lv_at hl 0 rfl) ?_
        refine va_get (D := (dC, dI)) (ci := 10) (v := .int z_5) (C := RX10) (T := TX10) (N := 51) hx hb hts inw_X10_cloth_10 hown hK hP 0 rfl rfl 12 (by decide) (hts (.fieldLink RX10 112 "VatHouseModel" "cloths" "I") (List.mem_of_getElem? (i := 2) (by exact rfl))) (fun _ h9 => h9) rfl dX10_cloth_48 ?_
        refine lv_iconst (v := 1) hx hb dX10_cloth_51 (by decide) ?_
        refine lv_isub hx hb dX10_cloth_52 ?_
        refine lv_topi (fun z_6 ez_6 => ?_)
        exact M_i hx hb hr hlocks ((0 : Int32), z_5, f_4) hP hD hK hS ⟨⟨_, rfl⟩, (by rw [show clS ww (i, a) = _ from if_neg (by rintro (h8 | h8 | h8); exact c_1 h8; exact c_2 h8; exact le_nlt c_3 h8)]; exact ⟨rfl, fun h9 => (by rw [ez_6, ez_5]), ez_5, ef_4⟩)⟩ (Nat.le_of_ble_eq_true rfl) (Nat.le_of_ble_eq_true rfl) dX10_cloth_53
      · have nc_3 := nle_i c_3
        have lc_3 : (50 : Int32).toInt = 50 := by decide
        refine lv_iconst (v := (-1)) hx hb dX10_cloth_25 (by decide) ?_
        exact M_i hx hb hr hlocks ((0 : Int32), (i 12), (a 13)) hP hD hK hS ⟨⟨_, rfl⟩, (by rw [show clS ww (i, a) = _ from if_pos (Or.inr (Or.inr (nle_lt c_3)))]; exact ⟨rfl, fun h9 => rfl, rfl, rfl⟩)⟩ (Nat.le_of_ble_eq_true rfl) (Nat.le_of_ble_eq_true rfl) dX10_cloth_26


theorem w_0 {w : Int32} (h : 0 ≤ w ∧ w ≤ 2) (h1 : ¬ w = 1) (h2 : ¬ w = 2) : w = 0 := by
  rw [Int32.le_iff_toInt_le, Int32.le_iff_toInt_le] at h
  rw [← Int32.toInt_inj] at h1 h2 ⊢
  have c0 : (0 : Int32).toInt = 0 := by decide
  have c1 : (1 : Int32).toInt = 1 := by decide
  have c2 : (2 : Int32).toInt = 2 := by decide
  omega

noncomputable abbrev rm_X10_treatE : Room := { frames := 2, cells := 0, slots := 0, locals := 43 }
set_option maxHeartbeats 4000000 in
set_option maxRecDepth 100000 in
theorem m_X10_treatE (l : Launch) (dC : Nat → ClassId) (dI : Nat → Nat → Nat) (sa : Nat → Nat) (g : Nat → Nat) (h0 : Nat) (b : Nat → Nat) (i : Nat → Int32) (a : Nat → Nat → Int32) (ck : Int32) (wt : Int32) (sz : Nat) (hRC : RC (i, a)) : CT l dC dI sa yX10_treat wsX10_treat rm_X10_treatE [.ref h0, .int ck, .int wt] (mw g h0 b i a) (tyM g) sz (fun (r : Option Value) (u : Int32 × Int32 × (Nat → Int32) × (Nat → Int32) × (Nat → Int32)) => match u with | (x0, x2, y14, y15, y16) => (∃ z : Int32, r = some (.int z)) ∧ (x0 = (trS ck wt (i, a)).1 ∧ ((trS ck wt (i, a)).1 = 0 → r = some (.int (trS ck wt (i, a)).2.1)) ∧ x2 = (trS ck wt (i, a)).2.2.1 2 ∧ y14 = (trS ck wt (i, a)).2.2.2 14 ∧ y15 = (trS ck wt (i, a)).2.2.2 15 ∧ y16 = (trS ck wt (i, a)).2.2.2 16)) (fun (u : Int32 × Int32 × (Nat → Int32) × (Nat → Int32) × (Nat → Int32)) => match u with | (x0, x2, y14, y15, y16) => mw g h0 b (va_up (va_up i 0 x0) 2 x2) (va_up (va_up (va_up a 14 y14) 15 y15) 16 y16)) (fun _ => []) 0 0 := by
  refine CT.start (cc := cX10_treat) (maxL := 4) (ret := (some .int)) (by decide) rfl (Nat.le_of_ble_eq_true rfl) ?_
  intro p e s m below meth c ls hst hP hK hD hev hS hl
  obtain ⟨hx, hb, hr, hml, hts, hown, hlocks, hin⟩ := hst
  have hown : s.vm.findClass RX10 = some m.cls := hown
  have hA : ∀ q : Nat, s.heap.size ≤ q → va_A (mw g h0 b i a) s.heap.size q := fun _ h => Or.inr h
  have hl : lv_has ls 4 [(0, .ref h0), (1, .int ck), (2, .int wt)] := hl
  refine lv_aload_n hx hb dX10_treat_0 rfl (lv_at hl 0 rfl) ?_
  refine lv_iload_n hx hb dX10_treat_1 rfl (lv_at hl 1 rfl) ?_
  refine M_V ⟨hx, hb, hml, hown, hts⟩ (m_X10_isClothE l dC dI sa g h0 b i a ck _ ) (cwV 1 hts gX10_treat_X10_isCloth rfl rfl rfl (by decide +kernel) ⟨Nat.le_of_ble_eq_true rfl, Nat.le_of_ble_eq_true rfl⟩) hP hD hK hS hA hev rfl rfl rfl rfl hl.1 rfl (Nat.le_of_ble_eq_true rfl) dX10_treat_2 ⟨(Nat.le_of_ble_eq_true rfl), (Nat.le_of_ble_eq_true rfl)⟩ (fun r u H locs hw hP hD hS => ?_)
  obtain ⟨x0_1, rfl⟩ : ∃ z, z = u := ⟨_, rfl⟩
  have hw : ((r = some (.int 0) ∧ (¬ inC (i, a) ck ∧ x0_1 = 1)) ∨ (r = some (.int 1) ∧ (inC (i, a) ck ∧ x0_1 = 0))) ∧ (True) := hw
  obtain ⟨⟨rfl, hz2_3⟩ | ⟨rfl, hz2_3⟩, hw_2⟩ := hw
  · have hP : va_P (dC, dI) vwCl (mw g h0 b (va_up i 0 x0_1) a) _ := hP
    have hD : va_D _ (mw g h0 b (va_up i 0 x0_1) a) := hD
    refine W.eq (g2 := F0 m 5 ls [.int 0]) rfl ?_
    refine lv_if_eq (tgt := 30) hx hb dX10_treat_5 (by decide) (fun _ => ?_) (fun c_4 => absurd c_4 (by decide))
    refine lv_iconst (v := 0) hx hb dX10_treat_30 (by decide) ?_
    exact M_i hx hb hr hlocks (x0_1, (i 2), (a 14), (a 15), (a 16)) hP hD hK hS ⟨⟨_, rfl⟩, (by rw [show trS ck wt (i, a) = _ from if_neg hz2_3.1]; exact ⟨hz2_3.2, fun h9 => (by first | exact n1_0 h9 | exact n2_0 h9), rfl, rfl, rfl, rfl⟩)⟩ (Nat.le_of_ble_eq_true rfl) (Nat.le_of_ble_eq_true rfl) dX10_treat_31
  · have hP : va_P (dC, dI) vwCl (mw g h0 b (va_up i 0 x0_1) a) _ := hP
    have hD : va_D _ (mw g h0 b (va_up i 0 x0_1) a) := hD
    refine W.eq (g2 := F0 m 5 ls [.int 1]) rfl ?_
    have hc30 := in_C hz2_3.1 hRC.1.2
    have hcc := inC_c hz2_3.1
    have hwt := (hRC.2 _ hcc.2).1
    refine lv_if_eq (tgt := 30) hx hb dX10_treat_5 (by decide) (fun c_5 => absurd c_5 (by decide)) (fun _ => ?_)
    refine lv_aload_n hx hb dX10_treat_8 rfl (lv_at hl 0 rfl) ?_
    refine lv_iload_n hx hb dX10_treat_9 rfl (lv_at hl 2 rfl) ?_
    refine lv_if_lt (tgt := 22) hx hb dX10_treat_10 (by decide) (fun c_6 => ?_) (fun c_6 => ?_)
    · have nc_6 := lt_i c_6
      have lc_6 : (0 : Int32).toInt = 0 := by decide
      refine lv_iconst (v := 0) hx hb dX10_treat_22 (by decide) ?_
      refine lv_iconst (v := 2) hx hb dX10_treat_23 (by decide) ?_
      refine M_V ⟨hx, hb, hml, hown, hts⟩ (m_X10_rightX l dC dI sa g h0 b (va_up i 0 x0_1) a (0 : Int32) (2 : Int32) _ (by decide) hz2_3.2) (cwV 2 hts gX10_treat_X10_right rfl rfl rfl (by decide +kernel) ⟨Nat.le_of_ble_eq_true rfl, Nat.le_of_ble_eq_true rfl⟩) hP hD hK hS hA hev rfl rfl rfl rfl hl.1 rfl (Nat.le_of_ble_eq_true rfl) dX10_treat_24 ⟨(Nat.le_of_ble_eq_true rfl), (Nat.le_of_ble_eq_true rfl)⟩ (fun r u H locs hw hP hD hS => ?_)
      obtain ⟨x0_7, rfl⟩ : ∃ z, z = u := ⟨_, rfl⟩
      have hw : ((r = some (.int 0) ∧ ((0 : Int32) = 0 ∧ x0_7 = (2 : Int32))) ∨ (r = some (.int 1) ∧ (¬ (0 : Int32) = 0 ∧ x0_7 = 0))) ∧ (True) := hw
      obtain ⟨⟨rfl, hz2_9⟩ | ⟨rfl, hz2_9⟩, hw_8⟩ := hw
      · have hP : va_P (dC, dI) vwCl (mw g h0 b (va_up i 0 x0_7) a) _ := hP
        have hD : va_D _ (mw g h0 b (va_up i 0 x0_7) a) := hD
        refine W.eq (g2 := F0 m 27 ls [.int 0]) rfl ?_
        refine lv_if_ne (tgt := 32) hx hb dX10_treat_27 (by decide) (fun c_10 => absurd c_10 (by decide)) (fun _ => ?_)
        refine lv_iconst (v := 0) hx hb dX10_treat_30 (by decide) ?_
        exact M_i hx hb hr hlocks (x0_7, (i 2), (a 14), (a 15), (a 16)) hP hD hK hS ⟨⟨_, rfl⟩, (by rw [show trS ck wt (i, a) = _ from (if_pos hz2_3.1).trans (if_neg (fun h8 => le_nlt h8.1 c_6))]; exact ⟨hz2_9.2, fun h9 => (by first | exact n1_0 h9 | exact n2_0 h9), rfl, rfl, rfl, rfl⟩)⟩ (Nat.le_of_ble_eq_true rfl) (Nat.le_of_ble_eq_true rfl) dX10_treat_31
      · have hP : va_P (dC, dI) vwCl (mw g h0 b (va_up i 0 x0_7) a) _ := hP
        have hD : va_D _ (mw g h0 b (va_up i 0 x0_7) a) := hD
        refine W.eq (g2 := F0 m 27 ls [.int 1]) rfl ?_
        exact absurd rfl hz2_9.1
    · have nc_6 := nlt_i c_6
      have lc_6 : (0 : Int32).toInt = 0 := by decide
      refine lv_iload_n hx hb dX10_treat_13 rfl (lv_at hl 2 rfl) ?_
      refine lv_iconst (v := 2) hx hb dX10_treat_14 (by decide) ?_
      refine lv_icmp_gt (tgt := 22) hx hb dX10_treat_15 (by decide) (fun c_11 => ?_) (fun c_11 => ?_)
      · have nc_11 := lt_i c_11
        have lc_11 : (2 : Int32).toInt = 2 := by decide
        refine lv_iconst (v := 0) hx hb dX10_treat_22 (by decide) ?_
        refine lv_iconst (v := 2) hx hb dX10_treat_23 (by decide) ?_
        refine M_V ⟨hx, hb, hml, hown, hts⟩ (m_X10_rightX l dC dI sa g h0 b (va_up i 0 x0_1) a (0 : Int32) (2 : Int32) _ (by decide) hz2_3.2) (cwV 2 hts gX10_treat_X10_right rfl rfl rfl (by decide +kernel) ⟨Nat.le_of_ble_eq_true rfl, Nat.le_of_ble_eq_true rfl⟩) hP hD hK hS hA hev rfl rfl rfl rfl hl.1 rfl (Nat.le_of_ble_eq_true rfl) dX10_treat_24 ⟨(Nat.le_of_ble_eq_true rfl), (Nat.le_of_ble_eq_true rfl)⟩ (fun r u H locs hw hP hD hS => ?_)
        obtain ⟨x0_12, rfl⟩ : ∃ z, z = u := ⟨_, rfl⟩
        have hw : ((r = some (.int 0) ∧ ((0 : Int32) = 0 ∧ x0_12 = (2 : Int32))) ∨ (r = some (.int 1) ∧ (¬ (0 : Int32) = 0 ∧ x0_12 = 0))) ∧ (True) := hw
        obtain ⟨⟨rfl, hz2_14⟩ | ⟨rfl, hz2_14⟩, hw_13⟩ := hw
        · have hP : va_P (dC, dI) vwCl (mw g h0 b (va_up i 0 x0_12) a) _ := hP
          have hD : va_D _ (mw g h0 b (va_up i 0 x0_12) a) := hD
          refine W.eq (g2 := F0 m 27 ls [.int 0]) rfl ?_
          refine lv_if_ne (tgt := 32) hx hb dX10_treat_27 (by decide) (fun c_15 => absurd c_15 (by decide)) (fun _ => ?_)
          refine lv_iconst (v := 0) hx hb dX10_treat_30 (by decide) ?_
          exact M_i hx hb hr hlocks (x0_12, (i 2), (a 14), (a 15), (a 16)) hP hD hK hS ⟨⟨_, rfl⟩, (by rw [show trS ck wt (i, a) = _ from (if_pos hz2_3.1).trans (if_neg (fun h8 => le_nlt h8.2 c_11))]; exact ⟨hz2_14.2, fun h9 => (by first | exact n1_0 h9 | exact n2_0 h9), rfl, rfl, rfl, rfl⟩)⟩ (Nat.le_of_ble_eq_true rfl) (Nat.le_of_ble_eq_true rfl) dX10_treat_31
        · have hP : va_P (dC, dI) vwCl (mw g h0 b (va_up i 0 x0_12) a) _ := hP
          have hD : va_D _ (mw g h0 b (va_up i 0 x0_12) a) := hD
          refine W.eq (g2 := F0 m 27 ls [.int 1]) rfl ?_
          exact absurd rfl hz2_14.1
      · have nc_11 := nlt_i c_11
        have lc_11 : (2 : Int32).toInt = 2 := by decide
        refine lv_iconst (v := 1) hx hb dX10_treat_18 (by decide) ?_
        refine lv_goto (tgt := 23) hx hb dX10_treat_19 (by decide) ?_
        refine lv_iconst (v := 2) hx hb dX10_treat_23 (by decide) ?_
        refine M_V ⟨hx, hb, hml, hown, hts⟩ (m_X10_rightX l dC dI sa g h0 b (va_up i 0 x0_1) a (1 : Int32) (2 : Int32) _ (by decide) hz2_3.2) (cwV 2 hts gX10_treat_X10_right rfl rfl rfl (by decide +kernel) ⟨Nat.le_of_ble_eq_true rfl, Nat.le_of_ble_eq_true rfl⟩) hP hD hK hS hA hev rfl rfl rfl rfl hl.1 rfl (Nat.le_of_ble_eq_true rfl) dX10_treat_24 ⟨(Nat.le_of_ble_eq_true rfl), (Nat.le_of_ble_eq_true rfl)⟩ (fun r u H locs hw hP hD hS => ?_)
        obtain ⟨x0_16, rfl⟩ : ∃ z, z = u := ⟨_, rfl⟩
        have hw : ((r = some (.int 0) ∧ ((1 : Int32) = 0 ∧ x0_16 = (2 : Int32))) ∨ (r = some (.int 1) ∧ (¬ (1 : Int32) = 0 ∧ x0_16 = 0))) ∧ (True) := hw
        obtain ⟨⟨rfl, hz2_18⟩ | ⟨rfl, hz2_18⟩, hw_17⟩ := hw
        · have hP : va_P (dC, dI) vwCl (mw g h0 b (va_up i 0 x0_16) a) _ := hP
          have hD : va_D _ (mw g h0 b (va_up i 0 x0_16) a) := hD
          refine W.eq (g2 := F0 m 27 ls [.int 0]) rfl ?_
          exact absurd hz2_18.1 (by decide)
        · have hP : va_P (dC, dI) vwCl (mw g h0 b (va_up i 0 x0_16) a) _ := hP
          have hD : va_D _ (mw g h0 b (va_up i 0 x0_16) a) := hD
          refine W.eq (g2 := F0 m 27 ls [.int 1]) rfl ?_
          refine lv_if_ne (tgt := 32) hx hb dX10_treat_27 (by decide) (fun _ => ?_) (fun c_19 => absurd c_19 (by decide))
          refine lv_aload_n hx hb dX10_treat_32 rfl (lv_at hl 0 rfl) ?_
          refine lv_iload_n hx hb dX10_treat_33 rfl (lv_at hl 1 rfl) ?_
          refine M_V ⟨hx, hb, hml, hown, hts⟩ (m_X10_isDryE l dC dI sa g h0 b (va_up i 0 x0_16) a ck _ hc30) (cwV 1 hts gX10_treat_X10_isDry rfl rfl rfl (by decide +kernel) ⟨Nat.le_of_ble_eq_true rfl, Nat.le_of_ble_eq_true rfl⟩) hP hD hK hS hA hev rfl rfl rfl rfl hl.1 rfl (Nat.le_of_ble_eq_true rfl) dX10_treat_34 ⟨(Nat.le_of_ble_eq_true rfl), (Nat.le_of_ble_eq_true rfl)⟩ (fun r u H locs hw hP hD hS => ?_)
          have hw : ((r = some (.int 0) ∧ (((a 16) ck.toNatClampNeg) = -1)) ∨ (r = some (.int 1) ∧ (¬ ((a 16) ck.toNatClampNeg) = -1))) ∧ (True) := hw
          obtain ⟨⟨rfl, hz2_21⟩ | ⟨rfl, hz2_21⟩, hw_20⟩ := hw
          · have hP : va_P (dC, dI) vwCl (mw g h0 b (va_up i 0 x0_16) a) _ := hP
            have hD : va_D _ (mw g h0 b (va_up i 0 x0_16) a) := hD
            refine W.eq (g2 := F0 m 37 ls [.int 0]) rfl ?_
            refine lv_if_eq (tgt := 42) hx hb dX10_treat_37 (by decide) (fun _ => ?_) (fun c_22 => absurd c_22 (by decide))
            refine lv_iload_n hx hb dX10_treat_42 rfl (lv_at hl 2 rfl) ?_
            refine lv_iconst (v := 1) hx hb dX10_treat_43 (by decide) ?_
            refine lv_icmp_ne (tgt := 53) hx hb dX10_treat_44 (by decide) (fun c_23 => ?_) (fun c_23 => ?_)
            · have nc_23 := ne_i c_23
              have lc_23 : (1 : Int32).toInt = 1 := by decide
              refine lv_aload_n hx hb dX10_treat_53 rfl (lv_at hl 0 rfl) ?_
              refine lv_iload_n hx hb dX10_treat_54 rfl (lv_at hl 1 rfl) ?_
              refine M_V ⟨hx, hb, hml, hown, hts⟩ (m_X10_airsE l dC dI sa g h0 b (va_up i 0 x0_16) a ck _ hc30) (cwV 1 hts gX10_treat_X10_airs rfl rfl rfl (by decide +kernel) ⟨Nat.le_of_ble_eq_true rfl, Nat.le_of_ble_eq_true rfl⟩) hP hD hK hS hA hev rfl rfl rfl rfl hl.1 rfl (Nat.le_of_ble_eq_true rfl) dX10_treat_55 ⟨(Nat.le_of_ble_eq_true rfl), (Nat.le_of_ble_eq_true rfl)⟩ (fun r u H locs hw hP hD hS => ?_)
              obtain ⟨x2_24, y14_25, y15_26⟩ := u
              have hw : (∃ z : Int32, r = some (.int z) ∧ (z = ((a 14) ck.toNatClampNeg) / 8)) ∧ (x2_24 = (i 2) + ((a 14) ck.toNatClampNeg) / 8 ∧ y14_25 = upd (a 14) ck.toNatClampNeg (0) ∧ y15_26 = upd (a 15) ck.toNatClampNeg (((a 15) ck.toNatClampNeg) + (((a 14) ck.toNatClampNeg) - ((a 14) ck.toNatClampNeg) / 8))) := hw
              obtain ⟨⟨z_28, rfl, hz_z_28⟩, hw_27⟩ := hw
              have hP : va_P (dC, dI) vwCl (mw g h0 b (va_up (va_up i 0 x0_16) 2 x2_24) (va_up (va_up a 14 y14_25) 15 y15_26)) _ := hP
              have hD : va_D _ (mw g h0 b (va_up (va_up i 0 x0_16) 2 x2_24) (va_up (va_up a 14 y14_25) 15 y15_26)) := hD
              refine W.eq (g2 := F0 m 58 ls [.int z_28]) rfl ?_
              obtain ⟨hf_292, hf_2914, hf_2915⟩ := hw_27
              refine lv_istore_n (lv' := [(3, .int z_28), (0, .ref h0), (1, .int ck), (2, .int wt)]) hx hb dX10_treat_58 rfl hl (by decide) rfl (fun ls hl => ?_)
              refine lv_iload_n hx hb dX10_treat_59 rfl (lv_at hl 3 rfl) ?_
              refine lv_iconst (v := 2) hx hb dX10_treat_60 (by decide) ?_
              refine lv_icmp_ne (tgt := 77) hx hb dX10_treat_61 (by decide) (fun c_30 => ?_) (fun c_30 => ?_)
              · have nc_30 := ne_i c_30
                have lc_30 : (2 : Int32).toInt = 2 := by decide
                refine lv_iload_n hx hb dX10_treat_77 rfl (lv_at hl 0 rfl) ?_
                exact M_i hx hb hr hlocks (x0_16, x2_24, y14_25, y15_26, (a 16)) hP hD hK hS ⟨⟨_, rfl⟩, (by rw [show trS ck wt (i, a) = _ from (if_pos hz2_3.1).trans ((if_pos ⟨nlt_le c_6, nlt_le c_11⟩).trans ((if_neg (fun h8 => h8 hz2_21)).trans (if_pos (w_0 ⟨nlt_le c_6, nlt_le c_11⟩ c_23 c_30))))]; exact ⟨hz2_18.2, fun h9 => (by rw [hz_z_28]), hf_292, hf_2914, hf_2915, rfl⟩)⟩ (Nat.le_of_ble_eq_true rfl) (Nat.le_of_ble_eq_true rfl) dX10_treat_78
              · have nc_30 := eq_i c_30
                have lc_30 : (2 : Int32).toInt = 2 := by decide
                refine lv_aload_n hx hb dX10_treat_64 rfl (lv_at hl 1 rfl) ?_
                refine va_get (D := (dC, dI)) (ci := 10) (v := .ref (b 16)) (C := RX10) (T := TX10) (N := 51) hx hb hts inw_X10_treat_10 hown hK hP 0 rfl rfl 16 (by decide) (hts (.fieldLink RX10 44 "VatHouseModel" "day" "[I") (List.mem_of_getElem? (i := 1) (by exact rfl))) (fun _ h9 => h9) rfl dX10_treat_65 ?_
                refine lv_iload_n hx hb dX10_treat_68 rfl (lv_at hl 2 rfl) ?_
                refine lv_aload_n hx hb dX10_treat_69 rfl (lv_at hl 1 rfl) ?_
                refine va_get (D := (dC, dI)) (ci := 10) (v := .int (i 1)) (C := RX10) (T := TX10) (N := 51) hx hb hts inw_X10_treat_10 hown hK hP 0 rfl rfl 1 (by decide) (hts (.fieldLink RX10 131 "VatHouseModel" "hours" "I") (List.mem_of_getElem? (i := 2) (by exact rfl))) (fun _ h9 => h9) rfl dX10_treat_70 ?_
                refine lv_bipush (v := 24) hx hb dX10_treat_73 (by decide) ?_
                refine lv_idiv hx hb dX10_treat_75 (by decide) ?_
                refine lv_topi (fun z_31 ez_31 => ?_)
                refine va_iast hx hb hK hP hD hS 12 11 rfl rfl (by assumption) dX10_treat_76 (fun H locs hP hD hS => ?_)
                have hP : va_P (dC, dI) vwCl (mw g h0 b (va_up (va_up i 0 x0_16) 2 x2_24) (va_up (va_up (va_up a 14 y14_25) 15 y15_26) 16 (upd (a 16) ck.toNatClampNeg z_31))) _ := hP
                have hD : va_D _ (mw g h0 b (va_up (va_up i 0 x0_16) 2 x2_24) (va_up (va_up (va_up a 14 y14_25) 15 y15_26) 16 (upd (a 16) ck.toNatClampNeg z_31))) := hD
                obtain ⟨f_32, ef_32⟩ : ∃ z, z = (upd (a 16) ck.toNatClampNeg z_31) := ⟨_, rfl⟩
                rw [← ef_32] at hP hD
                refine lv_iload_n hx hb dX10_treat_77 rfl (lv_at hl 0 rfl) ?_
                exact M_i hx hb hr hlocks (x0_16, x2_24, y14_25, y15_26, f_32) hP hD hK hS ⟨⟨_, rfl⟩, (by rw [show trS ck wt (i, a) = _ from (if_pos hz2_3.1).trans ((if_pos ⟨nlt_le c_6, nlt_le c_11⟩).trans ((if_neg (fun h8 => h8 hz2_21)).trans ((if_neg (by rw [c_30]; decide)).trans (if_neg (by rw [c_30]; decide)))))]; exact ⟨hz2_18.2, fun h9 => (by rw [hz_z_28]), hf_292, hf_2914, hf_2915, (by rw [ef_32, ez_31]; rfl)⟩)⟩ (Nat.le_of_ble_eq_true rfl) (Nat.le_of_ble_eq_true rfl) dX10_treat_78
            · have nc_23 := eq_i c_23
              have lc_23 : (1 : Int32).toInt = 1 := by decide
              refine lv_aload_n hx hb dX10_treat_47 rfl (lv_at hl 0 rfl) ?_
              refine lv_iload_n hx hb dX10_treat_48 rfl (lv_at hl 1 rfl) ?_
              refine M_V ⟨hx, hb, hml, hown, hts⟩ (m_X10_washesE l dC dI sa g h0 b (va_up i 0 x0_16) a ck _ hc30) (cwV 1 hts gX10_treat_X10_washes rfl rfl rfl (by decide +kernel) ⟨Nat.le_of_ble_eq_true rfl, Nat.le_of_ble_eq_true rfl⟩) hP hD hK hS hA hev rfl rfl rfl rfl hl.1 rfl (Nat.le_of_ble_eq_true rfl) dX10_treat_49 ⟨(Nat.le_of_ble_eq_true rfl), (Nat.le_of_ble_eq_true rfl)⟩ (fun r u H locs hw hP hD hS => ?_)
              obtain ⟨x2_33, y14_34, y15_35⟩ := u
              have hw : (∃ z : Int32, r = some (.int z) ∧ (z = ((a 14) ck.toNatClampNeg) + ((a 15) ck.toNatClampNeg) / 20)) ∧ (x2_33 = (i 2) + (((a 14) ck.toNatClampNeg) + ((a 15) ck.toNatClampNeg) / 20) ∧ y14_34 = upd (a 14) ck.toNatClampNeg (0) ∧ y15_35 = upd (a 15) ck.toNatClampNeg (((a 15) ck.toNatClampNeg) - ((a 15) ck.toNatClampNeg) / 20)) := hw
              obtain ⟨⟨z_37, rfl, hz_z_37⟩, hw_36⟩ := hw
              have hP : va_P (dC, dI) vwCl (mw g h0 b (va_up (va_up i 0 x0_16) 2 x2_33) (va_up (va_up a 14 y14_34) 15 y15_35)) _ := hP
              have hD : va_D _ (mw g h0 b (va_up (va_up i 0 x0_16) 2 x2_33) (va_up (va_up a 14 y14_34) 15 y15_35)) := hD
              refine W.eq (g2 := F0 m 52 ls [.int z_37]) rfl ?_
              obtain ⟨hf_382, hf_3814, hf_3815⟩ := hw_36
              exact M_i hx hb hr hlocks (x0_16, x2_33, y14_34, y15_35, (a 16)) hP hD hK hS ⟨⟨_, rfl⟩, (by rw [show trS ck wt (i, a) = _ from (if_pos hz2_3.1).trans ((if_pos ⟨nlt_le c_6, nlt_le c_11⟩).trans ((if_neg (fun h8 => h8 hz2_21)).trans ((if_neg (by rw [c_23]; decide)).trans (if_pos c_23))))]; exact ⟨hz2_18.2, fun h9 => (by rw [hz_z_37]), hf_382, hf_3814, hf_3815, rfl⟩)⟩ (Nat.le_of_ble_eq_true rfl) (Nat.le_of_ble_eq_true rfl) dX10_treat_52
          · have hP : va_P (dC, dI) vwCl (mw g h0 b (va_up i 0 x0_16) a) _ := hP
            have hD : va_D _ (mw g h0 b (va_up i 0 x0_16) a) := hD
            refine W.eq (g2 := F0 m 37 ls [.int 1]) rfl ?_
            refine lv_if_eq (tgt := 42) hx hb dX10_treat_37 (by decide) (fun c_39 => absurd c_39 (by decide)) (fun _ => ?_)
            refine lv_iconst (v := (-1)) hx hb dX10_treat_40 (by decide) ?_
            exact M_i hx hb hr hlocks (x0_16, (i 2), (a 14), (a 15), (a 16)) hP hD hK hS ⟨⟨_, rfl⟩, (by rw [show trS ck wt (i, a) = _ from (if_pos hz2_3.1).trans ((if_pos ⟨nlt_le c_6, nlt_le c_11⟩).trans (if_pos hz2_21))]; exact ⟨hz2_18.2, fun h9 => rfl, rfl, rfl, rfl, rfl⟩)⟩ (Nat.le_of_ble_eq_true rfl) (Nat.le_of_ble_eq_true rfl) dX10_treat_41
