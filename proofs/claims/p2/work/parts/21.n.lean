theorem ne0_of {z w : Int32} (hz : z = w) (h : 1 ≤ w.toInt) : z ≠ 0 := fun e => by
  rw [← hz, e] at h
  exact absurd h (by decide)
theorem ne0_100 {z x w : Int32} (hz : z = 100 + x) (hx : x = w) (h : 1 ≤ w.toInt) (h2 : w.toInt ≤ 50) : z ≠ 0 := fun e => by
  subst hx
  have e1 := add_i hz (by have : (100 : Int32).toInt = 100 := by decide
                          omega) (by have : (100 : Int32).toInt = 100 := by decide
                                     omega)
  have : (100 : Int32).toInt = 100 := by decide
  have e0 : (0 : Int32).toInt = 0 := by decide
  rw [e] at e1
  omega
/-- the cloths: at most 30, each of a weight of 1 to 50 -/
def CI (cl : Int32) (w : Nat → Int32) : Prop := 0 ≤ cl.toInt ∧ cl.toInt ≤ 30 ∧ ∀ k : Nat, (k : Int) < cl.toInt → 1 ≤ (w k).toInt ∧ (w k).toInt ≤ 50
theorem CI.at {cl x : Int32} {w : Nat → Int32} (h : CI cl w) (hc : 0 ≤ x.toInt ∧ x.toInt < cl.toInt) : vp_in x 30 ∧ 1 ≤ (w x.toNatClampNeg).toInt ∧ (w x.toNatClampNeg).toInt ≤ 50 := by
  refine ⟨in_i hc.1 (by have := h.2.1; omega), h.2.2 _ ?_⟩
  rw [clamp_i hc.1]
  exact hc.2
theorem CI.add {cl z x : Int32} {w : Nat → Int32} (h : CI cl w) (hn : cl.toInt ≠ 30) (hz : z = cl + 1) (h1 : 1 ≤ x.toInt) (h2 : x.toInt ≤ 50) : CI z (upd w cl.toNatClampNeg x) := by
  have e := add_i hz (by have := h.1; have e1 : (1 : Int32).toInt = 1 := by decide
                         omega) (by have := h.2.1; have e1 : (1 : Int32).toInt = 1 := by decide
                                    omega)
  have e1 : (1 : Int32).toInt = 1 := by decide
  rw [e1] at e
  have h0 := h.1
  have h3 := h.2.1
  refine ⟨by omega, by omega, fun k hk => ?_⟩
  have hc := clamp_i h.1
  by_cases hkc : k = cl.toNatClampNeg
  · subst hkc
    simp only [upd, if_pos]
    exact ⟨h1, h2⟩
  · simp only [upd, hkc, if_false]
    exact h.2.2 k (by omega)

abbrev rm_X10_right : Room := { frames := 0, cells := 0, slots := 0, locals := 0 }
theorem inw_X10_right_10 : ∀ w ∈ wsX100, w ∈ wsX10_right := by decide +kernel
set_option maxHeartbeats 1000000 in
set_option maxRecDepth 100000 in
theorem m_X10_right (l : Launch) (dC : Nat → ClassId) (dI : Nat → Nat → Nat) (sa : Nat → Nat) (g : Nat → Nat) (h0 : Nat) (b : Nat → Nat) (i : Nat → Int32) (a : Nat → Nat → Int32) (iz : Int32) (wh : Int32) (sz : Nat) (hwh : ¬ wh = 0) : CT l dC dI sa yX10_right wsX10_right rm_X10_right [.ref h0, .int iz, .int wh] (mw g h0 b i a) (tyM g) sz (fun (r : Option Value) (x0 : Int32) => ((r = some (.int 0) ∧ (True)) ∨ (r = some (.int 1) ∧ (¬ iz = 0))) ∧ (True)) (fun (x0 : Int32) => mw g h0 b (va_up i 0 x0) a) (fun _ => []) 0 0 := by
  refine CT.start (cc := cX10_right) (maxL := 3) (ret := (some .boolean)) (by decide) rfl (Nat.le_of_ble_eq_true rfl) ?_
  intro p e s m below meth c ls hst hP hK hD hev hS hl
  obtain ⟨hx, hb, hr, hml, hts, hown, hlocks, hin⟩ := hst
  have hown : s.vm.findClass RX10 = some m.cls := hown
  have hA : ∀ q : Nat, s.heap.size ≤ q → va_A (mw g h0 b i a) s.heap.size q := fun _ h => Or.inr h
  have hl : lv_has ls 3 [(0, .ref h0), (1, .int iz), (2, .int wh)] := hl
  refine lv_aload_n hx hb dX10_right_0 rfl (lv_at hl 0 rfl) ?_
  refine va_get (D := (dC, dI)) (ci := 10) (v := .int (i 0)) (C := RX10) (T := TX10) (N := 51) hx hb hts inw_X10_right_10 hown hK hP 0 rfl rfl 0 (by decide) (hts (.fieldLink RX10 105 "VatHouseModel" "thrown" "I") (by decide +kernel)) (fun _ h9 => h9) rfl dX10_right_1 ?_
  refine lv_if_ne (tgt := 16) hx hb dX10_right_4 (by decide) (fun c_1 => ?_) (fun c_1 => ?_)
  · have nc_1 := ne_i c_1
    have lc_1 : (0 : Int32).toInt = 0 := by decide
    refine lv_aload_n hx hb dX10_right_16 rfl (lv_at hl 0 rfl) ?_
    refine va_get (D := (dC, dI)) (ci := 10) (v := .int (i 0)) (C := RX10) (T := TX10) (N := 51) hx hb hts inw_X10_right_10 hown hK hP 0 rfl rfl 0 (by decide) (hts (.fieldLink RX10 105 "VatHouseModel" "thrown" "I") (by decide +kernel)) (fun _ h9 => h9) rfl dX10_right_17 ?_
    refine lv_if_ne (tgt := 27) hx hb dX10_right_20 (by decide) (fun c_2 => ?_) (fun c_2 => ?_)
    · have nc_2 := ne_i c_2
      have lc_2 : (0 : Int32).toInt = 0 := by decide
      refine lv_iconst (v := 0) hx hb dX10_right_27 (by decide) ?_
      exact M_z hx hb hr rfl hlocks ((i 0)) hP hD hK hS ⟨Or.inl ⟨rfl, trivial⟩, trivial⟩ (Nat.le_of_ble_eq_true rfl) (Nat.le_of_ble_eq_true rfl) dX10_right_28
    · have nc_2 := eq_i c_2
      have lc_2 : (0 : Int32).toInt = 0 := by decide
      refine lv_iconst (v := 1) hx hb dX10_right_23 (by decide) ?_
      refine lv_goto (tgt := 28) hx hb dX10_right_24 (by decide) ?_
      exact M_z hx hb hr rfl hlocks ((i 0)) hP hD hK hS ⟨Or.inr ⟨rfl, absurd c_2 c_1⟩, trivial⟩ (Nat.le_of_ble_eq_true rfl) (Nat.le_of_ble_eq_true rfl) dX10_right_28
  · have nc_1 := eq_i c_1
    have lc_1 : (0 : Int32).toInt = 0 := by decide
    refine lv_iload_n hx hb dX10_right_7 rfl (lv_at hl 1 rfl) ?_
    refine lv_if_ne (tgt := 16) hx hb dX10_right_8 (by decide) (fun c_3 => ?_) (fun c_3 => ?_)
    · have nc_3 := ne_i c_3
      have lc_3 : (0 : Int32).toInt = 0 := by decide
      refine lv_aload_n hx hb dX10_right_16 rfl (lv_at hl 0 rfl) ?_
      refine va_get (D := (dC, dI)) (ci := 10) (v := .int (i 0)) (C := RX10) (T := TX10) (N := 51) hx hb hts inw_X10_right_10 hown hK hP 0 rfl rfl 0 (by decide) (hts (.fieldLink RX10 105 "VatHouseModel" "thrown" "I") (by decide +kernel)) (fun _ h9 => h9) rfl dX10_right_17 ?_
      refine lv_if_ne (tgt := 27) hx hb dX10_right_20 (by decide) (fun c_4 => ?_) (fun c_4 => ?_)
      · have nc_4 := ne_i c_4
        have lc_4 : (0 : Int32).toInt = 0 := by decide
        refine lv_iconst (v := 0) hx hb dX10_right_27 (by decide) ?_
        exact M_z hx hb hr rfl hlocks ((i 0)) hP hD hK hS ⟨Or.inl ⟨rfl, trivial⟩, trivial⟩ (Nat.le_of_ble_eq_true rfl) (Nat.le_of_ble_eq_true rfl) dX10_right_28
      · have nc_4 := eq_i c_4
        have lc_4 : (0 : Int32).toInt = 0 := by decide
        refine lv_iconst (v := 1) hx hb dX10_right_23 (by decide) ?_
        refine lv_goto (tgt := 28) hx hb dX10_right_24 (by decide) ?_
        exact M_z hx hb hr rfl hlocks ((i 0)) hP hD hK hS ⟨Or.inr ⟨rfl, c_3⟩, trivial⟩ (Nat.le_of_ble_eq_true rfl) (Nat.le_of_ble_eq_true rfl) dX10_right_28
    · have nc_3 := eq_i c_3
      have lc_3 : (0 : Int32).toInt = 0 := by decide
      refine lv_aload_n hx hb dX10_right_11 rfl (lv_at hl 0 rfl) ?_
      refine lv_iload_n hx hb dX10_right_12 rfl (lv_at hl 2 rfl) ?_
      refine va_put (D := (dC, dI)) (ci := 10) (v := .int wh) (ty := .int) (C := RX10) (T := TX10) (N := 51) hx hb hts inw_X10_right_10 tyX10 tyX10_ok nmX10 hown hK hP hD hS 0 rfl rfl 0 (by decide) (hts (.fieldLink RX10 105 "VatHouseModel" "thrown" "I") (by decide +kernel)) (fun _ h9 => h9) rfl (by decide +kernel) rfl rfl (Nat.le_of_ble_eq_true rfl) dX10_right_13 (fun H locs hP hD hS => ?_)
      have hP : va_P (dC, dI) vwCl (mw g h0 b (va_up i 0 wh) a) _ := hP
      have hD : va_D _ (mw g h0 b (va_up i 0 wh) a) := hD
      refine lv_aload_n hx hb dX10_right_16 rfl (lv_at hl 0 rfl) ?_
      refine va_get (D := (dC, dI)) (ci := 10) (v := .int wh) (C := RX10) (T := TX10) (N := 51) hx hb hts inw_X10_right_10 hown hK hP 0 rfl rfl 0 (by decide) (hts (.fieldLink RX10 105 "VatHouseModel" "thrown" "I") (by decide +kernel)) (fun _ h9 => h9) rfl dX10_right_17 ?_
      refine lv_if_ne (tgt := 27) hx hb dX10_right_20 (by decide) (fun c_5 => ?_) (fun c_5 => ?_)
      · have nc_5 := ne_i c_5
        have lc_5 : (0 : Int32).toInt = 0 := by decide
        refine lv_iconst (v := 0) hx hb dX10_right_27 (by decide) ?_
        exact M_z hx hb hr rfl hlocks (wh) hP hD hK hS ⟨Or.inl ⟨rfl, trivial⟩, trivial⟩ (Nat.le_of_ble_eq_true rfl) (Nat.le_of_ble_eq_true rfl) dX10_right_28
      · have nc_5 := eq_i c_5
        have lc_5 : (0 : Int32).toInt = 0 := by decide
        refine lv_iconst (v := 1) hx hb dX10_right_23 (by decide) ?_
        refine lv_goto (tgt := 28) hx hb dX10_right_24 (by decide) ?_
        exact M_z hx hb hr rfl hlocks (wh) hP hD hK hS ⟨Or.inr ⟨rfl, absurd c_5 hwh⟩, trivial⟩ (Nat.le_of_ble_eq_true rfl) (Nat.le_of_ble_eq_true rfl) dX10_right_28

abbrev rm_X10_isVat : Room := { frames := 1, cells := 0, slots := 0, locals := 22 }
theorem inw_X10_isVat_10 : ∀ w ∈ wsX100, w ∈ wsX10_isVat := by decide +kernel
set_option maxHeartbeats 1000000 in
set_option maxRecDepth 100000 in
theorem m_X10_isVat (l : Launch) (dC : Nat → ClassId) (dI : Nat → Nat → Nat) (sa : Nat → Nat) (g : Nat → Nat) (h0 : Nat) (b : Nat → Nat) (i : Nat → Int32) (a : Nat → Nat → Int32) (vv : Int32) (sz : Nat) : CT l dC dI sa yX10_isVat wsX10_isVat rm_X10_isVat [.ref h0, .int vv] (mw g h0 b i a) (tyM g) sz (fun (r : Option Value) (x0 : Int32) => ((r = some (.int 0) ∧ (True)) ∨ (r = some (.int 1) ∧ (vp_in vv 6))) ∧ (True)) (fun (x0 : Int32) => mw g h0 b (va_up i 0 x0) a) (fun _ => []) 0 0 := by
  refine CT.start (cc := cX10_isVat) (maxL := 2) (ret := (some .boolean)) (by decide) rfl (Nat.le_of_ble_eq_true rfl) ?_
  intro p e s m below meth c ls hst hP hK hD hev hS hl
  obtain ⟨hx, hb, hr, hml, hts, hown, hlocks, hin⟩ := hst
  have hown : s.vm.findClass RX10 = some m.cls := hown
  have hA : ∀ q : Nat, s.heap.size ≤ q → va_A (mw g h0 b i a) s.heap.size q := fun _ h => Or.inr h
  have hl : lv_has ls 2 [(0, .ref h0), (1, .int vv)] := hl
  refine lv_aload_n hx hb dX10_isVat_0 rfl (lv_at hl 0 rfl) ?_
  refine lv_iconst (v := 0) hx hb dX10_isVat_1 (by decide) ?_
  refine va_put (D := (dC, dI)) (ci := 10) (v := .int 0) (ty := .int) (C := RX10) (T := TX10) (N := 51) hx hb hts inw_X10_isVat_10 tyX10 tyX10_ok nmX10 hown hK hP hD hS 0 rfl rfl 0 (by decide) (hts (.fieldLink RX10 105 "VatHouseModel" "thrown" "I") (by decide +kernel)) (fun _ h9 => h9) rfl (by decide +kernel) rfl rfl (Nat.le_of_ble_eq_true rfl) dX10_isVat_2 (fun H locs hP hD hS => ?_)
  have hP : va_P (dC, dI) vwCl (mw g h0 b (va_up i 0 (0 : Int32)) a) _ := hP
  have hD : va_D _ (mw g h0 b (va_up i 0 (0 : Int32)) a) := hD
  refine lv_aload_n hx hb dX10_isVat_5 rfl (lv_at hl 0 rfl) ?_
  refine lv_iload_n hx hb dX10_isVat_6 rfl (lv_at hl 1 rfl) ?_
  refine lv_if_lt (tgt := 20) hx hb dX10_isVat_7 (by decide) (fun c_1 => ?_) (fun c_1 => ?_)
  · have nc_1 := lt_i c_1
    have lc_1 : (0 : Int32).toInt = 0 := by decide
    refine lv_iconst (v := 0) hx hb dX10_isVat_20 (by decide) ?_
    refine lv_iconst (v := 1) hx hb dX10_isVat_21 (by decide) ?_
    refine M_V ⟨hx, hb, hml, hown, hts⟩ (m_X10_right l dC dI sa g h0 b (va_up i 0 (0 : Int32)) a (0 : Int32) (1 : Int32) _ (by decide)) (cwV 2 hts gX10_isVat_X10_right rfl rfl rfl (by decide +kernel) ⟨Nat.le_of_ble_eq_true rfl, Nat.le_of_ble_eq_true rfl⟩) hP hD hK hS hA hev rfl rfl rfl rfl hl.1 rfl (Nat.le_of_ble_eq_true rfl) dX10_isVat_22 ⟨(Nat.le_of_ble_eq_true rfl), (Nat.le_of_ble_eq_true rfl)⟩ (fun r u H locs hw hP hD hS => ?_)
    obtain ⟨x0_2, rfl⟩ : ∃ z, z = u := ⟨_, rfl⟩
    have hw : ((r = some (.int 0) ∧ (True)) ∨ (r = some (.int 1) ∧ (¬ (0 : Int32) = 0))) ∧ (True) := hw
    obtain ⟨⟨rfl, hz2_4⟩ | ⟨rfl, hz2_4⟩, hw_3⟩ := hw
    · have hP : va_P (dC, dI) vwCl (mw g h0 b (va_up i 0 x0_2) a) _ := hP
      have hD : va_D _ (mw g h0 b (va_up i 0 x0_2) a) := hD
      refine W.eq (g2 := F0 m 25 ls [.int 0]) rfl ?_
      exact M_z hx hb hr rfl hlocks (x0_2) hP hD hK hS ⟨Or.inl ⟨rfl, trivial⟩, trivial⟩ (Nat.le_of_ble_eq_true rfl) (Nat.le_of_ble_eq_true rfl) dX10_isVat_25
    · have hP : va_P (dC, dI) vwCl (mw g h0 b (va_up i 0 x0_2) a) _ := hP
      have hD : va_D _ (mw g h0 b (va_up i 0 x0_2) a) := hD
      refine W.eq (g2 := F0 m 25 ls [.int 1]) rfl ?_
      exact absurd rfl hz2_4
  · have nc_1 := nlt_i c_1
    have lc_1 : (0 : Int32).toInt = 0 := by decide
    refine lv_iload_n hx hb dX10_isVat_10 rfl (lv_at hl 1 rfl) ?_
    refine lv_bipush (v := 6) hx hb dX10_isVat_11 (by decide) ?_
    refine lv_icmp_ge (tgt := 20) hx hb dX10_isVat_13 (by decide) (fun c_5 => ?_) (fun c_5 => ?_)
    · have nc_5 := le_i c_5
      have lc_5 : (6 : Int32).toInt = 6 := by decide
      refine lv_iconst (v := 0) hx hb dX10_isVat_20 (by decide) ?_
      refine lv_iconst (v := 1) hx hb dX10_isVat_21 (by decide) ?_
      refine M_V ⟨hx, hb, hml, hown, hts⟩ (m_X10_right l dC dI sa g h0 b (va_up i 0 (0 : Int32)) a (0 : Int32) (1 : Int32) _ (by decide)) (cwV 2 hts gX10_isVat_X10_right rfl rfl rfl (by decide +kernel) ⟨Nat.le_of_ble_eq_true rfl, Nat.le_of_ble_eq_true rfl⟩) hP hD hK hS hA hev rfl rfl rfl rfl hl.1 rfl (Nat.le_of_ble_eq_true rfl) dX10_isVat_22 ⟨(Nat.le_of_ble_eq_true rfl), (Nat.le_of_ble_eq_true rfl)⟩ (fun r u H locs hw hP hD hS => ?_)
      obtain ⟨x0_6, rfl⟩ : ∃ z, z = u := ⟨_, rfl⟩
      have hw : ((r = some (.int 0) ∧ (True)) ∨ (r = some (.int 1) ∧ (¬ (0 : Int32) = 0))) ∧ (True) := hw
      obtain ⟨⟨rfl, hz2_8⟩ | ⟨rfl, hz2_8⟩, hw_7⟩ := hw
      · have hP : va_P (dC, dI) vwCl (mw g h0 b (va_up i 0 x0_6) a) _ := hP
        have hD : va_D _ (mw g h0 b (va_up i 0 x0_6) a) := hD
        refine W.eq (g2 := F0 m 25 ls [.int 0]) rfl ?_
        exact M_z hx hb hr rfl hlocks (x0_6) hP hD hK hS ⟨Or.inl ⟨rfl, trivial⟩, trivial⟩ (Nat.le_of_ble_eq_true rfl) (Nat.le_of_ble_eq_true rfl) dX10_isVat_25
      · have hP : va_P (dC, dI) vwCl (mw g h0 b (va_up i 0 x0_6) a) _ := hP
        have hD : va_D _ (mw g h0 b (va_up i 0 x0_6) a) := hD
        refine W.eq (g2 := F0 m 25 ls [.int 1]) rfl ?_
        exact absurd rfl hz2_8
    · have nc_5 := nle_i c_5
      have lc_5 : (6 : Int32).toInt = 6 := by decide
      refine lv_iconst (v := 1) hx hb dX10_isVat_16 (by decide) ?_
      refine lv_goto (tgt := 21) hx hb dX10_isVat_17 (by decide) ?_
      refine lv_iconst (v := 1) hx hb dX10_isVat_21 (by decide) ?_
      refine M_V ⟨hx, hb, hml, hown, hts⟩ (m_X10_right l dC dI sa g h0 b (va_up i 0 (0 : Int32)) a (1 : Int32) (1 : Int32) _ (by decide)) (cwV 2 hts gX10_isVat_X10_right rfl rfl rfl (by decide +kernel) ⟨Nat.le_of_ble_eq_true rfl, Nat.le_of_ble_eq_true rfl⟩) hP hD hK hS hA hev rfl rfl rfl rfl hl.1 rfl (Nat.le_of_ble_eq_true rfl) dX10_isVat_22 ⟨(Nat.le_of_ble_eq_true rfl), (Nat.le_of_ble_eq_true rfl)⟩ (fun r u H locs hw hP hD hS => ?_)
      obtain ⟨x0_9, rfl⟩ : ∃ z, z = u := ⟨_, rfl⟩
      have hw : ((r = some (.int 0) ∧ (True)) ∨ (r = some (.int 1) ∧ (¬ (1 : Int32) = 0))) ∧ (True) := hw
      obtain ⟨⟨rfl, hz2_11⟩ | ⟨rfl, hz2_11⟩, hw_10⟩ := hw
      · have hP : va_P (dC, dI) vwCl (mw g h0 b (va_up i 0 x0_9) a) _ := hP
        have hD : va_D _ (mw g h0 b (va_up i 0 x0_9) a) := hD
        refine W.eq (g2 := F0 m 25 ls [.int 0]) rfl ?_
        exact M_z hx hb hr rfl hlocks (x0_9) hP hD hK hS ⟨Or.inl ⟨rfl, trivial⟩, trivial⟩ (Nat.le_of_ble_eq_true rfl) (Nat.le_of_ble_eq_true rfl) dX10_isVat_25
      · have hP : va_P (dC, dI) vwCl (mw g h0 b (va_up i 0 x0_9) a) _ := hP
        have hD : va_D _ (mw g h0 b (va_up i 0 x0_9) a) := hD
        refine W.eq (g2 := F0 m 25 ls [.int 1]) rfl ?_
        exact M_z hx hb hr rfl hlocks (x0_9) hP hD hK hS ⟨Or.inr ⟨rfl, in_i (by omega) (by omega)⟩, trivial⟩ (Nat.le_of_ble_eq_true rfl) (Nat.le_of_ble_eq_true rfl) dX10_isVat_25

abbrev rm_X10_isCloth : Room := { frames := 1, cells := 0, slots := 0, locals := 22 }
theorem inw_X10_isCloth_10 : ∀ w ∈ wsX100, w ∈ wsX10_isCloth := by decide +kernel
set_option maxHeartbeats 1000000 in
set_option maxRecDepth 100000 in
theorem m_X10_isCloth (l : Launch) (dC : Nat → ClassId) (dI : Nat → Nat → Nat) (sa : Nat → Nat) (g : Nat → Nat) (h0 : Nat) (b : Nat → Nat) (i : Nat → Int32) (a : Nat → Nat → Int32) (ck : Int32) (sz : Nat) : CT l dC dI sa yX10_isCloth wsX10_isCloth rm_X10_isCloth [.ref h0, .int ck] (mw g h0 b i a) (tyM g) sz (fun (r : Option Value) (x0 : Int32) => ((r = some (.int 0) ∧ (True)) ∨ (r = some (.int 1) ∧ (0 ≤ ck.toInt ∧ ck.toInt < (i 12).toInt))) ∧ (True)) (fun (x0 : Int32) => mw g h0 b (va_up i 0 x0) a) (fun _ => []) 0 0 := by
  refine CT.start (cc := cX10_isCloth) (maxL := 2) (ret := (some .boolean)) (by decide) rfl (Nat.le_of_ble_eq_true rfl) ?_
  intro p e s m below meth c ls hst hP hK hD hev hS hl
  obtain ⟨hx, hb, hr, hml, hts, hown, hlocks, hin⟩ := hst
  have hown : s.vm.findClass RX10 = some m.cls := hown
  have hA : ∀ q : Nat, s.heap.size ≤ q → va_A (mw g h0 b i a) s.heap.size q := fun _ h => Or.inr h
  have hl : lv_has ls 2 [(0, .ref h0), (1, .int ck)] := hl
  refine lv_aload_n hx hb dX10_isCloth_0 rfl (lv_at hl 0 rfl) ?_
  refine lv_iconst (v := 0) hx hb dX10_isCloth_1 (by decide) ?_
  refine va_put (D := (dC, dI)) (ci := 10) (v := .int 0) (ty := .int) (C := RX10) (T := TX10) (N := 51) hx hb hts inw_X10_isCloth_10 tyX10 tyX10_ok nmX10 hown hK hP hD hS 0 rfl rfl 0 (by decide) (hts (.fieldLink RX10 105 "VatHouseModel" "thrown" "I") (by decide +kernel)) (fun _ h9 => h9) rfl (by decide +kernel) rfl rfl (Nat.le_of_ble_eq_true rfl) dX10_isCloth_2 (fun H locs hP hD hS => ?_)
  have hP : va_P (dC, dI) vwCl (mw g h0 b (va_up i 0 (0 : Int32)) a) _ := hP
  have hD : va_D _ (mw g h0 b (va_up i 0 (0 : Int32)) a) := hD
  refine lv_aload_n hx hb dX10_isCloth_5 rfl (lv_at hl 0 rfl) ?_
  refine lv_iload_n hx hb dX10_isCloth_6 rfl (lv_at hl 1 rfl) ?_
  refine lv_if_lt (tgt := 22) hx hb dX10_isCloth_7 (by decide) (fun c_1 => ?_) (fun c_1 => ?_)
  · have nc_1 := lt_i c_1
    have lc_1 : (0 : Int32).toInt = 0 := by decide
    refine lv_iconst (v := 0) hx hb dX10_isCloth_22 (by decide) ?_
    refine lv_iconst (v := 1) hx hb dX10_isCloth_23 (by decide) ?_
    refine M_V ⟨hx, hb, hml, hown, hts⟩ (m_X10_right l dC dI sa g h0 b (va_up i 0 (0 : Int32)) a (0 : Int32) (1 : Int32) _ (by decide)) (cwV 2 hts gX10_isCloth_X10_right rfl rfl rfl (by decide +kernel) ⟨Nat.le_of_ble_eq_true rfl, Nat.le_of_ble_eq_true rfl⟩) hP hD hK hS hA hev rfl rfl rfl rfl hl.1 rfl (Nat.le_of_ble_eq_true rfl) dX10_isCloth_24 ⟨(Nat.le_of_ble_eq_true rfl), (Nat.le_of_ble_eq_true rfl)⟩ (fun r u H locs hw hP hD hS => ?_)
    obtain ⟨x0_2, rfl⟩ : ∃ z, z = u := ⟨_, rfl⟩
    have hw : ((r = some (.int 0) ∧ (True)) ∨ (r = some (.int 1) ∧ (¬ (0 : Int32) = 0))) ∧ (True) := hw
    obtain ⟨⟨rfl, hz2_4⟩ | ⟨rfl, hz2_4⟩, hw_3⟩ := hw
    · have hP : va_P (dC, dI) vwCl (mw g h0 b (va_up i 0 x0_2) a) _ := hP
      have hD : va_D _ (mw g h0 b (va_up i 0 x0_2) a) := hD
      refine W.eq (g2 := F0 m 27 ls [.int 0]) rfl ?_
      exact M_z hx hb hr rfl hlocks (x0_2) hP hD hK hS ⟨Or.inl ⟨rfl, trivial⟩, trivial⟩ (Nat.le_of_ble_eq_true rfl) (Nat.le_of_ble_eq_true rfl) dX10_isCloth_27
    · have hP : va_P (dC, dI) vwCl (mw g h0 b (va_up i 0 x0_2) a) _ := hP
      have hD : va_D _ (mw g h0 b (va_up i 0 x0_2) a) := hD
      refine W.eq (g2 := F0 m 27 ls [.int 1]) rfl ?_
      exact absurd rfl hz2_4
  · have nc_1 := nlt_i c_1
    have lc_1 : (0 : Int32).toInt = 0 := by decide
    refine lv_iload_n hx hb dX10_isCloth_10 rfl (lv_at hl 1 rfl) ?_
    refine lv_aload_n hx hb dX10_isCloth_11 rfl (lv_at hl 0 rfl) ?_
    refine va_get (D := (dC, dI)) (ci := 10) (v := .int (i 12)) (C := RX10) (T := TX10) (N := 51) hx hb hts inw_X10_isCloth_10 hown hK hP 0 rfl rfl 12 (by decide) (hts (.fieldLink RX10 112 "VatHouseModel" "cloths" "I") (by decide +kernel)) (fun _ h9 => h9) rfl dX10_isCloth_12 ?_
    refine lv_icmp_ge (tgt := 22) hx hb dX10_isCloth_15 (by decide) (fun c_5 => ?_) (fun c_5 => ?_)
    · have nc_5 := le_i c_5
      refine lv_iconst (v := 0) hx hb dX10_isCloth_22 (by decide) ?_
      refine lv_iconst (v := 1) hx hb dX10_isCloth_23 (by decide) ?_
      refine M_V ⟨hx, hb, hml, hown, hts⟩ (m_X10_right l dC dI sa g h0 b (va_up i 0 (0 : Int32)) a (0 : Int32) (1 : Int32) _ (by decide)) (cwV 2 hts gX10_isCloth_X10_right rfl rfl rfl (by decide +kernel) ⟨Nat.le_of_ble_eq_true rfl, Nat.le_of_ble_eq_true rfl⟩) hP hD hK hS hA hev rfl rfl rfl rfl hl.1 rfl (Nat.le_of_ble_eq_true rfl) dX10_isCloth_24 ⟨(Nat.le_of_ble_eq_true rfl), (Nat.le_of_ble_eq_true rfl)⟩ (fun r u H locs hw hP hD hS => ?_)
      obtain ⟨x0_6, rfl⟩ : ∃ z, z = u := ⟨_, rfl⟩
      have hw : ((r = some (.int 0) ∧ (True)) ∨ (r = some (.int 1) ∧ (¬ (0 : Int32) = 0))) ∧ (True) := hw
      obtain ⟨⟨rfl, hz2_8⟩ | ⟨rfl, hz2_8⟩, hw_7⟩ := hw
      · have hP : va_P (dC, dI) vwCl (mw g h0 b (va_up i 0 x0_6) a) _ := hP
        have hD : va_D _ (mw g h0 b (va_up i 0 x0_6) a) := hD
        refine W.eq (g2 := F0 m 27 ls [.int 0]) rfl ?_
        exact M_z hx hb hr rfl hlocks (x0_6) hP hD hK hS ⟨Or.inl ⟨rfl, trivial⟩, trivial⟩ (Nat.le_of_ble_eq_true rfl) (Nat.le_of_ble_eq_true rfl) dX10_isCloth_27
      · have hP : va_P (dC, dI) vwCl (mw g h0 b (va_up i 0 x0_6) a) _ := hP
        have hD : va_D _ (mw g h0 b (va_up i 0 x0_6) a) := hD
        refine W.eq (g2 := F0 m 27 ls [.int 1]) rfl ?_
        exact absurd rfl hz2_8
    · have nc_5 := nle_i c_5
      refine lv_iconst (v := 1) hx hb dX10_isCloth_18 (by decide) ?_
      refine lv_goto (tgt := 23) hx hb dX10_isCloth_19 (by decide) ?_
      refine lv_iconst (v := 1) hx hb dX10_isCloth_23 (by decide) ?_
      refine M_V ⟨hx, hb, hml, hown, hts⟩ (m_X10_right l dC dI sa g h0 b (va_up i 0 (0 : Int32)) a (1 : Int32) (1 : Int32) _ (by decide)) (cwV 2 hts gX10_isCloth_X10_right rfl rfl rfl (by decide +kernel) ⟨Nat.le_of_ble_eq_true rfl, Nat.le_of_ble_eq_true rfl⟩) hP hD hK hS hA hev rfl rfl rfl rfl hl.1 rfl (Nat.le_of_ble_eq_true rfl) dX10_isCloth_24 ⟨(Nat.le_of_ble_eq_true rfl), (Nat.le_of_ble_eq_true rfl)⟩ (fun r u H locs hw hP hD hS => ?_)
      obtain ⟨x0_9, rfl⟩ : ∃ z, z = u := ⟨_, rfl⟩
      have hw : ((r = some (.int 0) ∧ (True)) ∨ (r = some (.int 1) ∧ (¬ (1 : Int32) = 0))) ∧ (True) := hw
      obtain ⟨⟨rfl, hz2_11⟩ | ⟨rfl, hz2_11⟩, hw_10⟩ := hw
      · have hP : va_P (dC, dI) vwCl (mw g h0 b (va_up i 0 x0_9) a) _ := hP
        have hD : va_D _ (mw g h0 b (va_up i 0 x0_9) a) := hD
        refine W.eq (g2 := F0 m 27 ls [.int 0]) rfl ?_
        exact M_z hx hb hr rfl hlocks (x0_9) hP hD hK hS ⟨Or.inl ⟨rfl, trivial⟩, trivial⟩ (Nat.le_of_ble_eq_true rfl) (Nat.le_of_ble_eq_true rfl) dX10_isCloth_27
      · have hP : va_P (dC, dI) vwCl (mw g h0 b (va_up i 0 x0_9) a) _ := hP
        have hD : va_D _ (mw g h0 b (va_up i 0 x0_9) a) := hD
        refine W.eq (g2 := F0 m 27 ls [.int 1]) rfl ?_
        exact M_z hx hb hr rfl hlocks (x0_9) hP hD hK hS ⟨Or.inr ⟨rfl, ⟨by omega, by omega⟩⟩, trivial⟩ (Nat.le_of_ble_eq_true rfl) (Nat.le_of_ble_eq_true rfl) dX10_isCloth_27

abbrev rm_X10_isDry : Room := { frames := 0, cells := 0, slots := 0, locals := 0 }
theorem inw_X10_isDry_10 : ∀ w ∈ wsX100, w ∈ wsX10_isDry := by decide +kernel
set_option maxHeartbeats 1000000 in
set_option maxRecDepth 100000 in
theorem m_X10_isDry (l : Launch) (dC : Nat → ClassId) (dI : Nat → Nat → Nat) (sa : Nat → Nat) (g : Nat → Nat) (h0 : Nat) (b : Nat → Nat) (i : Nat → Int32) (a : Nat → Nat → Int32) (ck : Int32) (sz : Nat) (hc30 : vp_in ck 30) : CT l dC dI sa yX10_isDry wsX10_isDry rm_X10_isDry [.ref h0, .int ck] (mw g h0 b i a) (tyM g) sz (fun (r : Option Value) (_ : Unit) => (∃ z : Int32, r = some (.int z) ∧ (z = 0 ∨ z = 1)) ∧ (True)) (fun (_ : Unit) => mw g h0 b i a) (fun _ => []) 0 0 := by
  refine CT.start (cc := cX10_isDry) (maxL := 2) (ret := (some .boolean)) (by decide) rfl (Nat.le_of_ble_eq_true rfl) ?_
  intro p e s m below meth c ls hst hP hK hD hev hS hl
  obtain ⟨hx, hb, hr, hml, hts, hown, hlocks, hin⟩ := hst
  have hown : s.vm.findClass RX10 = some m.cls := hown
  have hA : ∀ q : Nat, s.heap.size ≤ q → va_A (mw g h0 b i a) s.heap.size q := fun _ h => Or.inr h
  have hl : lv_has ls 2 [(0, .ref h0), (1, .int ck)] := hl
  refine lv_aload_n hx hb dX10_isDry_0 rfl (lv_at hl 0 rfl) ?_
  refine va_get (D := (dC, dI)) (ci := 10) (v := .ref (b 16)) (C := RX10) (T := TX10) (N := 51) hx hb hts inw_X10_isDry_10 hown hK hP 0 rfl rfl 16 (by decide) (hts (.fieldLink RX10 44 "VatHouseModel" "day" "[I") (by decide +kernel)) (fun _ h9 => h9) rfl dX10_isDry_1 ?_
  refine lv_iload_n hx hb dX10_isDry_4 rfl (lv_at hl 1 rfl) ?_
  refine va_iald hx hb hK hP 12 11 rfl rfl (by assumption) dX10_isDry_5 ?_
  refine lv_topi (fun z_1 ez_1 => ?_)
  have ez_1 : z_1 = (a 16) ck.toNatClampNeg := ez_1
  refine lv_iconst (v := (-1)) hx hb dX10_isDry_6 (by decide) ?_
  refine lv_icmp_eq (tgt := 14) hx hb dX10_isDry_7 (by decide) (fun c_2 => ?_) (fun c_2 => ?_)
  · have nc_2 := eq_i c_2
    have lc_2 : ((-1) : Int32).toInt = -1 := by decide
    refine lv_iconst (v := 0) hx hb dX10_isDry_14 (by decide) ?_
    exact M_z hx hb hr rfl hlocks () hP hD hK hS ⟨⟨_, rfl, Or.inl rfl⟩, trivial⟩ (Nat.le_of_ble_eq_true rfl) (Nat.le_of_ble_eq_true rfl) dX10_isDry_15
  · have nc_2 := ne_i c_2
    have lc_2 : ((-1) : Int32).toInt = -1 := by decide
    refine lv_iconst (v := 1) hx hb dX10_isDry_10 (by decide) ?_
    refine lv_goto (tgt := 15) hx hb dX10_isDry_11 (by decide) ?_
    exact M_z hx hb hr rfl hlocks () hP hD hK hS ⟨⟨_, rfl, Or.inr rfl⟩, trivial⟩ (Nat.le_of_ble_eq_true rfl) (Nat.le_of_ble_eq_true rfl) dX10_isDry_15

abbrev rm_X10_shadeOf : Room := { frames := 0, cells := 0, slots := 0, locals := 0 }
theorem inw_X10_shadeOf_10 : ∀ w ∈ wsX100, w ∈ wsX10_shadeOf := by decide +kernel
set_option maxHeartbeats 1000000 in
set_option maxRecDepth 100000 in
theorem m_X10_shadeOf (l : Launch) (dC : Nat → ClassId) (dI : Nat → Nat → Nat) (sa : Nat → Nat) (g : Nat → Nat) (h0 : Nat) (b : Nat → Nat) (i : Nat → Int32) (a : Nat → Nat → Int32) (ck : Int32) (sz : Nat) (hc30 : vp_in ck 30) (hwt : 1 ≤ ((a 13) ck.toNatClampNeg).toInt ∧ ((a 13) ck.toNatClampNeg).toInt ≤ 50) : CT l dC dI sa yX10_shadeOf wsX10_shadeOf rm_X10_shadeOf [.ref h0, .int ck] (mw g h0 b i a) (tyM g) sz (fun (r : Option Value) (_ : Unit) => (∃ z : Int32, r = some (.int z)) ∧ (True)) (fun (_ : Unit) => mw g h0 b i a) (fun _ => []) 0 0 := by
  refine CT.start (cc := cX10_shadeOf) (maxL := 2) (ret := (some .int)) (by decide) rfl (Nat.le_of_ble_eq_true rfl) ?_
  intro p e s m below meth c ls hst hP hK hD hev hS hl
  obtain ⟨hx, hb, hr, hml, hts, hown, hlocks, hin⟩ := hst
  have hown : s.vm.findClass RX10 = some m.cls := hown
  have hA : ∀ q : Nat, s.heap.size ≤ q → va_A (mw g h0 b i a) s.heap.size q := fun _ h => Or.inr h
  have hl : lv_has ls 2 [(0, .ref h0), (1, .int ck)] := hl
  refine lv_aload_n hx hb dX10_shadeOf_0 rfl (lv_at hl 0 rfl) ?_
  refine va_get (D := (dC, dI)) (ci := 10) (v := .ref (b 15)) (C := RX10) (T := TX10) (N := 51) hx hb hts inw_X10_shadeOf_10 hown hK hP 0 rfl rfl 15 (by decide) (hts (.fieldLink RX10 41 "VatHouseModel" "fast" "[I") (by decide +kernel)) (fun _ h9 => h9) rfl dX10_shadeOf_1 ?_
  refine lv_iload_n hx hb dX10_shadeOf_4 rfl (lv_at hl 1 rfl) ?_
  refine va_iald hx hb hK hP 11 10 rfl rfl (by assumption) dX10_shadeOf_5 ?_
  refine lv_topi (fun z_1 ez_1 => ?_)
  have ez_1 : z_1 = (a 15) ck.toNatClampNeg := ez_1
  refine lv_aload_n hx hb dX10_shadeOf_6 rfl (lv_at hl 0 rfl) ?_
  refine va_get (D := (dC, dI)) (ci := 10) (v := .ref (b 13)) (C := RX10) (T := TX10) (N := 51) hx hb hts inw_X10_shadeOf_10 hown hK hP 0 rfl rfl 13 (by decide) (hts (.fieldLink RX10 35 "VatHouseModel" "weight" "[I") (by decide +kernel)) (fun _ h9 => h9) rfl dX10_shadeOf_7 ?_
  refine lv_iload_n hx hb dX10_shadeOf_10 rfl (lv_at hl 1 rfl) ?_
  refine va_iald hx hb hK hP 9 8 rfl rfl (by assumption) dX10_shadeOf_11 ?_
  refine lv_topi (fun z_2 ez_2 => ?_)
  have ez_2 : z_2 = (a 13) ck.toNatClampNeg := ez_2
  refine lv_idiv hx hb dX10_shadeOf_12 (ne0_of (w := (a 13) ck.toNatClampNeg) (by assumption) hwt.1) ?_
  refine lv_topi (fun z_3 ez_3 => ?_)
  exact M_i hx hb hr hlocks () hP hD hK hS ⟨⟨_, rfl⟩, trivial⟩ (Nat.le_of_ble_eq_true rfl) (Nat.le_of_ble_eq_true rfl) dX10_shadeOf_13

abbrev rm_X10_charge : Room := { frames := 2, cells := 0, slots := 0, locals := 43 }
theorem inw_X10_charge_10 : ∀ w ∈ wsX100, w ∈ wsX10_charge := by decide +kernel
set_option maxHeartbeats 1000000 in
set_option maxRecDepth 100000 in
theorem m_X10_charge (l : Launch) (dC : Nat → ClassId) (dI : Nat → Nat → Nat) (sa : Nat → Nat) (g : Nat → Nat) (h0 : Nat) (b : Nat → Nat) (i : Nat → Int32) (a : Nat → Nat → Int32) (vv : Int32) (nn : Int32) (sz : Nat) : CT l dC dI sa yX10_charge wsX10_charge rm_X10_charge [.ref h0, .int vv, .int nn] (mw g h0 b i a) (tyM g) sz (fun (r : Option Value) (u : Int32 × Int32 × (Nat → Int32)) => match u with | (x0, x3, y4) => (∃ z : Int32, r = some (.int z)) ∧ (True)) (fun (u : Int32 × Int32 × (Nat → Int32)) => match u with | (x0, x3, y4) => mw g h0 b (va_up (va_up i 0 x0) 3 x3) (va_up a 4 y4)) (fun _ => []) 0 0 := by
  refine CT.start (cc := cX10_charge) (maxL := 3) (ret := (some .int)) (by decide) rfl (Nat.le_of_ble_eq_true rfl) ?_
  intro p e s m below meth c ls hst hP hK hD hev hS hl
  obtain ⟨hx, hb, hr, hml, hts, hown, hlocks, hin⟩ := hst
  have hown : s.vm.findClass RX10 = some m.cls := hown
  have hA : ∀ q : Nat, s.heap.size ≤ q → va_A (mw g h0 b i a) s.heap.size q := fun _ h => Or.inr h
  have hl : lv_has ls 3 [(0, .ref h0), (1, .int vv), (2, .int nn)] := hl
  refine lv_aload_n hx hb dX10_charge_0 rfl (lv_at hl 0 rfl) ?_
  refine lv_iload_n hx hb dX10_charge_1 rfl (lv_at hl 1 rfl) ?_
  refine M_V ⟨hx, hb, hml, hown, hts⟩ (m_X10_isVat l dC dI sa g h0 b i a vv _ ) (cwV 1 hts gX10_charge_X10_isVat rfl rfl rfl (by decide +kernel) ⟨Nat.le_of_ble_eq_true rfl, Nat.le_of_ble_eq_true rfl⟩) hP hD hK hS hA hev rfl rfl rfl rfl hl.1 rfl (Nat.le_of_ble_eq_true rfl) dX10_charge_2 ⟨(Nat.le_of_ble_eq_true rfl), (Nat.le_of_ble_eq_true rfl)⟩ (fun r u H locs hw hP hD hS => ?_)
  obtain ⟨x0_1, rfl⟩ : ∃ z, z = u := ⟨_, rfl⟩
  have hw : ((r = some (.int 0) ∧ (True)) ∨ (r = some (.int 1) ∧ (vp_in vv 6))) ∧ (True) := hw
  obtain ⟨⟨rfl, hz2_3⟩ | ⟨rfl, hz2_3⟩, hw_2⟩ := hw
  · have hP : va_P (dC, dI) vwCl (mw g h0 b (va_up i 0 x0_1) a) _ := hP
    have hD : va_D _ (mw g h0 b (va_up i 0 x0_1) a) := hD
    refine W.eq (g2 := F0 m 5 ls [.int 0]) rfl ?_
    refine lv_if_ne (tgt := 10) hx hb dX10_charge_5 (by decide) (fun c_4 => absurd c_4 (by decide)) (fun _ => ?_)
    refine lv_iconst (v := 0) hx hb dX10_charge_8 (by decide) ?_
    exact M_i hx hb hr hlocks (x0_1, (i 3), (a 4)) hP hD hK hS ⟨⟨_, rfl⟩, trivial⟩ (Nat.le_of_ble_eq_true rfl) (Nat.le_of_ble_eq_true rfl) dX10_charge_9
  · have hP : va_P (dC, dI) vwCl (mw g h0 b (va_up i 0 x0_1) a) _ := hP
    have hD : va_D _ (mw g h0 b (va_up i 0 x0_1) a) := hD
    refine W.eq (g2 := F0 m 5 ls [.int 1]) rfl ?_
    have hv6 := hz2_3
    refine lv_if_ne (tgt := 10) hx hb dX10_charge_5 (by decide) (fun _ => ?_) (fun c_5 => absurd c_5 (by decide))
    refine lv_iload_n hx hb dX10_charge_10 rfl (lv_at hl 2 rfl) ?_
    refine lv_iconst (v := 1) hx hb dX10_charge_11 (by decide) ?_
    refine lv_icmp_lt (tgt := 28) hx hb dX10_charge_12 (by decide) (fun c_6 => ?_) (fun c_6 => ?_)
    · have nc_6 := lt_i c_6
      have lc_6 : (1 : Int32).toInt = 1 := by decide
      refine lv_iconst (v := (-1)) hx hb dX10_charge_28 (by decide) ?_
      exact M_i hx hb hr hlocks (x0_1, (i 3), (a 4)) hP hD hK hS ⟨⟨_, rfl⟩, trivial⟩ (Nat.le_of_ble_eq_true rfl) (Nat.le_of_ble_eq_true rfl) dX10_charge_29
    · have nc_6 := nlt_i c_6
      have lc_6 : (1 : Int32).toInt = 1 := by decide
      refine lv_iload_n hx hb dX10_charge_15 rfl (lv_at hl 2 rfl) ?_
      refine lv_ldc (v := 1000000) hx hb hown (hts (.constant RX10 119 (1000000)) (by decide +kernel)) dX10_charge_16 ?_
      refine lv_aload_n hx hb dX10_charge_18 rfl (lv_at hl 0 rfl) ?_
      refine va_get (D := (dC, dI)) (ci := 10) (v := .ref (b 4)) (C := RX10) (T := TX10) (N := 51) hx hb hts inw_X10_charge_10 hown hK hP 0 rfl rfl 4 (by decide) (hts (.fieldLink RX10 7 "VatHouseModel" "grains" "[I") (by decide +kernel)) (fun _ h9 => h9) rfl dX10_charge_19 ?_
      refine lv_iload_n hx hb dX10_charge_22 rfl (lv_at hl 1 rfl) ?_
      refine va_iald hx hb hK hP 1 0 rfl rfl (by assumption) dX10_charge_23 ?_
      refine lv_topi (fun z_7 ez_7 => ?_)
      have ez_7 : z_7 = (a 4) vv.toNatClampNeg := ez_7
      refine lv_isub hx hb dX10_charge_24 ?_
      refine lv_topi (fun z_8 ez_8 => ?_)
      refine lv_icmp_le (tgt := 30) hx hb dX10_charge_25 (by decide) (fun c_9 => ?_) (fun c_9 => ?_)
      · have nc_9 := le_i c_9
        refine lv_aload_n hx hb dX10_charge_30 rfl (lv_at hl 0 rfl) ?_
        refine va_get (D := (dC, dI)) (ci := 10) (v := .ref (b 4)) (C := RX10) (T := TX10) (N := 51) hx hb hts inw_X10_charge_10 hown hK hP 0 rfl rfl 4 (by decide) (hts (.fieldLink RX10 7 "VatHouseModel" "grains" "[I") (by decide +kernel)) (fun _ h9 => h9) rfl dX10_charge_31 ?_
        refine lv_iload_n hx hb dX10_charge_34 rfl (lv_at hl 1 rfl) ?_
        refine lv_dup2_11 hx hb dX10_charge_35 rfl rfl ?_
        refine va_iald hx hb hK hP 1 0 rfl rfl (by assumption) dX10_charge_36 ?_
        refine lv_topi (fun z_10 ez_10 => ?_)
        have ez_10 : z_10 = (a 4) vv.toNatClampNeg := ez_10
        refine lv_iload_n hx hb dX10_charge_37 rfl (lv_at hl 2 rfl) ?_
        refine lv_iadd hx hb dX10_charge_38 ?_
        refine lv_topi (fun z_11 ez_11 => ?_)
        refine va_iast hx hb hK hP hD hS 1 0 rfl rfl (by assumption) dX10_charge_39 (fun H locs hP hD hS => ?_)
        have hP : va_P (dC, dI) vwCl (mw g h0 b (va_up i 0 x0_1) (va_up a 4 (upd (a 4) vv.toNatClampNeg z_11))) _ := hP
        have hD : va_D _ (mw g h0 b (va_up i 0 x0_1) (va_up a 4 (upd (a 4) vv.toNatClampNeg z_11))) := hD
        obtain ⟨f_12, ef_12⟩ : ∃ z, z = (upd (a 4) vv.toNatClampNeg z_11) := ⟨_, rfl⟩
        rw [← ef_12] at hP hD
        refine lv_aload_n hx hb dX10_charge_40 rfl (lv_at hl 0 rfl) ?_
        refine lv_dup hx hb dX10_charge_41 rfl ?_
        refine va_get (D := (dC, dI)) (ci := 10) (v := .int (i 3)) (C := RX10) (T := TX10) (N := 51) hx hb hts inw_X10_charge_10 hown hK hP 0 rfl rfl 3 (by decide) (hts (.fieldLink RX10 120 "VatHouseModel" "put" "I") (by decide +kernel)) (fun _ h9 => h9) rfl dX10_charge_42 ?_
        refine lv_iload_n hx hb dX10_charge_45 rfl (lv_at hl 2 rfl) ?_
        refine lv_iadd hx hb dX10_charge_46 ?_
        refine lv_topi (fun z_13 ez_13 => ?_)
        refine va_put (D := (dC, dI)) (ci := 10) (v := .int z_13) (ty := .int) (C := RX10) (T := TX10) (N := 51) hx hb hts inw_X10_charge_10 tyX10 tyX10_ok nmX10 hown hK hP hD hS 0 rfl rfl 3 (by decide) (hts (.fieldLink RX10 120 "VatHouseModel" "put" "I") (by decide +kernel)) (fun _ h9 => h9) rfl (by decide +kernel) rfl rfl (Nat.le_of_ble_eq_true rfl) dX10_charge_47 (fun H locs hP hD hS => ?_)
        have hP : va_P (dC, dI) vwCl (mw g h0 b (va_up (va_up i 0 x0_1) 3 z_13) (va_up a 4 f_12)) _ := hP
        have hD : va_D _ (mw g h0 b (va_up (va_up i 0 x0_1) 3 z_13) (va_up a 4 f_12)) := hD
        refine lv_aload_n hx hb dX10_charge_50 rfl (lv_at hl 0 rfl) ?_
        refine va_get (D := (dC, dI)) (ci := 10) (v := .ref (b 4)) (C := RX10) (T := TX10) (N := 51) hx hb hts inw_X10_charge_10 hown hK hP 0 rfl rfl 4 (by decide) (hts (.fieldLink RX10 7 "VatHouseModel" "grains" "[I") (by decide +kernel)) (fun _ h9 => h9) rfl dX10_charge_51 ?_
        refine lv_iload_n hx hb dX10_charge_54 rfl (lv_at hl 1 rfl) ?_
        refine va_iald hx hb hK hP 1 0 rfl rfl (by assumption) dX10_charge_55 ?_
        refine lv_topi (fun z_14 ez_14 => ?_)
        have ez_14 : z_14 = f_12 vv.toNatClampNeg := ez_14
        exact M_i hx hb hr hlocks (x0_1, z_13, f_12) hP hD hK hS ⟨⟨_, rfl⟩, trivial⟩ (Nat.le_of_ble_eq_true rfl) (Nat.le_of_ble_eq_true rfl) dX10_charge_56
      · have nc_9 := nle_i c_9
        refine lv_iconst (v := (-1)) hx hb dX10_charge_28 (by decide) ?_
        exact M_i hx hb hr hlocks (x0_1, (i 3), (a 4)) hP hD hK hS ⟨⟨_, rfl⟩, trivial⟩ (Nat.le_of_ble_eq_true rfl) (Nat.le_of_ble_eq_true rfl) dX10_charge_29

abbrev rm_X10_feeds : Room := { frames := 0, cells := 0, slots := 0, locals := 0 }
theorem inw_X10_feeds_10 : ∀ w ∈ wsX100, w ∈ wsX10_feeds := by decide +kernel
set_option maxHeartbeats 1000000 in
set_option maxRecDepth 100000 in
theorem m_X10_feeds (l : Launch) (dC : Nat → ClassId) (dI : Nat → Nat → Nat) (sa : Nat → Nat) (g : Nat → Nat) (h0 : Nat) (b : Nat → Nat) (i : Nat → Int32) (a : Nat → Nat → Int32) (vv : Int32) (nn : Int32) (sz : Nat) (hv6 : vp_in vv 6) : CT l dC dI sa yX10_feeds wsX10_feeds rm_X10_feeds [.ref h0, .int vv, .int nn] (mw g h0 b i a) (tyM g) sz (fun (r : Option Value) (u : (Nat → Int32) × (Nat → Int32)) => match u with | (y5, y7) => (∃ z : Int32, r = some (.int z) ∧ (z = 0 ∨ z = 1)) ∧ (True)) (fun (u : (Nat → Int32) × (Nat → Int32)) => match u with | (y5, y7) => mw g h0 b i (va_up (va_up a 5 y5) 7 y7)) (fun _ => []) 0 0 := by
  refine CT.start (cc := cX10_feeds) (maxL := 3) (ret := (some .boolean)) (by decide) rfl (Nat.le_of_ble_eq_true rfl) ?_
  intro p e s m below meth c ls hst hP hK hD hev hS hl
  obtain ⟨hx, hb, hr, hml, hts, hown, hlocks, hin⟩ := hst
  have hown : s.vm.findClass RX10 = some m.cls := hown
  have hA : ∀ q : Nat, s.heap.size ≤ q → va_A (mw g h0 b i a) s.heap.size q := fun _ h => Or.inr h
  have hl : lv_has ls 3 [(0, .ref h0), (1, .int vv), (2, .int nn)] := hl
  refine lv_aload_n hx hb dX10_feeds_0 rfl (lv_at hl 0 rfl) ?_
  refine va_get (D := (dC, dI)) (ci := 10) (v := .ref (b 5)) (C := RX10) (T := TX10) (N := 51) hx hb hts inw_X10_feeds_10 hown hK hP 0 rfl rfl 5 (by decide) (hts (.fieldLink RX10 13 "VatHouseModel" "food" "[I") (by decide +kernel)) (fun _ h9 => h9) rfl dX10_feeds_1 ?_
  refine lv_iload_n hx hb dX10_feeds_4 rfl (lv_at hl 1 rfl) ?_
  refine lv_dup2_11 hx hb dX10_feeds_5 rfl rfl ?_
  refine va_iald hx hb hK hP 2 1 rfl rfl (by assumption) dX10_feeds_6 ?_
  refine lv_topi (fun z_1 ez_1 => ?_)
  have ez_1 : z_1 = (a 5) vv.toNatClampNeg := ez_1
  refine lv_iload_n hx hb dX10_feeds_7 rfl (lv_at hl 2 rfl) ?_
  refine lv_iadd hx hb dX10_feeds_8 ?_
  refine lv_topi (fun z_2 ez_2 => ?_)
  refine va_iast hx hb hK hP hD hS 2 1 rfl rfl (by assumption) dX10_feeds_9 (fun H locs hP hD hS => ?_)
  have hP : va_P (dC, dI) vwCl (mw g h0 b i (va_up a 5 (upd (a 5) vv.toNatClampNeg z_2))) _ := hP
  have hD : va_D _ (mw g h0 b i (va_up a 5 (upd (a 5) vv.toNatClampNeg z_2))) := hD
  obtain ⟨f_3, ef_3⟩ : ∃ z, z = (upd (a 5) vv.toNatClampNeg z_2) := ⟨_, rfl⟩
  rw [← ef_3] at hP hD
  refine lv_aload_n hx hb dX10_feeds_10 rfl (lv_at hl 0 rfl) ?_
  refine va_get (D := (dC, dI)) (ci := 10) (v := .ref (b 5)) (C := RX10) (T := TX10) (N := 51) hx hb hts inw_X10_feeds_10 hown hK hP 0 rfl rfl 5 (by decide) (hts (.fieldLink RX10 13 "VatHouseModel" "food" "[I") (by decide +kernel)) (fun _ h9 => h9) rfl dX10_feeds_11 ?_
  refine lv_iload_n hx hb dX10_feeds_14 rfl (lv_at hl 1 rfl) ?_
  refine va_iald hx hb hK hP 2 1 rfl rfl (by assumption) dX10_feeds_15 ?_
  refine lv_topi (fun z_4 ez_4 => ?_)
  have ez_4 : z_4 = f_3 vv.toNatClampNeg := ez_4
  refine lv_sipush (v := 1000) hx hb dX10_feeds_16 (by decide) ?_
  refine lv_icmp_gt (tgt := 24) hx hb dX10_feeds_19 (by decide) (fun c_5 => ?_) (fun c_5 => ?_)
  · have nc_5 := lt_i c_5
    have lc_5 : (1000 : Int32).toInt = 1000 := by decide
    refine lv_aload_n hx hb dX10_feeds_24 rfl (lv_at hl 0 rfl) ?_
    refine va_get (D := (dC, dI)) (ci := 10) (v := .ref (b 5)) (C := RX10) (T := TX10) (N := 51) hx hb hts inw_X10_feeds_10 hown hK hP 0 rfl rfl 5 (by decide) (hts (.fieldLink RX10 13 "VatHouseModel" "food" "[I") (by decide +kernel)) (fun _ h9 => h9) rfl dX10_feeds_25 ?_
    refine lv_iload_n hx hb dX10_feeds_28 rfl (lv_at hl 1 rfl) ?_
    refine lv_sipush (v := 1000) hx hb dX10_feeds_29 (by decide) ?_
    refine va_iast hx hb hK hP hD hS 2 1 rfl rfl (by assumption) dX10_feeds_32 (fun H locs hP hD hS => ?_)
    have hP : va_P (dC, dI) vwCl (mw g h0 b i (va_up a 5 (upd f_3 vv.toNatClampNeg (1000 : Int32)))) _ := hP
    have hD : va_D _ (mw g h0 b i (va_up a 5 (upd f_3 vv.toNatClampNeg (1000 : Int32)))) := hD
    obtain ⟨f_6, ef_6⟩ : ∃ z, z = (upd f_3 vv.toNatClampNeg (1000 : Int32)) := ⟨_, rfl⟩
    rw [← ef_6] at hP hD
    refine lv_aload_n hx hb dX10_feeds_33 rfl (lv_at hl 0 rfl) ?_
    refine va_get (D := (dC, dI)) (ci := 10) (v := .ref (b 7)) (C := RX10) (T := TX10) (N := 51) hx hb hts inw_X10_feeds_10 hown hK hP 0 rfl rfl 7 (by decide) (hts (.fieldLink RX10 19 "VatHouseModel" "state" "[I") (by decide +kernel)) (fun _ h9 => h9) rfl dX10_feeds_34 ?_
    refine lv_iload_n hx hb dX10_feeds_37 rfl (lv_at hl 1 rfl) ?_
    refine lv_iconst (v := 2) hx hb dX10_feeds_38 (by decide) ?_
    refine va_iast hx hb hK hP hD hS 4 3 rfl rfl (by assumption) dX10_feeds_39 (fun H locs hP hD hS => ?_)
    have hP : va_P (dC, dI) vwCl (mw g h0 b i (va_up (va_up a 5 f_6) 7 (upd (a 7) vv.toNatClampNeg (2 : Int32)))) _ := hP
    have hD : va_D _ (mw g h0 b i (va_up (va_up a 5 f_6) 7 (upd (a 7) vv.toNatClampNeg (2 : Int32)))) := hD
    obtain ⟨f_7, ef_7⟩ : ∃ z, z = (upd (a 7) vv.toNatClampNeg (2 : Int32)) := ⟨_, rfl⟩
    rw [← ef_7] at hP hD
    refine lv_iconst (v := 1) hx hb dX10_feeds_40 (by decide) ?_
    exact M_z hx hb hr rfl hlocks (f_6, f_7) hP hD hK hS ⟨⟨_, rfl, Or.inr rfl⟩, trivial⟩ (Nat.le_of_ble_eq_true rfl) (Nat.le_of_ble_eq_true rfl) dX10_feeds_41
  · have nc_5 := nlt_i c_5
    have lc_5 : (1000 : Int32).toInt = 1000 := by decide
    refine lv_iconst (v := 0) hx hb dX10_feeds_22 (by decide) ?_
    exact M_z hx hb hr rfl hlocks (f_3, (a 7)) hP hD hK hS ⟨⟨_, rfl, Or.inl rfl⟩, trivial⟩ (Nat.le_of_ble_eq_true rfl) (Nat.le_of_ble_eq_true rfl) dX10_feeds_23

abbrev rm_X10_feed : Room := { frames := 2, cells := 0, slots := 0, locals := 43 }
theorem inw_X10_feed_10 : ∀ w ∈ wsX100, w ∈ wsX10_feed := by decide +kernel
set_option maxHeartbeats 1000000 in
set_option maxRecDepth 100000 in
theorem m_X10_feed (l : Launch) (dC : Nat → ClassId) (dI : Nat → Nat → Nat) (sa : Nat → Nat) (g : Nat → Nat) (h0 : Nat) (b : Nat → Nat) (i : Nat → Int32) (a : Nat → Nat → Int32) (vv : Int32) (nn : Int32) (sz : Nat) : CT l dC dI sa yX10_feed wsX10_feed rm_X10_feed [.ref h0, .int vv, .int nn] (mw g h0 b i a) (tyM g) sz (fun (r : Option Value) (u : Int32 × (Nat → Int32) × (Nat → Int32)) => match u with | (x0, y5, y7) => (∃ z : Int32, r = some (.int z)) ∧ (True)) (fun (u : Int32 × (Nat → Int32) × (Nat → Int32)) => match u with | (x0, y5, y7) => mw g h0 b (va_up i 0 x0) (va_up (va_up a 5 y5) 7 y7)) (fun _ => []) 0 0 := by
  refine CT.start (cc := cX10_feed) (maxL := 3) (ret := (some .int)) (by decide) rfl (Nat.le_of_ble_eq_true rfl) ?_
  intro p e s m below meth c ls hst hP hK hD hev hS hl
  obtain ⟨hx, hb, hr, hml, hts, hown, hlocks, hin⟩ := hst
  have hown : s.vm.findClass RX10 = some m.cls := hown
  have hA : ∀ q : Nat, s.heap.size ≤ q → va_A (mw g h0 b i a) s.heap.size q := fun _ h => Or.inr h
  have hl : lv_has ls 3 [(0, .ref h0), (1, .int vv), (2, .int nn)] := hl
  refine lv_aload_n hx hb dX10_feed_0 rfl (lv_at hl 0 rfl) ?_
  refine lv_iload_n hx hb dX10_feed_1 rfl (lv_at hl 1 rfl) ?_
  refine M_V ⟨hx, hb, hml, hown, hts⟩ (m_X10_isVat l dC dI sa g h0 b i a vv _ ) (cwV 1 hts gX10_feed_X10_isVat rfl rfl rfl (by decide +kernel) ⟨Nat.le_of_ble_eq_true rfl, Nat.le_of_ble_eq_true rfl⟩) hP hD hK hS hA hev rfl rfl rfl rfl hl.1 rfl (Nat.le_of_ble_eq_true rfl) dX10_feed_2 ⟨(Nat.le_of_ble_eq_true rfl), (Nat.le_of_ble_eq_true rfl)⟩ (fun r u H locs hw hP hD hS => ?_)
  obtain ⟨x0_1, rfl⟩ : ∃ z, z = u := ⟨_, rfl⟩
  have hw : ((r = some (.int 0) ∧ (True)) ∨ (r = some (.int 1) ∧ (vp_in vv 6))) ∧ (True) := hw
  obtain ⟨⟨rfl, hz2_3⟩ | ⟨rfl, hz2_3⟩, hw_2⟩ := hw
  · have hP : va_P (dC, dI) vwCl (mw g h0 b (va_up i 0 x0_1) a) _ := hP
    have hD : va_D _ (mw g h0 b (va_up i 0 x0_1) a) := hD
    refine W.eq (g2 := F0 m 5 ls [.int 0]) rfl ?_
    refine lv_if_eq (tgt := 33) hx hb dX10_feed_5 (by decide) (fun _ => ?_) (fun c_4 => absurd c_4 (by decide))
    refine lv_iconst (v := 0) hx hb dX10_feed_33 (by decide) ?_
    exact M_i hx hb hr hlocks (x0_1, (a 5), (a 7)) hP hD hK hS ⟨⟨_, rfl⟩, trivial⟩ (Nat.le_of_ble_eq_true rfl) (Nat.le_of_ble_eq_true rfl) dX10_feed_34
  · have hP : va_P (dC, dI) vwCl (mw g h0 b (va_up i 0 x0_1) a) _ := hP
    have hD : va_D _ (mw g h0 b (va_up i 0 x0_1) a) := hD
    refine W.eq (g2 := F0 m 5 ls [.int 1]) rfl ?_
    have hv6 := hz2_3
    refine lv_if_eq (tgt := 33) hx hb dX10_feed_5 (by decide) (fun c_5 => absurd c_5 (by decide)) (fun _ => ?_)
    refine lv_aload_n hx hb dX10_feed_8 rfl (lv_at hl 0 rfl) ?_
    refine lv_iload_n hx hb dX10_feed_9 rfl (lv_at hl 2 rfl) ?_
    refine lv_iconst (v := 1) hx hb dX10_feed_10 (by decide) ?_
    refine lv_icmp_lt (tgt := 25) hx hb dX10_feed_11 (by decide) (fun c_6 => ?_) (fun c_6 => ?_)
    · have nc_6 := lt_i c_6
      have lc_6 : (1 : Int32).toInt = 1 := by decide
      refine lv_iconst (v := 0) hx hb dX10_feed_25 (by decide) ?_
      refine lv_iconst (v := 2) hx hb dX10_feed_26 (by decide) ?_
      refine M_V ⟨hx, hb, hml, hown, hts⟩ (m_X10_right l dC dI sa g h0 b (va_up i 0 x0_1) a (0 : Int32) (2 : Int32) _ (by decide)) (cwV 2 hts gX10_feed_X10_right rfl rfl rfl (by decide +kernel) ⟨Nat.le_of_ble_eq_true rfl, Nat.le_of_ble_eq_true rfl⟩) hP hD hK hS hA hev rfl rfl rfl rfl hl.1 rfl (Nat.le_of_ble_eq_true rfl) dX10_feed_27 ⟨(Nat.le_of_ble_eq_true rfl), (Nat.le_of_ble_eq_true rfl)⟩ (fun r u H locs hw hP hD hS => ?_)
      obtain ⟨x0_7, rfl⟩ : ∃ z, z = u := ⟨_, rfl⟩
      have hw : ((r = some (.int 0) ∧ (True)) ∨ (r = some (.int 1) ∧ (¬ (0 : Int32) = 0))) ∧ (True) := hw
      obtain ⟨⟨rfl, hz2_9⟩ | ⟨rfl, hz2_9⟩, hw_8⟩ := hw
      · have hP : va_P (dC, dI) vwCl (mw g h0 b (va_up i 0 x0_7) a) _ := hP
        have hD : va_D _ (mw g h0 b (va_up i 0 x0_7) a) := hD
        refine W.eq (g2 := F0 m 30 ls [.int 0]) rfl ?_
        refine lv_if_ne (tgt := 35) hx hb dX10_feed_30 (by decide) (fun c_10 => absurd c_10 (by decide)) (fun _ => ?_)
        refine lv_iconst (v := 0) hx hb dX10_feed_33 (by decide) ?_
        exact M_i hx hb hr hlocks (x0_7, (a 5), (a 7)) hP hD hK hS ⟨⟨_, rfl⟩, trivial⟩ (Nat.le_of_ble_eq_true rfl) (Nat.le_of_ble_eq_true rfl) dX10_feed_34
      · have hP : va_P (dC, dI) vwCl (mw g h0 b (va_up i 0 x0_7) a) _ := hP
        have hD : va_D _ (mw g h0 b (va_up i 0 x0_7) a) := hD
        refine W.eq (g2 := F0 m 30 ls [.int 1]) rfl ?_
        exact absurd rfl hz2_9
    · have nc_6 := nlt_i c_6
      have lc_6 : (1 : Int32).toInt = 1 := by decide
      refine lv_iload_n hx hb dX10_feed_14 rfl (lv_at hl 2 rfl) ?_
      refine lv_sipush (v := 1000) hx hb dX10_feed_15 (by decide) ?_
      refine lv_icmp_gt (tgt := 25) hx hb dX10_feed_18 (by decide) (fun c_11 => ?_) (fun c_11 => ?_)
      · have nc_11 := lt_i c_11
        have lc_11 : (1000 : Int32).toInt = 1000 := by decide
        refine lv_iconst (v := 0) hx hb dX10_feed_25 (by decide) ?_
        refine lv_iconst (v := 2) hx hb dX10_feed_26 (by decide) ?_
        refine M_V ⟨hx, hb, hml, hown, hts⟩ (m_X10_right l dC dI sa g h0 b (va_up i 0 x0_1) a (0 : Int32) (2 : Int32) _ (by decide)) (cwV 2 hts gX10_feed_X10_right rfl rfl rfl (by decide +kernel) ⟨Nat.le_of_ble_eq_true rfl, Nat.le_of_ble_eq_true rfl⟩) hP hD hK hS hA hev rfl rfl rfl rfl hl.1 rfl (Nat.le_of_ble_eq_true rfl) dX10_feed_27 ⟨(Nat.le_of_ble_eq_true rfl), (Nat.le_of_ble_eq_true rfl)⟩ (fun r u H locs hw hP hD hS => ?_)
        obtain ⟨x0_12, rfl⟩ : ∃ z, z = u := ⟨_, rfl⟩
        have hw : ((r = some (.int 0) ∧ (True)) ∨ (r = some (.int 1) ∧ (¬ (0 : Int32) = 0))) ∧ (True) := hw
        obtain ⟨⟨rfl, hz2_14⟩ | ⟨rfl, hz2_14⟩, hw_13⟩ := hw
        · have hP : va_P (dC, dI) vwCl (mw g h0 b (va_up i 0 x0_12) a) _ := hP
          have hD : va_D _ (mw g h0 b (va_up i 0 x0_12) a) := hD
          refine W.eq (g2 := F0 m 30 ls [.int 0]) rfl ?_
          refine lv_if_ne (tgt := 35) hx hb dX10_feed_30 (by decide) (fun c_15 => absurd c_15 (by decide)) (fun _ => ?_)
          refine lv_iconst (v := 0) hx hb dX10_feed_33 (by decide) ?_
          exact M_i hx hb hr hlocks (x0_12, (a 5), (a 7)) hP hD hK hS ⟨⟨_, rfl⟩, trivial⟩ (Nat.le_of_ble_eq_true rfl) (Nat.le_of_ble_eq_true rfl) dX10_feed_34
        · have hP : va_P (dC, dI) vwCl (mw g h0 b (va_up i 0 x0_12) a) _ := hP
          have hD : va_D _ (mw g h0 b (va_up i 0 x0_12) a) := hD
          refine W.eq (g2 := F0 m 30 ls [.int 1]) rfl ?_
          exact absurd rfl hz2_14
      · have nc_11 := nlt_i c_11
        have lc_11 : (1000 : Int32).toInt = 1000 := by decide
        refine lv_iconst (v := 1) hx hb dX10_feed_21 (by decide) ?_
        refine lv_goto (tgt := 26) hx hb dX10_feed_22 (by decide) ?_
        refine lv_iconst (v := 2) hx hb dX10_feed_26 (by decide) ?_
        refine M_V ⟨hx, hb, hml, hown, hts⟩ (m_X10_right l dC dI sa g h0 b (va_up i 0 x0_1) a (1 : Int32) (2 : Int32) _ (by decide)) (cwV 2 hts gX10_feed_X10_right rfl rfl rfl (by decide +kernel) ⟨Nat.le_of_ble_eq_true rfl, Nat.le_of_ble_eq_true rfl⟩) hP hD hK hS hA hev rfl rfl rfl rfl hl.1 rfl (Nat.le_of_ble_eq_true rfl) dX10_feed_27 ⟨(Nat.le_of_ble_eq_true rfl), (Nat.le_of_ble_eq_true rfl)⟩ (fun r u H locs hw hP hD hS => ?_)
        obtain ⟨x0_16, rfl⟩ : ∃ z, z = u := ⟨_, rfl⟩
        have hw : ((r = some (.int 0) ∧ (True)) ∨ (r = some (.int 1) ∧ (¬ (1 : Int32) = 0))) ∧ (True) := hw
        obtain ⟨⟨rfl, hz2_18⟩ | ⟨rfl, hz2_18⟩, hw_17⟩ := hw
        · have hP : va_P (dC, dI) vwCl (mw g h0 b (va_up i 0 x0_16) a) _ := hP
          have hD : va_D _ (mw g h0 b (va_up i 0 x0_16) a) := hD
          refine W.eq (g2 := F0 m 30 ls [.int 0]) rfl ?_
          refine lv_if_ne (tgt := 35) hx hb dX10_feed_30 (by decide) (fun c_19 => absurd c_19 (by decide)) (fun _ => ?_)
          refine lv_iconst (v := 0) hx hb dX10_feed_33 (by decide) ?_
          exact M_i hx hb hr hlocks (x0_16, (a 5), (a 7)) hP hD hK hS ⟨⟨_, rfl⟩, trivial⟩ (Nat.le_of_ble_eq_true rfl) (Nat.le_of_ble_eq_true rfl) dX10_feed_34
        · have hP : va_P (dC, dI) vwCl (mw g h0 b (va_up i 0 x0_16) a) _ := hP
          have hD : va_D _ (mw g h0 b (va_up i 0 x0_16) a) := hD
          refine W.eq (g2 := F0 m 30 ls [.int 1]) rfl ?_
          refine lv_if_ne (tgt := 35) hx hb dX10_feed_30 (by decide) (fun _ => ?_) (fun c_20 => absurd c_20 (by decide))
          refine lv_aload_n hx hb dX10_feed_35 rfl (lv_at hl 0 rfl) ?_
          refine lv_iload_n hx hb dX10_feed_36 rfl (lv_at hl 1 rfl) ?_
          refine lv_iload_n hx hb dX10_feed_37 rfl (lv_at hl 2 rfl) ?_
          refine M_V ⟨hx, hb, hml, hown, hts⟩ (m_X10_feeds l dC dI sa g h0 b (va_up i 0 x0_16) a vv nn _ hv6) (cwV 2 hts gX10_feed_X10_feeds rfl rfl rfl (by decide +kernel) ⟨Nat.le_of_ble_eq_true rfl, Nat.le_of_ble_eq_true rfl⟩) hP hD hK hS hA hev rfl rfl rfl rfl hl.1 rfl (Nat.le_of_ble_eq_true rfl) dX10_feed_38 ⟨(Nat.le_of_ble_eq_true rfl), (Nat.le_of_ble_eq_true rfl)⟩ (fun r u H locs hw hP hD hS => ?_)
          obtain ⟨y5_21, y7_22⟩ := u
          have hw : (∃ z : Int32, r = some (.int z) ∧ (z = 0 ∨ z = 1)) ∧ (True) := hw
          obtain ⟨⟨z_24, rfl, hz_z_24⟩, hw_23⟩ := hw
          have hP : va_P (dC, dI) vwCl (mw g h0 b (va_up i 0 x0_16) (va_up (va_up a 5 y5_21) 7 y7_22)) _ := hP
          have hD : va_D _ (mw g h0 b (va_up i 0 x0_16) (va_up (va_up a 5 y5_21) 7 y7_22)) := hD
          refine W.eq (g2 := F0 m 41 ls [.int z_24]) rfl ?_
          refine lv_pop hx hb dX10_feed_41 rfl ?_
          refine lv_aload_n hx hb dX10_feed_42 rfl (lv_at hl 0 rfl) ?_
          refine va_get (D := (dC, dI)) (ci := 10) (v := .ref (b 7)) (C := RX10) (T := TX10) (N := 51) hx hb hts inw_X10_feed_10 hown hK hP 0 rfl rfl 7 (by decide) (hts (.fieldLink RX10 19 "VatHouseModel" "state" "[I") (by decide +kernel)) (fun _ h9 => h9) rfl dX10_feed_43 ?_
          refine lv_iload_n hx hb dX10_feed_46 rfl (lv_at hl 1 rfl) ?_
          refine va_iald hx hb hK hP 4 3 rfl rfl (by assumption) dX10_feed_47 ?_
          refine lv_topi (fun z_25 ez_25 => ?_)
          have ez_25 : z_25 = y7_22 vv.toNatClampNeg := ez_25
          exact M_i hx hb hr hlocks (x0_16, y5_21, y7_22) hP hD hK hS ⟨⟨_, rfl⟩, trivial⟩ (Nat.le_of_ble_eq_true rfl) (Nat.le_of_ble_eq_true rfl) dX10_feed_48

abbrev rm_X10_limes : Room := { frames := 0, cells := 0, slots := 0, locals := 0 }
theorem inw_X10_limes_10 : ∀ w ∈ wsX100, w ∈ wsX10_limes := by decide +kernel
set_option maxHeartbeats 1000000 in
set_option maxRecDepth 100000 in
theorem m_X10_limes (l : Launch) (dC : Nat → ClassId) (dI : Nat → Nat → Nat) (sa : Nat → Nat) (g : Nat → Nat) (h0 : Nat) (b : Nat → Nat) (i : Nat → Int32) (a : Nat → Nat → Int32) (vv : Int32) (sz : Nat) (hv6 : vp_in vv 6) : CT l dC dI sa yX10_limes wsX10_limes rm_X10_limes [.ref h0, .int vv] (mw g h0 b i a) (tyM g) sz (fun (r : Option Value) (u : (Nat → Int32) × (Nat → Int32) × (Nat → Int32)) => match u with | (y5, y6, y7) => (r = none) ∧ (True)) (fun (u : (Nat → Int32) × (Nat → Int32) × (Nat → Int32)) => match u with | (y5, y6, y7) => mw g h0 b i (va_up (va_up (va_up a 5 y5) 6 y6) 7 y7)) (fun _ => []) 0 0 := by
  refine CT.start (cc := cX10_limes) (maxL := 2) (ret := none) (by decide) rfl (Nat.le_of_ble_eq_true rfl) ?_
  intro p e s m below meth c ls hst hP hK hD hev hS hl
  obtain ⟨hx, hb, hr, hml, hts, hown, hlocks, hin⟩ := hst
  have hown : s.vm.findClass RX10 = some m.cls := hown
  have hA : ∀ q : Nat, s.heap.size ≤ q → va_A (mw g h0 b i a) s.heap.size q := fun _ h => Or.inr h
  have hl : lv_has ls 2 [(0, .ref h0), (1, .int vv)] := hl
  refine lv_aload_n hx hb dX10_limes_0 rfl (lv_at hl 0 rfl) ?_
  refine va_get (D := (dC, dI)) (ci := 10) (v := .ref (b 7)) (C := RX10) (T := TX10) (N := 51) hx hb hts inw_X10_limes_10 hown hK hP 0 rfl rfl 7 (by decide) (hts (.fieldLink RX10 19 "VatHouseModel" "state" "[I") (by decide +kernel)) (fun _ h9 => h9) rfl dX10_limes_1 ?_
  refine lv_iload_n hx hb dX10_limes_4 rfl (lv_at hl 1 rfl) ?_
  refine va_iald hx hb hK hP 4 3 rfl rfl (by assumption) dX10_limes_5 ?_
  refine lv_topi (fun z_1 ez_1 => ?_)
  have ez_1 : z_1 = (a 7) vv.toNatClampNeg := ez_1
  refine lv_iconst (v := 2) hx hb dX10_limes_6 (by decide) ?_
  refine lv_icmp_ne (tgt := 33) hx hb dX10_limes_7 (by decide) (fun c_2 => ?_) (fun c_2 => ?_)
  · have nc_2 := ne_i c_2
    have lc_2 : (2 : Int32).toInt = 2 := by decide
    refine lv_aload_n hx hb dX10_limes_33 rfl (lv_at hl 0 rfl) ?_
    refine va_get (D := (dC, dI)) (ci := 10) (v := .ref (b 5)) (C := RX10) (T := TX10) (N := 51) hx hb hts inw_X10_limes_10 hown hK hP 0 rfl rfl 5 (by decide) (hts (.fieldLink RX10 13 "VatHouseModel" "food" "[I") (by decide +kernel)) (fun _ h9 => h9) rfl dX10_limes_34 ?_
    refine lv_iload_n hx hb dX10_limes_37 rfl (lv_at hl 1 rfl) ?_
    refine lv_dup2_11 hx hb dX10_limes_38 rfl rfl ?_
    refine va_iald hx hb hK hP 2 1 rfl rfl (by assumption) dX10_limes_39 ?_
    refine lv_topi (fun z_3 ez_3 => ?_)
    have ez_3 : z_3 = (a 5) vv.toNatClampNeg := ez_3
    refine lv_iconst (v := 2) hx hb dX10_limes_40 (by decide) ?_
    refine lv_idiv hx hb dX10_limes_41 (by decide) ?_
    refine lv_topi (fun z_4 ez_4 => ?_)
    refine va_iast hx hb hK hP hD hS 2 1 rfl rfl (by assumption) dX10_limes_42 (fun H locs hP hD hS => ?_)
    have hP : va_P (dC, dI) vwCl (mw g h0 b i (va_up a 5 (upd (a 5) vv.toNatClampNeg z_4))) _ := hP
    have hD : va_D _ (mw g h0 b i (va_up a 5 (upd (a 5) vv.toNatClampNeg z_4))) := hD
    obtain ⟨f_5, ef_5⟩ : ∃ z, z = (upd (a 5) vv.toNatClampNeg z_4) := ⟨_, rfl⟩
    rw [← ef_5] at hP hD
    exact M_v hx hb hr hlocks (f_5, (a 6), (a 7)) hP hD hK hS ⟨rfl, trivial⟩ (Nat.le_of_ble_eq_true rfl) (Nat.le_of_ble_eq_true rfl) dX10_limes_43
  · have nc_2 := eq_i c_2
    have lc_2 : (2 : Int32).toInt = 2 := by decide
    refine lv_aload_n hx hb dX10_limes_10 rfl (lv_at hl 0 rfl) ?_
    refine va_get (D := (dC, dI)) (ci := 10) (v := .ref (b 6)) (C := RX10) (T := TX10) (N := 51) hx hb hts inw_X10_limes_10 hown hK hP 0 rfl rfl 6 (by decide) (hts (.fieldLink RX10 16 "VatHouseModel" "minutes" "[I") (by decide +kernel)) (fun _ h9 => h9) rfl dX10_limes_11 ?_
    refine lv_iload_n hx hb dX10_limes_14 rfl (lv_at hl 1 rfl) ?_
    refine lv_iconst (v := 0) hx hb dX10_limes_15 (by decide) ?_
    refine va_iast hx hb hK hP hD hS 3 2 rfl rfl (by assumption) dX10_limes_16 (fun H locs hP hD hS => ?_)
    have hP : va_P (dC, dI) vwCl (mw g h0 b i (va_up a 6 (upd (a 6) vv.toNatClampNeg (0 : Int32)))) _ := hP
    have hD : va_D _ (mw g h0 b i (va_up a 6 (upd (a 6) vv.toNatClampNeg (0 : Int32)))) := hD
    obtain ⟨f_6, ef_6⟩ : ∃ z, z = (upd (a 6) vv.toNatClampNeg (0 : Int32)) := ⟨_, rfl⟩
    rw [← ef_6] at hP hD
    refine lv_aload_n hx hb dX10_limes_17 rfl (lv_at hl 0 rfl) ?_
    refine va_get (D := (dC, dI)) (ci := 10) (v := .ref (b 5)) (C := RX10) (T := TX10) (N := 51) hx hb hts inw_X10_limes_10 hown hK hP 0 rfl rfl 5 (by decide) (hts (.fieldLink RX10 13 "VatHouseModel" "food" "[I") (by decide +kernel)) (fun _ h9 => h9) rfl dX10_limes_18 ?_
    refine lv_iload_n hx hb dX10_limes_21 rfl (lv_at hl 1 rfl) ?_
    refine va_iald hx hb hK hP 2 1 rfl rfl (by assumption) dX10_limes_22 ?_
    refine lv_topi (fun z_7 ez_7 => ?_)
    have ez_7 : z_7 = (a 5) vv.toNatClampNeg := ez_7
    refine lv_if_le (tgt := 33) hx hb dX10_limes_23 (by decide) (fun c_8 => ?_) (fun c_8 => ?_)
    · have nc_8 := le_i c_8
      have lc_8 : (0 : Int32).toInt = 0 := by decide
      refine lv_aload_n hx hb dX10_limes_33 rfl (lv_at hl 0 rfl) ?_
      refine va_get (D := (dC, dI)) (ci := 10) (v := .ref (b 5)) (C := RX10) (T := TX10) (N := 51) hx hb hts inw_X10_limes_10 hown hK hP 0 rfl rfl 5 (by decide) (hts (.fieldLink RX10 13 "VatHouseModel" "food" "[I") (by decide +kernel)) (fun _ h9 => h9) rfl dX10_limes_34 ?_
      refine lv_iload_n hx hb dX10_limes_37 rfl (lv_at hl 1 rfl) ?_
      refine lv_dup2_11 hx hb dX10_limes_38 rfl rfl ?_
      refine va_iald hx hb hK hP 2 1 rfl rfl (by assumption) dX10_limes_39 ?_
      refine lv_topi (fun z_9 ez_9 => ?_)
      have ez_9 : z_9 = (a 5) vv.toNatClampNeg := ez_9
      refine lv_iconst (v := 2) hx hb dX10_limes_40 (by decide) ?_
      refine lv_idiv hx hb dX10_limes_41 (by decide) ?_
      refine lv_topi (fun z_10 ez_10 => ?_)
      refine va_iast hx hb hK hP hD hS 2 1 rfl rfl (by assumption) dX10_limes_42 (fun H locs hP hD hS => ?_)
      have hP : va_P (dC, dI) vwCl (mw g h0 b i (va_up (va_up a 5 (upd (a 5) vv.toNatClampNeg z_10)) 6 f_6)) _ := hP
      have hD : va_D _ (mw g h0 b i (va_up (va_up a 5 (upd (a 5) vv.toNatClampNeg z_10)) 6 f_6)) := hD
      obtain ⟨f_11, ef_11⟩ : ∃ z, z = (upd (a 5) vv.toNatClampNeg z_10) := ⟨_, rfl⟩
      rw [← ef_11] at hP hD
      exact M_v hx hb hr hlocks (f_11, f_6, (a 7)) hP hD hK hS ⟨rfl, trivial⟩ (Nat.le_of_ble_eq_true rfl) (Nat.le_of_ble_eq_true rfl) dX10_limes_43
    · have nc_8 := nle_i c_8
      have lc_8 : (0 : Int32).toInt = 0 := by decide
      refine lv_aload_n hx hb dX10_limes_26 rfl (lv_at hl 0 rfl) ?_
      refine va_get (D := (dC, dI)) (ci := 10) (v := .ref (b 7)) (C := RX10) (T := TX10) (N := 51) hx hb hts inw_X10_limes_10 hown hK hP 0 rfl rfl 7 (by decide) (hts (.fieldLink RX10 19 "VatHouseModel" "state" "[I") (by decide +kernel)) (fun _ h9 => h9) rfl dX10_limes_27 ?_
      refine lv_iload_n hx hb dX10_limes_30 rfl (lv_at hl 1 rfl) ?_
      refine lv_iconst (v := 1) hx hb dX10_limes_31 (by decide) ?_
      refine va_iast hx hb hK hP hD hS 4 3 rfl rfl (by assumption) dX10_limes_32 (fun H locs hP hD hS => ?_)
      have hP : va_P (dC, dI) vwCl (mw g h0 b i (va_up (va_up a 6 f_6) 7 (upd (a 7) vv.toNatClampNeg (1 : Int32)))) _ := hP
      have hD : va_D _ (mw g h0 b i (va_up (va_up a 6 f_6) 7 (upd (a 7) vv.toNatClampNeg (1 : Int32)))) := hD
      obtain ⟨f_12, ef_12⟩ : ∃ z, z = (upd (a 7) vv.toNatClampNeg (1 : Int32)) := ⟨_, rfl⟩
      rw [← ef_12] at hP hD
      refine lv_aload_n hx hb dX10_limes_33 rfl (lv_at hl 0 rfl) ?_
      refine va_get (D := (dC, dI)) (ci := 10) (v := .ref (b 5)) (C := RX10) (T := TX10) (N := 51) hx hb hts inw_X10_limes_10 hown hK hP 0 rfl rfl 5 (by decide) (hts (.fieldLink RX10 13 "VatHouseModel" "food" "[I") (by decide +kernel)) (fun _ h9 => h9) rfl dX10_limes_34 ?_
      refine lv_iload_n hx hb dX10_limes_37 rfl (lv_at hl 1 rfl) ?_
      refine lv_dup2_11 hx hb dX10_limes_38 rfl rfl ?_
      refine va_iald hx hb hK hP 2 1 rfl rfl (by assumption) dX10_limes_39 ?_
      refine lv_topi (fun z_13 ez_13 => ?_)
      have ez_13 : z_13 = (a 5) vv.toNatClampNeg := ez_13
      refine lv_iconst (v := 2) hx hb dX10_limes_40 (by decide) ?_
      refine lv_idiv hx hb dX10_limes_41 (by decide) ?_
      refine lv_topi (fun z_14 ez_14 => ?_)
      refine va_iast hx hb hK hP hD hS 2 1 rfl rfl (by assumption) dX10_limes_42 (fun H locs hP hD hS => ?_)
      have hP : va_P (dC, dI) vwCl (mw g h0 b i (va_up (va_up (va_up a 5 (upd (a 5) vv.toNatClampNeg z_14)) 6 f_6) 7 f_12)) _ := hP
      have hD : va_D _ (mw g h0 b i (va_up (va_up (va_up a 5 (upd (a 5) vv.toNatClampNeg z_14)) 6 f_6) 7 f_12)) := hD
      obtain ⟨f_15, ef_15⟩ : ∃ z, z = (upd (a 5) vv.toNatClampNeg z_14) := ⟨_, rfl⟩
      rw [← ef_15] at hP hD
      exact M_v hx hb hr hlocks (f_15, f_6, f_12) hP hD hK hS ⟨rfl, trivial⟩ (Nat.le_of_ble_eq_true rfl) (Nat.le_of_ble_eq_true rfl) dX10_limes_43

abbrev rm_X10_lime : Room := { frames := 2, cells := 0, slots := 0, locals := 43 }
theorem inw_X10_lime_10 : ∀ w ∈ wsX100, w ∈ wsX10_lime := by decide +kernel
set_option maxHeartbeats 1000000 in
set_option maxRecDepth 100000 in
theorem m_X10_lime (l : Launch) (dC : Nat → ClassId) (dI : Nat → Nat → Nat) (sa : Nat → Nat) (g : Nat → Nat) (h0 : Nat) (b : Nat → Nat) (i : Nat → Int32) (a : Nat → Nat → Int32) (vv : Int32) (sz : Nat) : CT l dC dI sa yX10_lime wsX10_lime rm_X10_lime [.ref h0, .int vv] (mw g h0 b i a) (tyM g) sz (fun (r : Option Value) (u : Int32 × (Nat → Int32) × (Nat → Int32) × (Nat → Int32)) => match u with | (x0, y5, y6, y7) => (∃ z : Int32, r = some (.int z)) ∧ (True)) (fun (u : Int32 × (Nat → Int32) × (Nat → Int32) × (Nat → Int32)) => match u with | (x0, y5, y6, y7) => mw g h0 b (va_up i 0 x0) (va_up (va_up (va_up a 5 y5) 6 y6) 7 y7)) (fun _ => []) 0 0 := by
  refine CT.start (cc := cX10_lime) (maxL := 2) (ret := (some .int)) (by decide) rfl (Nat.le_of_ble_eq_true rfl) ?_
  intro p e s m below meth c ls hst hP hK hD hev hS hl
  obtain ⟨hx, hb, hr, hml, hts, hown, hlocks, hin⟩ := hst
  have hown : s.vm.findClass RX10 = some m.cls := hown
  have hA : ∀ q : Nat, s.heap.size ≤ q → va_A (mw g h0 b i a) s.heap.size q := fun _ h => Or.inr h
  have hl : lv_has ls 2 [(0, .ref h0), (1, .int vv)] := hl
  refine lv_aload_n hx hb dX10_lime_0 rfl (lv_at hl 0 rfl) ?_
  refine lv_iload_n hx hb dX10_lime_1 rfl (lv_at hl 1 rfl) ?_
  refine M_V ⟨hx, hb, hml, hown, hts⟩ (m_X10_isVat l dC dI sa g h0 b i a vv _ ) (cwV 1 hts gX10_lime_X10_isVat rfl rfl rfl (by decide +kernel) ⟨Nat.le_of_ble_eq_true rfl, Nat.le_of_ble_eq_true rfl⟩) hP hD hK hS hA hev rfl rfl rfl rfl hl.1 rfl (Nat.le_of_ble_eq_true rfl) dX10_lime_2 ⟨(Nat.le_of_ble_eq_true rfl), (Nat.le_of_ble_eq_true rfl)⟩ (fun r u H locs hw hP hD hS => ?_)
  obtain ⟨x0_1, rfl⟩ : ∃ z, z = u := ⟨_, rfl⟩
  have hw : ((r = some (.int 0) ∧ (True)) ∨ (r = some (.int 1) ∧ (vp_in vv 6))) ∧ (True) := hw
  obtain ⟨⟨rfl, hz2_3⟩ | ⟨rfl, hz2_3⟩, hw_2⟩ := hw
  · have hP : va_P (dC, dI) vwCl (mw g h0 b (va_up i 0 x0_1) a) _ := hP
    have hD : va_D _ (mw g h0 b (va_up i 0 x0_1) a) := hD
    refine W.eq (g2 := F0 m 5 ls [.int 0]) rfl ?_
    refine lv_if_ne (tgt := 10) hx hb dX10_lime_5 (by decide) (fun c_4 => absurd c_4 (by decide)) (fun _ => ?_)
    refine lv_iconst (v := 0) hx hb dX10_lime_8 (by decide) ?_
    exact M_i hx hb hr hlocks (x0_1, (a 5), (a 6), (a 7)) hP hD hK hS ⟨⟨_, rfl⟩, trivial⟩ (Nat.le_of_ble_eq_true rfl) (Nat.le_of_ble_eq_true rfl) dX10_lime_9
  · have hP : va_P (dC, dI) vwCl (mw g h0 b (va_up i 0 x0_1) a) _ := hP
    have hD : va_D _ (mw g h0 b (va_up i 0 x0_1) a) := hD
    refine W.eq (g2 := F0 m 5 ls [.int 1]) rfl ?_
    have hv6 := hz2_3
    refine lv_if_ne (tgt := 10) hx hb dX10_lime_5 (by decide) (fun _ => ?_) (fun c_5 => absurd c_5 (by decide))
    refine lv_aload_n hx hb dX10_lime_10 rfl (lv_at hl 0 rfl) ?_
    refine lv_iload_n hx hb dX10_lime_11 rfl (lv_at hl 1 rfl) ?_
    refine M_V ⟨hx, hb, hml, hown, hts⟩ (m_X10_limes l dC dI sa g h0 b (va_up i 0 x0_1) a vv _ hv6) (cwV 1 hts gX10_lime_X10_limes rfl rfl rfl (by decide +kernel) ⟨Nat.le_of_ble_eq_true rfl, Nat.le_of_ble_eq_true rfl⟩) hP hD hK hS hA hev rfl rfl rfl rfl hl.1 rfl (Nat.le_of_ble_eq_true rfl) dX10_lime_12 ⟨(Nat.le_of_ble_eq_true rfl), (Nat.le_of_ble_eq_true rfl)⟩ (fun r u H locs hw hP hD hS => ?_)
    obtain ⟨y5_6, y6_7, y7_8⟩ := u
    have hw : (r = none) ∧ (True) := hw
    obtain ⟨rfl, hw_9⟩ := hw
    have hP : va_P (dC, dI) vwCl (mw g h0 b (va_up i 0 x0_1) (va_up (va_up (va_up a 5 y5_6) 6 y6_7) 7 y7_8)) _ := hP
    have hD : va_D _ (mw g h0 b (va_up i 0 x0_1) (va_up (va_up (va_up a 5 y5_6) 6 y6_7) 7 y7_8)) := hD
    refine W.eq (g2 := F0 m 15 ls []) rfl ?_
    refine lv_aload_n hx hb dX10_lime_15 rfl (lv_at hl 0 rfl) ?_
    refine va_get (D := (dC, dI)) (ci := 10) (v := .ref (b 7)) (C := RX10) (T := TX10) (N := 51) hx hb hts inw_X10_lime_10 hown hK hP 0 rfl rfl 7 (by decide) (hts (.fieldLink RX10 19 "VatHouseModel" "state" "[I") (by decide +kernel)) (fun _ h9 => h9) rfl dX10_lime_16 ?_
    refine lv_iload_n hx hb dX10_lime_19 rfl (lv_at hl 1 rfl) ?_
    refine va_iald hx hb hK hP 4 3 rfl rfl (by assumption) dX10_lime_20 ?_
    refine lv_topi (fun z_10 ez_10 => ?_)
    have ez_10 : z_10 = y7_8 vv.toNatClampNeg := ez_10
    exact M_i hx hb hr hlocks (x0_1, y5_6, y6_7, y7_8) hP hD hK hS ⟨⟨_, rfl⟩, trivial⟩ (Nat.le_of_ble_eq_true rfl) (Nat.le_of_ble_eq_true rfl) dX10_lime_21

abbrev rm_X10_hour : Room := { frames := 0, cells := 0, slots := 0, locals := 0 }
theorem inw_X10_hour_10 : ∀ w ∈ wsX100, w ∈ wsX10_hour := by decide +kernel
set_option maxHeartbeats 1000000 in
set_option maxRecDepth 100000 in
theorem m_X10_hour (l : Launch) (dC : Nat → ClassId) (dI : Nat → Nat → Nat) (sa : Nat → Nat) (g : Nat → Nat) (h0 : Nat) (b : Nat → Nat) (i : Nat → Int32) (a : Nat → Nat → Int32) (sz : Nat) : CT l dC dI sa yX10_hour wsX10_hour rm_X10_hour [.ref h0] (mw g h0 b i a) (tyM g) sz (fun (r : Option Value) (u : Int32 × (Nat → Int32) × (Nat → Int32) × (Nat → Int32) × (Nat → Int32) × (Nat → Int32)) => match u with | (x1, y5, y6, y7, y10, y11) => (r = none) ∧ (True)) (fun (u : Int32 × (Nat → Int32) × (Nat → Int32) × (Nat → Int32) × (Nat → Int32) × (Nat → Int32)) => match u with | (x1, y5, y6, y7, y10, y11) => mw g h0 b (va_up i 1 x1) (va_up (va_up (va_up (va_up (va_up a 5 y5) 6 y6) 7 y7) 10 y10) 11 y11)) (fun _ => []) 0 0 := by
  refine CT.start (cc := cX10_hour) (maxL := 2) (ret := none) (by decide) rfl (Nat.le_of_ble_eq_true rfl) ?_
  intro p e s m below meth c ls hst hP hK hD hev hS hl
  obtain ⟨hx, hb, hr, hml, hts, hown, hlocks, hin⟩ := hst
  have hown : s.vm.findClass RX10 = some m.cls := hown
  have hA : ∀ q : Nat, s.heap.size ≤ q → va_A (mw g h0 b i a) s.heap.size q := fun _ h => Or.inr h
  have hl : lv_has ls 2 [(0, .ref h0)] := hl
  refine lv_aload_n hx hb dX10_hour_0 rfl (lv_at hl 0 rfl) ?_
  refine lv_dup hx hb dX10_hour_1 rfl ?_
  refine va_get (D := (dC, dI)) (ci := 10) (v := .int (i 1)) (C := RX10) (T := TX10) (N := 51) hx hb hts inw_X10_hour_10 hown hK hP 0 rfl rfl 1 (by decide) (hts (.fieldLink RX10 131 "VatHouseModel" "hours" "I") (by decide +kernel)) (fun _ h9 => h9) rfl dX10_hour_2 ?_
  refine lv_iconst (v := 1) hx hb dX10_hour_5 (by decide) ?_
  refine lv_iadd hx hb dX10_hour_6 ?_
  refine lv_topi (fun z_1 ez_1 => ?_)
  refine va_put (D := (dC, dI)) (ci := 10) (v := .int z_1) (ty := .int) (C := RX10) (T := TX10) (N := 51) hx hb hts inw_X10_hour_10 tyX10 tyX10_ok nmX10 hown hK hP hD hS 0 rfl rfl 1 (by decide) (hts (.fieldLink RX10 131 "VatHouseModel" "hours" "I") (by decide +kernel)) (fun _ h9 => h9) rfl (by decide +kernel) rfl rfl (Nat.le_of_ble_eq_true rfl) dX10_hour_7 (fun H locs hP hD hS => ?_)
  have hP : va_P (dC, dI) vwCl (mw g h0 b (va_up i 1 z_1) a) _ := hP
  have hD : va_D _ (mw g h0 b (va_up i 1 z_1) a) := hD
  refine lv_iconst (v := 0) hx hb dX10_hour_10 (by decide) ?_
  refine lv_istore_n (lv' := [(1, .int 0), (0, .ref h0)]) hx hb dX10_hour_11 rfl hl (by decide) rfl (fun ls hl => ?_)
  have lp : ∀ (n : Nat) (ii : Int32) (l5 : Nat → Int32) (l6 : Nat → Int32) (l7 : Nat → Int32) (l10 : Nat → Int32) (l11 : Nat → Int32) (H : Heap) (locs : List Loc) (ls : Array Slot), (∃ q : Nat, ii = nI q ∧ q ≤ 6 ∧ 6 < q + n) → va_P (dC, dI) vwCl (mw g h0 b (va_up i 1 z_1) (va_up (va_up (va_up (va_up (va_up a 5 l5) 6 l6) 7 l7) 10 l10) 11 l11)) H → va_D (va_A (mw g h0 b i a) s.heap.size) (mw g h0 b (va_up i 1 z_1) (va_up (va_up (va_up (va_up (va_up a 5 l5) 6 l6) 7 l7) 10 l10) 11 l11)) → va_S (va_A (mw g h0 b i a) s.heap.size) s.heap H locs → lv_has ls 2 [(1, .int ii), (0, .ref h0)] → W p l e rm_X10_hour s m [.ref h0].toArray below meth c H locs 0 0 (MQ below (Qg (fun (r : Option Value) (u : Int32 × (Nat → Int32) × (Nat → Int32) × (Nat → Int32) × (Nat → Int32) × (Nat → Int32)) => match u with | (x1, y5, y6, y7, y10, y11) => (r = none) ∧ (True)) (fun u t => QW dC dI (va_A (mw g h0 b i a) s.heap.size) ((fun (u : Int32 × (Nat → Int32) × (Nat → Int32) × (Nat → Int32) × (Nat → Int32) × (Nat → Int32)) => match u with | (x1, y5, y6, y7, y10, y11) => mw g h0 b (va_up i 1 x1) (va_up (va_up (va_up (va_up (va_up a 5 y5) 6 y6) 7 y7) 10 y10) 11 y11)) u) [] t) (va_A (mw g h0 b i a) s.heap.size)) [.ref h0].toArray s 0 0 (va_A (mw g h0 b i a) s.heap.size)) (F0 m 12 ls []) := by
    intro n
    induction n with
    | zero => intro ii l5 l6 l7 l10 l11 H locs ls hm  hP hD hS hl; exact absurd hm (by rintro ⟨q, -, h1, h2⟩; omega)
    | succ n ih =>
      intro ii l5 l6 l7 l10 l11 H locs ls hm  hP hD hS hl
      refine lv_iload_n hx hb dX10_hour_12 rfl (lv_at hl 0 rfl) ?_
      refine lv_bipush (v := 6) hx hb dX10_hour_13 (by decide) ?_
      refine lv_icmp_ge (tgt := 129) hx hb dX10_hour_15 (by decide) (fun c_2 => ?_) (fun c_2 => ?_)
      · have nc_2 := le_i c_2
        have lc_2 : (6 : Int32).toInt = 6 := by decide
        exact M_v hx hb hr hlocks (z_1, l5, l6, l7, l10, l11) hP hD hK hS ⟨rfl, trivial⟩ (Nat.le_of_ble_eq_true rfl) (Nat.le_of_ble_eq_true rfl) dX10_hour_129
      · have nc_2 := nle_i c_2
        have lc_2 : (6 : Int32).toInt = 6 := by decide
        refine lv_aload_n hx hb dX10_hour_18 rfl (lv_at hl 1 rfl) ?_
        refine va_get (D := (dC, dI)) (ci := 10) (v := .ref (b 5)) (C := RX10) (T := TX10) (N := 51) hx hb hts inw_X10_hour_10 hown hK hP 0 rfl rfl 5 (by decide) (hts (.fieldLink RX10 13 "VatHouseModel" "food" "[I") (by decide +kernel)) (fun _ h9 => h9) rfl dX10_hour_19 ?_
        refine lv_iload_n hx hb dX10_hour_22 rfl (lv_at hl 0 rfl) ?_
        refine lv_aload_n hx hb dX10_hour_23 rfl (lv_at hl 1 rfl) ?_
        refine va_get (D := (dC, dI)) (ci := 10) (v := .ref (b 5)) (C := RX10) (T := TX10) (N := 51) hx hb hts inw_X10_hour_10 hown hK hP 0 rfl rfl 5 (by decide) (hts (.fieldLink RX10 13 "VatHouseModel" "food" "[I") (by decide +kernel)) (fun _ h9 => h9) rfl dX10_hour_24 ?_
        refine lv_iload_n hx hb dX10_hour_27 rfl (lv_at hl 0 rfl) ?_
        refine va_iald hx hb hK hP 2 1 rfl rfl (up_in (by decide) hm (by decide) c_2 (by decide) (by decide)) dX10_hour_28 ?_
        refine lv_topi (fun z_3 ez_3 => ?_)
        have ez_3 : z_3 = l5 ii.toNatClampNeg := ez_3
        refine lv_iconst (v := 5) hx hb dX10_hour_29 (by decide) ?_
        refine lv_icmp_le (tgt := 44) hx hb dX10_hour_30 (by decide) (fun c_4 => ?_) (fun c_4 => ?_)
        · have nc_4 := le_i c_4
          have lc_4 : (5 : Int32).toInt = 5 := by decide
          refine lv_iconst (v := 0) hx hb dX10_hour_44 (by decide) ?_
          refine va_iast hx hb hK hP hD hS 2 1 rfl rfl (up_in (by decide) hm (by decide) c_2 (by decide) (by decide)) dX10_hour_45 (fun H locs hP hD hS => ?_)
          have hP : va_P (dC, dI) vwCl (mw g h0 b (va_up i 1 z_1) (va_up (va_up (va_up (va_up (va_up a 5 (upd l5 ii.toNatClampNeg (0 : Int32))) 6 l6) 7 l7) 10 l10) 11 l11)) _ := hP
          have hD : va_D _ (mw g h0 b (va_up i 1 z_1) (va_up (va_up (va_up (va_up (va_up a 5 (upd l5 ii.toNatClampNeg (0 : Int32))) 6 l6) 7 l7) 10 l10) 11 l11)) := hD
          obtain ⟨f_5, ef_5⟩ : ∃ z, z = (upd l5 ii.toNatClampNeg (0 : Int32)) := ⟨_, rfl⟩
          rw [← ef_5] at hP hD
          refine lv_aload_n hx hb dX10_hour_46 rfl (lv_at hl 1 rfl) ?_
          refine va_get (D := (dC, dI)) (ci := 10) (v := .ref (b 5)) (C := RX10) (T := TX10) (N := 51) hx hb hts inw_X10_hour_10 hown hK hP 0 rfl rfl 5 (by decide) (hts (.fieldLink RX10 13 "VatHouseModel" "food" "[I") (by decide +kernel)) (fun _ h9 => h9) rfl dX10_hour_47 ?_
          refine lv_iload_n hx hb dX10_hour_50 rfl (lv_at hl 0 rfl) ?_
          refine va_iald hx hb hK hP 2 1 rfl rfl (up_in (by decide) hm (by decide) c_2 (by decide) (by decide)) dX10_hour_51 ?_
          refine lv_topi (fun z_6 ez_6 => ?_)
          have ez_6 : z_6 = f_5 ii.toNatClampNeg := ez_6
          refine lv_if_ne (tgt := 62) hx hb dX10_hour_52 (by decide) (fun c_7 => ?_) (fun c_7 => ?_)
          · have nc_7 := ne_i c_7
            have lc_7 : (0 : Int32).toInt = 0 := by decide
            refine lv_aload_n hx hb dX10_hour_62 rfl (lv_at hl 1 rfl) ?_
            refine va_get (D := (dC, dI)) (ci := 10) (v := .ref (b 7)) (C := RX10) (T := TX10) (N := 51) hx hb hts inw_X10_hour_10 hown hK hP 0 rfl rfl 7 (by decide) (hts (.fieldLink RX10 19 "VatHouseModel" "state" "[I") (by decide +kernel)) (fun _ h9 => h9) rfl dX10_hour_63 ?_
            refine lv_iload_n hx hb dX10_hour_66 rfl (lv_at hl 0 rfl) ?_
            refine va_iald hx hb hK hP 4 3 rfl rfl (up_in (by decide) hm (by decide) c_2 (by decide) (by decide)) dX10_hour_67 ?_
            refine lv_topi (fun z_8 ez_8 => ?_)
            have ez_8 : z_8 = l7 ii.toNatClampNeg := ez_8
            refine lv_iconst (v := 2) hx hb dX10_hour_68 (by decide) ?_
            refine lv_icmp_eq (tgt := 104) hx hb dX10_hour_69 (by decide) (fun c_9 => ?_) (fun c_9 => ?_)
            · have nc_9 := eq_i c_9
              have lc_9 : (2 : Int32).toInt = 2 := by decide
              refine lv_aload_n hx hb dX10_hour_104 rfl (lv_at hl 1 rfl) ?_
              refine va_get (D := (dC, dI)) (ci := 10) (v := .ref (b 11)) (C := RX10) (T := TX10) (N := 51) hx hb hts inw_X10_hour_10 hown hK hP 0 rfl rfl 11 (by decide) (hts (.fieldLink RX10 32 "VatHouseModel" "wasDipped" "[Z") (by decide +kernel)) (fun _ h9 => h9) rfl dX10_hour_105 ?_
              refine lv_iload_n hx hb dX10_hour_108 rfl (lv_at hl 0 rfl) ?_
              refine lv_aload_n hx hb dX10_hour_109 rfl (lv_at hl 1 rfl) ?_
              refine va_get (D := (dC, dI)) (ci := 10) (v := .ref (b 10)) (C := RX10) (T := TX10) (N := 51) hx hb hts inw_X10_hour_10 hown hK hP 0 rfl rfl 10 (by decide) (hts (.fieldLink RX10 28 "VatHouseModel" "isDipped" "[Z") (by decide +kernel)) (fun _ h9 => h9) rfl dX10_hour_110 ?_
              refine lv_iload_n hx hb dX10_hour_113 rfl (lv_at hl 0 rfl) ?_
              refine va_zald hx hb hK hP 7 6 rfl rfl (up_in (by decide) hm (by decide) c_2 (by decide) (by decide)) dX10_hour_114 ?_
              refine lv_topi (fun z_10 ez_10 => ?_)
              have ez_10 : z_10 = l10 ii.toNatClampNeg := ez_10
              refine va_zast hx hb hK hP hD hS 8 7 rfl rfl (up_in (by decide) hm (by decide) c_2 (by decide) (by decide)) dX10_hour_115 (fun H locs hP hD hS => ?_)
              have hP : va_P (dC, dI) vwCl (mw g h0 b (va_up i 1 z_1) (va_up (va_up (va_up (va_up (va_up a 5 f_5) 6 l6) 7 l7) 10 l10) 11 (upd l11 ii.toNatClampNeg (vp_nar .boolean z_10)))) _ := hP
              have hD : va_D _ (mw g h0 b (va_up i 1 z_1) (va_up (va_up (va_up (va_up (va_up a 5 f_5) 6 l6) 7 l7) 10 l10) 11 (upd l11 ii.toNatClampNeg (vp_nar .boolean z_10)))) := hD
              obtain ⟨f_11, ef_11⟩ : ∃ z, z = (upd l11 ii.toNatClampNeg (vp_nar .boolean z_10)) := ⟨_, rfl⟩
              rw [← ef_11] at hP hD
              refine lv_aload_n hx hb dX10_hour_116 rfl (lv_at hl 1 rfl) ?_
              refine va_get (D := (dC, dI)) (ci := 10) (v := .ref (b 10)) (C := RX10) (T := TX10) (N := 51) hx hb hts inw_X10_hour_10 hown hK hP 0 rfl rfl 10 (by decide) (hts (.fieldLink RX10 28 "VatHouseModel" "isDipped" "[Z") (by decide +kernel)) (fun _ h9 => h9) rfl dX10_hour_117 ?_
              refine lv_iload_n hx hb dX10_hour_120 rfl (lv_at hl 0 rfl) ?_
              refine lv_iconst (v := 0) hx hb dX10_hour_121 (by decide) ?_
              refine va_zast hx hb hK hP hD hS 7 6 rfl rfl (up_in (by decide) hm (by decide) c_2 (by decide) (by decide)) dX10_hour_122 (fun H locs hP hD hS => ?_)
              have hP : va_P (dC, dI) vwCl (mw g h0 b (va_up i 1 z_1) (va_up (va_up (va_up (va_up (va_up a 5 f_5) 6 l6) 7 l7) 10 (upd l10 ii.toNatClampNeg (vp_nar .boolean (0 : Int32)))) 11 f_11)) _ := hP
              have hD : va_D _ (mw g h0 b (va_up i 1 z_1) (va_up (va_up (va_up (va_up (va_up a 5 f_5) 6 l6) 7 l7) 10 (upd l10 ii.toNatClampNeg (vp_nar .boolean (0 : Int32)))) 11 f_11)) := hD
              obtain ⟨f_12, ef_12⟩ : ∃ z, z = (upd l10 ii.toNatClampNeg (vp_nar .boolean (0 : Int32))) := ⟨_, rfl⟩
              rw [← ef_12] at hP hD
              refine lv_iinc (v := (ii + 1)) (lv' := [(1, .int (ii + 1)), (0, .ref h0)]) hx hb dX10_hour_123 hl (k := 0) rfl rfl (by decide) rfl (fun ls hl => ?_)
              refine lv_goto (tgt := 12) hx hb dX10_hour_126 (by decide) ?_
              exact ih (ii + 1) f_5 l6 l7 f_12 f_11 _ _ _ (up_nx (by decide) hm (by decide) c_2)  hP hD hS (lv_sub hl [0, 1] rfl)
            · have nc_9 := ne_i c_9
              have lc_9 : (2 : Int32).toInt = 2 := by decide
              refine lv_aload_n hx hb dX10_hour_72 rfl (lv_at hl 1 rfl) ?_
              refine va_get (D := (dC, dI)) (ci := 10) (v := .ref (b 10)) (C := RX10) (T := TX10) (N := 51) hx hb hts inw_X10_hour_10 hown hK hP 0 rfl rfl 10 (by decide) (hts (.fieldLink RX10 28 "VatHouseModel" "isDipped" "[Z") (by decide +kernel)) (fun _ h9 => h9) rfl dX10_hour_73 ?_
              refine lv_iload_n hx hb dX10_hour_76 rfl (lv_at hl 0 rfl) ?_
              refine va_zald hx hb hK hP 7 6 rfl rfl (up_in (by decide) hm (by decide) c_2 (by decide) (by decide)) dX10_hour_77 ?_
              refine lv_topi (fun z_13 ez_13 => ?_)
              have ez_13 : z_13 = l10 ii.toNatClampNeg := ez_13
              refine lv_if_ne (tgt := 104) hx hb dX10_hour_78 (by decide) (fun c_14 => ?_) (fun c_14 => ?_)
              · have nc_14 := ne_i c_14
                have lc_14 : (0 : Int32).toInt = 0 := by decide
                refine lv_aload_n hx hb dX10_hour_104 rfl (lv_at hl 1 rfl) ?_
                refine va_get (D := (dC, dI)) (ci := 10) (v := .ref (b 11)) (C := RX10) (T := TX10) (N := 51) hx hb hts inw_X10_hour_10 hown hK hP 0 rfl rfl 11 (by decide) (hts (.fieldLink RX10 32 "VatHouseModel" "wasDipped" "[Z") (by decide +kernel)) (fun _ h9 => h9) rfl dX10_hour_105 ?_
                refine lv_iload_n hx hb dX10_hour_108 rfl (lv_at hl 0 rfl) ?_
                refine lv_aload_n hx hb dX10_hour_109 rfl (lv_at hl 1 rfl) ?_
                refine va_get (D := (dC, dI)) (ci := 10) (v := .ref (b 10)) (C := RX10) (T := TX10) (N := 51) hx hb hts inw_X10_hour_10 hown hK hP 0 rfl rfl 10 (by decide) (hts (.fieldLink RX10 28 "VatHouseModel" "isDipped" "[Z") (by decide +kernel)) (fun _ h9 => h9) rfl dX10_hour_110 ?_
                refine lv_iload_n hx hb dX10_hour_113 rfl (lv_at hl 0 rfl) ?_
                refine va_zald hx hb hK hP 7 6 rfl rfl (up_in (by decide) hm (by decide) c_2 (by decide) (by decide)) dX10_hour_114 ?_
                refine lv_topi (fun z_15 ez_15 => ?_)
                have ez_15 : z_15 = l10 ii.toNatClampNeg := ez_15
                refine va_zast hx hb hK hP hD hS 8 7 rfl rfl (up_in (by decide) hm (by decide) c_2 (by decide) (by decide)) dX10_hour_115 (fun H locs hP hD hS => ?_)
                have hP : va_P (dC, dI) vwCl (mw g h0 b (va_up i 1 z_1) (va_up (va_up (va_up (va_up (va_up a 5 f_5) 6 l6) 7 l7) 10 l10) 11 (upd l11 ii.toNatClampNeg (vp_nar .boolean z_15)))) _ := hP
                have hD : va_D _ (mw g h0 b (va_up i 1 z_1) (va_up (va_up (va_up (va_up (va_up a 5 f_5) 6 l6) 7 l7) 10 l10) 11 (upd l11 ii.toNatClampNeg (vp_nar .boolean z_15)))) := hD
                obtain ⟨f_16, ef_16⟩ : ∃ z, z = (upd l11 ii.toNatClampNeg (vp_nar .boolean z_15)) := ⟨_, rfl⟩
                rw [← ef_16] at hP hD
                refine lv_aload_n hx hb dX10_hour_116 rfl (lv_at hl 1 rfl) ?_
                refine va_get (D := (dC, dI)) (ci := 10) (v := .ref (b 10)) (C := RX10) (T := TX10) (N := 51) hx hb hts inw_X10_hour_10 hown hK hP 0 rfl rfl 10 (by decide) (hts (.fieldLink RX10 28 "VatHouseModel" "isDipped" "[Z") (by decide +kernel)) (fun _ h9 => h9) rfl dX10_hour_117 ?_
                refine lv_iload_n hx hb dX10_hour_120 rfl (lv_at hl 0 rfl) ?_
                refine lv_iconst (v := 0) hx hb dX10_hour_121 (by decide) ?_
                refine va_zast hx hb hK hP hD hS 7 6 rfl rfl (up_in (by decide) hm (by decide) c_2 (by decide) (by decide)) dX10_hour_122 (fun H locs hP hD hS => ?_)
                have hP : va_P (dC, dI) vwCl (mw g h0 b (va_up i 1 z_1) (va_up (va_up (va_up (va_up (va_up a 5 f_5) 6 l6) 7 l7) 10 (upd l10 ii.toNatClampNeg (vp_nar .boolean (0 : Int32)))) 11 f_16)) _ := hP
                have hD : va_D _ (mw g h0 b (va_up i 1 z_1) (va_up (va_up (va_up (va_up (va_up a 5 f_5) 6 l6) 7 l7) 10 (upd l10 ii.toNatClampNeg (vp_nar .boolean (0 : Int32)))) 11 f_16)) := hD
                obtain ⟨f_17, ef_17⟩ : ∃ z, z = (upd l10 ii.toNatClampNeg (vp_nar .boolean (0 : Int32))) := ⟨_, rfl⟩
                rw [← ef_17] at hP hD
                refine lv_iinc (v := (ii + 1)) (lv' := [(1, .int (ii + 1)), (0, .ref h0)]) hx hb dX10_hour_123 hl (k := 0) rfl rfl (by decide) rfl (fun ls hl => ?_)
                refine lv_goto (tgt := 12) hx hb dX10_hour_126 (by decide) ?_
                exact ih (ii + 1) f_5 l6 l7 f_17 f_16 _ _ _ (up_nx (by decide) hm (by decide) c_2)  hP hD hS (lv_sub hl [0, 1] rfl)
              · have nc_14 := eq_i c_14
                have lc_14 : (0 : Int32).toInt = 0 := by decide
                refine lv_aload_n hx hb dX10_hour_81 rfl (lv_at hl 1 rfl) ?_
                refine va_get (D := (dC, dI)) (ci := 10) (v := .ref (b 11)) (C := RX10) (T := TX10) (N := 51) hx hb hts inw_X10_hour_10 hown hK hP 0 rfl rfl 11 (by decide) (hts (.fieldLink RX10 32 "VatHouseModel" "wasDipped" "[Z") (by decide +kernel)) (fun _ h9 => h9) rfl dX10_hour_82 ?_
                refine lv_iload_n hx hb dX10_hour_85 rfl (lv_at hl 0 rfl) ?_
                refine va_zald hx hb hK hP 8 7 rfl rfl (up_in (by decide) hm (by decide) c_2 (by decide) (by decide)) dX10_hour_86 ?_
                refine lv_topi (fun z_18 ez_18 => ?_)
                have ez_18 : z_18 = l11 ii.toNatClampNeg := ez_18
                refine lv_if_ne (tgt := 104) hx hb dX10_hour_87 (by decide) (fun c_19 => ?_) (fun c_19 => ?_)
                · have nc_19 := ne_i c_19
                  have lc_19 : (0 : Int32).toInt = 0 := by decide
                  refine lv_aload_n hx hb dX10_hour_104 rfl (lv_at hl 1 rfl) ?_
                  refine va_get (D := (dC, dI)) (ci := 10) (v := .ref (b 11)) (C := RX10) (T := TX10) (N := 51) hx hb hts inw_X10_hour_10 hown hK hP 0 rfl rfl 11 (by decide) (hts (.fieldLink RX10 32 "VatHouseModel" "wasDipped" "[Z") (by decide +kernel)) (fun _ h9 => h9) rfl dX10_hour_105 ?_
                  refine lv_iload_n hx hb dX10_hour_108 rfl (lv_at hl 0 rfl) ?_
                  refine lv_aload_n hx hb dX10_hour_109 rfl (lv_at hl 1 rfl) ?_
                  refine va_get (D := (dC, dI)) (ci := 10) (v := .ref (b 10)) (C := RX10) (T := TX10) (N := 51) hx hb hts inw_X10_hour_10 hown hK hP 0 rfl rfl 10 (by decide) (hts (.fieldLink RX10 28 "VatHouseModel" "isDipped" "[Z") (by decide +kernel)) (fun _ h9 => h9) rfl dX10_hour_110 ?_
                  refine lv_iload_n hx hb dX10_hour_113 rfl (lv_at hl 0 rfl) ?_
                  refine va_zald hx hb hK hP 7 6 rfl rfl (up_in (by decide) hm (by decide) c_2 (by decide) (by decide)) dX10_hour_114 ?_
                  refine lv_topi (fun z_20 ez_20 => ?_)
                  have ez_20 : z_20 = l10 ii.toNatClampNeg := ez_20
                  refine va_zast hx hb hK hP hD hS 8 7 rfl rfl (up_in (by decide) hm (by decide) c_2 (by decide) (by decide)) dX10_hour_115 (fun H locs hP hD hS => ?_)
                  have hP : va_P (dC, dI) vwCl (mw g h0 b (va_up i 1 z_1) (va_up (va_up (va_up (va_up (va_up a 5 f_5) 6 l6) 7 l7) 10 l10) 11 (upd l11 ii.toNatClampNeg (vp_nar .boolean z_20)))) _ := hP
                  have hD : va_D _ (mw g h0 b (va_up i 1 z_1) (va_up (va_up (va_up (va_up (va_up a 5 f_5) 6 l6) 7 l7) 10 l10) 11 (upd l11 ii.toNatClampNeg (vp_nar .boolean z_20)))) := hD
                  obtain ⟨f_21, ef_21⟩ : ∃ z, z = (upd l11 ii.toNatClampNeg (vp_nar .boolean z_20)) := ⟨_, rfl⟩
                  rw [← ef_21] at hP hD
                  refine lv_aload_n hx hb dX10_hour_116 rfl (lv_at hl 1 rfl) ?_
                  refine va_get (D := (dC, dI)) (ci := 10) (v := .ref (b 10)) (C := RX10) (T := TX10) (N := 51) hx hb hts inw_X10_hour_10 hown hK hP 0 rfl rfl 10 (by decide) (hts (.fieldLink RX10 28 "VatHouseModel" "isDipped" "[Z") (by decide +kernel)) (fun _ h9 => h9) rfl dX10_hour_117 ?_
                  refine lv_iload_n hx hb dX10_hour_120 rfl (lv_at hl 0 rfl) ?_
                  refine lv_iconst (v := 0) hx hb dX10_hour_121 (by decide) ?_
                  refine va_zast hx hb hK hP hD hS 7 6 rfl rfl (up_in (by decide) hm (by decide) c_2 (by decide) (by decide)) dX10_hour_122 (fun H locs hP hD hS => ?_)
                  have hP : va_P (dC, dI) vwCl (mw g h0 b (va_up i 1 z_1) (va_up (va_up (va_up (va_up (va_up a 5 f_5) 6 l6) 7 l7) 10 (upd l10 ii.toNatClampNeg (vp_nar .boolean (0 : Int32)))) 11 f_21)) _ := hP
                  have hD : va_D _ (mw g h0 b (va_up i 1 z_1) (va_up (va_up (va_up (va_up (va_up a 5 f_5) 6 l6) 7 l7) 10 (upd l10 ii.toNatClampNeg (vp_nar .boolean (0 : Int32)))) 11 f_21)) := hD
                  obtain ⟨f_22, ef_22⟩ : ∃ z, z = (upd l10 ii.toNatClampNeg (vp_nar .boolean (0 : Int32))) := ⟨_, rfl⟩
                  rw [← ef_22] at hP hD
                  refine lv_iinc (v := (ii + 1)) (lv' := [(1, .int (ii + 1)), (0, .ref h0)]) hx hb dX10_hour_123 hl (k := 0) rfl rfl (by decide) rfl (fun ls hl => ?_)
                  refine lv_goto (tgt := 12) hx hb dX10_hour_126 (by decide) ?_
                  exact ih (ii + 1) f_5 l6 l7 f_22 f_21 _ _ _ (up_nx (by decide) hm (by decide) c_2)  hP hD hS (lv_sub hl [0, 1] rfl)
                · have nc_19 := eq_i c_19
                  have lc_19 : (0 : Int32).toInt = 0 := by decide
                  refine lv_aload_n hx hb dX10_hour_90 rfl (lv_at hl 1 rfl) ?_
                  refine va_get (D := (dC, dI)) (ci := 10) (v := .ref (b 7)) (C := RX10) (T := TX10) (N := 51) hx hb hts inw_X10_hour_10 hown hK hP 0 rfl rfl 7 (by decide) (hts (.fieldLink RX10 19 "VatHouseModel" "state" "[I") (by decide +kernel)) (fun _ h9 => h9) rfl dX10_hour_91 ?_
                  refine lv_iload_n hx hb dX10_hour_94 rfl (lv_at hl 0 rfl) ?_
                  refine lv_iconst (v := 0) hx hb dX10_hour_95 (by decide) ?_
                  refine va_iast hx hb hK hP hD hS 4 3 rfl rfl (up_in (by decide) hm (by decide) c_2 (by decide) (by decide)) dX10_hour_96 (fun H locs hP hD hS => ?_)
                  have hP : va_P (dC, dI) vwCl (mw g h0 b (va_up i 1 z_1) (va_up (va_up (va_up (va_up (va_up a 5 f_5) 6 l6) 7 (upd l7 ii.toNatClampNeg (0 : Int32))) 10 l10) 11 l11)) _ := hP
                  have hD : va_D _ (mw g h0 b (va_up i 1 z_1) (va_up (va_up (va_up (va_up (va_up a 5 f_5) 6 l6) 7 (upd l7 ii.toNatClampNeg (0 : Int32))) 10 l10) 11 l11)) := hD
                  obtain ⟨f_23, ef_23⟩ : ∃ z, z = (upd l7 ii.toNatClampNeg (0 : Int32)) := ⟨_, rfl⟩
                  rw [← ef_23] at hP hD
                  refine lv_aload_n hx hb dX10_hour_97 rfl (lv_at hl 1 rfl) ?_
                  refine va_get (D := (dC, dI)) (ci := 10) (v := .ref (b 6)) (C := RX10) (T := TX10) (N := 51) hx hb hts inw_X10_hour_10 hown hK hP 0 rfl rfl 6 (by decide) (hts (.fieldLink RX10 16 "VatHouseModel" "minutes" "[I") (by decide +kernel)) (fun _ h9 => h9) rfl dX10_hour_98 ?_
                  refine lv_iload_n hx hb dX10_hour_101 rfl (lv_at hl 0 rfl) ?_
                  refine lv_iconst (v := 0) hx hb dX10_hour_102 (by decide) ?_
                  refine va_iast hx hb hK hP hD hS 3 2 rfl rfl (up_in (by decide) hm (by decide) c_2 (by decide) (by decide)) dX10_hour_103 (fun H locs hP hD hS => ?_)
                  have hP : va_P (dC, dI) vwCl (mw g h0 b (va_up i 1 z_1) (va_up (va_up (va_up (va_up (va_up a 5 f_5) 6 (upd l6 ii.toNatClampNeg (0 : Int32))) 7 f_23) 10 l10) 11 l11)) _ := hP
                  have hD : va_D _ (mw g h0 b (va_up i 1 z_1) (va_up (va_up (va_up (va_up (va_up a 5 f_5) 6 (upd l6 ii.toNatClampNeg (0 : Int32))) 7 f_23) 10 l10) 11 l11)) := hD
                  obtain ⟨f_24, ef_24⟩ : ∃ z, z = (upd l6 ii.toNatClampNeg (0 : Int32)) := ⟨_, rfl⟩
                  rw [← ef_24] at hP hD
                  refine lv_aload_n hx hb dX10_hour_104 rfl (lv_at hl 1 rfl) ?_
                  refine va_get (D := (dC, dI)) (ci := 10) (v := .ref (b 11)) (C := RX10) (T := TX10) (N := 51) hx hb hts inw_X10_hour_10 hown hK hP 0 rfl rfl 11 (by decide) (hts (.fieldLink RX10 32 "VatHouseModel" "wasDipped" "[Z") (by decide +kernel)) (fun _ h9 => h9) rfl dX10_hour_105 ?_
                  refine lv_iload_n hx hb dX10_hour_108 rfl (lv_at hl 0 rfl) ?_
                  refine lv_aload_n hx hb dX10_hour_109 rfl (lv_at hl 1 rfl) ?_
                  refine va_get (D := (dC, dI)) (ci := 10) (v := .ref (b 10)) (C := RX10) (T := TX10) (N := 51) hx hb hts inw_X10_hour_10 hown hK hP 0 rfl rfl 10 (by decide) (hts (.fieldLink RX10 28 "VatHouseModel" "isDipped" "[Z") (by decide +kernel)) (fun _ h9 => h9) rfl dX10_hour_110 ?_
                  refine lv_iload_n hx hb dX10_hour_113 rfl (lv_at hl 0 rfl) ?_
                  refine va_zald hx hb hK hP 7 6 rfl rfl (up_in (by decide) hm (by decide) c_2 (by decide) (by decide)) dX10_hour_114 ?_
                  refine lv_topi (fun z_25 ez_25 => ?_)
                  have ez_25 : z_25 = l10 ii.toNatClampNeg := ez_25
                  refine va_zast hx hb hK hP hD hS 8 7 rfl rfl (up_in (by decide) hm (by decide) c_2 (by decide) (by decide)) dX10_hour_115 (fun H locs hP hD hS => ?_)
                  have hP : va_P (dC, dI) vwCl (mw g h0 b (va_up i 1 z_1) (va_up (va_up (va_up (va_up (va_up a 5 f_5) 6 f_24) 7 f_23) 10 l10) 11 (upd l11 ii.toNatClampNeg (vp_nar .boolean z_25)))) _ := hP
                  have hD : va_D _ (mw g h0 b (va_up i 1 z_1) (va_up (va_up (va_up (va_up (va_up a 5 f_5) 6 f_24) 7 f_23) 10 l10) 11 (upd l11 ii.toNatClampNeg (vp_nar .boolean z_25)))) := hD
                  obtain ⟨f_26, ef_26⟩ : ∃ z, z = (upd l11 ii.toNatClampNeg (vp_nar .boolean z_25)) := ⟨_, rfl⟩
                  rw [← ef_26] at hP hD
                  refine lv_aload_n hx hb dX10_hour_116 rfl (lv_at hl 1 rfl) ?_
                  refine va_get (D := (dC, dI)) (ci := 10) (v := .ref (b 10)) (C := RX10) (T := TX10) (N := 51) hx hb hts inw_X10_hour_10 hown hK hP 0 rfl rfl 10 (by decide) (hts (.fieldLink RX10 28 "VatHouseModel" "isDipped" "[Z") (by decide +kernel)) (fun _ h9 => h9) rfl dX10_hour_117 ?_
                  refine lv_iload_n hx hb dX10_hour_120 rfl (lv_at hl 0 rfl) ?_
                  refine lv_iconst (v := 0) hx hb dX10_hour_121 (by decide) ?_
                  refine va_zast hx hb hK hP hD hS 7 6 rfl rfl (up_in (by decide) hm (by decide) c_2 (by decide) (by decide)) dX10_hour_122 (fun H locs hP hD hS => ?_)
                  have hP : va_P (dC, dI) vwCl (mw g h0 b (va_up i 1 z_1) (va_up (va_up (va_up (va_up (va_up a 5 f_5) 6 f_24) 7 f_23) 10 (upd l10 ii.toNatClampNeg (vp_nar .boolean (0 : Int32)))) 11 f_26)) _ := hP
                  have hD : va_D _ (mw g h0 b (va_up i 1 z_1) (va_up (va_up (va_up (va_up (va_up a 5 f_5) 6 f_24) 7 f_23) 10 (upd l10 ii.toNatClampNeg (vp_nar .boolean (0 : Int32)))) 11 f_26)) := hD
                  obtain ⟨f_27, ef_27⟩ : ∃ z, z = (upd l10 ii.toNatClampNeg (vp_nar .boolean (0 : Int32))) := ⟨_, rfl⟩
                  rw [← ef_27] at hP hD
                  refine lv_iinc (v := (ii + 1)) (lv' := [(1, .int (ii + 1)), (0, .ref h0)]) hx hb dX10_hour_123 hl (k := 0) rfl rfl (by decide) rfl (fun ls hl => ?_)
                  refine lv_goto (tgt := 12) hx hb dX10_hour_126 (by decide) ?_
                  exact ih (ii + 1) f_5 f_24 f_23 f_27 f_26 _ _ _ (up_nx (by decide) hm (by decide) c_2)  hP hD hS (lv_sub hl [0, 1] rfl)
          · have nc_7 := eq_i c_7
            have lc_7 : (0 : Int32).toInt = 0 := by decide
            refine lv_aload_n hx hb dX10_hour_55 rfl (lv_at hl 1 rfl) ?_
            refine va_get (D := (dC, dI)) (ci := 10) (v := .ref (b 7)) (C := RX10) (T := TX10) (N := 51) hx hb hts inw_X10_hour_10 hown hK hP 0 rfl rfl 7 (by decide) (hts (.fieldLink RX10 19 "VatHouseModel" "state" "[I") (by decide +kernel)) (fun _ h9 => h9) rfl dX10_hour_56 ?_
            refine lv_iload_n hx hb dX10_hour_59 rfl (lv_at hl 0 rfl) ?_
            refine lv_iconst (v := 2) hx hb dX10_hour_60 (by decide) ?_
            refine va_iast hx hb hK hP hD hS 4 3 rfl rfl (up_in (by decide) hm (by decide) c_2 (by decide) (by decide)) dX10_hour_61 (fun H locs hP hD hS => ?_)
            have hP : va_P (dC, dI) vwCl (mw g h0 b (va_up i 1 z_1) (va_up (va_up (va_up (va_up (va_up a 5 f_5) 6 l6) 7 (upd l7 ii.toNatClampNeg (2 : Int32))) 10 l10) 11 l11)) _ := hP
            have hD : va_D _ (mw g h0 b (va_up i 1 z_1) (va_up (va_up (va_up (va_up (va_up a 5 f_5) 6 l6) 7 (upd l7 ii.toNatClampNeg (2 : Int32))) 10 l10) 11 l11)) := hD
            obtain ⟨f_28, ef_28⟩ : ∃ z, z = (upd l7 ii.toNatClampNeg (2 : Int32)) := ⟨_, rfl⟩
            rw [← ef_28] at hP hD
            refine lv_aload_n hx hb dX10_hour_62 rfl (lv_at hl 1 rfl) ?_
            refine va_get (D := (dC, dI)) (ci := 10) (v := .ref (b 7)) (C := RX10) (T := TX10) (N := 51) hx hb hts inw_X10_hour_10 hown hK hP 0 rfl rfl 7 (by decide) (hts (.fieldLink RX10 19 "VatHouseModel" "state" "[I") (by decide +kernel)) (fun _ h9 => h9) rfl dX10_hour_63 ?_
            refine lv_iload_n hx hb dX10_hour_66 rfl (lv_at hl 0 rfl) ?_
            refine va_iald hx hb hK hP 4 3 rfl rfl (up_in (by decide) hm (by decide) c_2 (by decide) (by decide)) dX10_hour_67 ?_
            refine lv_topi (fun z_29 ez_29 => ?_)
            have ez_29 : z_29 = f_28 ii.toNatClampNeg := ez_29
            refine lv_iconst (v := 2) hx hb dX10_hour_68 (by decide) ?_
            refine lv_icmp_eq (tgt := 104) hx hb dX10_hour_69 (by decide) (fun c_30 => ?_) (fun c_30 => ?_)
            · have nc_30 := eq_i c_30
              have lc_30 : (2 : Int32).toInt = 2 := by decide
              refine lv_aload_n hx hb dX10_hour_104 rfl (lv_at hl 1 rfl) ?_
              refine va_get (D := (dC, dI)) (ci := 10) (v := .ref (b 11)) (C := RX10) (T := TX10) (N := 51) hx hb hts inw_X10_hour_10 hown hK hP 0 rfl rfl 11 (by decide) (hts (.fieldLink RX10 32 "VatHouseModel" "wasDipped" "[Z") (by decide +kernel)) (fun _ h9 => h9) rfl dX10_hour_105 ?_
              refine lv_iload_n hx hb dX10_hour_108 rfl (lv_at hl 0 rfl) ?_
              refine lv_aload_n hx hb dX10_hour_109 rfl (lv_at hl 1 rfl) ?_
              refine va_get (D := (dC, dI)) (ci := 10) (v := .ref (b 10)) (C := RX10) (T := TX10) (N := 51) hx hb hts inw_X10_hour_10 hown hK hP 0 rfl rfl 10 (by decide) (hts (.fieldLink RX10 28 "VatHouseModel" "isDipped" "[Z") (by decide +kernel)) (fun _ h9 => h9) rfl dX10_hour_110 ?_
              refine lv_iload_n hx hb dX10_hour_113 rfl (lv_at hl 0 rfl) ?_
              refine va_zald hx hb hK hP 7 6 rfl rfl (up_in (by decide) hm (by decide) c_2 (by decide) (by decide)) dX10_hour_114 ?_
              refine lv_topi (fun z_31 ez_31 => ?_)
              have ez_31 : z_31 = l10 ii.toNatClampNeg := ez_31
              refine va_zast hx hb hK hP hD hS 8 7 rfl rfl (up_in (by decide) hm (by decide) c_2 (by decide) (by decide)) dX10_hour_115 (fun H locs hP hD hS => ?_)
              have hP : va_P (dC, dI) vwCl (mw g h0 b (va_up i 1 z_1) (va_up (va_up (va_up (va_up (va_up a 5 f_5) 6 l6) 7 f_28) 10 l10) 11 (upd l11 ii.toNatClampNeg (vp_nar .boolean z_31)))) _ := hP
              have hD : va_D _ (mw g h0 b (va_up i 1 z_1) (va_up (va_up (va_up (va_up (va_up a 5 f_5) 6 l6) 7 f_28) 10 l10) 11 (upd l11 ii.toNatClampNeg (vp_nar .boolean z_31)))) := hD
              obtain ⟨f_32, ef_32⟩ : ∃ z, z = (upd l11 ii.toNatClampNeg (vp_nar .boolean z_31)) := ⟨_, rfl⟩
              rw [← ef_32] at hP hD
              refine lv_aload_n hx hb dX10_hour_116 rfl (lv_at hl 1 rfl) ?_
              refine va_get (D := (dC, dI)) (ci := 10) (v := .ref (b 10)) (C := RX10) (T := TX10) (N := 51) hx hb hts inw_X10_hour_10 hown hK hP 0 rfl rfl 10 (by decide) (hts (.fieldLink RX10 28 "VatHouseModel" "isDipped" "[Z") (by decide +kernel)) (fun _ h9 => h9) rfl dX10_hour_117 ?_
              refine lv_iload_n hx hb dX10_hour_120 rfl (lv_at hl 0 rfl) ?_
              refine lv_iconst (v := 0) hx hb dX10_hour_121 (by decide) ?_
              refine va_zast hx hb hK hP hD hS 7 6 rfl rfl (up_in (by decide) hm (by decide) c_2 (by decide) (by decide)) dX10_hour_122 (fun H locs hP hD hS => ?_)
              have hP : va_P (dC, dI) vwCl (mw g h0 b (va_up i 1 z_1) (va_up (va_up (va_up (va_up (va_up a 5 f_5) 6 l6) 7 f_28) 10 (upd l10 ii.toNatClampNeg (vp_nar .boolean (0 : Int32)))) 11 f_32)) _ := hP
              have hD : va_D _ (mw g h0 b (va_up i 1 z_1) (va_up (va_up (va_up (va_up (va_up a 5 f_5) 6 l6) 7 f_28) 10 (upd l10 ii.toNatClampNeg (vp_nar .boolean (0 : Int32)))) 11 f_32)) := hD
              obtain ⟨f_33, ef_33⟩ : ∃ z, z = (upd l10 ii.toNatClampNeg (vp_nar .boolean (0 : Int32))) := ⟨_, rfl⟩
              rw [← ef_33] at hP hD
              refine lv_iinc (v := (ii + 1)) (lv' := [(1, .int (ii + 1)), (0, .ref h0)]) hx hb dX10_hour_123 hl (k := 0) rfl rfl (by decide) rfl (fun ls hl => ?_)
              refine lv_goto (tgt := 12) hx hb dX10_hour_126 (by decide) ?_
              exact ih (ii + 1) f_5 l6 f_28 f_33 f_32 _ _ _ (up_nx (by decide) hm (by decide) c_2)  hP hD hS (lv_sub hl [0, 1] rfl)
            · have nc_30 := ne_i c_30
              have lc_30 : (2 : Int32).toInt = 2 := by decide
              refine lv_aload_n hx hb dX10_hour_72 rfl (lv_at hl 1 rfl) ?_
              refine va_get (D := (dC, dI)) (ci := 10) (v := .ref (b 10)) (C := RX10) (T := TX10) (N := 51) hx hb hts inw_X10_hour_10 hown hK hP 0 rfl rfl 10 (by decide) (hts (.fieldLink RX10 28 "VatHouseModel" "isDipped" "[Z") (by decide +kernel)) (fun _ h9 => h9) rfl dX10_hour_73 ?_
              refine lv_iload_n hx hb dX10_hour_76 rfl (lv_at hl 0 rfl) ?_
              refine va_zald hx hb hK hP 7 6 rfl rfl (up_in (by decide) hm (by decide) c_2 (by decide) (by decide)) dX10_hour_77 ?_
              refine lv_topi (fun z_34 ez_34 => ?_)
              have ez_34 : z_34 = l10 ii.toNatClampNeg := ez_34
              refine lv_if_ne (tgt := 104) hx hb dX10_hour_78 (by decide) (fun c_35 => ?_) (fun c_35 => ?_)
              · have nc_35 := ne_i c_35
                have lc_35 : (0 : Int32).toInt = 0 := by decide
                refine lv_aload_n hx hb dX10_hour_104 rfl (lv_at hl 1 rfl) ?_
                refine va_get (D := (dC, dI)) (ci := 10) (v := .ref (b 11)) (C := RX10) (T := TX10) (N := 51) hx hb hts inw_X10_hour_10 hown hK hP 0 rfl rfl 11 (by decide) (hts (.fieldLink RX10 32 "VatHouseModel" "wasDipped" "[Z") (by decide +kernel)) (fun _ h9 => h9) rfl dX10_hour_105 ?_
                refine lv_iload_n hx hb dX10_hour_108 rfl (lv_at hl 0 rfl) ?_
                refine lv_aload_n hx hb dX10_hour_109 rfl (lv_at hl 1 rfl) ?_
                refine va_get (D := (dC, dI)) (ci := 10) (v := .ref (b 10)) (C := RX10) (T := TX10) (N := 51) hx hb hts inw_X10_hour_10 hown hK hP 0 rfl rfl 10 (by decide) (hts (.fieldLink RX10 28 "VatHouseModel" "isDipped" "[Z") (by decide +kernel)) (fun _ h9 => h9) rfl dX10_hour_110 ?_
                refine lv_iload_n hx hb dX10_hour_113 rfl (lv_at hl 0 rfl) ?_
                refine va_zald hx hb hK hP 7 6 rfl rfl (up_in (by decide) hm (by decide) c_2 (by decide) (by decide)) dX10_hour_114 ?_
                refine lv_topi (fun z_36 ez_36 => ?_)
                have ez_36 : z_36 = l10 ii.toNatClampNeg := ez_36
                refine va_zast hx hb hK hP hD hS 8 7 rfl rfl (up_in (by decide) hm (by decide) c_2 (by decide) (by decide)) dX10_hour_115 (fun H locs hP hD hS => ?_)
                have hP : va_P (dC, dI) vwCl (mw g h0 b (va_up i 1 z_1) (va_up (va_up (va_up (va_up (va_up a 5 f_5) 6 l6) 7 f_28) 10 l10) 11 (upd l11 ii.toNatClampNeg (vp_nar .boolean z_36)))) _ := hP
                have hD : va_D _ (mw g h0 b (va_up i 1 z_1) (va_up (va_up (va_up (va_up (va_up a 5 f_5) 6 l6) 7 f_28) 10 l10) 11 (upd l11 ii.toNatClampNeg (vp_nar .boolean z_36)))) := hD
                obtain ⟨f_37, ef_37⟩ : ∃ z, z = (upd l11 ii.toNatClampNeg (vp_nar .boolean z_36)) := ⟨_, rfl⟩
                rw [← ef_37] at hP hD
                refine lv_aload_n hx hb dX10_hour_116 rfl (lv_at hl 1 rfl) ?_
                refine va_get (D := (dC, dI)) (ci := 10) (v := .ref (b 10)) (C := RX10) (T := TX10) (N := 51) hx hb hts inw_X10_hour_10 hown hK hP 0 rfl rfl 10 (by decide) (hts (.fieldLink RX10 28 "VatHouseModel" "isDipped" "[Z") (by decide +kernel)) (fun _ h9 => h9) rfl dX10_hour_117 ?_
                refine lv_iload_n hx hb dX10_hour_120 rfl (lv_at hl 0 rfl) ?_
                refine lv_iconst (v := 0) hx hb dX10_hour_121 (by decide) ?_
                refine va_zast hx hb hK hP hD hS 7 6 rfl rfl (up_in (by decide) hm (by decide) c_2 (by decide) (by decide)) dX10_hour_122 (fun H locs hP hD hS => ?_)
                have hP : va_P (dC, dI) vwCl (mw g h0 b (va_up i 1 z_1) (va_up (va_up (va_up (va_up (va_up a 5 f_5) 6 l6) 7 f_28) 10 (upd l10 ii.toNatClampNeg (vp_nar .boolean (0 : Int32)))) 11 f_37)) _ := hP
                have hD : va_D _ (mw g h0 b (va_up i 1 z_1) (va_up (va_up (va_up (va_up (va_up a 5 f_5) 6 l6) 7 f_28) 10 (upd l10 ii.toNatClampNeg (vp_nar .boolean (0 : Int32)))) 11 f_37)) := hD
                obtain ⟨f_38, ef_38⟩ : ∃ z, z = (upd l10 ii.toNatClampNeg (vp_nar .boolean (0 : Int32))) := ⟨_, rfl⟩
                rw [← ef_38] at hP hD
                refine lv_iinc (v := (ii + 1)) (lv' := [(1, .int (ii + 1)), (0, .ref h0)]) hx hb dX10_hour_123 hl (k := 0) rfl rfl (by decide) rfl (fun ls hl => ?_)
                refine lv_goto (tgt := 12) hx hb dX10_hour_126 (by decide) ?_
                exact ih (ii + 1) f_5 l6 f_28 f_38 f_37 _ _ _ (up_nx (by decide) hm (by decide) c_2)  hP hD hS (lv_sub hl [0, 1] rfl)
              · have nc_35 := eq_i c_35
                have lc_35 : (0 : Int32).toInt = 0 := by decide
                refine lv_aload_n hx hb dX10_hour_81 rfl (lv_at hl 1 rfl) ?_
                refine va_get (D := (dC, dI)) (ci := 10) (v := .ref (b 11)) (C := RX10) (T := TX10) (N := 51) hx hb hts inw_X10_hour_10 hown hK hP 0 rfl rfl 11 (by decide) (hts (.fieldLink RX10 32 "VatHouseModel" "wasDipped" "[Z") (by decide +kernel)) (fun _ h9 => h9) rfl dX10_hour_82 ?_
                refine lv_iload_n hx hb dX10_hour_85 rfl (lv_at hl 0 rfl) ?_
                refine va_zald hx hb hK hP 8 7 rfl rfl (up_in (by decide) hm (by decide) c_2 (by decide) (by decide)) dX10_hour_86 ?_
                refine lv_topi (fun z_39 ez_39 => ?_)
                have ez_39 : z_39 = l11 ii.toNatClampNeg := ez_39
                refine lv_if_ne (tgt := 104) hx hb dX10_hour_87 (by decide) (fun c_40 => ?_) (fun c_40 => ?_)
                · have nc_40 := ne_i c_40
                  have lc_40 : (0 : Int32).toInt = 0 := by decide
                  refine lv_aload_n hx hb dX10_hour_104 rfl (lv_at hl 1 rfl) ?_
                  refine va_get (D := (dC, dI)) (ci := 10) (v := .ref (b 11)) (C := RX10) (T := TX10) (N := 51) hx hb hts inw_X10_hour_10 hown hK hP 0 rfl rfl 11 (by decide) (hts (.fieldLink RX10 32 "VatHouseModel" "wasDipped" "[Z") (by decide +kernel)) (fun _ h9 => h9) rfl dX10_hour_105 ?_
                  refine lv_iload_n hx hb dX10_hour_108 rfl (lv_at hl 0 rfl) ?_
                  refine lv_aload_n hx hb dX10_hour_109 rfl (lv_at hl 1 rfl) ?_
                  refine va_get (D := (dC, dI)) (ci := 10) (v := .ref (b 10)) (C := RX10) (T := TX10) (N := 51) hx hb hts inw_X10_hour_10 hown hK hP 0 rfl rfl 10 (by decide) (hts (.fieldLink RX10 28 "VatHouseModel" "isDipped" "[Z") (by decide +kernel)) (fun _ h9 => h9) rfl dX10_hour_110 ?_
                  refine lv_iload_n hx hb dX10_hour_113 rfl (lv_at hl 0 rfl) ?_
                  refine va_zald hx hb hK hP 7 6 rfl rfl (up_in (by decide) hm (by decide) c_2 (by decide) (by decide)) dX10_hour_114 ?_
                  refine lv_topi (fun z_41 ez_41 => ?_)
                  have ez_41 : z_41 = l10 ii.toNatClampNeg := ez_41
                  refine va_zast hx hb hK hP hD hS 8 7 rfl rfl (up_in (by decide) hm (by decide) c_2 (by decide) (by decide)) dX10_hour_115 (fun H locs hP hD hS => ?_)
                  have hP : va_P (dC, dI) vwCl (mw g h0 b (va_up i 1 z_1) (va_up (va_up (va_up (va_up (va_up a 5 f_5) 6 l6) 7 f_28) 10 l10) 11 (upd l11 ii.toNatClampNeg (vp_nar .boolean z_41)))) _ := hP
                  have hD : va_D _ (mw g h0 b (va_up i 1 z_1) (va_up (va_up (va_up (va_up (va_up a 5 f_5) 6 l6) 7 f_28) 10 l10) 11 (upd l11 ii.toNatClampNeg (vp_nar .boolean z_41)))) := hD
                  obtain ⟨f_42, ef_42⟩ : ∃ z, z = (upd l11 ii.toNatClampNeg (vp_nar .boolean z_41)) := ⟨_, rfl⟩
                  rw [← ef_42] at hP hD
                  refine lv_aload_n hx hb dX10_hour_116 rfl (lv_at hl 1 rfl) ?_
                  refine va_get (D := (dC, dI)) (ci := 10) (v := .ref (b 10)) (C := RX10) (T := TX10) (N := 51) hx hb hts inw_X10_hour_10 hown hK hP 0 rfl rfl 10 (by decide) (hts (.fieldLink RX10 28 "VatHouseModel" "isDipped" "[Z") (by decide +kernel)) (fun _ h9 => h9) rfl dX10_hour_117 ?_
                  refine lv_iload_n hx hb dX10_hour_120 rfl (lv_at hl 0 rfl) ?_
                  refine lv_iconst (v := 0) hx hb dX10_hour_121 (by decide) ?_
                  refine va_zast hx hb hK hP hD hS 7 6 rfl rfl (up_in (by decide) hm (by decide) c_2 (by decide) (by decide)) dX10_hour_122 (fun H locs hP hD hS => ?_)
                  have hP : va_P (dC, dI) vwCl (mw g h0 b (va_up i 1 z_1) (va_up (va_up (va_up (va_up (va_up a 5 f_5) 6 l6) 7 f_28) 10 (upd l10 ii.toNatClampNeg (vp_nar .boolean (0 : Int32)))) 11 f_42)) _ := hP
                  have hD : va_D _ (mw g h0 b (va_up i 1 z_1) (va_up (va_up (va_up (va_up (va_up a 5 f_5) 6 l6) 7 f_28) 10 (upd l10 ii.toNatClampNeg (vp_nar .boolean (0 : Int32)))) 11 f_42)) := hD
                  obtain ⟨f_43, ef_43⟩ : ∃ z, z = (upd l10 ii.toNatClampNeg (vp_nar .boolean (0 : Int32))) := ⟨_, rfl⟩
                  rw [← ef_43] at hP hD
                  refine lv_iinc (v := (ii + 1)) (lv' := [(1, .int (ii + 1)), (0, .ref h0)]) hx hb dX10_hour_123 hl (k := 0) rfl rfl (by decide) rfl (fun ls hl => ?_)
                  refine lv_goto (tgt := 12) hx hb dX10_hour_126 (by decide) ?_
                  exact ih (ii + 1) f_5 l6 f_28 f_43 f_42 _ _ _ (up_nx (by decide) hm (by decide) c_2)  hP hD hS (lv_sub hl [0, 1] rfl)
                · have nc_40 := eq_i c_40
                  have lc_40 : (0 : Int32).toInt = 0 := by decide
                  refine lv_aload_n hx hb dX10_hour_90 rfl (lv_at hl 1 rfl) ?_
                  refine va_get (D := (dC, dI)) (ci := 10) (v := .ref (b 7)) (C := RX10) (T := TX10) (N := 51) hx hb hts inw_X10_hour_10 hown hK hP 0 rfl rfl 7 (by decide) (hts (.fieldLink RX10 19 "VatHouseModel" "state" "[I") (by decide +kernel)) (fun _ h9 => h9) rfl dX10_hour_91 ?_
                  refine lv_iload_n hx hb dX10_hour_94 rfl (lv_at hl 0 rfl) ?_
                  refine lv_iconst (v := 0) hx hb dX10_hour_95 (by decide) ?_
                  refine va_iast hx hb hK hP hD hS 4 3 rfl rfl (up_in (by decide) hm (by decide) c_2 (by decide) (by decide)) dX10_hour_96 (fun H locs hP hD hS => ?_)
                  have hP : va_P (dC, dI) vwCl (mw g h0 b (va_up i 1 z_1) (va_up (va_up (va_up (va_up (va_up a 5 f_5) 6 l6) 7 (upd f_28 ii.toNatClampNeg (0 : Int32))) 10 l10) 11 l11)) _ := hP
                  have hD : va_D _ (mw g h0 b (va_up i 1 z_1) (va_up (va_up (va_up (va_up (va_up a 5 f_5) 6 l6) 7 (upd f_28 ii.toNatClampNeg (0 : Int32))) 10 l10) 11 l11)) := hD
                  obtain ⟨f_44, ef_44⟩ : ∃ z, z = (upd f_28 ii.toNatClampNeg (0 : Int32)) := ⟨_, rfl⟩
                  rw [← ef_44] at hP hD
                  refine lv_aload_n hx hb dX10_hour_97 rfl (lv_at hl 1 rfl) ?_
                  refine va_get (D := (dC, dI)) (ci := 10) (v := .ref (b 6)) (C := RX10) (T := TX10) (N := 51) hx hb hts inw_X10_hour_10 hown hK hP 0 rfl rfl 6 (by decide) (hts (.fieldLink RX10 16 "VatHouseModel" "minutes" "[I") (by decide +kernel)) (fun _ h9 => h9) rfl dX10_hour_98 ?_
                  refine lv_iload_n hx hb dX10_hour_101 rfl (lv_at hl 0 rfl) ?_
                  refine lv_iconst (v := 0) hx hb dX10_hour_102 (by decide) ?_
                  refine va_iast hx hb hK hP hD hS 3 2 rfl rfl (up_in (by decide) hm (by decide) c_2 (by decide) (by decide)) dX10_hour_103 (fun H locs hP hD hS => ?_)
                  have hP : va_P (dC, dI) vwCl (mw g h0 b (va_up i 1 z_1) (va_up (va_up (va_up (va_up (va_up a 5 f_5) 6 (upd l6 ii.toNatClampNeg (0 : Int32))) 7 f_44) 10 l10) 11 l11)) _ := hP
                  have hD : va_D _ (mw g h0 b (va_up i 1 z_1) (va_up (va_up (va_up (va_up (va_up a 5 f_5) 6 (upd l6 ii.toNatClampNeg (0 : Int32))) 7 f_44) 10 l10) 11 l11)) := hD
                  obtain ⟨f_45, ef_45⟩ : ∃ z, z = (upd l6 ii.toNatClampNeg (0 : Int32)) := ⟨_, rfl⟩
                  rw [← ef_45] at hP hD
                  refine lv_aload_n hx hb dX10_hour_104 rfl (lv_at hl 1 rfl) ?_
                  refine va_get (D := (dC, dI)) (ci := 10) (v := .ref (b 11)) (C := RX10) (T := TX10) (N := 51) hx hb hts inw_X10_hour_10 hown hK hP 0 rfl rfl 11 (by decide) (hts (.fieldLink RX10 32 "VatHouseModel" "wasDipped" "[Z") (by decide +kernel)) (fun _ h9 => h9) rfl dX10_hour_105 ?_
                  refine lv_iload_n hx hb dX10_hour_108 rfl (lv_at hl 0 rfl) ?_
                  refine lv_aload_n hx hb dX10_hour_109 rfl (lv_at hl 1 rfl) ?_
                  refine va_get (D := (dC, dI)) (ci := 10) (v := .ref (b 10)) (C := RX10) (T := TX10) (N := 51) hx hb hts inw_X10_hour_10 hown hK hP 0 rfl rfl 10 (by decide) (hts (.fieldLink RX10 28 "VatHouseModel" "isDipped" "[Z") (by decide +kernel)) (fun _ h9 => h9) rfl dX10_hour_110 ?_
                  refine lv_iload_n hx hb dX10_hour_113 rfl (lv_at hl 0 rfl) ?_
                  refine va_zald hx hb hK hP 7 6 rfl rfl (up_in (by decide) hm (by decide) c_2 (by decide) (by decide)) dX10_hour_114 ?_
                  refine lv_topi (fun z_46 ez_46 => ?_)
                  have ez_46 : z_46 = l10 ii.toNatClampNeg := ez_46
                  refine va_zast hx hb hK hP hD hS 8 7 rfl rfl (up_in (by decide) hm (by decide) c_2 (by decide) (by decide)) dX10_hour_115 (fun H locs hP hD hS => ?_)
                  have hP : va_P (dC, dI) vwCl (mw g h0 b (va_up i 1 z_1) (va_up (va_up (va_up (va_up (va_up a 5 f_5) 6 f_45) 7 f_44) 10 l10) 11 (upd l11 ii.toNatClampNeg (vp_nar .boolean z_46)))) _ := hP
                  have hD : va_D _ (mw g h0 b (va_up i 1 z_1) (va_up (va_up (va_up (va_up (va_up a 5 f_5) 6 f_45) 7 f_44) 10 l10) 11 (upd l11 ii.toNatClampNeg (vp_nar .boolean z_46)))) := hD
                  obtain ⟨f_47, ef_47⟩ : ∃ z, z = (upd l11 ii.toNatClampNeg (vp_nar .boolean z_46)) := ⟨_, rfl⟩
                  rw [← ef_47] at hP hD
                  refine lv_aload_n hx hb dX10_hour_116 rfl (lv_at hl 1 rfl) ?_
                  refine va_get (D := (dC, dI)) (ci := 10) (v := .ref (b 10)) (C := RX10) (T := TX10) (N := 51) hx hb hts inw_X10_hour_10 hown hK hP 0 rfl rfl 10 (by decide) (hts (.fieldLink RX10 28 "VatHouseModel" "isDipped" "[Z") (by decide +kernel)) (fun _ h9 => h9) rfl dX10_hour_117 ?_
                  refine lv_iload_n hx hb dX10_hour_120 rfl (lv_at hl 0 rfl) ?_
                  refine lv_iconst (v := 0) hx hb dX10_hour_121 (by decide) ?_
                  refine va_zast hx hb hK hP hD hS 7 6 rfl rfl (up_in (by decide) hm (by decide) c_2 (by decide) (by decide)) dX10_hour_122 (fun H locs hP hD hS => ?_)
                  have hP : va_P (dC, dI) vwCl (mw g h0 b (va_up i 1 z_1) (va_up (va_up (va_up (va_up (va_up a 5 f_5) 6 f_45) 7 f_44) 10 (upd l10 ii.toNatClampNeg (vp_nar .boolean (0 : Int32)))) 11 f_47)) _ := hP
                  have hD : va_D _ (mw g h0 b (va_up i 1 z_1) (va_up (va_up (va_up (va_up (va_up a 5 f_5) 6 f_45) 7 f_44) 10 (upd l10 ii.toNatClampNeg (vp_nar .boolean (0 : Int32)))) 11 f_47)) := hD
                  obtain ⟨f_48, ef_48⟩ : ∃ z, z = (upd l10 ii.toNatClampNeg (vp_nar .boolean (0 : Int32))) := ⟨_, rfl⟩
                  rw [← ef_48] at hP hD
                  refine lv_iinc (v := (ii + 1)) (lv' := [(1, .int (ii + 1)), (0, .ref h0)]) hx hb dX10_hour_123 hl (k := 0) rfl rfl (by decide) rfl (fun ls hl => ?_)
                  refine lv_goto (tgt := 12) hx hb dX10_hour_126 (by decide) ?_
                  exact ih (ii + 1) f_5 f_45 f_44 f_48 f_47 _ _ _ (up_nx (by decide) hm (by decide) c_2)  hP hD hS (lv_sub hl [0, 1] rfl)
        · have nc_4 := nle_i c_4
          have lc_4 : (5 : Int32).toInt = 5 := by decide
          refine lv_aload_n hx hb dX10_hour_33 rfl (lv_at hl 1 rfl) ?_
          refine va_get (D := (dC, dI)) (ci := 10) (v := .ref (b 5)) (C := RX10) (T := TX10) (N := 51) hx hb hts inw_X10_hour_10 hown hK hP 0 rfl rfl 5 (by decide) (hts (.fieldLink RX10 13 "VatHouseModel" "food" "[I") (by decide +kernel)) (fun _ h9 => h9) rfl dX10_hour_34 ?_
          refine lv_iload_n hx hb dX10_hour_37 rfl (lv_at hl 0 rfl) ?_
          refine va_iald hx hb hK hP 2 1 rfl rfl (up_in (by decide) hm (by decide) c_2 (by decide) (by decide)) dX10_hour_38 ?_
          refine lv_topi (fun z_49 ez_49 => ?_)
          have ez_49 : z_49 = l5 ii.toNatClampNeg := ez_49
          refine lv_iconst (v := 5) hx hb dX10_hour_39 (by decide) ?_
          refine lv_isub hx hb dX10_hour_40 ?_
          refine lv_topi (fun z_50 ez_50 => ?_)
          refine lv_goto (tgt := 45) hx hb dX10_hour_41 (by decide) ?_
          refine va_iast hx hb hK hP hD hS 2 1 rfl rfl (up_in (by decide) hm (by decide) c_2 (by decide) (by decide)) dX10_hour_45 (fun H locs hP hD hS => ?_)
          have hP : va_P (dC, dI) vwCl (mw g h0 b (va_up i 1 z_1) (va_up (va_up (va_up (va_up (va_up a 5 (upd l5 ii.toNatClampNeg z_50)) 6 l6) 7 l7) 10 l10) 11 l11)) _ := hP
          have hD : va_D _ (mw g h0 b (va_up i 1 z_1) (va_up (va_up (va_up (va_up (va_up a 5 (upd l5 ii.toNatClampNeg z_50)) 6 l6) 7 l7) 10 l10) 11 l11)) := hD
          obtain ⟨f_51, ef_51⟩ : ∃ z, z = (upd l5 ii.toNatClampNeg z_50) := ⟨_, rfl⟩
          rw [← ef_51] at hP hD
          refine lv_aload_n hx hb dX10_hour_46 rfl (lv_at hl 1 rfl) ?_
          refine va_get (D := (dC, dI)) (ci := 10) (v := .ref (b 5)) (C := RX10) (T := TX10) (N := 51) hx hb hts inw_X10_hour_10 hown hK hP 0 rfl rfl 5 (by decide) (hts (.fieldLink RX10 13 "VatHouseModel" "food" "[I") (by decide +kernel)) (fun _ h9 => h9) rfl dX10_hour_47 ?_
          refine lv_iload_n hx hb dX10_hour_50 rfl (lv_at hl 0 rfl) ?_
          refine va_iald hx hb hK hP 2 1 rfl rfl (up_in (by decide) hm (by decide) c_2 (by decide) (by decide)) dX10_hour_51 ?_
          refine lv_topi (fun z_52 ez_52 => ?_)
          have ez_52 : z_52 = f_51 ii.toNatClampNeg := ez_52
          refine lv_if_ne (tgt := 62) hx hb dX10_hour_52 (by decide) (fun c_53 => ?_) (fun c_53 => ?_)
          · have nc_53 := ne_i c_53
            have lc_53 : (0 : Int32).toInt = 0 := by decide
            refine lv_aload_n hx hb dX10_hour_62 rfl (lv_at hl 1 rfl) ?_
            refine va_get (D := (dC, dI)) (ci := 10) (v := .ref (b 7)) (C := RX10) (T := TX10) (N := 51) hx hb hts inw_X10_hour_10 hown hK hP 0 rfl rfl 7 (by decide) (hts (.fieldLink RX10 19 "VatHouseModel" "state" "[I") (by decide +kernel)) (fun _ h9 => h9) rfl dX10_hour_63 ?_
            refine lv_iload_n hx hb dX10_hour_66 rfl (lv_at hl 0 rfl) ?_
            refine va_iald hx hb hK hP 4 3 rfl rfl (up_in (by decide) hm (by decide) c_2 (by decide) (by decide)) dX10_hour_67 ?_
            refine lv_topi (fun z_54 ez_54 => ?_)
            have ez_54 : z_54 = l7 ii.toNatClampNeg := ez_54
            refine lv_iconst (v := 2) hx hb dX10_hour_68 (by decide) ?_
            refine lv_icmp_eq (tgt := 104) hx hb dX10_hour_69 (by decide) (fun c_55 => ?_) (fun c_55 => ?_)
            · have nc_55 := eq_i c_55
              have lc_55 : (2 : Int32).toInt = 2 := by decide
              refine lv_aload_n hx hb dX10_hour_104 rfl (lv_at hl 1 rfl) ?_
              refine va_get (D := (dC, dI)) (ci := 10) (v := .ref (b 11)) (C := RX10) (T := TX10) (N := 51) hx hb hts inw_X10_hour_10 hown hK hP 0 rfl rfl 11 (by decide) (hts (.fieldLink RX10 32 "VatHouseModel" "wasDipped" "[Z") (by decide +kernel)) (fun _ h9 => h9) rfl dX10_hour_105 ?_
              refine lv_iload_n hx hb dX10_hour_108 rfl (lv_at hl 0 rfl) ?_
              refine lv_aload_n hx hb dX10_hour_109 rfl (lv_at hl 1 rfl) ?_
              refine va_get (D := (dC, dI)) (ci := 10) (v := .ref (b 10)) (C := RX10) (T := TX10) (N := 51) hx hb hts inw_X10_hour_10 hown hK hP 0 rfl rfl 10 (by decide) (hts (.fieldLink RX10 28 "VatHouseModel" "isDipped" "[Z") (by decide +kernel)) (fun _ h9 => h9) rfl dX10_hour_110 ?_
              refine lv_iload_n hx hb dX10_hour_113 rfl (lv_at hl 0 rfl) ?_
              refine va_zald hx hb hK hP 7 6 rfl rfl (up_in (by decide) hm (by decide) c_2 (by decide) (by decide)) dX10_hour_114 ?_
              refine lv_topi (fun z_56 ez_56 => ?_)
              have ez_56 : z_56 = l10 ii.toNatClampNeg := ez_56
              refine va_zast hx hb hK hP hD hS 8 7 rfl rfl (up_in (by decide) hm (by decide) c_2 (by decide) (by decide)) dX10_hour_115 (fun H locs hP hD hS => ?_)
              have hP : va_P (dC, dI) vwCl (mw g h0 b (va_up i 1 z_1) (va_up (va_up (va_up (va_up (va_up a 5 f_51) 6 l6) 7 l7) 10 l10) 11 (upd l11 ii.toNatClampNeg (vp_nar .boolean z_56)))) _ := hP
              have hD : va_D _ (mw g h0 b (va_up i 1 z_1) (va_up (va_up (va_up (va_up (va_up a 5 f_51) 6 l6) 7 l7) 10 l10) 11 (upd l11 ii.toNatClampNeg (vp_nar .boolean z_56)))) := hD
              obtain ⟨f_57, ef_57⟩ : ∃ z, z = (upd l11 ii.toNatClampNeg (vp_nar .boolean z_56)) := ⟨_, rfl⟩
              rw [← ef_57] at hP hD
              refine lv_aload_n hx hb dX10_hour_116 rfl (lv_at hl 1 rfl) ?_
              refine va_get (D := (dC, dI)) (ci := 10) (v := .ref (b 10)) (C := RX10) (T := TX10) (N := 51) hx hb hts inw_X10_hour_10 hown hK hP 0 rfl rfl 10 (by decide) (hts (.fieldLink RX10 28 "VatHouseModel" "isDipped" "[Z") (by decide +kernel)) (fun _ h9 => h9) rfl dX10_hour_117 ?_
              refine lv_iload_n hx hb dX10_hour_120 rfl (lv_at hl 0 rfl) ?_
              refine lv_iconst (v := 0) hx hb dX10_hour_121 (by decide) ?_
              refine va_zast hx hb hK hP hD hS 7 6 rfl rfl (up_in (by decide) hm (by decide) c_2 (by decide) (by decide)) dX10_hour_122 (fun H locs hP hD hS => ?_)
              have hP : va_P (dC, dI) vwCl (mw g h0 b (va_up i 1 z_1) (va_up (va_up (va_up (va_up (va_up a 5 f_51) 6 l6) 7 l7) 10 (upd l10 ii.toNatClampNeg (vp_nar .boolean (0 : Int32)))) 11 f_57)) _ := hP
              have hD : va_D _ (mw g h0 b (va_up i 1 z_1) (va_up (va_up (va_up (va_up (va_up a 5 f_51) 6 l6) 7 l7) 10 (upd l10 ii.toNatClampNeg (vp_nar .boolean (0 : Int32)))) 11 f_57)) := hD
              obtain ⟨f_58, ef_58⟩ : ∃ z, z = (upd l10 ii.toNatClampNeg (vp_nar .boolean (0 : Int32))) := ⟨_, rfl⟩
              rw [← ef_58] at hP hD
              refine lv_iinc (v := (ii + 1)) (lv' := [(1, .int (ii + 1)), (0, .ref h0)]) hx hb dX10_hour_123 hl (k := 0) rfl rfl (by decide) rfl (fun ls hl => ?_)
              refine lv_goto (tgt := 12) hx hb dX10_hour_126 (by decide) ?_
              exact ih (ii + 1) f_51 l6 l7 f_58 f_57 _ _ _ (up_nx (by decide) hm (by decide) c_2)  hP hD hS (lv_sub hl [0, 1] rfl)
            · have nc_55 := ne_i c_55
              have lc_55 : (2 : Int32).toInt = 2 := by decide
              refine lv_aload_n hx hb dX10_hour_72 rfl (lv_at hl 1 rfl) ?_
              refine va_get (D := (dC, dI)) (ci := 10) (v := .ref (b 10)) (C := RX10) (T := TX10) (N := 51) hx hb hts inw_X10_hour_10 hown hK hP 0 rfl rfl 10 (by decide) (hts (.fieldLink RX10 28 "VatHouseModel" "isDipped" "[Z") (by decide +kernel)) (fun _ h9 => h9) rfl dX10_hour_73 ?_
              refine lv_iload_n hx hb dX10_hour_76 rfl (lv_at hl 0 rfl) ?_
              refine va_zald hx hb hK hP 7 6 rfl rfl (up_in (by decide) hm (by decide) c_2 (by decide) (by decide)) dX10_hour_77 ?_
              refine lv_topi (fun z_59 ez_59 => ?_)
              have ez_59 : z_59 = l10 ii.toNatClampNeg := ez_59
              refine lv_if_ne (tgt := 104) hx hb dX10_hour_78 (by decide) (fun c_60 => ?_) (fun c_60 => ?_)
              · have nc_60 := ne_i c_60
                have lc_60 : (0 : Int32).toInt = 0 := by decide
                refine lv_aload_n hx hb dX10_hour_104 rfl (lv_at hl 1 rfl) ?_
                refine va_get (D := (dC, dI)) (ci := 10) (v := .ref (b 11)) (C := RX10) (T := TX10) (N := 51) hx hb hts inw_X10_hour_10 hown hK hP 0 rfl rfl 11 (by decide) (hts (.fieldLink RX10 32 "VatHouseModel" "wasDipped" "[Z") (by decide +kernel)) (fun _ h9 => h9) rfl dX10_hour_105 ?_
                refine lv_iload_n hx hb dX10_hour_108 rfl (lv_at hl 0 rfl) ?_
                refine lv_aload_n hx hb dX10_hour_109 rfl (lv_at hl 1 rfl) ?_
                refine va_get (D := (dC, dI)) (ci := 10) (v := .ref (b 10)) (C := RX10) (T := TX10) (N := 51) hx hb hts inw_X10_hour_10 hown hK hP 0 rfl rfl 10 (by decide) (hts (.fieldLink RX10 28 "VatHouseModel" "isDipped" "[Z") (by decide +kernel)) (fun _ h9 => h9) rfl dX10_hour_110 ?_
                refine lv_iload_n hx hb dX10_hour_113 rfl (lv_at hl 0 rfl) ?_
                refine va_zald hx hb hK hP 7 6 rfl rfl (up_in (by decide) hm (by decide) c_2 (by decide) (by decide)) dX10_hour_114 ?_
                refine lv_topi (fun z_61 ez_61 => ?_)
                have ez_61 : z_61 = l10 ii.toNatClampNeg := ez_61
                refine va_zast hx hb hK hP hD hS 8 7 rfl rfl (up_in (by decide) hm (by decide) c_2 (by decide) (by decide)) dX10_hour_115 (fun H locs hP hD hS => ?_)
                have hP : va_P (dC, dI) vwCl (mw g h0 b (va_up i 1 z_1) (va_up (va_up (va_up (va_up (va_up a 5 f_51) 6 l6) 7 l7) 10 l10) 11 (upd l11 ii.toNatClampNeg (vp_nar .boolean z_61)))) _ := hP
                have hD : va_D _ (mw g h0 b (va_up i 1 z_1) (va_up (va_up (va_up (va_up (va_up a 5 f_51) 6 l6) 7 l7) 10 l10) 11 (upd l11 ii.toNatClampNeg (vp_nar .boolean z_61)))) := hD
                obtain ⟨f_62, ef_62⟩ : ∃ z, z = (upd l11 ii.toNatClampNeg (vp_nar .boolean z_61)) := ⟨_, rfl⟩
                rw [← ef_62] at hP hD
                refine lv_aload_n hx hb dX10_hour_116 rfl (lv_at hl 1 rfl) ?_
                refine va_get (D := (dC, dI)) (ci := 10) (v := .ref (b 10)) (C := RX10) (T := TX10) (N := 51) hx hb hts inw_X10_hour_10 hown hK hP 0 rfl rfl 10 (by decide) (hts (.fieldLink RX10 28 "VatHouseModel" "isDipped" "[Z") (by decide +kernel)) (fun _ h9 => h9) rfl dX10_hour_117 ?_
                refine lv_iload_n hx hb dX10_hour_120 rfl (lv_at hl 0 rfl) ?_
                refine lv_iconst (v := 0) hx hb dX10_hour_121 (by decide) ?_
                refine va_zast hx hb hK hP hD hS 7 6 rfl rfl (up_in (by decide) hm (by decide) c_2 (by decide) (by decide)) dX10_hour_122 (fun H locs hP hD hS => ?_)
                have hP : va_P (dC, dI) vwCl (mw g h0 b (va_up i 1 z_1) (va_up (va_up (va_up (va_up (va_up a 5 f_51) 6 l6) 7 l7) 10 (upd l10 ii.toNatClampNeg (vp_nar .boolean (0 : Int32)))) 11 f_62)) _ := hP
                have hD : va_D _ (mw g h0 b (va_up i 1 z_1) (va_up (va_up (va_up (va_up (va_up a 5 f_51) 6 l6) 7 l7) 10 (upd l10 ii.toNatClampNeg (vp_nar .boolean (0 : Int32)))) 11 f_62)) := hD
                obtain ⟨f_63, ef_63⟩ : ∃ z, z = (upd l10 ii.toNatClampNeg (vp_nar .boolean (0 : Int32))) := ⟨_, rfl⟩
                rw [← ef_63] at hP hD
                refine lv_iinc (v := (ii + 1)) (lv' := [(1, .int (ii + 1)), (0, .ref h0)]) hx hb dX10_hour_123 hl (k := 0) rfl rfl (by decide) rfl (fun ls hl => ?_)
                refine lv_goto (tgt := 12) hx hb dX10_hour_126 (by decide) ?_
                exact ih (ii + 1) f_51 l6 l7 f_63 f_62 _ _ _ (up_nx (by decide) hm (by decide) c_2)  hP hD hS (lv_sub hl [0, 1] rfl)
              · have nc_60 := eq_i c_60
                have lc_60 : (0 : Int32).toInt = 0 := by decide
                refine lv_aload_n hx hb dX10_hour_81 rfl (lv_at hl 1 rfl) ?_
                refine va_get (D := (dC, dI)) (ci := 10) (v := .ref (b 11)) (C := RX10) (T := TX10) (N := 51) hx hb hts inw_X10_hour_10 hown hK hP 0 rfl rfl 11 (by decide) (hts (.fieldLink RX10 32 "VatHouseModel" "wasDipped" "[Z") (by decide +kernel)) (fun _ h9 => h9) rfl dX10_hour_82 ?_
                refine lv_iload_n hx hb dX10_hour_85 rfl (lv_at hl 0 rfl) ?_
                refine va_zald hx hb hK hP 8 7 rfl rfl (up_in (by decide) hm (by decide) c_2 (by decide) (by decide)) dX10_hour_86 ?_
                refine lv_topi (fun z_64 ez_64 => ?_)
                have ez_64 : z_64 = l11 ii.toNatClampNeg := ez_64
                refine lv_if_ne (tgt := 104) hx hb dX10_hour_87 (by decide) (fun c_65 => ?_) (fun c_65 => ?_)
                · have nc_65 := ne_i c_65
                  have lc_65 : (0 : Int32).toInt = 0 := by decide
                  refine lv_aload_n hx hb dX10_hour_104 rfl (lv_at hl 1 rfl) ?_
                  refine va_get (D := (dC, dI)) (ci := 10) (v := .ref (b 11)) (C := RX10) (T := TX10) (N := 51) hx hb hts inw_X10_hour_10 hown hK hP 0 rfl rfl 11 (by decide) (hts (.fieldLink RX10 32 "VatHouseModel" "wasDipped" "[Z") (by decide +kernel)) (fun _ h9 => h9) rfl dX10_hour_105 ?_
                  refine lv_iload_n hx hb dX10_hour_108 rfl (lv_at hl 0 rfl) ?_
                  refine lv_aload_n hx hb dX10_hour_109 rfl (lv_at hl 1 rfl) ?_
                  refine va_get (D := (dC, dI)) (ci := 10) (v := .ref (b 10)) (C := RX10) (T := TX10) (N := 51) hx hb hts inw_X10_hour_10 hown hK hP 0 rfl rfl 10 (by decide) (hts (.fieldLink RX10 28 "VatHouseModel" "isDipped" "[Z") (by decide +kernel)) (fun _ h9 => h9) rfl dX10_hour_110 ?_
                  refine lv_iload_n hx hb dX10_hour_113 rfl (lv_at hl 0 rfl) ?_
                  refine va_zald hx hb hK hP 7 6 rfl rfl (up_in (by decide) hm (by decide) c_2 (by decide) (by decide)) dX10_hour_114 ?_
                  refine lv_topi (fun z_66 ez_66 => ?_)
                  have ez_66 : z_66 = l10 ii.toNatClampNeg := ez_66
                  refine va_zast hx hb hK hP hD hS 8 7 rfl rfl (up_in (by decide) hm (by decide) c_2 (by decide) (by decide)) dX10_hour_115 (fun H locs hP hD hS => ?_)
                  have hP : va_P (dC, dI) vwCl (mw g h0 b (va_up i 1 z_1) (va_up (va_up (va_up (va_up (va_up a 5 f_51) 6 l6) 7 l7) 10 l10) 11 (upd l11 ii.toNatClampNeg (vp_nar .boolean z_66)))) _ := hP
                  have hD : va_D _ (mw g h0 b (va_up i 1 z_1) (va_up (va_up (va_up (va_up (va_up a 5 f_51) 6 l6) 7 l7) 10 l10) 11 (upd l11 ii.toNatClampNeg (vp_nar .boolean z_66)))) := hD
                  obtain ⟨f_67, ef_67⟩ : ∃ z, z = (upd l11 ii.toNatClampNeg (vp_nar .boolean z_66)) := ⟨_, rfl⟩
                  rw [← ef_67] at hP hD
                  refine lv_aload_n hx hb dX10_hour_116 rfl (lv_at hl 1 rfl) ?_
                  refine va_get (D := (dC, dI)) (ci := 10) (v := .ref (b 10)) (C := RX10) (T := TX10) (N := 51) hx hb hts inw_X10_hour_10 hown hK hP 0 rfl rfl 10 (by decide) (hts (.fieldLink RX10 28 "VatHouseModel" "isDipped" "[Z") (by decide +kernel)) (fun _ h9 => h9) rfl dX10_hour_117 ?_
                  refine lv_iload_n hx hb dX10_hour_120 rfl (lv_at hl 0 rfl) ?_
                  refine lv_iconst (v := 0) hx hb dX10_hour_121 (by decide) ?_
                  refine va_zast hx hb hK hP hD hS 7 6 rfl rfl (up_in (by decide) hm (by decide) c_2 (by decide) (by decide)) dX10_hour_122 (fun H locs hP hD hS => ?_)
                  have hP : va_P (dC, dI) vwCl (mw g h0 b (va_up i 1 z_1) (va_up (va_up (va_up (va_up (va_up a 5 f_51) 6 l6) 7 l7) 10 (upd l10 ii.toNatClampNeg (vp_nar .boolean (0 : Int32)))) 11 f_67)) _ := hP
                  have hD : va_D _ (mw g h0 b (va_up i 1 z_1) (va_up (va_up (va_up (va_up (va_up a 5 f_51) 6 l6) 7 l7) 10 (upd l10 ii.toNatClampNeg (vp_nar .boolean (0 : Int32)))) 11 f_67)) := hD
                  obtain ⟨f_68, ef_68⟩ : ∃ z, z = (upd l10 ii.toNatClampNeg (vp_nar .boolean (0 : Int32))) := ⟨_, rfl⟩
                  rw [← ef_68] at hP hD
                  refine lv_iinc (v := (ii + 1)) (lv' := [(1, .int (ii + 1)), (0, .ref h0)]) hx hb dX10_hour_123 hl (k := 0) rfl rfl (by decide) rfl (fun ls hl => ?_)
                  refine lv_goto (tgt := 12) hx hb dX10_hour_126 (by decide) ?_
                  exact ih (ii + 1) f_51 l6 l7 f_68 f_67 _ _ _ (up_nx (by decide) hm (by decide) c_2)  hP hD hS (lv_sub hl [0, 1] rfl)
                · have nc_65 := eq_i c_65
                  have lc_65 : (0 : Int32).toInt = 0 := by decide
                  refine lv_aload_n hx hb dX10_hour_90 rfl (lv_at hl 1 rfl) ?_
                  refine va_get (D := (dC, dI)) (ci := 10) (v := .ref (b 7)) (C := RX10) (T := TX10) (N := 51) hx hb hts inw_X10_hour_10 hown hK hP 0 rfl rfl 7 (by decide) (hts (.fieldLink RX10 19 "VatHouseModel" "state" "[I") (by decide +kernel)) (fun _ h9 => h9) rfl dX10_hour_91 ?_
                  refine lv_iload_n hx hb dX10_hour_94 rfl (lv_at hl 0 rfl) ?_
                  refine lv_iconst (v := 0) hx hb dX10_hour_95 (by decide) ?_
                  refine va_iast hx hb hK hP hD hS 4 3 rfl rfl (up_in (by decide) hm (by decide) c_2 (by decide) (by decide)) dX10_hour_96 (fun H locs hP hD hS => ?_)
                  have hP : va_P (dC, dI) vwCl (mw g h0 b (va_up i 1 z_1) (va_up (va_up (va_up (va_up (va_up a 5 f_51) 6 l6) 7 (upd l7 ii.toNatClampNeg (0 : Int32))) 10 l10) 11 l11)) _ := hP
                  have hD : va_D _ (mw g h0 b (va_up i 1 z_1) (va_up (va_up (va_up (va_up (va_up a 5 f_51) 6 l6) 7 (upd l7 ii.toNatClampNeg (0 : Int32))) 10 l10) 11 l11)) := hD
                  obtain ⟨f_69, ef_69⟩ : ∃ z, z = (upd l7 ii.toNatClampNeg (0 : Int32)) := ⟨_, rfl⟩
                  rw [← ef_69] at hP hD
                  refine lv_aload_n hx hb dX10_hour_97 rfl (lv_at hl 1 rfl) ?_
                  refine va_get (D := (dC, dI)) (ci := 10) (v := .ref (b 6)) (C := RX10) (T := TX10) (N := 51) hx hb hts inw_X10_hour_10 hown hK hP 0 rfl rfl 6 (by decide) (hts (.fieldLink RX10 16 "VatHouseModel" "minutes" "[I") (by decide +kernel)) (fun _ h9 => h9) rfl dX10_hour_98 ?_
                  refine lv_iload_n hx hb dX10_hour_101 rfl (lv_at hl 0 rfl) ?_
                  refine lv_iconst (v := 0) hx hb dX10_hour_102 (by decide) ?_
                  refine va_iast hx hb hK hP hD hS 3 2 rfl rfl (up_in (by decide) hm (by decide) c_2 (by decide) (by decide)) dX10_hour_103 (fun H locs hP hD hS => ?_)
                  have hP : va_P (dC, dI) vwCl (mw g h0 b (va_up i 1 z_1) (va_up (va_up (va_up (va_up (va_up a 5 f_51) 6 (upd l6 ii.toNatClampNeg (0 : Int32))) 7 f_69) 10 l10) 11 l11)) _ := hP
                  have hD : va_D _ (mw g h0 b (va_up i 1 z_1) (va_up (va_up (va_up (va_up (va_up a 5 f_51) 6 (upd l6 ii.toNatClampNeg (0 : Int32))) 7 f_69) 10 l10) 11 l11)) := hD
                  obtain ⟨f_70, ef_70⟩ : ∃ z, z = (upd l6 ii.toNatClampNeg (0 : Int32)) := ⟨_, rfl⟩
                  rw [← ef_70] at hP hD
                  refine lv_aload_n hx hb dX10_hour_104 rfl (lv_at hl 1 rfl) ?_
                  refine va_get (D := (dC, dI)) (ci := 10) (v := .ref (b 11)) (C := RX10) (T := TX10) (N := 51) hx hb hts inw_X10_hour_10 hown hK hP 0 rfl rfl 11 (by decide) (hts (.fieldLink RX10 32 "VatHouseModel" "wasDipped" "[Z") (by decide +kernel)) (fun _ h9 => h9) rfl dX10_hour_105 ?_
                  refine lv_iload_n hx hb dX10_hour_108 rfl (lv_at hl 0 rfl) ?_
                  refine lv_aload_n hx hb dX10_hour_109 rfl (lv_at hl 1 rfl) ?_
                  refine va_get (D := (dC, dI)) (ci := 10) (v := .ref (b 10)) (C := RX10) (T := TX10) (N := 51) hx hb hts inw_X10_hour_10 hown hK hP 0 rfl rfl 10 (by decide) (hts (.fieldLink RX10 28 "VatHouseModel" "isDipped" "[Z") (by decide +kernel)) (fun _ h9 => h9) rfl dX10_hour_110 ?_
                  refine lv_iload_n hx hb dX10_hour_113 rfl (lv_at hl 0 rfl) ?_
                  refine va_zald hx hb hK hP 7 6 rfl rfl (up_in (by decide) hm (by decide) c_2 (by decide) (by decide)) dX10_hour_114 ?_
                  refine lv_topi (fun z_71 ez_71 => ?_)
                  have ez_71 : z_71 = l10 ii.toNatClampNeg := ez_71
                  refine va_zast hx hb hK hP hD hS 8 7 rfl rfl (up_in (by decide) hm (by decide) c_2 (by decide) (by decide)) dX10_hour_115 (fun H locs hP hD hS => ?_)
                  have hP : va_P (dC, dI) vwCl (mw g h0 b (va_up i 1 z_1) (va_up (va_up (va_up (va_up (va_up a 5 f_51) 6 f_70) 7 f_69) 10 l10) 11 (upd l11 ii.toNatClampNeg (vp_nar .boolean z_71)))) _ := hP
                  have hD : va_D _ (mw g h0 b (va_up i 1 z_1) (va_up (va_up (va_up (va_up (va_up a 5 f_51) 6 f_70) 7 f_69) 10 l10) 11 (upd l11 ii.toNatClampNeg (vp_nar .boolean z_71)))) := hD
                  obtain ⟨f_72, ef_72⟩ : ∃ z, z = (upd l11 ii.toNatClampNeg (vp_nar .boolean z_71)) := ⟨_, rfl⟩
                  rw [← ef_72] at hP hD
                  refine lv_aload_n hx hb dX10_hour_116 rfl (lv_at hl 1 rfl) ?_
                  refine va_get (D := (dC, dI)) (ci := 10) (v := .ref (b 10)) (C := RX10) (T := TX10) (N := 51) hx hb hts inw_X10_hour_10 hown hK hP 0 rfl rfl 10 (by decide) (hts (.fieldLink RX10 28 "VatHouseModel" "isDipped" "[Z") (by decide +kernel)) (fun _ h9 => h9) rfl dX10_hour_117 ?_
                  refine lv_iload_n hx hb dX10_hour_120 rfl (lv_at hl 0 rfl) ?_
                  refine lv_iconst (v := 0) hx hb dX10_hour_121 (by decide) ?_
                  refine va_zast hx hb hK hP hD hS 7 6 rfl rfl (up_in (by decide) hm (by decide) c_2 (by decide) (by decide)) dX10_hour_122 (fun H locs hP hD hS => ?_)
                  have hP : va_P (dC, dI) vwCl (mw g h0 b (va_up i 1 z_1) (va_up (va_up (va_up (va_up (va_up a 5 f_51) 6 f_70) 7 f_69) 10 (upd l10 ii.toNatClampNeg (vp_nar .boolean (0 : Int32)))) 11 f_72)) _ := hP
                  have hD : va_D _ (mw g h0 b (va_up i 1 z_1) (va_up (va_up (va_up (va_up (va_up a 5 f_51) 6 f_70) 7 f_69) 10 (upd l10 ii.toNatClampNeg (vp_nar .boolean (0 : Int32)))) 11 f_72)) := hD
                  obtain ⟨f_73, ef_73⟩ : ∃ z, z = (upd l10 ii.toNatClampNeg (vp_nar .boolean (0 : Int32))) := ⟨_, rfl⟩
                  rw [← ef_73] at hP hD
                  refine lv_iinc (v := (ii + 1)) (lv' := [(1, .int (ii + 1)), (0, .ref h0)]) hx hb dX10_hour_123 hl (k := 0) rfl rfl (by decide) rfl (fun ls hl => ?_)
                  refine lv_goto (tgt := 12) hx hb dX10_hour_126 (by decide) ?_
                  exact ih (ii + 1) f_51 f_70 f_69 f_73 f_72 _ _ _ (up_nx (by decide) hm (by decide) c_2)  hP hD hS (lv_sub hl [0, 1] rfl)
          · have nc_53 := eq_i c_53
            have lc_53 : (0 : Int32).toInt = 0 := by decide
            refine lv_aload_n hx hb dX10_hour_55 rfl (lv_at hl 1 rfl) ?_
            refine va_get (D := (dC, dI)) (ci := 10) (v := .ref (b 7)) (C := RX10) (T := TX10) (N := 51) hx hb hts inw_X10_hour_10 hown hK hP 0 rfl rfl 7 (by decide) (hts (.fieldLink RX10 19 "VatHouseModel" "state" "[I") (by decide +kernel)) (fun _ h9 => h9) rfl dX10_hour_56 ?_
            refine lv_iload_n hx hb dX10_hour_59 rfl (lv_at hl 0 rfl) ?_
            refine lv_iconst (v := 2) hx hb dX10_hour_60 (by decide) ?_
            refine va_iast hx hb hK hP hD hS 4 3 rfl rfl (up_in (by decide) hm (by decide) c_2 (by decide) (by decide)) dX10_hour_61 (fun H locs hP hD hS => ?_)
            have hP : va_P (dC, dI) vwCl (mw g h0 b (va_up i 1 z_1) (va_up (va_up (va_up (va_up (va_up a 5 f_51) 6 l6) 7 (upd l7 ii.toNatClampNeg (2 : Int32))) 10 l10) 11 l11)) _ := hP
            have hD : va_D _ (mw g h0 b (va_up i 1 z_1) (va_up (va_up (va_up (va_up (va_up a 5 f_51) 6 l6) 7 (upd l7 ii.toNatClampNeg (2 : Int32))) 10 l10) 11 l11)) := hD
            obtain ⟨f_74, ef_74⟩ : ∃ z, z = (upd l7 ii.toNatClampNeg (2 : Int32)) := ⟨_, rfl⟩
            rw [← ef_74] at hP hD
            refine lv_aload_n hx hb dX10_hour_62 rfl (lv_at hl 1 rfl) ?_
            refine va_get (D := (dC, dI)) (ci := 10) (v := .ref (b 7)) (C := RX10) (T := TX10) (N := 51) hx hb hts inw_X10_hour_10 hown hK hP 0 rfl rfl 7 (by decide) (hts (.fieldLink RX10 19 "VatHouseModel" "state" "[I") (by decide +kernel)) (fun _ h9 => h9) rfl dX10_hour_63 ?_
            refine lv_iload_n hx hb dX10_hour_66 rfl (lv_at hl 0 rfl) ?_
            refine va_iald hx hb hK hP 4 3 rfl rfl (up_in (by decide) hm (by decide) c_2 (by decide) (by decide)) dX10_hour_67 ?_
            refine lv_topi (fun z_75 ez_75 => ?_)
            have ez_75 : z_75 = f_74 ii.toNatClampNeg := ez_75
            refine lv_iconst (v := 2) hx hb dX10_hour_68 (by decide) ?_
            refine lv_icmp_eq (tgt := 104) hx hb dX10_hour_69 (by decide) (fun c_76 => ?_) (fun c_76 => ?_)
            · have nc_76 := eq_i c_76
              have lc_76 : (2 : Int32).toInt = 2 := by decide
              refine lv_aload_n hx hb dX10_hour_104 rfl (lv_at hl 1 rfl) ?_
              refine va_get (D := (dC, dI)) (ci := 10) (v := .ref (b 11)) (C := RX10) (T := TX10) (N := 51) hx hb hts inw_X10_hour_10 hown hK hP 0 rfl rfl 11 (by decide) (hts (.fieldLink RX10 32 "VatHouseModel" "wasDipped" "[Z") (by decide +kernel)) (fun _ h9 => h9) rfl dX10_hour_105 ?_
              refine lv_iload_n hx hb dX10_hour_108 rfl (lv_at hl 0 rfl) ?_
              refine lv_aload_n hx hb dX10_hour_109 rfl (lv_at hl 1 rfl) ?_
              refine va_get (D := (dC, dI)) (ci := 10) (v := .ref (b 10)) (C := RX10) (T := TX10) (N := 51) hx hb hts inw_X10_hour_10 hown hK hP 0 rfl rfl 10 (by decide) (hts (.fieldLink RX10 28 "VatHouseModel" "isDipped" "[Z") (by decide +kernel)) (fun _ h9 => h9) rfl dX10_hour_110 ?_
              refine lv_iload_n hx hb dX10_hour_113 rfl (lv_at hl 0 rfl) ?_
              refine va_zald hx hb hK hP 7 6 rfl rfl (up_in (by decide) hm (by decide) c_2 (by decide) (by decide)) dX10_hour_114 ?_
              refine lv_topi (fun z_77 ez_77 => ?_)
              have ez_77 : z_77 = l10 ii.toNatClampNeg := ez_77
              refine va_zast hx hb hK hP hD hS 8 7 rfl rfl (up_in (by decide) hm (by decide) c_2 (by decide) (by decide)) dX10_hour_115 (fun H locs hP hD hS => ?_)
              have hP : va_P (dC, dI) vwCl (mw g h0 b (va_up i 1 z_1) (va_up (va_up (va_up (va_up (va_up a 5 f_51) 6 l6) 7 f_74) 10 l10) 11 (upd l11 ii.toNatClampNeg (vp_nar .boolean z_77)))) _ := hP
              have hD : va_D _ (mw g h0 b (va_up i 1 z_1) (va_up (va_up (va_up (va_up (va_up a 5 f_51) 6 l6) 7 f_74) 10 l10) 11 (upd l11 ii.toNatClampNeg (vp_nar .boolean z_77)))) := hD
              obtain ⟨f_78, ef_78⟩ : ∃ z, z = (upd l11 ii.toNatClampNeg (vp_nar .boolean z_77)) := ⟨_, rfl⟩
              rw [← ef_78] at hP hD
              refine lv_aload_n hx hb dX10_hour_116 rfl (lv_at hl 1 rfl) ?_
              refine va_get (D := (dC, dI)) (ci := 10) (v := .ref (b 10)) (C := RX10) (T := TX10) (N := 51) hx hb hts inw_X10_hour_10 hown hK hP 0 rfl rfl 10 (by decide) (hts (.fieldLink RX10 28 "VatHouseModel" "isDipped" "[Z") (by decide +kernel)) (fun _ h9 => h9) rfl dX10_hour_117 ?_
              refine lv_iload_n hx hb dX10_hour_120 rfl (lv_at hl 0 rfl) ?_
              refine lv_iconst (v := 0) hx hb dX10_hour_121 (by decide) ?_
              refine va_zast hx hb hK hP hD hS 7 6 rfl rfl (up_in (by decide) hm (by decide) c_2 (by decide) (by decide)) dX10_hour_122 (fun H locs hP hD hS => ?_)
              have hP : va_P (dC, dI) vwCl (mw g h0 b (va_up i 1 z_1) (va_up (va_up (va_up (va_up (va_up a 5 f_51) 6 l6) 7 f_74) 10 (upd l10 ii.toNatClampNeg (vp_nar .boolean (0 : Int32)))) 11 f_78)) _ := hP
              have hD : va_D _ (mw g h0 b (va_up i 1 z_1) (va_up (va_up (va_up (va_up (va_up a 5 f_51) 6 l6) 7 f_74) 10 (upd l10 ii.toNatClampNeg (vp_nar .boolean (0 : Int32)))) 11 f_78)) := hD
              obtain ⟨f_79, ef_79⟩ : ∃ z, z = (upd l10 ii.toNatClampNeg (vp_nar .boolean (0 : Int32))) := ⟨_, rfl⟩
              rw [← ef_79] at hP hD
              refine lv_iinc (v := (ii + 1)) (lv' := [(1, .int (ii + 1)), (0, .ref h0)]) hx hb dX10_hour_123 hl (k := 0) rfl rfl (by decide) rfl (fun ls hl => ?_)
              refine lv_goto (tgt := 12) hx hb dX10_hour_126 (by decide) ?_
              exact ih (ii + 1) f_51 l6 f_74 f_79 f_78 _ _ _ (up_nx (by decide) hm (by decide) c_2)  hP hD hS (lv_sub hl [0, 1] rfl)
            · have nc_76 := ne_i c_76
              have lc_76 : (2 : Int32).toInt = 2 := by decide
              refine lv_aload_n hx hb dX10_hour_72 rfl (lv_at hl 1 rfl) ?_
              refine va_get (D := (dC, dI)) (ci := 10) (v := .ref (b 10)) (C := RX10) (T := TX10) (N := 51) hx hb hts inw_X10_hour_10 hown hK hP 0 rfl rfl 10 (by decide) (hts (.fieldLink RX10 28 "VatHouseModel" "isDipped" "[Z") (by decide +kernel)) (fun _ h9 => h9) rfl dX10_hour_73 ?_
              refine lv_iload_n hx hb dX10_hour_76 rfl (lv_at hl 0 rfl) ?_
              refine va_zald hx hb hK hP 7 6 rfl rfl (up_in (by decide) hm (by decide) c_2 (by decide) (by decide)) dX10_hour_77 ?_
              refine lv_topi (fun z_80 ez_80 => ?_)
              have ez_80 : z_80 = l10 ii.toNatClampNeg := ez_80
              refine lv_if_ne (tgt := 104) hx hb dX10_hour_78 (by decide) (fun c_81 => ?_) (fun c_81 => ?_)
              · have nc_81 := ne_i c_81
                have lc_81 : (0 : Int32).toInt = 0 := by decide
                refine lv_aload_n hx hb dX10_hour_104 rfl (lv_at hl 1 rfl) ?_
                refine va_get (D := (dC, dI)) (ci := 10) (v := .ref (b 11)) (C := RX10) (T := TX10) (N := 51) hx hb hts inw_X10_hour_10 hown hK hP 0 rfl rfl 11 (by decide) (hts (.fieldLink RX10 32 "VatHouseModel" "wasDipped" "[Z") (by decide +kernel)) (fun _ h9 => h9) rfl dX10_hour_105 ?_
                refine lv_iload_n hx hb dX10_hour_108 rfl (lv_at hl 0 rfl) ?_
                refine lv_aload_n hx hb dX10_hour_109 rfl (lv_at hl 1 rfl) ?_
                refine va_get (D := (dC, dI)) (ci := 10) (v := .ref (b 10)) (C := RX10) (T := TX10) (N := 51) hx hb hts inw_X10_hour_10 hown hK hP 0 rfl rfl 10 (by decide) (hts (.fieldLink RX10 28 "VatHouseModel" "isDipped" "[Z") (by decide +kernel)) (fun _ h9 => h9) rfl dX10_hour_110 ?_
                refine lv_iload_n hx hb dX10_hour_113 rfl (lv_at hl 0 rfl) ?_
                refine va_zald hx hb hK hP 7 6 rfl rfl (up_in (by decide) hm (by decide) c_2 (by decide) (by decide)) dX10_hour_114 ?_
                refine lv_topi (fun z_82 ez_82 => ?_)
                have ez_82 : z_82 = l10 ii.toNatClampNeg := ez_82
                refine va_zast hx hb hK hP hD hS 8 7 rfl rfl (up_in (by decide) hm (by decide) c_2 (by decide) (by decide)) dX10_hour_115 (fun H locs hP hD hS => ?_)
                have hP : va_P (dC, dI) vwCl (mw g h0 b (va_up i 1 z_1) (va_up (va_up (va_up (va_up (va_up a 5 f_51) 6 l6) 7 f_74) 10 l10) 11 (upd l11 ii.toNatClampNeg (vp_nar .boolean z_82)))) _ := hP
                have hD : va_D _ (mw g h0 b (va_up i 1 z_1) (va_up (va_up (va_up (va_up (va_up a 5 f_51) 6 l6) 7 f_74) 10 l10) 11 (upd l11 ii.toNatClampNeg (vp_nar .boolean z_82)))) := hD
                obtain ⟨f_83, ef_83⟩ : ∃ z, z = (upd l11 ii.toNatClampNeg (vp_nar .boolean z_82)) := ⟨_, rfl⟩
                rw [← ef_83] at hP hD
                refine lv_aload_n hx hb dX10_hour_116 rfl (lv_at hl 1 rfl) ?_
                refine va_get (D := (dC, dI)) (ci := 10) (v := .ref (b 10)) (C := RX10) (T := TX10) (N := 51) hx hb hts inw_X10_hour_10 hown hK hP 0 rfl rfl 10 (by decide) (hts (.fieldLink RX10 28 "VatHouseModel" "isDipped" "[Z") (by decide +kernel)) (fun _ h9 => h9) rfl dX10_hour_117 ?_
                refine lv_iload_n hx hb dX10_hour_120 rfl (lv_at hl 0 rfl) ?_
                refine lv_iconst (v := 0) hx hb dX10_hour_121 (by decide) ?_
                refine va_zast hx hb hK hP hD hS 7 6 rfl rfl (up_in (by decide) hm (by decide) c_2 (by decide) (by decide)) dX10_hour_122 (fun H locs hP hD hS => ?_)
                have hP : va_P (dC, dI) vwCl (mw g h0 b (va_up i 1 z_1) (va_up (va_up (va_up (va_up (va_up a 5 f_51) 6 l6) 7 f_74) 10 (upd l10 ii.toNatClampNeg (vp_nar .boolean (0 : Int32)))) 11 f_83)) _ := hP
                have hD : va_D _ (mw g h0 b (va_up i 1 z_1) (va_up (va_up (va_up (va_up (va_up a 5 f_51) 6 l6) 7 f_74) 10 (upd l10 ii.toNatClampNeg (vp_nar .boolean (0 : Int32)))) 11 f_83)) := hD
                obtain ⟨f_84, ef_84⟩ : ∃ z, z = (upd l10 ii.toNatClampNeg (vp_nar .boolean (0 : Int32))) := ⟨_, rfl⟩
                rw [← ef_84] at hP hD
                refine lv_iinc (v := (ii + 1)) (lv' := [(1, .int (ii + 1)), (0, .ref h0)]) hx hb dX10_hour_123 hl (k := 0) rfl rfl (by decide) rfl (fun ls hl => ?_)
                refine lv_goto (tgt := 12) hx hb dX10_hour_126 (by decide) ?_
                exact ih (ii + 1) f_51 l6 f_74 f_84 f_83 _ _ _ (up_nx (by decide) hm (by decide) c_2)  hP hD hS (lv_sub hl [0, 1] rfl)
              · have nc_81 := eq_i c_81
                have lc_81 : (0 : Int32).toInt = 0 := by decide
                refine lv_aload_n hx hb dX10_hour_81 rfl (lv_at hl 1 rfl) ?_
                refine va_get (D := (dC, dI)) (ci := 10) (v := .ref (b 11)) (C := RX10) (T := TX10) (N := 51) hx hb hts inw_X10_hour_10 hown hK hP 0 rfl rfl 11 (by decide) (hts (.fieldLink RX10 32 "VatHouseModel" "wasDipped" "[Z") (by decide +kernel)) (fun _ h9 => h9) rfl dX10_hour_82 ?_
                refine lv_iload_n hx hb dX10_hour_85 rfl (lv_at hl 0 rfl) ?_
                refine va_zald hx hb hK hP 8 7 rfl rfl (up_in (by decide) hm (by decide) c_2 (by decide) (by decide)) dX10_hour_86 ?_
                refine lv_topi (fun z_85 ez_85 => ?_)
                have ez_85 : z_85 = l11 ii.toNatClampNeg := ez_85
                refine lv_if_ne (tgt := 104) hx hb dX10_hour_87 (by decide) (fun c_86 => ?_) (fun c_86 => ?_)
                · have nc_86 := ne_i c_86
                  have lc_86 : (0 : Int32).toInt = 0 := by decide
                  refine lv_aload_n hx hb dX10_hour_104 rfl (lv_at hl 1 rfl) ?_
                  refine va_get (D := (dC, dI)) (ci := 10) (v := .ref (b 11)) (C := RX10) (T := TX10) (N := 51) hx hb hts inw_X10_hour_10 hown hK hP 0 rfl rfl 11 (by decide) (hts (.fieldLink RX10 32 "VatHouseModel" "wasDipped" "[Z") (by decide +kernel)) (fun _ h9 => h9) rfl dX10_hour_105 ?_
                  refine lv_iload_n hx hb dX10_hour_108 rfl (lv_at hl 0 rfl) ?_
                  refine lv_aload_n hx hb dX10_hour_109 rfl (lv_at hl 1 rfl) ?_
                  refine va_get (D := (dC, dI)) (ci := 10) (v := .ref (b 10)) (C := RX10) (T := TX10) (N := 51) hx hb hts inw_X10_hour_10 hown hK hP 0 rfl rfl 10 (by decide) (hts (.fieldLink RX10 28 "VatHouseModel" "isDipped" "[Z") (by decide +kernel)) (fun _ h9 => h9) rfl dX10_hour_110 ?_
                  refine lv_iload_n hx hb dX10_hour_113 rfl (lv_at hl 0 rfl) ?_
                  refine va_zald hx hb hK hP 7 6 rfl rfl (up_in (by decide) hm (by decide) c_2 (by decide) (by decide)) dX10_hour_114 ?_
                  refine lv_topi (fun z_87 ez_87 => ?_)
                  have ez_87 : z_87 = l10 ii.toNatClampNeg := ez_87
                  refine va_zast hx hb hK hP hD hS 8 7 rfl rfl (up_in (by decide) hm (by decide) c_2 (by decide) (by decide)) dX10_hour_115 (fun H locs hP hD hS => ?_)
                  have hP : va_P (dC, dI) vwCl (mw g h0 b (va_up i 1 z_1) (va_up (va_up (va_up (va_up (va_up a 5 f_51) 6 l6) 7 f_74) 10 l10) 11 (upd l11 ii.toNatClampNeg (vp_nar .boolean z_87)))) _ := hP
                  have hD : va_D _ (mw g h0 b (va_up i 1 z_1) (va_up (va_up (va_up (va_up (va_up a 5 f_51) 6 l6) 7 f_74) 10 l10) 11 (upd l11 ii.toNatClampNeg (vp_nar .boolean z_87)))) := hD
                  obtain ⟨f_88, ef_88⟩ : ∃ z, z = (upd l11 ii.toNatClampNeg (vp_nar .boolean z_87)) := ⟨_, rfl⟩
                  rw [← ef_88] at hP hD
                  refine lv_aload_n hx hb dX10_hour_116 rfl (lv_at hl 1 rfl) ?_
                  refine va_get (D := (dC, dI)) (ci := 10) (v := .ref (b 10)) (C := RX10) (T := TX10) (N := 51) hx hb hts inw_X10_hour_10 hown hK hP 0 rfl rfl 10 (by decide) (hts (.fieldLink RX10 28 "VatHouseModel" "isDipped" "[Z") (by decide +kernel)) (fun _ h9 => h9) rfl dX10_hour_117 ?_
                  refine lv_iload_n hx hb dX10_hour_120 rfl (lv_at hl 0 rfl) ?_
                  refine lv_iconst (v := 0) hx hb dX10_hour_121 (by decide) ?_
                  refine va_zast hx hb hK hP hD hS 7 6 rfl rfl (up_in (by decide) hm (by decide) c_2 (by decide) (by decide)) dX10_hour_122 (fun H locs hP hD hS => ?_)
                  have hP : va_P (dC, dI) vwCl (mw g h0 b (va_up i 1 z_1) (va_up (va_up (va_up (va_up (va_up a 5 f_51) 6 l6) 7 f_74) 10 (upd l10 ii.toNatClampNeg (vp_nar .boolean (0 : Int32)))) 11 f_88)) _ := hP
                  have hD : va_D _ (mw g h0 b (va_up i 1 z_1) (va_up (va_up (va_up (va_up (va_up a 5 f_51) 6 l6) 7 f_74) 10 (upd l10 ii.toNatClampNeg (vp_nar .boolean (0 : Int32)))) 11 f_88)) := hD
                  obtain ⟨f_89, ef_89⟩ : ∃ z, z = (upd l10 ii.toNatClampNeg (vp_nar .boolean (0 : Int32))) := ⟨_, rfl⟩
                  rw [← ef_89] at hP hD
                  refine lv_iinc (v := (ii + 1)) (lv' := [(1, .int (ii + 1)), (0, .ref h0)]) hx hb dX10_hour_123 hl (k := 0) rfl rfl (by decide) rfl (fun ls hl => ?_)
                  refine lv_goto (tgt := 12) hx hb dX10_hour_126 (by decide) ?_
                  exact ih (ii + 1) f_51 l6 f_74 f_89 f_88 _ _ _ (up_nx (by decide) hm (by decide) c_2)  hP hD hS (lv_sub hl [0, 1] rfl)
                · have nc_86 := eq_i c_86
                  have lc_86 : (0 : Int32).toInt = 0 := by decide
                  refine lv_aload_n hx hb dX10_hour_90 rfl (lv_at hl 1 rfl) ?_
                  refine va_get (D := (dC, dI)) (ci := 10) (v := .ref (b 7)) (C := RX10) (T := TX10) (N := 51) hx hb hts inw_X10_hour_10 hown hK hP 0 rfl rfl 7 (by decide) (hts (.fieldLink RX10 19 "VatHouseModel" "state" "[I") (by decide +kernel)) (fun _ h9 => h9) rfl dX10_hour_91 ?_
                  refine lv_iload_n hx hb dX10_hour_94 rfl (lv_at hl 0 rfl) ?_
                  refine lv_iconst (v := 0) hx hb dX10_hour_95 (by decide) ?_
                  refine va_iast hx hb hK hP hD hS 4 3 rfl rfl (up_in (by decide) hm (by decide) c_2 (by decide) (by decide)) dX10_hour_96 (fun H locs hP hD hS => ?_)
                  have hP : va_P (dC, dI) vwCl (mw g h0 b (va_up i 1 z_1) (va_up (va_up (va_up (va_up (va_up a 5 f_51) 6 l6) 7 (upd f_74 ii.toNatClampNeg (0 : Int32))) 10 l10) 11 l11)) _ := hP
                  have hD : va_D _ (mw g h0 b (va_up i 1 z_1) (va_up (va_up (va_up (va_up (va_up a 5 f_51) 6 l6) 7 (upd f_74 ii.toNatClampNeg (0 : Int32))) 10 l10) 11 l11)) := hD
                  obtain ⟨f_90, ef_90⟩ : ∃ z, z = (upd f_74 ii.toNatClampNeg (0 : Int32)) := ⟨_, rfl⟩
                  rw [← ef_90] at hP hD
                  refine lv_aload_n hx hb dX10_hour_97 rfl (lv_at hl 1 rfl) ?_
                  refine va_get (D := (dC, dI)) (ci := 10) (v := .ref (b 6)) (C := RX10) (T := TX10) (N := 51) hx hb hts inw_X10_hour_10 hown hK hP 0 rfl rfl 6 (by decide) (hts (.fieldLink RX10 16 "VatHouseModel" "minutes" "[I") (by decide +kernel)) (fun _ h9 => h9) rfl dX10_hour_98 ?_
                  refine lv_iload_n hx hb dX10_hour_101 rfl (lv_at hl 0 rfl) ?_
                  refine lv_iconst (v := 0) hx hb dX10_hour_102 (by decide) ?_
                  refine va_iast hx hb hK hP hD hS 3 2 rfl rfl (up_in (by decide) hm (by decide) c_2 (by decide) (by decide)) dX10_hour_103 (fun H locs hP hD hS => ?_)
                  have hP : va_P (dC, dI) vwCl (mw g h0 b (va_up i 1 z_1) (va_up (va_up (va_up (va_up (va_up a 5 f_51) 6 (upd l6 ii.toNatClampNeg (0 : Int32))) 7 f_90) 10 l10) 11 l11)) _ := hP
                  have hD : va_D _ (mw g h0 b (va_up i 1 z_1) (va_up (va_up (va_up (va_up (va_up a 5 f_51) 6 (upd l6 ii.toNatClampNeg (0 : Int32))) 7 f_90) 10 l10) 11 l11)) := hD
                  obtain ⟨f_91, ef_91⟩ : ∃ z, z = (upd l6 ii.toNatClampNeg (0 : Int32)) := ⟨_, rfl⟩
                  rw [← ef_91] at hP hD
                  refine lv_aload_n hx hb dX10_hour_104 rfl (lv_at hl 1 rfl) ?_
                  refine va_get (D := (dC, dI)) (ci := 10) (v := .ref (b 11)) (C := RX10) (T := TX10) (N := 51) hx hb hts inw_X10_hour_10 hown hK hP 0 rfl rfl 11 (by decide) (hts (.fieldLink RX10 32 "VatHouseModel" "wasDipped" "[Z") (by decide +kernel)) (fun _ h9 => h9) rfl dX10_hour_105 ?_
                  refine lv_iload_n hx hb dX10_hour_108 rfl (lv_at hl 0 rfl) ?_
                  refine lv_aload_n hx hb dX10_hour_109 rfl (lv_at hl 1 rfl) ?_
                  refine va_get (D := (dC, dI)) (ci := 10) (v := .ref (b 10)) (C := RX10) (T := TX10) (N := 51) hx hb hts inw_X10_hour_10 hown hK hP 0 rfl rfl 10 (by decide) (hts (.fieldLink RX10 28 "VatHouseModel" "isDipped" "[Z") (by decide +kernel)) (fun _ h9 => h9) rfl dX10_hour_110 ?_
                  refine lv_iload_n hx hb dX10_hour_113 rfl (lv_at hl 0 rfl) ?_
                  refine va_zald hx hb hK hP 7 6 rfl rfl (up_in (by decide) hm (by decide) c_2 (by decide) (by decide)) dX10_hour_114 ?_
                  refine lv_topi (fun z_92 ez_92 => ?_)
                  have ez_92 : z_92 = l10 ii.toNatClampNeg := ez_92
                  refine va_zast hx hb hK hP hD hS 8 7 rfl rfl (up_in (by decide) hm (by decide) c_2 (by decide) (by decide)) dX10_hour_115 (fun H locs hP hD hS => ?_)
                  have hP : va_P (dC, dI) vwCl (mw g h0 b (va_up i 1 z_1) (va_up (va_up (va_up (va_up (va_up a 5 f_51) 6 f_91) 7 f_90) 10 l10) 11 (upd l11 ii.toNatClampNeg (vp_nar .boolean z_92)))) _ := hP
                  have hD : va_D _ (mw g h0 b (va_up i 1 z_1) (va_up (va_up (va_up (va_up (va_up a 5 f_51) 6 f_91) 7 f_90) 10 l10) 11 (upd l11 ii.toNatClampNeg (vp_nar .boolean z_92)))) := hD
                  obtain ⟨f_93, ef_93⟩ : ∃ z, z = (upd l11 ii.toNatClampNeg (vp_nar .boolean z_92)) := ⟨_, rfl⟩
                  rw [← ef_93] at hP hD
                  refine lv_aload_n hx hb dX10_hour_116 rfl (lv_at hl 1 rfl) ?_
                  refine va_get (D := (dC, dI)) (ci := 10) (v := .ref (b 10)) (C := RX10) (T := TX10) (N := 51) hx hb hts inw_X10_hour_10 hown hK hP 0 rfl rfl 10 (by decide) (hts (.fieldLink RX10 28 "VatHouseModel" "isDipped" "[Z") (by decide +kernel)) (fun _ h9 => h9) rfl dX10_hour_117 ?_
                  refine lv_iload_n hx hb dX10_hour_120 rfl (lv_at hl 0 rfl) ?_
                  refine lv_iconst (v := 0) hx hb dX10_hour_121 (by decide) ?_
                  refine va_zast hx hb hK hP hD hS 7 6 rfl rfl (up_in (by decide) hm (by decide) c_2 (by decide) (by decide)) dX10_hour_122 (fun H locs hP hD hS => ?_)
                  have hP : va_P (dC, dI) vwCl (mw g h0 b (va_up i 1 z_1) (va_up (va_up (va_up (va_up (va_up a 5 f_51) 6 f_91) 7 f_90) 10 (upd l10 ii.toNatClampNeg (vp_nar .boolean (0 : Int32)))) 11 f_93)) _ := hP
                  have hD : va_D _ (mw g h0 b (va_up i 1 z_1) (va_up (va_up (va_up (va_up (va_up a 5 f_51) 6 f_91) 7 f_90) 10 (upd l10 ii.toNatClampNeg (vp_nar .boolean (0 : Int32)))) 11 f_93)) := hD
                  obtain ⟨f_94, ef_94⟩ : ∃ z, z = (upd l10 ii.toNatClampNeg (vp_nar .boolean (0 : Int32))) := ⟨_, rfl⟩
                  rw [← ef_94] at hP hD
                  refine lv_iinc (v := (ii + 1)) (lv' := [(1, .int (ii + 1)), (0, .ref h0)]) hx hb dX10_hour_123 hl (k := 0) rfl rfl (by decide) rfl (fun ls hl => ?_)
                  refine lv_goto (tgt := 12) hx hb dX10_hour_126 (by decide) ?_
                  exact ih (ii + 1) f_51 f_91 f_90 f_94 f_93 _ _ _ (up_nx (by decide) hm (by decide) c_2)  hP hD hS (lv_sub hl [0, 1] rfl)
  exact lp 7 (0 : Int32) (a 5) (a 6) (a 7) (a 10) (a 11) _ _ _ (⟨0, nI_0.symm, by omega, by omega⟩)  hP hD hS (lv_sub hl [0, 1] rfl)

abbrev rm_X10_hours : Room := { frames := 1, cells := 0, slots := 0, locals := 22 }
theorem inw_X10_hours_10 : ∀ w ∈ wsX100, w ∈ wsX10_hours := by decide +kernel
set_option maxHeartbeats 1000000 in
set_option maxRecDepth 100000 in
theorem m_X10_hours (l : Launch) (dC : Nat → ClassId) (dI : Nat → Nat → Nat) (sa : Nat → Nat) (g : Nat → Nat) (h0 : Nat) (b : Nat → Nat) (i : Nat → Int32) (a : Nat → Nat → Int32) (nn : Int32) (sz : Nat) : CT l dC dI sa yX10_hours wsX10_hours rm_X10_hours [.ref h0, .int nn] (mw g h0 b i a) (tyM g) sz (fun (r : Option Value) (u : Int32 × Int32 × (Nat → Int32) × (Nat → Int32) × (Nat → Int32) × (Nat → Int32) × (Nat → Int32)) => match u with | (x0, x1, y5, y6, y7, y10, y11) => (∃ z : Int32, r = some (.int z)) ∧ (True)) (fun (u : Int32 × Int32 × (Nat → Int32) × (Nat → Int32) × (Nat → Int32) × (Nat → Int32) × (Nat → Int32)) => match u with | (x0, x1, y5, y6, y7, y10, y11) => mw g h0 b (va_up (va_up i 0 x0) 1 x1) (va_up (va_up (va_up (va_up (va_up a 5 y5) 6 y6) 7 y7) 10 y10) 11 y11)) (fun _ => []) 0 0 := by
  refine CT.start (cc := cX10_hours) (maxL := 3) (ret := (some .int)) (by decide) rfl (Nat.le_of_ble_eq_true rfl) ?_
  intro p e s m below meth c ls hst hP hK hD hev hS hl
  obtain ⟨hx, hb, hr, hml, hts, hown, hlocks, hin⟩ := hst
  have hown : s.vm.findClass RX10 = some m.cls := hown
  have hA : ∀ q : Nat, s.heap.size ≤ q → va_A (mw g h0 b i a) s.heap.size q := fun _ h => Or.inr h
  have hl : lv_has ls 3 [(0, .ref h0), (1, .int nn)] := hl
  refine lv_aload_n hx hb dX10_hours_0 rfl (lv_at hl 0 rfl) ?_
  refine lv_iconst (v := 0) hx hb dX10_hours_1 (by decide) ?_
  refine va_put (D := (dC, dI)) (ci := 10) (v := .int 0) (ty := .int) (C := RX10) (T := TX10) (N := 51) hx hb hts inw_X10_hours_10 tyX10 tyX10_ok nmX10 hown hK hP hD hS 0 rfl rfl 0 (by decide) (hts (.fieldLink RX10 105 "VatHouseModel" "thrown" "I") (by decide +kernel)) (fun _ h9 => h9) rfl (by decide +kernel) rfl rfl (Nat.le_of_ble_eq_true rfl) dX10_hours_2 (fun H locs hP hD hS => ?_)
  have hP : va_P (dC, dI) vwCl (mw g h0 b (va_up i 0 (0 : Int32)) a) _ := hP
  have hD : va_D _ (mw g h0 b (va_up i 0 (0 : Int32)) a) := hD
  refine lv_aload_n hx hb dX10_hours_5 rfl (lv_at hl 0 rfl) ?_
  refine lv_iload_n hx hb dX10_hours_6 rfl (lv_at hl 1 rfl) ?_
  refine lv_if_lt (tgt := 21) hx hb dX10_hours_7 (by decide) (fun c_1 => ?_) (fun c_1 => ?_)
  · have nc_1 := lt_i c_1
    have lc_1 : (0 : Int32).toInt = 0 := by decide
    refine lv_iconst (v := 0) hx hb dX10_hours_21 (by decide) ?_
    refine lv_iconst (v := 1) hx hb dX10_hours_22 (by decide) ?_
    refine M_V ⟨hx, hb, hml, hown, hts⟩ (m_X10_right l dC dI sa g h0 b (va_up i 0 (0 : Int32)) a (0 : Int32) (1 : Int32) _ (by decide)) (cwV 2 hts gX10_hours_X10_right rfl rfl rfl (by decide +kernel) ⟨Nat.le_of_ble_eq_true rfl, Nat.le_of_ble_eq_true rfl⟩) hP hD hK hS hA hev rfl rfl rfl rfl hl.1 rfl (Nat.le_of_ble_eq_true rfl) dX10_hours_23 ⟨(Nat.le_of_ble_eq_true rfl), (Nat.le_of_ble_eq_true rfl)⟩ (fun r u H locs hw hP hD hS => ?_)
    obtain ⟨x0_2, rfl⟩ : ∃ z, z = u := ⟨_, rfl⟩
    have hw : ((r = some (.int 0) ∧ (True)) ∨ (r = some (.int 1) ∧ (¬ (0 : Int32) = 0))) ∧ (True) := hw
    obtain ⟨⟨rfl, hz2_4⟩ | ⟨rfl, hz2_4⟩, hw_3⟩ := hw
    · have hP : va_P (dC, dI) vwCl (mw g h0 b (va_up i 0 x0_2) a) _ := hP
      have hD : va_D _ (mw g h0 b (va_up i 0 x0_2) a) := hD
      refine W.eq (g2 := F0 m 26 ls [.int 0]) rfl ?_
      refine lv_if_ne (tgt := 31) hx hb dX10_hours_26 (by decide) (fun c_5 => absurd c_5 (by decide)) (fun _ => ?_)
      refine lv_iconst (v := 0) hx hb dX10_hours_29 (by decide) ?_
      exact M_i hx hb hr hlocks (x0_2, (i 1), (a 5), (a 6), (a 7), (a 10), (a 11)) hP hD hK hS ⟨⟨_, rfl⟩, trivial⟩ (Nat.le_of_ble_eq_true rfl) (Nat.le_of_ble_eq_true rfl) dX10_hours_30
    · have hP : va_P (dC, dI) vwCl (mw g h0 b (va_up i 0 x0_2) a) _ := hP
      have hD : va_D _ (mw g h0 b (va_up i 0 x0_2) a) := hD
      refine W.eq (g2 := F0 m 26 ls [.int 1]) rfl ?_
      exact absurd rfl hz2_4
  · have nc_1 := nlt_i c_1
    have lc_1 : (0 : Int32).toInt = 0 := by decide
    refine lv_iload_n hx hb dX10_hours_10 rfl (lv_at hl 1 rfl) ?_
    refine lv_sipush (v := 10000) hx hb dX10_hours_11 (by decide) ?_
    refine lv_icmp_gt (tgt := 21) hx hb dX10_hours_14 (by decide) (fun c_6 => ?_) (fun c_6 => ?_)
    · have nc_6 := lt_i c_6
      have lc_6 : (10000 : Int32).toInt = 10000 := by decide
      refine lv_iconst (v := 0) hx hb dX10_hours_21 (by decide) ?_
      refine lv_iconst (v := 1) hx hb dX10_hours_22 (by decide) ?_
      refine M_V ⟨hx, hb, hml, hown, hts⟩ (m_X10_right l dC dI sa g h0 b (va_up i 0 (0 : Int32)) a (0 : Int32) (1 : Int32) _ (by decide)) (cwV 2 hts gX10_hours_X10_right rfl rfl rfl (by decide +kernel) ⟨Nat.le_of_ble_eq_true rfl, Nat.le_of_ble_eq_true rfl⟩) hP hD hK hS hA hev rfl rfl rfl rfl hl.1 rfl (Nat.le_of_ble_eq_true rfl) dX10_hours_23 ⟨(Nat.le_of_ble_eq_true rfl), (Nat.le_of_ble_eq_true rfl)⟩ (fun r u H locs hw hP hD hS => ?_)
      obtain ⟨x0_7, rfl⟩ : ∃ z, z = u := ⟨_, rfl⟩
      have hw : ((r = some (.int 0) ∧ (True)) ∨ (r = some (.int 1) ∧ (¬ (0 : Int32) = 0))) ∧ (True) := hw
      obtain ⟨⟨rfl, hz2_9⟩ | ⟨rfl, hz2_9⟩, hw_8⟩ := hw
      · have hP : va_P (dC, dI) vwCl (mw g h0 b (va_up i 0 x0_7) a) _ := hP
        have hD : va_D _ (mw g h0 b (va_up i 0 x0_7) a) := hD
        refine W.eq (g2 := F0 m 26 ls [.int 0]) rfl ?_
        refine lv_if_ne (tgt := 31) hx hb dX10_hours_26 (by decide) (fun c_10 => absurd c_10 (by decide)) (fun _ => ?_)
        refine lv_iconst (v := 0) hx hb dX10_hours_29 (by decide) ?_
        exact M_i hx hb hr hlocks (x0_7, (i 1), (a 5), (a 6), (a 7), (a 10), (a 11)) hP hD hK hS ⟨⟨_, rfl⟩, trivial⟩ (Nat.le_of_ble_eq_true rfl) (Nat.le_of_ble_eq_true rfl) dX10_hours_30
      · have hP : va_P (dC, dI) vwCl (mw g h0 b (va_up i 0 x0_7) a) _ := hP
        have hD : va_D _ (mw g h0 b (va_up i 0 x0_7) a) := hD
        refine W.eq (g2 := F0 m 26 ls [.int 1]) rfl ?_
        exact absurd rfl hz2_9
    · have nc_6 := nlt_i c_6
      have lc_6 : (10000 : Int32).toInt = 10000 := by decide
      refine lv_iconst (v := 1) hx hb dX10_hours_17 (by decide) ?_
      refine lv_goto (tgt := 22) hx hb dX10_hours_18 (by decide) ?_
      refine lv_iconst (v := 1) hx hb dX10_hours_22 (by decide) ?_
      refine M_V ⟨hx, hb, hml, hown, hts⟩ (m_X10_right l dC dI sa g h0 b (va_up i 0 (0 : Int32)) a (1 : Int32) (1 : Int32) _ (by decide)) (cwV 2 hts gX10_hours_X10_right rfl rfl rfl (by decide +kernel) ⟨Nat.le_of_ble_eq_true rfl, Nat.le_of_ble_eq_true rfl⟩) hP hD hK hS hA hev rfl rfl rfl rfl hl.1 rfl (Nat.le_of_ble_eq_true rfl) dX10_hours_23 ⟨(Nat.le_of_ble_eq_true rfl), (Nat.le_of_ble_eq_true rfl)⟩ (fun r u H locs hw hP hD hS => ?_)
      obtain ⟨x0_11, rfl⟩ : ∃ z, z = u := ⟨_, rfl⟩
      have hw : ((r = some (.int 0) ∧ (True)) ∨ (r = some (.int 1) ∧ (¬ (1 : Int32) = 0))) ∧ (True) := hw
      obtain ⟨⟨rfl, hz2_13⟩ | ⟨rfl, hz2_13⟩, hw_12⟩ := hw
      · have hP : va_P (dC, dI) vwCl (mw g h0 b (va_up i 0 x0_11) a) _ := hP
        have hD : va_D _ (mw g h0 b (va_up i 0 x0_11) a) := hD
        refine W.eq (g2 := F0 m 26 ls [.int 0]) rfl ?_
        refine lv_if_ne (tgt := 31) hx hb dX10_hours_26 (by decide) (fun c_14 => absurd c_14 (by decide)) (fun _ => ?_)
        refine lv_iconst (v := 0) hx hb dX10_hours_29 (by decide) ?_
        exact M_i hx hb hr hlocks (x0_11, (i 1), (a 5), (a 6), (a 7), (a 10), (a 11)) hP hD hK hS ⟨⟨_, rfl⟩, trivial⟩ (Nat.le_of_ble_eq_true rfl) (Nat.le_of_ble_eq_true rfl) dX10_hours_30
      · have hP : va_P (dC, dI) vwCl (mw g h0 b (va_up i 0 x0_11) a) _ := hP
        have hD : va_D _ (mw g h0 b (va_up i 0 x0_11) a) := hD
        refine W.eq (g2 := F0 m 26 ls [.int 1]) rfl ?_
        refine lv_if_ne (tgt := 31) hx hb dX10_hours_26 (by decide) (fun _ => ?_) (fun c_15 => absurd c_15 (by decide))
        refine lv_iconst (v := 0) hx hb dX10_hours_31 (by decide) ?_
        refine lv_istore_n (lv' := [(2, .int 0), (0, .ref h0), (1, .int nn)]) hx hb dX10_hours_32 rfl hl (by decide) rfl (fun ls hl => ?_)
        have lp : ∀ (n : Nat) (ii : Int32) (l1 : Int32) (l5 : Nat → Int32) (l6 : Nat → Int32) (l7 : Nat → Int32) (l10 : Nat → Int32) (l11 : Nat → Int32) (H : Heap) (locs : List Loc) (ls : Array Slot), ((nn.toInt - ii.toInt).toNat < n) → va_P (dC, dI) vwCl (mw g h0 b (va_up (va_up i 0 x0_11) 1 l1) (va_up (va_up (va_up (va_up (va_up a 5 l5) 6 l6) 7 l7) 10 l10) 11 l11)) H → va_D (va_A (mw g h0 b i a) s.heap.size) (mw g h0 b (va_up (va_up i 0 x0_11) 1 l1) (va_up (va_up (va_up (va_up (va_up a 5 l5) 6 l6) 7 l7) 10 l10) 11 l11)) → va_S (va_A (mw g h0 b i a) s.heap.size) s.heap H locs → lv_has ls 3 [(2, .int ii), (0, .ref h0), (1, .int nn)] → W p l e rm_X10_hours s m [.ref h0, .int nn].toArray below meth c H locs 0 0 (MQ below (Qg (fun (r : Option Value) (u : Int32 × Int32 × (Nat → Int32) × (Nat → Int32) × (Nat → Int32) × (Nat → Int32) × (Nat → Int32)) => match u with | (x0, x1, y5, y6, y7, y10, y11) => (∃ z : Int32, r = some (.int z)) ∧ (True)) (fun u t => QW dC dI (va_A (mw g h0 b i a) s.heap.size) ((fun (u : Int32 × Int32 × (Nat → Int32) × (Nat → Int32) × (Nat → Int32) × (Nat → Int32) × (Nat → Int32)) => match u with | (x0, x1, y5, y6, y7, y10, y11) => mw g h0 b (va_up (va_up i 0 x0) 1 x1) (va_up (va_up (va_up (va_up (va_up a 5 y5) 6 y6) 7 y7) 10 y10) 11 y11)) u) [] t) (va_A (mw g h0 b i a) s.heap.size)) [.ref h0, .int nn].toArray s 0 0 (va_A (mw g h0 b i a) s.heap.size)) (F0 m 33 ls []) := by
          intro n
          induction n with
          | zero => intro ii l1 l5 l6 l7 l10 l11 H locs ls hm  hP hD hS hl; exact absurd hm (by omega)
          | succ n ih =>
            intro ii l1 l5 l6 l7 l10 l11 H locs ls hm  hP hD hS hl
            refine lv_iload_n hx hb dX10_hours_33 rfl (lv_at hl 0 rfl) ?_
            refine lv_iload_n hx hb dX10_hours_34 rfl (lv_at hl 2 rfl) ?_
            refine lv_icmp_ge (tgt := 48) hx hb dX10_hours_35 (by decide) (fun c_16 => ?_) (fun c_16 => ?_)
            · have nc_16 := le_i c_16
              refine lv_aload_n hx hb dX10_hours_48 rfl (lv_at hl 1 rfl) ?_
              refine va_get (D := (dC, dI)) (ci := 10) (v := .int l1) (C := RX10) (T := TX10) (N := 51) hx hb hts inw_X10_hours_10 hown hK hP 0 rfl rfl 1 (by decide) (hts (.fieldLink RX10 131 "VatHouseModel" "hours" "I") (by decide +kernel)) (fun _ h9 => h9) rfl dX10_hours_49 ?_
              exact M_i hx hb hr hlocks (x0_11, l1, l5, l6, l7, l10, l11) hP hD hK hS ⟨⟨_, rfl⟩, trivial⟩ (Nat.le_of_ble_eq_true rfl) (Nat.le_of_ble_eq_true rfl) dX10_hours_52
            · have nc_16 := nle_i c_16
              refine lv_aload_n hx hb dX10_hours_38 rfl (lv_at hl 1 rfl) ?_
              refine M_V ⟨hx, hb, hml, hown, hts⟩ (m_X10_hour l dC dI sa g h0 b (va_up (va_up i 0 x0_11) 1 l1) (va_up (va_up (va_up (va_up (va_up a 5 l5) 6 l6) 7 l7) 10 l10) 11 l11)  _ ) (cwV 0 hts gX10_hours_X10_hour rfl rfl rfl (by decide +kernel) ⟨Nat.le_of_ble_eq_true rfl, Nat.le_of_ble_eq_true rfl⟩) hP hD hK hS hA hev rfl rfl rfl rfl hl.1 rfl (Nat.le_of_ble_eq_true rfl) dX10_hours_39 ⟨(Nat.le_of_ble_eq_true rfl), (Nat.le_of_ble_eq_true rfl)⟩ (fun r u H locs hw hP hD hS => ?_)
              obtain ⟨x1_17, y5_18, y6_19, y7_20, y10_21, y11_22⟩ := u
              have hw : (r = none) ∧ (True) := hw
              obtain ⟨rfl, hw_23⟩ := hw
              have hP : va_P (dC, dI) vwCl (mw g h0 b (va_up (va_up i 0 x0_11) 1 x1_17) (va_up (va_up (va_up (va_up (va_up a 5 y5_18) 6 y6_19) 7 y7_20) 10 y10_21) 11 y11_22)) _ := hP
              have hD : va_D _ (mw g h0 b (va_up (va_up i 0 x0_11) 1 x1_17) (va_up (va_up (va_up (va_up (va_up a 5 y5_18) 6 y6_19) 7 y7_20) 10 y10_21) 11 y11_22)) := hD
              refine W.eq (g2 := F0 m 42 ls []) rfl ?_
              refine lv_iinc (v := (ii + 1)) (lv' := [(2, .int (ii + 1)), (0, .ref h0), (1, .int nn)]) hx hb dX10_hours_42 hl (k := 0) rfl rfl (by decide) rfl (fun ls hl => ?_)
              refine lv_goto (tgt := 33) hx hb dX10_hours_45 (by decide) ?_
              exact ih (ii + 1) x1_17 y5_18 y6_19 y7_20 y10_21 y11_22 _ _ _ (at_nx hm c_16 rfl)  hP hD hS (lv_sub hl [0, 1, 2] rfl)
        exact lp ((nn.toInt - (0 : Int32).toInt).toNat + 1) (0 : Int32) (i 1) (a 5) (a 6) (a 7) (a 10) (a 11) _ _ _ (by omega)  hP hD hS (lv_sub hl [0, 1, 2] rfl)

theorem tab_out5 {x : Int32} (h0 : ¬ x = 0) (h1 : ¬ x = 1) (h2 : ¬ x = 2) (h3 : ¬ x = 3) (h4 : ¬ x = 4) : x.toInt < 0 ∨ 4 < x.toInt := by
  have e0 : x.toInt ≠ 0 := fun h => h0 (Int32.toInt_inj.mp h)
  have e1 : x.toInt ≠ 1 := fun h => h1 (Int32.toInt_inj.mp h)
  have e2 : x.toInt ≠ 2 := fun h => h2 (Int32.toInt_inj.mp h)
  have e3 : x.toInt ≠ 3 := fun h => h3 (Int32.toInt_inj.mp h)
  have e4 : x.toInt ≠ 4 := fun h => h4 (Int32.toInt_inj.mp h)
  omega

theorem tab_out7 {x : Int32} (h0 : ¬ x = 0) (h1 : ¬ x = 1) (h2 : ¬ x = 2) (h3 : ¬ x = 3) (h4 : ¬ x = 4) (h5 : ¬ x = 5) (h6 : ¬ x = 6) : x.toInt < 0 ∨ 6 < x.toInt := by
  have e0 : x.toInt ≠ 0 := fun h => h0 (Int32.toInt_inj.mp h)
  have e1 : x.toInt ≠ 1 := fun h => h1 (Int32.toInt_inj.mp h)
  have e2 : x.toInt ≠ 2 := fun h => h2 (Int32.toInt_inj.mp h)
  have e3 : x.toInt ≠ 3 := fun h => h3 (Int32.toInt_inj.mp h)
  have e4 : x.toInt ≠ 4 := fun h => h4 (Int32.toInt_inj.mp h)
  have e5 : x.toInt ≠ 5 := fun h => h5 (Int32.toInt_inj.mp h)
  have e6 : x.toInt ≠ 6 := fun h => h6 (Int32.toInt_inj.mp h)
  omega

abbrev rm_X10_cloth : Room := { frames := 0, cells := 0, slots := 0, locals := 0 }
theorem inw_X10_cloth_10 : ∀ w ∈ wsX100, w ∈ wsX10_cloth := by decide +kernel
set_option maxHeartbeats 1000000 in
set_option maxRecDepth 100000 in
theorem m_X10_cloth (l : Launch) (dC : Nat → ClassId) (dI : Nat → Nat → Nat) (sa : Nat → Nat) (g : Nat → Nat) (h0 : Nat) (b : Nat → Nat) (i : Nat → Int32) (a : Nat → Nat → Int32) (ww : Int32) (sz : Nat) (hCI : CI (i 12) (a 13)) : CT l dC dI sa yX10_cloth wsX10_cloth rm_X10_cloth [.ref h0, .int ww] (mw g h0 b i a) (tyM g) sz (fun (r : Option Value) (u : Int32 × Int32 × (Nat → Int32)) => match u with | (x0, x12, y13) => (∃ z : Int32, r = some (.int z) ∧ ((((i 12) = 30 ∨ ww < 1 ∨ ¬ ww ≤ 50) ∧ x12 = (i 12) ∧ z = -1) ∨ (¬ (i 12) = 30 ∧ ¬ ww < 1 ∧ ww ≤ 50 ∧ x12 = (i 12) + 1 ∧ z = (i 12) + 1 - 1))) ∧ (CI x12 y13)) (fun (u : Int32 × Int32 × (Nat → Int32)) => match u with | (x0, x12, y13) => mw g h0 b (va_up (va_up i 0 x0) 12 x12) (va_up a 13 y13)) (fun _ => []) 0 0 := by
  refine CT.start (cc := cX10_cloth) (maxL := 2) (ret := (some .int)) (by decide) rfl (Nat.le_of_ble_eq_true rfl) ?_
  intro p e s m below meth c ls hst hP hK hD hev hS hl
  obtain ⟨hx, hb, hr, hml, hts, hown, hlocks, hin⟩ := hst
  have hown : s.vm.findClass RX10 = some m.cls := hown
  have hA : ∀ q : Nat, s.heap.size ≤ q → va_A (mw g h0 b i a) s.heap.size q := fun _ h => Or.inr h
  have hl : lv_has ls 2 [(0, .ref h0), (1, .int ww)] := hl
  refine lv_aload_n hx hb dX10_cloth_0 rfl (lv_at hl 0 rfl) ?_
  refine lv_iconst (v := 0) hx hb dX10_cloth_1 (by decide) ?_
  refine va_put (D := (dC, dI)) (ci := 10) (v := .int 0) (ty := .int) (C := RX10) (T := TX10) (N := 51) hx hb hts inw_X10_cloth_10 tyX10 tyX10_ok nmX10 hown hK hP hD hS 0 rfl rfl 0 (by decide) (hts (.fieldLink RX10 105 "VatHouseModel" "thrown" "I") (by decide +kernel)) (fun _ h9 => h9) rfl (by decide +kernel) rfl rfl (Nat.le_of_ble_eq_true rfl) dX10_cloth_2 (fun H locs hP hD hS => ?_)
  have hP : va_P (dC, dI) vwCl (mw g h0 b (va_up i 0 (0 : Int32)) a) _ := hP
  have hD : va_D _ (mw g h0 b (va_up i 0 (0 : Int32)) a) := hD
  refine lv_aload_n hx hb dX10_cloth_5 rfl (lv_at hl 0 rfl) ?_
  refine va_get (D := (dC, dI)) (ci := 10) (v := .int (i 12)) (C := RX10) (T := TX10) (N := 51) hx hb hts inw_X10_cloth_10 hown hK hP 0 rfl rfl 12 (by decide) (hts (.fieldLink RX10 112 "VatHouseModel" "cloths" "I") (by decide +kernel)) (fun _ h9 => h9) rfl dX10_cloth_6 ?_
  refine lv_bipush (v := 30) hx hb dX10_cloth_9 (by decide) ?_
  refine lv_icmp_eq (tgt := 25) hx hb dX10_cloth_11 (by decide) (fun c_1 => ?_) (fun c_1 => ?_)
  · have nc_1 := eq_i c_1
    have lc_1 : (30 : Int32).toInt = 30 := by decide
    refine lv_iconst (v := (-1)) hx hb dX10_cloth_25 (by decide) ?_
    exact M_i hx hb hr hlocks ((0 : Int32), (i 12), (a 13)) hP hD hK hS ⟨⟨_, rfl, Or.inl ⟨Or.inl c_1, rfl, rfl⟩⟩, hCI⟩ (Nat.le_of_ble_eq_true rfl) (Nat.le_of_ble_eq_true rfl) dX10_cloth_26
  · have nc_1 := ne_i c_1
    have lc_1 : (30 : Int32).toInt = 30 := by decide
    refine lv_iload_n hx hb dX10_cloth_14 rfl (lv_at hl 1 rfl) ?_
    refine lv_iconst (v := 1) hx hb dX10_cloth_15 (by decide) ?_
    refine lv_icmp_lt (tgt := 25) hx hb dX10_cloth_16 (by decide) (fun c_2 => ?_) (fun c_2 => ?_)
    · have nc_2 := lt_i c_2
      have lc_2 : (1 : Int32).toInt = 1 := by decide
      refine lv_iconst (v := (-1)) hx hb dX10_cloth_25 (by decide) ?_
      exact M_i hx hb hr hlocks ((0 : Int32), (i 12), (a 13)) hP hD hK hS ⟨⟨_, rfl, Or.inl ⟨Or.inr (Or.inl c_2), rfl, rfl⟩⟩, hCI⟩ (Nat.le_of_ble_eq_true rfl) (Nat.le_of_ble_eq_true rfl) dX10_cloth_26
    · have nc_2 := nlt_i c_2
      have lc_2 : (1 : Int32).toInt = 1 := by decide
      refine lv_iload_n hx hb dX10_cloth_19 rfl (lv_at hl 1 rfl) ?_
      refine lv_bipush (v := 50) hx hb dX10_cloth_20 (by decide) ?_
      refine lv_icmp_le (tgt := 27) hx hb dX10_cloth_22 (by decide) (fun c_3 => ?_) (fun c_3 => ?_)
      · have nc_3 := le_i c_3
        have lc_3 : (50 : Int32).toInt = 50 := by decide
        refine lv_aload_n hx hb dX10_cloth_27 rfl (lv_at hl 0 rfl) ?_
        refine va_get (D := (dC, dI)) (ci := 10) (v := .ref (b 13)) (C := RX10) (T := TX10) (N := 51) hx hb hts inw_X10_cloth_10 hown hK hP 0 rfl rfl 13 (by decide) (hts (.fieldLink RX10 35 "VatHouseModel" "weight" "[I") (by decide +kernel)) (fun _ h9 => h9) rfl dX10_cloth_28 ?_
        refine lv_aload_n hx hb dX10_cloth_31 rfl (lv_at hl 0 rfl) ?_
        refine va_get (D := (dC, dI)) (ci := 10) (v := .int (i 12)) (C := RX10) (T := TX10) (N := 51) hx hb hts inw_X10_cloth_10 hown hK hP 0 rfl rfl 12 (by decide) (hts (.fieldLink RX10 112 "VatHouseModel" "cloths" "I") (by decide +kernel)) (fun _ h9 => h9) rfl dX10_cloth_32 ?_
        refine lv_iload_n hx hb dX10_cloth_35 rfl (lv_at hl 1 rfl) ?_
        refine va_iast hx hb hK hP hD hS 9 8 rfl rfl (in_i (by have := hCI.1; omega) (by have := hCI.2.1; omega)) dX10_cloth_36 (fun H locs hP hD hS => ?_)
        have hP : va_P (dC, dI) vwCl (mw g h0 b (va_up i 0 (0 : Int32)) (va_up a 13 (upd (a 13) (i 12).toNatClampNeg ww))) _ := hP
        have hD : va_D _ (mw g h0 b (va_up i 0 (0 : Int32)) (va_up a 13 (upd (a 13) (i 12).toNatClampNeg ww))) := hD
        obtain ⟨f_4, ef_4⟩ : ∃ z, z = (upd (a 13) (i 12).toNatClampNeg ww) := ⟨_, rfl⟩
        rw [← ef_4] at hP hD
        refine lv_aload_n hx hb dX10_cloth_37 rfl (lv_at hl 0 rfl) ?_
        refine lv_dup hx hb dX10_cloth_38 rfl ?_
        refine va_get (D := (dC, dI)) (ci := 10) (v := .int (i 12)) (C := RX10) (T := TX10) (N := 51) hx hb hts inw_X10_cloth_10 hown hK hP 0 rfl rfl 12 (by decide) (hts (.fieldLink RX10 112 "VatHouseModel" "cloths" "I") (by decide +kernel)) (fun _ h9 => h9) rfl dX10_cloth_39 ?_
        refine lv_iconst (v := 1) hx hb dX10_cloth_42 (by decide) ?_
        refine lv_iadd hx hb dX10_cloth_43 ?_
        refine lv_topi (fun z_5 ez_5 => ?_)
        refine va_put (D := (dC, dI)) (ci := 10) (v := .int z_5) (ty := .int) (C := RX10) (T := TX10) (N := 51) hx hb hts inw_X10_cloth_10 tyX10 tyX10_ok nmX10 hown hK hP hD hS 0 rfl rfl 12 (by decide) (hts (.fieldLink RX10 112 "VatHouseModel" "cloths" "I") (by decide +kernel)) (fun _ h9 => h9) rfl (by decide +kernel) rfl rfl (Nat.le_of_ble_eq_true rfl) dX10_cloth_44 (fun H locs hP hD hS => ?_)
        have hP : va_P (dC, dI) vwCl (mw g h0 b (va_up (va_up i 0 (0 : Int32)) 12 z_5) (va_up a 13 f_4)) _ := hP
        have hD : va_D _ (mw g h0 b (va_up (va_up i 0 (0 : Int32)) 12 z_5) (va_up a 13 f_4)) := hD
        refine lv_aload_n hx hb dX10_cloth_47 rfl (lv_at hl 0 rfl) ?_
        refine va_get (D := (dC, dI)) (ci := 10) (v := .int z_5) (C := RX10) (T := TX10) (N := 51) hx hb hts inw_X10_cloth_10 hown hK hP 0 rfl rfl 12 (by decide) (hts (.fieldLink RX10 112 "VatHouseModel" "cloths" "I") (by decide +kernel)) (fun _ h9 => h9) rfl dX10_cloth_48 ?_
        refine lv_iconst (v := 1) hx hb dX10_cloth_51 (by decide) ?_
        refine lv_isub hx hb dX10_cloth_52 ?_
        refine lv_topi (fun z_6 ez_6 => ?_)
        exact M_i hx hb hr hlocks ((0 : Int32), z_5, f_4) hP hD hK hS ⟨⟨_, rfl, Or.inr ⟨c_1, c_2, c_3, ez_5, by rw [ez_6, ez_5]⟩⟩, (by rw [ef_4]; exact hCI.add (by omega) ez_5 (by omega) (by omega))⟩ (Nat.le_of_ble_eq_true rfl) (Nat.le_of_ble_eq_true rfl) dX10_cloth_53
      · have nc_3 := nle_i c_3
        have lc_3 : (50 : Int32).toInt = 50 := by decide
        refine lv_iconst (v := (-1)) hx hb dX10_cloth_25 (by decide) ?_
        exact M_i hx hb hr hlocks ((0 : Int32), (i 12), (a 13)) hP hD hK hS ⟨⟨_, rfl, Or.inl ⟨Or.inr (Or.inr c_3), rfl, rfl⟩⟩, hCI⟩ (Nat.le_of_ble_eq_true rfl) (Nat.le_of_ble_eq_true rfl) dX10_cloth_26

abbrev rm_X10_moves : Room := { frames := 0, cells := 0, slots := 0, locals := 0 }
theorem inw_X10_moves_10 : ∀ w ∈ wsX100, w ∈ wsX10_moves := by decide +kernel
set_option maxHeartbeats 1000000 in
set_option maxRecDepth 100000 in
theorem m_X10_moves (l : Launch) (dC : Nat → ClassId) (dI : Nat → Nat → Nat) (sa : Nat → Nat) (g : Nat → Nat) (h0 : Nat) (b : Nat → Nat) (i : Nat → Int32) (a : Nat → Nat → Int32) (ck : Int32) (vv : Int32) (mm : Int32) (sz : Nat) (hc30 : vp_in ck 30) (hv6 : vp_in vv 6) (hwt : 1 ≤ ((a 13) ck.toNatClampNeg).toInt ∧ ((a 13) ck.toNatClampNeg).toInt ≤ 50) : CT l dC dI sa yX10_moves wsX10_moves rm_X10_moves [.ref h0, .int ck, .int vv, .int mm] (mw g h0 b i a) (tyM g) sz (fun (r : Option Value) (_ : Unit) => (∃ z : Int32, r = some (.int z)) ∧ (True)) (fun (_ : Unit) => mw g h0 b i a) (fun _ => []) 0 0 := by
  refine CT.start (cc := cX10_moves) (maxL := 6) (ret := (some .int)) (by decide) rfl (Nat.le_of_ble_eq_true rfl) ?_
  intro p e s m below meth c ls hst hP hK hD hev hS hl
  obtain ⟨hx, hb, hr, hml, hts, hown, hlocks, hin⟩ := hst
  have hown : s.vm.findClass RX10 = some m.cls := hown
  have hA : ∀ q : Nat, s.heap.size ≤ q → va_A (mw g h0 b i a) s.heap.size q := fun _ h => Or.inr h
  have hl : lv_has ls 6 [(0, .ref h0), (1, .int ck), (2, .int vv), (3, .int mm)] := hl
  refine lv_aload_n hx hb dX10_moves_0 rfl (lv_at hl 0 rfl) ?_
  refine va_get (D := (dC, dI)) (ci := 10) (v := .ref (b 4)) (C := RX10) (T := TX10) (N := 51) hx hb hts inw_X10_moves_10 hown hK hP 0 rfl rfl 4 (by decide) (hts (.fieldLink RX10 7 "VatHouseModel" "grains" "[I") (by decide +kernel)) (fun _ h9 => h9) rfl dX10_moves_1 ?_
  refine lv_iload_n hx hb dX10_moves_4 rfl (lv_at hl 2 rfl) ?_
  refine va_iald hx hb hK hP 1 0 rfl rfl (by assumption) dX10_moves_5 ?_
  refine lv_topi (fun z_1 ez_1 => ?_)
  have ez_1 : z_1 = (a 4) vv.toNatClampNeg := ez_1
  refine lv_iload_n hx hb dX10_moves_6 rfl (lv_at hl 3 rfl) ?_
  refine lv_imul hx hb dX10_moves_7 ?_
  refine lv_topi (fun z_2 ez_2 => ?_)
  refine lv_bipush (v := 100) hx hb dX10_moves_8 (by decide) ?_
  refine lv_aload_n hx hb dX10_moves_10 rfl (lv_at hl 0 rfl) ?_
  refine va_get (D := (dC, dI)) (ci := 10) (v := .ref (b 13)) (C := RX10) (T := TX10) (N := 51) hx hb hts inw_X10_moves_10 hown hK hP 0 rfl rfl 13 (by decide) (hts (.fieldLink RX10 35 "VatHouseModel" "weight" "[I") (by decide +kernel)) (fun _ h9 => h9) rfl dX10_moves_11 ?_
  refine lv_iload_n hx hb dX10_moves_14 rfl (lv_at hl 1 rfl) ?_
  refine va_iald hx hb hK hP 9 8 rfl rfl (by assumption) dX10_moves_15 ?_
  refine lv_topi (fun z_3 ez_3 => ?_)
  have ez_3 : z_3 = (a 13) ck.toNatClampNeg := ez_3
  refine lv_iadd hx hb dX10_moves_16 ?_
  refine lv_topi (fun z_4 ez_4 => ?_)
  refine lv_idiv hx hb dX10_moves_17 (by first | exact ne0_100 (w := (a 13) ck.toNatClampNeg) (by assumption) (by assumption) hwt.1 hwt.2) ?_
  refine lv_topi (fun z_5 ez_5 => ?_)
  refine lv_istore (lv' := [(4, .int z_5), (0, .ref h0), (1, .int ck), (2, .int vv), (3, .int mm)]) hx hb dX10_moves_18 hl (by decide) rfl (fun ls hl => ?_)
  refine lv_aload_n hx hb dX10_moves_20 rfl (lv_at hl 1 rfl) ?_
  refine va_get (D := (dC, dI)) (ci := 10) (v := .ref (b 7)) (C := RX10) (T := TX10) (N := 51) hx hb hts inw_X10_moves_10 hown hK hP 0 rfl rfl 7 (by decide) (hts (.fieldLink RX10 19 "VatHouseModel" "state" "[I") (by decide +kernel)) (fun _ h9 => h9) rfl dX10_moves_21 ?_
  refine lv_iload_n hx hb dX10_moves_24 rfl (lv_at hl 3 rfl) ?_
  refine va_iald hx hb hK hP 4 3 rfl rfl (by assumption) dX10_moves_25 ?_
  refine lv_topi (fun z_6 ez_6 => ?_)
  have ez_6 : z_6 = (a 7) vv.toNatClampNeg := ez_6
  refine lv_iconst (v := 1) hx hb dX10_moves_26 (by decide) ?_
  refine lv_icmp_ne (tgt := 36) hx hb dX10_moves_27 (by decide) (fun c_7 => ?_) (fun c_7 => ?_)
  · have nc_7 := ne_i c_7
    have lc_7 : (1 : Int32).toInt = 1 := by decide
    refine lv_sipush (v := 200) hx hb dX10_moves_36 (by decide) ?_
    refine lv_aload_n hx hb dX10_moves_39 rfl (lv_at hl 1 rfl) ?_
    refine va_get (D := (dC, dI)) (ci := 10) (v := .ref (b 13)) (C := RX10) (T := TX10) (N := 51) hx hb hts inw_X10_moves_10 hown hK hP 0 rfl rfl 13 (by decide) (hts (.fieldLink RX10 35 "VatHouseModel" "weight" "[I") (by decide +kernel)) (fun _ h9 => h9) rfl dX10_moves_40 ?_
    refine lv_iload_n hx hb dX10_moves_43 rfl (lv_at hl 2 rfl) ?_
    refine va_iald hx hb hK hP 9 8 rfl rfl (by assumption) dX10_moves_44 ?_
    refine lv_topi (fun z_8 ez_8 => ?_)
    have ez_8 : z_8 = (a 13) ck.toNatClampNeg := ez_8
    refine lv_imul hx hb dX10_moves_45 ?_
    refine lv_topi (fun z_9 ez_9 => ?_)
    refine lv_aload_n hx hb dX10_moves_46 rfl (lv_at hl 1 rfl) ?_
    refine va_get (D := (dC, dI)) (ci := 10) (v := .ref (b 14)) (C := RX10) (T := TX10) (N := 51) hx hb hts inw_X10_moves_10 hown hK hP 0 rfl rfl 14 (by decide) (hts (.fieldLink RX10 38 "VatHouseModel" "loose" "[I") (by decide +kernel)) (fun _ h9 => h9) rfl dX10_moves_47 ?_
    refine lv_iload_n hx hb dX10_moves_50 rfl (lv_at hl 2 rfl) ?_
    refine va_iald hx hb hK hP 10 9 rfl rfl (by assumption) dX10_moves_51 ?_
    refine lv_topi (fun z_10 ez_10 => ?_)
    have ez_10 : z_10 = (a 14) ck.toNatClampNeg := ez_10
    refine lv_isub hx hb dX10_moves_52 ?_
    refine lv_topi (fun z_11 ez_11 => ?_)
    refine lv_aload_n hx hb dX10_moves_53 rfl (lv_at hl 1 rfl) ?_
    refine va_get (D := (dC, dI)) (ci := 10) (v := .ref (b 15)) (C := RX10) (T := TX10) (N := 51) hx hb hts inw_X10_moves_10 hown hK hP 0 rfl rfl 15 (by decide) (hts (.fieldLink RX10 41 "VatHouseModel" "fast" "[I") (by decide +kernel)) (fun _ h9 => h9) rfl dX10_moves_54 ?_
    refine lv_iload_n hx hb dX10_moves_57 rfl (lv_at hl 2 rfl) ?_
    refine va_iald hx hb hK hP 11 10 rfl rfl (by assumption) dX10_moves_58 ?_
    refine lv_topi (fun z_12 ez_12 => ?_)
    have ez_12 : z_12 = (a 15) ck.toNatClampNeg := ez_12
    refine lv_isub hx hb dX10_moves_59 ?_
    refine lv_topi (fun z_13 ez_13 => ?_)
    refine lv_istore (lv' := [(5, .int z_13), (4, .int z_5), (0, .ref h0), (1, .int ck), (2, .int vv), (3, .int mm)]) hx hb dX10_moves_60 hl (by decide) rfl (fun ls hl => ?_)
    refine lv_iload hx hb dX10_moves_62 (lv_at hl 1 rfl) ?_
    refine lv_iload hx hb dX10_moves_64 (lv_at hl 0 rfl) ?_
    refine lv_icmp_ge (tgt := 74) hx hb dX10_moves_66 (by decide) (fun c_14 => ?_) (fun c_14 => ?_)
    · have nc_14 := le_i c_14
      refine lv_iload hx hb dX10_moves_74 (lv_at hl 0 rfl) ?_
      exact M_i hx hb hr hlocks () hP hD hK hS ⟨⟨_, rfl⟩, trivial⟩ (Nat.le_of_ble_eq_true rfl) (Nat.le_of_ble_eq_true rfl) dX10_moves_76
    · have nc_14 := nle_i c_14
      refine lv_iload hx hb dX10_moves_69 (lv_at hl 1 rfl) ?_
      refine lv_goto (tgt := 76) hx hb dX10_moves_71 (by decide) ?_
      exact M_i hx hb hr hlocks () hP hD hK hS ⟨⟨_, rfl⟩, trivial⟩ (Nat.le_of_ble_eq_true rfl) (Nat.le_of_ble_eq_true rfl) dX10_moves_76
  · have nc_7 := eq_i c_7
    have lc_7 : (1 : Int32).toInt = 1 := by decide
    refine lv_iload hx hb dX10_moves_30 (lv_at hl 0 rfl) ?_
    refine lv_iconst (v := 2) hx hb dX10_moves_32 (by decide) ?_
    refine lv_idiv hx hb dX10_moves_33 (by decide) ?_
    refine lv_topi (fun z_15 ez_15 => ?_)
    refine lv_istore (lv' := [(4, .int z_15), (0, .ref h0), (1, .int ck), (2, .int vv), (3, .int mm)]) hx hb dX10_moves_34 hl (by decide) rfl (fun ls hl => ?_)
    refine lv_sipush (v := 200) hx hb dX10_moves_36 (by decide) ?_
    refine lv_aload_n hx hb dX10_moves_39 rfl (lv_at hl 1 rfl) ?_
    refine va_get (D := (dC, dI)) (ci := 10) (v := .ref (b 13)) (C := RX10) (T := TX10) (N := 51) hx hb hts inw_X10_moves_10 hown hK hP 0 rfl rfl 13 (by decide) (hts (.fieldLink RX10 35 "VatHouseModel" "weight" "[I") (by decide +kernel)) (fun _ h9 => h9) rfl dX10_moves_40 ?_
    refine lv_iload_n hx hb dX10_moves_43 rfl (lv_at hl 2 rfl) ?_
    refine va_iald hx hb hK hP 9 8 rfl rfl (by assumption) dX10_moves_44 ?_
    refine lv_topi (fun z_16 ez_16 => ?_)
    have ez_16 : z_16 = (a 13) ck.toNatClampNeg := ez_16
    refine lv_imul hx hb dX10_moves_45 ?_
    refine lv_topi (fun z_17 ez_17 => ?_)
    refine lv_aload_n hx hb dX10_moves_46 rfl (lv_at hl 1 rfl) ?_
    refine va_get (D := (dC, dI)) (ci := 10) (v := .ref (b 14)) (C := RX10) (T := TX10) (N := 51) hx hb hts inw_X10_moves_10 hown hK hP 0 rfl rfl 14 (by decide) (hts (.fieldLink RX10 38 "VatHouseModel" "loose" "[I") (by decide +kernel)) (fun _ h9 => h9) rfl dX10_moves_47 ?_
    refine lv_iload_n hx hb dX10_moves_50 rfl (lv_at hl 2 rfl) ?_
    refine va_iald hx hb hK hP 10 9 rfl rfl (by assumption) dX10_moves_51 ?_
    refine lv_topi (fun z_18 ez_18 => ?_)
    have ez_18 : z_18 = (a 14) ck.toNatClampNeg := ez_18
    refine lv_isub hx hb dX10_moves_52 ?_
    refine lv_topi (fun z_19 ez_19 => ?_)
    refine lv_aload_n hx hb dX10_moves_53 rfl (lv_at hl 1 rfl) ?_
    refine va_get (D := (dC, dI)) (ci := 10) (v := .ref (b 15)) (C := RX10) (T := TX10) (N := 51) hx hb hts inw_X10_moves_10 hown hK hP 0 rfl rfl 15 (by decide) (hts (.fieldLink RX10 41 "VatHouseModel" "fast" "[I") (by decide +kernel)) (fun _ h9 => h9) rfl dX10_moves_54 ?_
    refine lv_iload_n hx hb dX10_moves_57 rfl (lv_at hl 2 rfl) ?_
    refine va_iald hx hb hK hP 11 10 rfl rfl (by assumption) dX10_moves_58 ?_
    refine lv_topi (fun z_20 ez_20 => ?_)
    have ez_20 : z_20 = (a 15) ck.toNatClampNeg := ez_20
    refine lv_isub hx hb dX10_moves_59 ?_
    refine lv_topi (fun z_21 ez_21 => ?_)
    refine lv_istore (lv' := [(5, .int z_21), (4, .int z_15), (0, .ref h0), (1, .int ck), (2, .int vv), (3, .int mm)]) hx hb dX10_moves_60 hl (by decide) rfl (fun ls hl => ?_)
    refine lv_iload hx hb dX10_moves_62 (lv_at hl 1 rfl) ?_
    refine lv_iload hx hb dX10_moves_64 (lv_at hl 0 rfl) ?_
    refine lv_icmp_ge (tgt := 74) hx hb dX10_moves_66 (by decide) (fun c_22 => ?_) (fun c_22 => ?_)
    · have nc_22 := le_i c_22
      refine lv_iload hx hb dX10_moves_74 (lv_at hl 0 rfl) ?_
      exact M_i hx hb hr hlocks () hP hD hK hS ⟨⟨_, rfl⟩, trivial⟩ (Nat.le_of_ble_eq_true rfl) (Nat.le_of_ble_eq_true rfl) dX10_moves_76
    · have nc_22 := nle_i c_22
      refine lv_iload hx hb dX10_moves_69 (lv_at hl 1 rfl) ?_
      refine lv_goto (tgt := 76) hx hb dX10_moves_71 (by decide) ?_
      exact M_i hx hb hr hlocks () hP hD hK hS ⟨⟨_, rfl⟩, trivial⟩ (Nat.le_of_ble_eq_true rfl) (Nat.le_of_ble_eq_true rfl) dX10_moves_76

abbrev rm_X10_dips : Room := { frames := 1, cells := 0, slots := 0, locals := 25 }
theorem inw_X10_dips_10 : ∀ w ∈ wsX100, w ∈ wsX10_dips := by decide +kernel
set_option maxHeartbeats 1000000 in
set_option maxRecDepth 100000 in
theorem m_X10_dips (l : Launch) (dC : Nat → ClassId) (dI : Nat → Nat → Nat) (sa : Nat → Nat) (g : Nat → Nat) (h0 : Nat) (b : Nat → Nat) (i : Nat → Int32) (a : Nat → Nat → Int32) (ck : Int32) (vv : Int32) (mm : Int32) (sz : Nat) (hc30 : vp_in ck 30) (hv6 : vp_in vv 6) (hwt : 1 ≤ ((a 13) ck.toNatClampNeg).toInt ∧ ((a 13) ck.toNatClampNeg).toInt ≤ 50) : CT l dC dI sa yX10_dips wsX10_dips rm_X10_dips [.ref h0, .int ck, .int vv, .int mm] (mw g h0 b i a) (tyM g) sz (fun (r : Option Value) (u : (Nat → Int32) × (Nat → Int32) × (Nat → Int32) × (Nat → Int32) × (Nat → Int32) × (Nat → Int32) × (Nat → Int32) × (Nat → Int32) × (Nat → Int32) × (Nat → Int32)) => match u with | (y4, y5, y6, y7, y8, y9, y10, y14, y17, y18) => (∃ z : Int32, r = some (.int z)) ∧ (True)) (fun (u : (Nat → Int32) × (Nat → Int32) × (Nat → Int32) × (Nat → Int32) × (Nat → Int32) × (Nat → Int32) × (Nat → Int32) × (Nat → Int32) × (Nat → Int32) × (Nat → Int32)) => match u with | (y4, y5, y6, y7, y8, y9, y10, y14, y17, y18) => mw g h0 b i (va_up (va_up (va_up (va_up (va_up (va_up (va_up (va_up (va_up (va_up a 4 y4) 5 y5) 6 y6) 7 y7) 8 y8) 9 y9) 10 y10) 14 y14) 17 y17) 18 y18)) (fun _ => []) 0 0 := by
  refine CT.start (cc := cX10_dips) (maxL := 5) (ret := (some .int)) (by decide) rfl (Nat.le_of_ble_eq_true rfl) ?_
  intro p e s m below meth c ls hst hP hK hD hev hS hl
  obtain ⟨hx, hb, hr, hml, hts, hown, hlocks, hin⟩ := hst
  have hown : s.vm.findClass RX10 = some m.cls := hown
  have hA : ∀ q : Nat, s.heap.size ≤ q → va_A (mw g h0 b i a) s.heap.size q := fun _ h => Or.inr h
  have hl : lv_has ls 5 [(0, .ref h0), (1, .int ck), (2, .int vv), (3, .int mm)] := hl
  refine lv_aload_n hx hb dX10_dips_0 rfl (lv_at hl 0 rfl) ?_
  refine lv_iload_n hx hb dX10_dips_1 rfl (lv_at hl 1 rfl) ?_
  refine lv_iload_n hx hb dX10_dips_2 rfl (lv_at hl 2 rfl) ?_
  refine lv_iload_n hx hb dX10_dips_3 rfl (lv_at hl 3 rfl) ?_
  refine M_V ⟨hx, hb, hml, hown, hts⟩ (m_X10_moves l dC dI sa g h0 b i a ck vv mm _ hc30 hv6 hwt) (cwV 3 hts gX10_dips_X10_moves rfl rfl rfl (by decide +kernel) ⟨Nat.le_of_ble_eq_true rfl, Nat.le_of_ble_eq_true rfl⟩) hP hD hK hS hA hev rfl rfl rfl rfl hl.1 rfl (Nat.le_of_ble_eq_true rfl) dX10_dips_4 ⟨(Nat.le_of_ble_eq_true rfl), (Nat.le_of_ble_eq_true rfl)⟩ (fun r u H locs hw hP hD hS => ?_)
  have hw : (∃ z : Int32, r = some (.int z)) ∧ (True) := hw
  obtain ⟨⟨z_2, rfl⟩, hw_1⟩ := hw
  have hP : va_P (dC, dI) vwCl (mw g h0 b i a) _ := hP
  have hD : va_D _ (mw g h0 b i a) := hD
  refine W.eq (g2 := F0 m 7 ls [.int z_2]) rfl ?_
  refine lv_istore (lv' := [(4, .int z_2), (0, .ref h0), (1, .int ck), (2, .int vv), (3, .int mm)]) hx hb dX10_dips_7 hl (by decide) rfl (fun ls hl => ?_)
  refine lv_aload_n hx hb dX10_dips_9 rfl (lv_at hl 1 rfl) ?_
  refine va_get (D := (dC, dI)) (ci := 10) (v := .ref (b 4)) (C := RX10) (T := TX10) (N := 51) hx hb hts inw_X10_dips_10 hown hK hP 0 rfl rfl 4 (by decide) (hts (.fieldLink RX10 7 "VatHouseModel" "grains" "[I") (by decide +kernel)) (fun _ h9 => h9) rfl dX10_dips_10 ?_
  refine lv_iload_n hx hb dX10_dips_13 rfl (lv_at hl 3 rfl) ?_
  refine lv_dup2_11 hx hb dX10_dips_14 rfl rfl ?_
  refine va_iald hx hb hK hP 1 0 rfl rfl (by assumption) dX10_dips_15 ?_
  refine lv_topi (fun z_3 ez_3 => ?_)
  have ez_3 : z_3 = (a 4) vv.toNatClampNeg := ez_3
  refine lv_iload hx hb dX10_dips_16 (lv_at hl 0 rfl) ?_
  refine lv_isub hx hb dX10_dips_18 ?_
  refine lv_topi (fun z_4 ez_4 => ?_)
  refine va_iast hx hb hK hP hD hS 1 0 rfl rfl (by assumption) dX10_dips_19 (fun H locs hP hD hS => ?_)
  have hP : va_P (dC, dI) vwCl (mw g h0 b i (va_up a 4 (upd (a 4) vv.toNatClampNeg z_4))) _ := hP
  have hD : va_D _ (mw g h0 b i (va_up a 4 (upd (a 4) vv.toNatClampNeg z_4))) := hD
  obtain ⟨f_5, ef_5⟩ : ∃ z, z = (upd (a 4) vv.toNatClampNeg z_4) := ⟨_, rfl⟩
  rw [← ef_5] at hP hD
  refine lv_aload_n hx hb dX10_dips_20 rfl (lv_at hl 1 rfl) ?_
  refine va_get (D := (dC, dI)) (ci := 10) (v := .ref (b 14)) (C := RX10) (T := TX10) (N := 51) hx hb hts inw_X10_dips_10 hown hK hP 0 rfl rfl 14 (by decide) (hts (.fieldLink RX10 38 "VatHouseModel" "loose" "[I") (by decide +kernel)) (fun _ h9 => h9) rfl dX10_dips_21 ?_
  refine lv_iload_n hx hb dX10_dips_24 rfl (lv_at hl 2 rfl) ?_
  refine lv_dup2_11 hx hb dX10_dips_25 rfl rfl ?_
  refine va_iald hx hb hK hP 10 9 rfl rfl (by assumption) dX10_dips_26 ?_
  refine lv_topi (fun z_6 ez_6 => ?_)
  have ez_6 : z_6 = (a 14) ck.toNatClampNeg := ez_6
  refine lv_iload hx hb dX10_dips_27 (lv_at hl 0 rfl) ?_
  refine lv_iadd hx hb dX10_dips_29 ?_
  refine lv_topi (fun z_7 ez_7 => ?_)
  refine va_iast hx hb hK hP hD hS 10 9 rfl rfl (by assumption) dX10_dips_30 (fun H locs hP hD hS => ?_)
  have hP : va_P (dC, dI) vwCl (mw g h0 b i (va_up (va_up a 4 f_5) 14 (upd (a 14) ck.toNatClampNeg z_7))) _ := hP
  have hD : va_D _ (mw g h0 b i (va_up (va_up a 4 f_5) 14 (upd (a 14) ck.toNatClampNeg z_7))) := hD
  obtain ⟨f_8, ef_8⟩ : ∃ z, z = (upd (a 14) ck.toNatClampNeg z_7) := ⟨_, rfl⟩
  rw [← ef_8] at hP hD
  refine lv_aload_n hx hb dX10_dips_31 rfl (lv_at hl 1 rfl) ?_
  refine va_get (D := (dC, dI)) (ci := 10) (v := .ref (b 6)) (C := RX10) (T := TX10) (N := 51) hx hb hts inw_X10_dips_10 hown hK hP 0 rfl rfl 6 (by decide) (hts (.fieldLink RX10 16 "VatHouseModel" "minutes" "[I") (by decide +kernel)) (fun _ h9 => h9) rfl dX10_dips_32 ?_
  refine lv_iload_n hx hb dX10_dips_35 rfl (lv_at hl 3 rfl) ?_
  refine lv_dup2_11 hx hb dX10_dips_36 rfl rfl ?_
  refine va_iald hx hb hK hP 3 2 rfl rfl (by assumption) dX10_dips_37 ?_
  refine lv_topi (fun z_9 ez_9 => ?_)
  have ez_9 : z_9 = (a 6) vv.toNatClampNeg := ez_9
  refine lv_iload_n hx hb dX10_dips_38 rfl (lv_at hl 4 rfl) ?_
  refine lv_iadd hx hb dX10_dips_39 ?_
  refine lv_topi (fun z_10 ez_10 => ?_)
  refine va_iast hx hb hK hP hD hS 3 2 rfl rfl (by assumption) dX10_dips_40 (fun H locs hP hD hS => ?_)
  have hP : va_P (dC, dI) vwCl (mw g h0 b i (va_up (va_up (va_up a 4 f_5) 6 (upd (a 6) vv.toNatClampNeg z_10)) 14 f_8)) _ := hP
  have hD : va_D _ (mw g h0 b i (va_up (va_up (va_up a 4 f_5) 6 (upd (a 6) vv.toNatClampNeg z_10)) 14 f_8)) := hD
  obtain ⟨f_11, ef_11⟩ : ∃ z, z = (upd (a 6) vv.toNatClampNeg z_10) := ⟨_, rfl⟩
  rw [← ef_11] at hP hD
  refine lv_aload_n hx hb dX10_dips_41 rfl (lv_at hl 1 rfl) ?_
  refine va_get (D := (dC, dI)) (ci := 10) (v := .ref (b 6)) (C := RX10) (T := TX10) (N := 51) hx hb hts inw_X10_dips_10 hown hK hP 0 rfl rfl 6 (by decide) (hts (.fieldLink RX10 16 "VatHouseModel" "minutes" "[I") (by decide +kernel)) (fun _ h9 => h9) rfl dX10_dips_42 ?_
  refine lv_iload_n hx hb dX10_dips_45 rfl (lv_at hl 3 rfl) ?_
  refine va_iald hx hb hK hP 3 2 rfl rfl (by assumption) dX10_dips_46 ?_
  refine lv_topi (fun z_12 ez_12 => ?_)
  have ez_12 : z_12 = f_11 vv.toNatClampNeg := ez_12
  refine lv_bipush (v := 60) hx hb dX10_dips_47 (by decide) ?_
  refine lv_icmp_le (tgt := 59) hx hb dX10_dips_49 (by decide) (fun c_13 => ?_) (fun c_13 => ?_)
  · have nc_13 := le_i c_13
    have lc_13 : (60 : Int32).toInt = 60 := by decide
    refine lv_aload_n hx hb dX10_dips_59 rfl (lv_at hl 1 rfl) ?_
    refine va_get (D := (dC, dI)) (ci := 10) (v := .ref (b 5)) (C := RX10) (T := TX10) (N := 51) hx hb hts inw_X10_dips_10 hown hK hP 0 rfl rfl 5 (by decide) (hts (.fieldLink RX10 13 "VatHouseModel" "food" "[I") (by decide +kernel)) (fun _ h9 => h9) rfl dX10_dips_60 ?_
    refine lv_iload_n hx hb dX10_dips_63 rfl (lv_at hl 3 rfl) ?_
    refine lv_dup2_11 hx hb dX10_dips_64 rfl rfl ?_
    refine va_iald hx hb hK hP 2 1 rfl rfl (by assumption) dX10_dips_65 ?_
    refine lv_topi (fun z_14 ez_14 => ?_)
    have ez_14 : z_14 = (a 5) vv.toNatClampNeg := ez_14
    refine lv_iload_n hx hb dX10_dips_66 rfl (lv_at hl 4 rfl) ?_
    refine lv_isub hx hb dX10_dips_67 ?_
    refine lv_topi (fun z_15 ez_15 => ?_)
    refine va_iast hx hb hK hP hD hS 2 1 rfl rfl (by assumption) dX10_dips_68 (fun H locs hP hD hS => ?_)
    have hP : va_P (dC, dI) vwCl (mw g h0 b i (va_up (va_up (va_up (va_up a 4 f_5) 5 (upd (a 5) vv.toNatClampNeg z_15)) 6 f_11) 14 f_8)) _ := hP
    have hD : va_D _ (mw g h0 b i (va_up (va_up (va_up (va_up a 4 f_5) 5 (upd (a 5) vv.toNatClampNeg z_15)) 6 f_11) 14 f_8)) := hD
    obtain ⟨f_16, ef_16⟩ : ∃ z, z = (upd (a 5) vv.toNatClampNeg z_15) := ⟨_, rfl⟩
    rw [← ef_16] at hP hD
    refine lv_aload_n hx hb dX10_dips_69 rfl (lv_at hl 1 rfl) ?_
    refine va_get (D := (dC, dI)) (ci := 10) (v := .ref (b 5)) (C := RX10) (T := TX10) (N := 51) hx hb hts inw_X10_dips_10 hown hK hP 0 rfl rfl 5 (by decide) (hts (.fieldLink RX10 13 "VatHouseModel" "food" "[I") (by decide +kernel)) (fun _ h9 => h9) rfl dX10_dips_70 ?_
    refine lv_iload_n hx hb dX10_dips_73 rfl (lv_at hl 3 rfl) ?_
    refine va_iald hx hb hK hP 2 1 rfl rfl (by assumption) dX10_dips_74 ?_
    refine lv_topi (fun z_17 ez_17 => ?_)
    have ez_17 : z_17 = f_16 vv.toNatClampNeg := ez_17
    refine lv_iconst (v := 1) hx hb dX10_dips_75 (by decide) ?_
    refine lv_icmp_ge (tgt := 93) hx hb dX10_dips_76 (by decide) (fun c_18 => ?_) (fun c_18 => ?_)
    · have nc_18 := le_i c_18
      have lc_18 : (1 : Int32).toInt = 1 := by decide
      refine lv_aload_n hx hb dX10_dips_93 rfl (lv_at hl 1 rfl) ?_
      refine va_get (D := (dC, dI)) (ci := 10) (v := .ref (b 10)) (C := RX10) (T := TX10) (N := 51) hx hb hts inw_X10_dips_10 hown hK hP 0 rfl rfl 10 (by decide) (hts (.fieldLink RX10 28 "VatHouseModel" "isDipped" "[Z") (by decide +kernel)) (fun _ h9 => h9) rfl dX10_dips_94 ?_
      refine lv_iload_n hx hb dX10_dips_97 rfl (lv_at hl 3 rfl) ?_
      refine lv_iconst (v := 1) hx hb dX10_dips_98 (by decide) ?_
      refine va_zast hx hb hK hP hD hS 7 6 rfl rfl (by assumption) dX10_dips_99 (fun H locs hP hD hS => ?_)
      have hP : va_P (dC, dI) vwCl (mw g h0 b i (va_up (va_up (va_up (va_up (va_up a 4 f_5) 5 f_16) 6 f_11) 10 (upd (a 10) vv.toNatClampNeg (vp_nar .boolean (1 : Int32)))) 14 f_8)) _ := hP
      have hD : va_D _ (mw g h0 b i (va_up (va_up (va_up (va_up (va_up a 4 f_5) 5 f_16) 6 f_11) 10 (upd (a 10) vv.toNatClampNeg (vp_nar .boolean (1 : Int32)))) 14 f_8)) := hD
      obtain ⟨f_19, ef_19⟩ : ∃ z, z = (upd (a 10) vv.toNatClampNeg (vp_nar .boolean (1 : Int32))) := ⟨_, rfl⟩
      rw [← ef_19] at hP hD
      refine lv_aload_n hx hb dX10_dips_100 rfl (lv_at hl 1 rfl) ?_
      refine va_get (D := (dC, dI)) (ci := 10) (v := .ref (b 8)) (C := RX10) (T := TX10) (N := 51) hx hb hts inw_X10_dips_10 hown hK hP 0 rfl rfl 8 (by decide) (hts (.fieldLink RX10 22 "VatHouseModel" "dips" "[I") (by decide +kernel)) (fun _ h9 => h9) rfl dX10_dips_101 ?_
      refine lv_iload_n hx hb dX10_dips_104 rfl (lv_at hl 3 rfl) ?_
      refine lv_dup2_11 hx hb dX10_dips_105 rfl rfl ?_
      refine va_iald hx hb hK hP 5 4 rfl rfl (by assumption) dX10_dips_106 ?_
      refine lv_topi (fun z_20 ez_20 => ?_)
      have ez_20 : z_20 = (a 8) vv.toNatClampNeg := ez_20
      refine lv_iconst (v := 1) hx hb dX10_dips_107 (by decide) ?_
      refine lv_iadd hx hb dX10_dips_108 ?_
      refine lv_topi (fun z_21 ez_21 => ?_)
      refine va_iast hx hb hK hP hD hS 5 4 rfl rfl (by assumption) dX10_dips_109 (fun H locs hP hD hS => ?_)
      have hP : va_P (dC, dI) vwCl (mw g h0 b i (va_up (va_up (va_up (va_up (va_up (va_up a 4 f_5) 5 f_16) 6 f_11) 8 (upd (a 8) vv.toNatClampNeg z_21)) 10 f_19) 14 f_8)) _ := hP
      have hD : va_D _ (mw g h0 b i (va_up (va_up (va_up (va_up (va_up (va_up a 4 f_5) 5 f_16) 6 f_11) 8 (upd (a 8) vv.toNatClampNeg z_21)) 10 f_19) 14 f_8)) := hD
      obtain ⟨f_22, ef_22⟩ : ∃ z, z = (upd (a 8) vv.toNatClampNeg z_21) := ⟨_, rfl⟩
      rw [← ef_22] at hP hD
      refine lv_aload_n hx hb dX10_dips_110 rfl (lv_at hl 1 rfl) ?_
      refine va_get (D := (dC, dI)) (ci := 10) (v := .ref (b 9)) (C := RX10) (T := TX10) (N := 51) hx hb hts inw_X10_dips_10 hown hK hP 0 rfl rfl 9 (by decide) (hts (.fieldLink RX10 25 "VatHouseModel" "dyed" "[I") (by decide +kernel)) (fun _ h9 => h9) rfl dX10_dips_111 ?_
      refine lv_iload_n hx hb dX10_dips_114 rfl (lv_at hl 3 rfl) ?_
      refine lv_dup2_11 hx hb dX10_dips_115 rfl rfl ?_
      refine va_iald hx hb hK hP 6 5 rfl rfl (by assumption) dX10_dips_116 ?_
      refine lv_topi (fun z_23 ez_23 => ?_)
      have ez_23 : z_23 = (a 9) vv.toNatClampNeg := ez_23
      refine lv_iconst (v := 1) hx hb dX10_dips_117 (by decide) ?_
      refine lv_iload_n hx hb dX10_dips_118 rfl (lv_at hl 2 rfl) ?_
      refine lv_ishl hx hb dX10_dips_119 ?_
      refine lv_topi (fun z_24 ez_24 => ?_)
      refine lv_ior hx hb dX10_dips_120 ?_
      refine lv_topi (fun z_25 ez_25 => ?_)
      refine va_iast hx hb hK hP hD hS 6 5 rfl rfl (by assumption) dX10_dips_121 (fun H locs hP hD hS => ?_)
      have hP : va_P (dC, dI) vwCl (mw g h0 b i (va_up (va_up (va_up (va_up (va_up (va_up (va_up a 4 f_5) 5 f_16) 6 f_11) 8 f_22) 9 (upd (a 9) vv.toNatClampNeg z_25)) 10 f_19) 14 f_8)) _ := hP
      have hD : va_D _ (mw g h0 b i (va_up (va_up (va_up (va_up (va_up (va_up (va_up a 4 f_5) 5 f_16) 6 f_11) 8 f_22) 9 (upd (a 9) vv.toNatClampNeg z_25)) 10 f_19) 14 f_8)) := hD
      obtain ⟨f_26, ef_26⟩ : ∃ z, z = (upd (a 9) vv.toNatClampNeg z_25) := ⟨_, rfl⟩
      rw [← ef_26] at hP hD
      refine lv_aload_n hx hb dX10_dips_122 rfl (lv_at hl 1 rfl) ?_
      refine va_get (D := (dC, dI)) (ci := 10) (v := .ref (b 17)) (C := RX10) (T := TX10) (N := 51) hx hb hts inw_X10_dips_10 hown hK hP 0 rfl rfl 17 (by decide) (hts (.fieldLink RX10 47 "VatHouseModel" "vats" "[I") (by decide +kernel)) (fun _ h9 => h9) rfl dX10_dips_123 ?_
      refine lv_iload_n hx hb dX10_dips_126 rfl (lv_at hl 2 rfl) ?_
      refine lv_dup2_11 hx hb dX10_dips_127 rfl rfl ?_
      refine va_iald hx hb hK hP 13 12 rfl rfl (by assumption) dX10_dips_128 ?_
      refine lv_topi (fun z_27 ez_27 => ?_)
      have ez_27 : z_27 = (a 17) ck.toNatClampNeg := ez_27
      refine lv_iconst (v := 1) hx hb dX10_dips_129 (by decide) ?_
      refine lv_iload_n hx hb dX10_dips_130 rfl (lv_at hl 3 rfl) ?_
      refine lv_ishl hx hb dX10_dips_131 ?_
      refine lv_topi (fun z_28 ez_28 => ?_)
      refine lv_ior hx hb dX10_dips_132 ?_
      refine lv_topi (fun z_29 ez_29 => ?_)
      refine va_iast hx hb hK hP hD hS 13 12 rfl rfl (by assumption) dX10_dips_133 (fun H locs hP hD hS => ?_)
      have hP : va_P (dC, dI) vwCl (mw g h0 b i (va_up (va_up (va_up (va_up (va_up (va_up (va_up (va_up a 4 f_5) 5 f_16) 6 f_11) 8 f_22) 9 f_26) 10 f_19) 14 f_8) 17 (upd (a 17) ck.toNatClampNeg z_29))) _ := hP
      have hD : va_D _ (mw g h0 b i (va_up (va_up (va_up (va_up (va_up (va_up (va_up (va_up a 4 f_5) 5 f_16) 6 f_11) 8 f_22) 9 f_26) 10 f_19) 14 f_8) 17 (upd (a 17) ck.toNatClampNeg z_29))) := hD
      obtain ⟨f_30, ef_30⟩ : ∃ z, z = (upd (a 17) ck.toNatClampNeg z_29) := ⟨_, rfl⟩
      rw [← ef_30] at hP hD
      refine lv_aload_n hx hb dX10_dips_134 rfl (lv_at hl 1 rfl) ?_
      refine va_get (D := (dC, dI)) (ci := 10) (v := .ref (b 18)) (C := RX10) (T := TX10) (N := 51) hx hb hts inw_X10_dips_10 hown hK hP 0 rfl rfl 18 (by decide) (hts (.fieldLink RX10 50 "VatHouseModel" "often" "[I") (by decide +kernel)) (fun _ h9 => h9) rfl dX10_dips_135 ?_
      refine lv_iload_n hx hb dX10_dips_138 rfl (lv_at hl 2 rfl) ?_
      refine lv_dup2_11 hx hb dX10_dips_139 rfl rfl ?_
      refine va_iald hx hb hK hP 14 13 rfl rfl (by assumption) dX10_dips_140 ?_
      refine lv_topi (fun z_31 ez_31 => ?_)
      have ez_31 : z_31 = (a 18) ck.toNatClampNeg := ez_31
      refine lv_iconst (v := 1) hx hb dX10_dips_141 (by decide) ?_
      refine lv_iadd hx hb dX10_dips_142 ?_
      refine lv_topi (fun z_32 ez_32 => ?_)
      refine va_iast hx hb hK hP hD hS 14 13 rfl rfl (by assumption) dX10_dips_143 (fun H locs hP hD hS => ?_)
      have hP : va_P (dC, dI) vwCl (mw g h0 b i (va_up (va_up (va_up (va_up (va_up (va_up (va_up (va_up (va_up a 4 f_5) 5 f_16) 6 f_11) 8 f_22) 9 f_26) 10 f_19) 14 f_8) 17 f_30) 18 (upd (a 18) ck.toNatClampNeg z_32))) _ := hP
      have hD : va_D _ (mw g h0 b i (va_up (va_up (va_up (va_up (va_up (va_up (va_up (va_up (va_up a 4 f_5) 5 f_16) 6 f_11) 8 f_22) 9 f_26) 10 f_19) 14 f_8) 17 f_30) 18 (upd (a 18) ck.toNatClampNeg z_32))) := hD
      obtain ⟨f_33, ef_33⟩ : ∃ z, z = (upd (a 18) ck.toNatClampNeg z_32) := ⟨_, rfl⟩
      rw [← ef_33] at hP hD
      refine lv_iload hx hb dX10_dips_144 (lv_at hl 0 rfl) ?_
      exact M_i hx hb hr hlocks (f_5, f_16, f_11, (a 7), f_22, f_26, f_19, f_8, f_30, f_33) hP hD hK hS ⟨⟨_, rfl⟩, trivial⟩ (Nat.le_of_ble_eq_true rfl) (Nat.le_of_ble_eq_true rfl) dX10_dips_146
    · have nc_18 := nle_i c_18
      have lc_18 : (1 : Int32).toInt = 1 := by decide
      refine lv_aload_n hx hb dX10_dips_79 rfl (lv_at hl 1 rfl) ?_
      refine va_get (D := (dC, dI)) (ci := 10) (v := .ref (b 5)) (C := RX10) (T := TX10) (N := 51) hx hb hts inw_X10_dips_10 hown hK hP 0 rfl rfl 5 (by decide) (hts (.fieldLink RX10 13 "VatHouseModel" "food" "[I") (by decide +kernel)) (fun _ h9 => h9) rfl dX10_dips_80 ?_
      refine lv_iload_n hx hb dX10_dips_83 rfl (lv_at hl 3 rfl) ?_
      refine lv_iconst (v := 0) hx hb dX10_dips_84 (by decide) ?_
      refine va_iast hx hb hK hP hD hS 2 1 rfl rfl (by assumption) dX10_dips_85 (fun H locs hP hD hS => ?_)
      have hP : va_P (dC, dI) vwCl (mw g h0 b i (va_up (va_up (va_up (va_up a 4 f_5) 5 (upd f_16 vv.toNatClampNeg (0 : Int32))) 6 f_11) 14 f_8)) _ := hP
      have hD : va_D _ (mw g h0 b i (va_up (va_up (va_up (va_up a 4 f_5) 5 (upd f_16 vv.toNatClampNeg (0 : Int32))) 6 f_11) 14 f_8)) := hD
      obtain ⟨f_34, ef_34⟩ : ∃ z, z = (upd f_16 vv.toNatClampNeg (0 : Int32)) := ⟨_, rfl⟩
      rw [← ef_34] at hP hD
      refine lv_aload_n hx hb dX10_dips_86 rfl (lv_at hl 1 rfl) ?_
      refine va_get (D := (dC, dI)) (ci := 10) (v := .ref (b 7)) (C := RX10) (T := TX10) (N := 51) hx hb hts inw_X10_dips_10 hown hK hP 0 rfl rfl 7 (by decide) (hts (.fieldLink RX10 19 "VatHouseModel" "state" "[I") (by decide +kernel)) (fun _ h9 => h9) rfl dX10_dips_87 ?_
      refine lv_iload_n hx hb dX10_dips_90 rfl (lv_at hl 3 rfl) ?_
      refine lv_iconst (v := 2) hx hb dX10_dips_91 (by decide) ?_
      refine va_iast hx hb hK hP hD hS 4 3 rfl rfl (by assumption) dX10_dips_92 (fun H locs hP hD hS => ?_)
      have hP : va_P (dC, dI) vwCl (mw g h0 b i (va_up (va_up (va_up (va_up (va_up a 4 f_5) 5 f_34) 6 f_11) 7 (upd (a 7) vv.toNatClampNeg (2 : Int32))) 14 f_8)) _ := hP
      have hD : va_D _ (mw g h0 b i (va_up (va_up (va_up (va_up (va_up a 4 f_5) 5 f_34) 6 f_11) 7 (upd (a 7) vv.toNatClampNeg (2 : Int32))) 14 f_8)) := hD
      obtain ⟨f_35, ef_35⟩ : ∃ z, z = (upd (a 7) vv.toNatClampNeg (2 : Int32)) := ⟨_, rfl⟩
      rw [← ef_35] at hP hD
      refine lv_aload_n hx hb dX10_dips_93 rfl (lv_at hl 1 rfl) ?_
      refine va_get (D := (dC, dI)) (ci := 10) (v := .ref (b 10)) (C := RX10) (T := TX10) (N := 51) hx hb hts inw_X10_dips_10 hown hK hP 0 rfl rfl 10 (by decide) (hts (.fieldLink RX10 28 "VatHouseModel" "isDipped" "[Z") (by decide +kernel)) (fun _ h9 => h9) rfl dX10_dips_94 ?_
      refine lv_iload_n hx hb dX10_dips_97 rfl (lv_at hl 3 rfl) ?_
      refine lv_iconst (v := 1) hx hb dX10_dips_98 (by decide) ?_
      refine va_zast hx hb hK hP hD hS 7 6 rfl rfl (by assumption) dX10_dips_99 (fun H locs hP hD hS => ?_)
      have hP : va_P (dC, dI) vwCl (mw g h0 b i (va_up (va_up (va_up (va_up (va_up (va_up a 4 f_5) 5 f_34) 6 f_11) 7 f_35) 10 (upd (a 10) vv.toNatClampNeg (vp_nar .boolean (1 : Int32)))) 14 f_8)) _ := hP
      have hD : va_D _ (mw g h0 b i (va_up (va_up (va_up (va_up (va_up (va_up a 4 f_5) 5 f_34) 6 f_11) 7 f_35) 10 (upd (a 10) vv.toNatClampNeg (vp_nar .boolean (1 : Int32)))) 14 f_8)) := hD
      obtain ⟨f_36, ef_36⟩ : ∃ z, z = (upd (a 10) vv.toNatClampNeg (vp_nar .boolean (1 : Int32))) := ⟨_, rfl⟩
      rw [← ef_36] at hP hD
      refine lv_aload_n hx hb dX10_dips_100 rfl (lv_at hl 1 rfl) ?_
      refine va_get (D := (dC, dI)) (ci := 10) (v := .ref (b 8)) (C := RX10) (T := TX10) (N := 51) hx hb hts inw_X10_dips_10 hown hK hP 0 rfl rfl 8 (by decide) (hts (.fieldLink RX10 22 "VatHouseModel" "dips" "[I") (by decide +kernel)) (fun _ h9 => h9) rfl dX10_dips_101 ?_
      refine lv_iload_n hx hb dX10_dips_104 rfl (lv_at hl 3 rfl) ?_
      refine lv_dup2_11 hx hb dX10_dips_105 rfl rfl ?_
      refine va_iald hx hb hK hP 5 4 rfl rfl (by assumption) dX10_dips_106 ?_
      refine lv_topi (fun z_37 ez_37 => ?_)
      have ez_37 : z_37 = (a 8) vv.toNatClampNeg := ez_37
      refine lv_iconst (v := 1) hx hb dX10_dips_107 (by decide) ?_
      refine lv_iadd hx hb dX10_dips_108 ?_
      refine lv_topi (fun z_38 ez_38 => ?_)
      refine va_iast hx hb hK hP hD hS 5 4 rfl rfl (by assumption) dX10_dips_109 (fun H locs hP hD hS => ?_)
      have hP : va_P (dC, dI) vwCl (mw g h0 b i (va_up (va_up (va_up (va_up (va_up (va_up (va_up a 4 f_5) 5 f_34) 6 f_11) 7 f_35) 8 (upd (a 8) vv.toNatClampNeg z_38)) 10 f_36) 14 f_8)) _ := hP
      have hD : va_D _ (mw g h0 b i (va_up (va_up (va_up (va_up (va_up (va_up (va_up a 4 f_5) 5 f_34) 6 f_11) 7 f_35) 8 (upd (a 8) vv.toNatClampNeg z_38)) 10 f_36) 14 f_8)) := hD
      obtain ⟨f_39, ef_39⟩ : ∃ z, z = (upd (a 8) vv.toNatClampNeg z_38) := ⟨_, rfl⟩
      rw [← ef_39] at hP hD
      refine lv_aload_n hx hb dX10_dips_110 rfl (lv_at hl 1 rfl) ?_
      refine va_get (D := (dC, dI)) (ci := 10) (v := .ref (b 9)) (C := RX10) (T := TX10) (N := 51) hx hb hts inw_X10_dips_10 hown hK hP 0 rfl rfl 9 (by decide) (hts (.fieldLink RX10 25 "VatHouseModel" "dyed" "[I") (by decide +kernel)) (fun _ h9 => h9) rfl dX10_dips_111 ?_
      refine lv_iload_n hx hb dX10_dips_114 rfl (lv_at hl 3 rfl) ?_
      refine lv_dup2_11 hx hb dX10_dips_115 rfl rfl ?_
      refine va_iald hx hb hK hP 6 5 rfl rfl (by assumption) dX10_dips_116 ?_
      refine lv_topi (fun z_40 ez_40 => ?_)
      have ez_40 : z_40 = (a 9) vv.toNatClampNeg := ez_40
      refine lv_iconst (v := 1) hx hb dX10_dips_117 (by decide) ?_
      refine lv_iload_n hx hb dX10_dips_118 rfl (lv_at hl 2 rfl) ?_
      refine lv_ishl hx hb dX10_dips_119 ?_
      refine lv_topi (fun z_41 ez_41 => ?_)
      refine lv_ior hx hb dX10_dips_120 ?_
      refine lv_topi (fun z_42 ez_42 => ?_)
      refine va_iast hx hb hK hP hD hS 6 5 rfl rfl (by assumption) dX10_dips_121 (fun H locs hP hD hS => ?_)
      have hP : va_P (dC, dI) vwCl (mw g h0 b i (va_up (va_up (va_up (va_up (va_up (va_up (va_up (va_up a 4 f_5) 5 f_34) 6 f_11) 7 f_35) 8 f_39) 9 (upd (a 9) vv.toNatClampNeg z_42)) 10 f_36) 14 f_8)) _ := hP
      have hD : va_D _ (mw g h0 b i (va_up (va_up (va_up (va_up (va_up (va_up (va_up (va_up a 4 f_5) 5 f_34) 6 f_11) 7 f_35) 8 f_39) 9 (upd (a 9) vv.toNatClampNeg z_42)) 10 f_36) 14 f_8)) := hD
      obtain ⟨f_43, ef_43⟩ : ∃ z, z = (upd (a 9) vv.toNatClampNeg z_42) := ⟨_, rfl⟩
      rw [← ef_43] at hP hD
      refine lv_aload_n hx hb dX10_dips_122 rfl (lv_at hl 1 rfl) ?_
      refine va_get (D := (dC, dI)) (ci := 10) (v := .ref (b 17)) (C := RX10) (T := TX10) (N := 51) hx hb hts inw_X10_dips_10 hown hK hP 0 rfl rfl 17 (by decide) (hts (.fieldLink RX10 47 "VatHouseModel" "vats" "[I") (by decide +kernel)) (fun _ h9 => h9) rfl dX10_dips_123 ?_
      refine lv_iload_n hx hb dX10_dips_126 rfl (lv_at hl 2 rfl) ?_
      refine lv_dup2_11 hx hb dX10_dips_127 rfl rfl ?_
      refine va_iald hx hb hK hP 13 12 rfl rfl (by assumption) dX10_dips_128 ?_
      refine lv_topi (fun z_44 ez_44 => ?_)
      have ez_44 : z_44 = (a 17) ck.toNatClampNeg := ez_44
      refine lv_iconst (v := 1) hx hb dX10_dips_129 (by decide) ?_
      refine lv_iload_n hx hb dX10_dips_130 rfl (lv_at hl 3 rfl) ?_
      refine lv_ishl hx hb dX10_dips_131 ?_
      refine lv_topi (fun z_45 ez_45 => ?_)
      refine lv_ior hx hb dX10_dips_132 ?_
      refine lv_topi (fun z_46 ez_46 => ?_)
      refine va_iast hx hb hK hP hD hS 13 12 rfl rfl (by assumption) dX10_dips_133 (fun H locs hP hD hS => ?_)
      have hP : va_P (dC, dI) vwCl (mw g h0 b i (va_up (va_up (va_up (va_up (va_up (va_up (va_up (va_up (va_up a 4 f_5) 5 f_34) 6 f_11) 7 f_35) 8 f_39) 9 f_43) 10 f_36) 14 f_8) 17 (upd (a 17) ck.toNatClampNeg z_46))) _ := hP
      have hD : va_D _ (mw g h0 b i (va_up (va_up (va_up (va_up (va_up (va_up (va_up (va_up (va_up a 4 f_5) 5 f_34) 6 f_11) 7 f_35) 8 f_39) 9 f_43) 10 f_36) 14 f_8) 17 (upd (a 17) ck.toNatClampNeg z_46))) := hD
      obtain ⟨f_47, ef_47⟩ : ∃ z, z = (upd (a 17) ck.toNatClampNeg z_46) := ⟨_, rfl⟩
      rw [← ef_47] at hP hD
      refine lv_aload_n hx hb dX10_dips_134 rfl (lv_at hl 1 rfl) ?_
      refine va_get (D := (dC, dI)) (ci := 10) (v := .ref (b 18)) (C := RX10) (T := TX10) (N := 51) hx hb hts inw_X10_dips_10 hown hK hP 0 rfl rfl 18 (by decide) (hts (.fieldLink RX10 50 "VatHouseModel" "often" "[I") (by decide +kernel)) (fun _ h9 => h9) rfl dX10_dips_135 ?_
      refine lv_iload_n hx hb dX10_dips_138 rfl (lv_at hl 2 rfl) ?_
      refine lv_dup2_11 hx hb dX10_dips_139 rfl rfl ?_
      refine va_iald hx hb hK hP 14 13 rfl rfl (by assumption) dX10_dips_140 ?_
      refine lv_topi (fun z_48 ez_48 => ?_)
      have ez_48 : z_48 = (a 18) ck.toNatClampNeg := ez_48
      refine lv_iconst (v := 1) hx hb dX10_dips_141 (by decide) ?_
      refine lv_iadd hx hb dX10_dips_142 ?_
      refine lv_topi (fun z_49 ez_49 => ?_)
      refine va_iast hx hb hK hP hD hS 14 13 rfl rfl (by assumption) dX10_dips_143 (fun H locs hP hD hS => ?_)
      have hP : va_P (dC, dI) vwCl (mw g h0 b i (va_up (va_up (va_up (va_up (va_up (va_up (va_up (va_up (va_up (va_up a 4 f_5) 5 f_34) 6 f_11) 7 f_35) 8 f_39) 9 f_43) 10 f_36) 14 f_8) 17 f_47) 18 (upd (a 18) ck.toNatClampNeg z_49))) _ := hP
      have hD : va_D _ (mw g h0 b i (va_up (va_up (va_up (va_up (va_up (va_up (va_up (va_up (va_up (va_up a 4 f_5) 5 f_34) 6 f_11) 7 f_35) 8 f_39) 9 f_43) 10 f_36) 14 f_8) 17 f_47) 18 (upd (a 18) ck.toNatClampNeg z_49))) := hD
      obtain ⟨f_50, ef_50⟩ : ∃ z, z = (upd (a 18) ck.toNatClampNeg z_49) := ⟨_, rfl⟩
      rw [← ef_50] at hP hD
      refine lv_iload hx hb dX10_dips_144 (lv_at hl 0 rfl) ?_
      exact M_i hx hb hr hlocks (f_5, f_34, f_11, f_35, f_39, f_43, f_36, f_8, f_47, f_50) hP hD hK hS ⟨⟨_, rfl⟩, trivial⟩ (Nat.le_of_ble_eq_true rfl) (Nat.le_of_ble_eq_true rfl) dX10_dips_146
  · have nc_13 := nle_i c_13
    have lc_13 : (60 : Int32).toInt = 60 := by decide
    refine lv_aload_n hx hb dX10_dips_52 rfl (lv_at hl 1 rfl) ?_
    refine va_get (D := (dC, dI)) (ci := 10) (v := .ref (b 7)) (C := RX10) (T := TX10) (N := 51) hx hb hts inw_X10_dips_10 hown hK hP 0 rfl rfl 7 (by decide) (hts (.fieldLink RX10 19 "VatHouseModel" "state" "[I") (by decide +kernel)) (fun _ h9 => h9) rfl dX10_dips_53 ?_
    refine lv_iload_n hx hb dX10_dips_56 rfl (lv_at hl 3 rfl) ?_
    refine lv_iconst (v := 1) hx hb dX10_dips_57 (by decide) ?_
    refine va_iast hx hb hK hP hD hS 4 3 rfl rfl (by assumption) dX10_dips_58 (fun H locs hP hD hS => ?_)
    have hP : va_P (dC, dI) vwCl (mw g h0 b i (va_up (va_up (va_up (va_up a 4 f_5) 6 f_11) 7 (upd (a 7) vv.toNatClampNeg (1 : Int32))) 14 f_8)) _ := hP
    have hD : va_D _ (mw g h0 b i (va_up (va_up (va_up (va_up a 4 f_5) 6 f_11) 7 (upd (a 7) vv.toNatClampNeg (1 : Int32))) 14 f_8)) := hD
    obtain ⟨f_51, ef_51⟩ : ∃ z, z = (upd (a 7) vv.toNatClampNeg (1 : Int32)) := ⟨_, rfl⟩
    rw [← ef_51] at hP hD
    refine lv_aload_n hx hb dX10_dips_59 rfl (lv_at hl 1 rfl) ?_
    refine va_get (D := (dC, dI)) (ci := 10) (v := .ref (b 5)) (C := RX10) (T := TX10) (N := 51) hx hb hts inw_X10_dips_10 hown hK hP 0 rfl rfl 5 (by decide) (hts (.fieldLink RX10 13 "VatHouseModel" "food" "[I") (by decide +kernel)) (fun _ h9 => h9) rfl dX10_dips_60 ?_
    refine lv_iload_n hx hb dX10_dips_63 rfl (lv_at hl 3 rfl) ?_
    refine lv_dup2_11 hx hb dX10_dips_64 rfl rfl ?_
    refine va_iald hx hb hK hP 2 1 rfl rfl (by assumption) dX10_dips_65 ?_
    refine lv_topi (fun z_52 ez_52 => ?_)
    have ez_52 : z_52 = (a 5) vv.toNatClampNeg := ez_52
    refine lv_iload_n hx hb dX10_dips_66 rfl (lv_at hl 4 rfl) ?_
    refine lv_isub hx hb dX10_dips_67 ?_
    refine lv_topi (fun z_53 ez_53 => ?_)
    refine va_iast hx hb hK hP hD hS 2 1 rfl rfl (by assumption) dX10_dips_68 (fun H locs hP hD hS => ?_)
    have hP : va_P (dC, dI) vwCl (mw g h0 b i (va_up (va_up (va_up (va_up (va_up a 4 f_5) 5 (upd (a 5) vv.toNatClampNeg z_53)) 6 f_11) 7 f_51) 14 f_8)) _ := hP
    have hD : va_D _ (mw g h0 b i (va_up (va_up (va_up (va_up (va_up a 4 f_5) 5 (upd (a 5) vv.toNatClampNeg z_53)) 6 f_11) 7 f_51) 14 f_8)) := hD
    obtain ⟨f_54, ef_54⟩ : ∃ z, z = (upd (a 5) vv.toNatClampNeg z_53) := ⟨_, rfl⟩
    rw [← ef_54] at hP hD
    refine lv_aload_n hx hb dX10_dips_69 rfl (lv_at hl 1 rfl) ?_
    refine va_get (D := (dC, dI)) (ci := 10) (v := .ref (b 5)) (C := RX10) (T := TX10) (N := 51) hx hb hts inw_X10_dips_10 hown hK hP 0 rfl rfl 5 (by decide) (hts (.fieldLink RX10 13 "VatHouseModel" "food" "[I") (by decide +kernel)) (fun _ h9 => h9) rfl dX10_dips_70 ?_
    refine lv_iload_n hx hb dX10_dips_73 rfl (lv_at hl 3 rfl) ?_
    refine va_iald hx hb hK hP 2 1 rfl rfl (by assumption) dX10_dips_74 ?_
    refine lv_topi (fun z_55 ez_55 => ?_)
    have ez_55 : z_55 = f_54 vv.toNatClampNeg := ez_55
    refine lv_iconst (v := 1) hx hb dX10_dips_75 (by decide) ?_
    refine lv_icmp_ge (tgt := 93) hx hb dX10_dips_76 (by decide) (fun c_56 => ?_) (fun c_56 => ?_)
    · have nc_56 := le_i c_56
      have lc_56 : (1 : Int32).toInt = 1 := by decide
      refine lv_aload_n hx hb dX10_dips_93 rfl (lv_at hl 1 rfl) ?_
      refine va_get (D := (dC, dI)) (ci := 10) (v := .ref (b 10)) (C := RX10) (T := TX10) (N := 51) hx hb hts inw_X10_dips_10 hown hK hP 0 rfl rfl 10 (by decide) (hts (.fieldLink RX10 28 "VatHouseModel" "isDipped" "[Z") (by decide +kernel)) (fun _ h9 => h9) rfl dX10_dips_94 ?_
      refine lv_iload_n hx hb dX10_dips_97 rfl (lv_at hl 3 rfl) ?_
      refine lv_iconst (v := 1) hx hb dX10_dips_98 (by decide) ?_
      refine va_zast hx hb hK hP hD hS 7 6 rfl rfl (by assumption) dX10_dips_99 (fun H locs hP hD hS => ?_)
      have hP : va_P (dC, dI) vwCl (mw g h0 b i (va_up (va_up (va_up (va_up (va_up (va_up a 4 f_5) 5 f_54) 6 f_11) 7 f_51) 10 (upd (a 10) vv.toNatClampNeg (vp_nar .boolean (1 : Int32)))) 14 f_8)) _ := hP
      have hD : va_D _ (mw g h0 b i (va_up (va_up (va_up (va_up (va_up (va_up a 4 f_5) 5 f_54) 6 f_11) 7 f_51) 10 (upd (a 10) vv.toNatClampNeg (vp_nar .boolean (1 : Int32)))) 14 f_8)) := hD
      obtain ⟨f_57, ef_57⟩ : ∃ z, z = (upd (a 10) vv.toNatClampNeg (vp_nar .boolean (1 : Int32))) := ⟨_, rfl⟩
      rw [← ef_57] at hP hD
      refine lv_aload_n hx hb dX10_dips_100 rfl (lv_at hl 1 rfl) ?_
      refine va_get (D := (dC, dI)) (ci := 10) (v := .ref (b 8)) (C := RX10) (T := TX10) (N := 51) hx hb hts inw_X10_dips_10 hown hK hP 0 rfl rfl 8 (by decide) (hts (.fieldLink RX10 22 "VatHouseModel" "dips" "[I") (by decide +kernel)) (fun _ h9 => h9) rfl dX10_dips_101 ?_
      refine lv_iload_n hx hb dX10_dips_104 rfl (lv_at hl 3 rfl) ?_
      refine lv_dup2_11 hx hb dX10_dips_105 rfl rfl ?_
      refine va_iald hx hb hK hP 5 4 rfl rfl (by assumption) dX10_dips_106 ?_
      refine lv_topi (fun z_58 ez_58 => ?_)
      have ez_58 : z_58 = (a 8) vv.toNatClampNeg := ez_58
      refine lv_iconst (v := 1) hx hb dX10_dips_107 (by decide) ?_
      refine lv_iadd hx hb dX10_dips_108 ?_
      refine lv_topi (fun z_59 ez_59 => ?_)
      refine va_iast hx hb hK hP hD hS 5 4 rfl rfl (by assumption) dX10_dips_109 (fun H locs hP hD hS => ?_)
      have hP : va_P (dC, dI) vwCl (mw g h0 b i (va_up (va_up (va_up (va_up (va_up (va_up (va_up a 4 f_5) 5 f_54) 6 f_11) 7 f_51) 8 (upd (a 8) vv.toNatClampNeg z_59)) 10 f_57) 14 f_8)) _ := hP
      have hD : va_D _ (mw g h0 b i (va_up (va_up (va_up (va_up (va_up (va_up (va_up a 4 f_5) 5 f_54) 6 f_11) 7 f_51) 8 (upd (a 8) vv.toNatClampNeg z_59)) 10 f_57) 14 f_8)) := hD
      obtain ⟨f_60, ef_60⟩ : ∃ z, z = (upd (a 8) vv.toNatClampNeg z_59) := ⟨_, rfl⟩
      rw [← ef_60] at hP hD
      refine lv_aload_n hx hb dX10_dips_110 rfl (lv_at hl 1 rfl) ?_
      refine va_get (D := (dC, dI)) (ci := 10) (v := .ref (b 9)) (C := RX10) (T := TX10) (N := 51) hx hb hts inw_X10_dips_10 hown hK hP 0 rfl rfl 9 (by decide) (hts (.fieldLink RX10 25 "VatHouseModel" "dyed" "[I") (by decide +kernel)) (fun _ h9 => h9) rfl dX10_dips_111 ?_
      refine lv_iload_n hx hb dX10_dips_114 rfl (lv_at hl 3 rfl) ?_
      refine lv_dup2_11 hx hb dX10_dips_115 rfl rfl ?_
      refine va_iald hx hb hK hP 6 5 rfl rfl (by assumption) dX10_dips_116 ?_
      refine lv_topi (fun z_61 ez_61 => ?_)
      have ez_61 : z_61 = (a 9) vv.toNatClampNeg := ez_61
      refine lv_iconst (v := 1) hx hb dX10_dips_117 (by decide) ?_
      refine lv_iload_n hx hb dX10_dips_118 rfl (lv_at hl 2 rfl) ?_
      refine lv_ishl hx hb dX10_dips_119 ?_
      refine lv_topi (fun z_62 ez_62 => ?_)
      refine lv_ior hx hb dX10_dips_120 ?_
      refine lv_topi (fun z_63 ez_63 => ?_)
      refine va_iast hx hb hK hP hD hS 6 5 rfl rfl (by assumption) dX10_dips_121 (fun H locs hP hD hS => ?_)
      have hP : va_P (dC, dI) vwCl (mw g h0 b i (va_up (va_up (va_up (va_up (va_up (va_up (va_up (va_up a 4 f_5) 5 f_54) 6 f_11) 7 f_51) 8 f_60) 9 (upd (a 9) vv.toNatClampNeg z_63)) 10 f_57) 14 f_8)) _ := hP
      have hD : va_D _ (mw g h0 b i (va_up (va_up (va_up (va_up (va_up (va_up (va_up (va_up a 4 f_5) 5 f_54) 6 f_11) 7 f_51) 8 f_60) 9 (upd (a 9) vv.toNatClampNeg z_63)) 10 f_57) 14 f_8)) := hD
      obtain ⟨f_64, ef_64⟩ : ∃ z, z = (upd (a 9) vv.toNatClampNeg z_63) := ⟨_, rfl⟩
      rw [← ef_64] at hP hD
      refine lv_aload_n hx hb dX10_dips_122 rfl (lv_at hl 1 rfl) ?_
      refine va_get (D := (dC, dI)) (ci := 10) (v := .ref (b 17)) (C := RX10) (T := TX10) (N := 51) hx hb hts inw_X10_dips_10 hown hK hP 0 rfl rfl 17 (by decide) (hts (.fieldLink RX10 47 "VatHouseModel" "vats" "[I") (by decide +kernel)) (fun _ h9 => h9) rfl dX10_dips_123 ?_
      refine lv_iload_n hx hb dX10_dips_126 rfl (lv_at hl 2 rfl) ?_
      refine lv_dup2_11 hx hb dX10_dips_127 rfl rfl ?_
      refine va_iald hx hb hK hP 13 12 rfl rfl (by assumption) dX10_dips_128 ?_
      refine lv_topi (fun z_65 ez_65 => ?_)
      have ez_65 : z_65 = (a 17) ck.toNatClampNeg := ez_65
      refine lv_iconst (v := 1) hx hb dX10_dips_129 (by decide) ?_
      refine lv_iload_n hx hb dX10_dips_130 rfl (lv_at hl 3 rfl) ?_
      refine lv_ishl hx hb dX10_dips_131 ?_
      refine lv_topi (fun z_66 ez_66 => ?_)
      refine lv_ior hx hb dX10_dips_132 ?_
      refine lv_topi (fun z_67 ez_67 => ?_)
      refine va_iast hx hb hK hP hD hS 13 12 rfl rfl (by assumption) dX10_dips_133 (fun H locs hP hD hS => ?_)
      have hP : va_P (dC, dI) vwCl (mw g h0 b i (va_up (va_up (va_up (va_up (va_up (va_up (va_up (va_up (va_up a 4 f_5) 5 f_54) 6 f_11) 7 f_51) 8 f_60) 9 f_64) 10 f_57) 14 f_8) 17 (upd (a 17) ck.toNatClampNeg z_67))) _ := hP
      have hD : va_D _ (mw g h0 b i (va_up (va_up (va_up (va_up (va_up (va_up (va_up (va_up (va_up a 4 f_5) 5 f_54) 6 f_11) 7 f_51) 8 f_60) 9 f_64) 10 f_57) 14 f_8) 17 (upd (a 17) ck.toNatClampNeg z_67))) := hD
      obtain ⟨f_68, ef_68⟩ : ∃ z, z = (upd (a 17) ck.toNatClampNeg z_67) := ⟨_, rfl⟩
      rw [← ef_68] at hP hD
      refine lv_aload_n hx hb dX10_dips_134 rfl (lv_at hl 1 rfl) ?_
      refine va_get (D := (dC, dI)) (ci := 10) (v := .ref (b 18)) (C := RX10) (T := TX10) (N := 51) hx hb hts inw_X10_dips_10 hown hK hP 0 rfl rfl 18 (by decide) (hts (.fieldLink RX10 50 "VatHouseModel" "often" "[I") (by decide +kernel)) (fun _ h9 => h9) rfl dX10_dips_135 ?_
      refine lv_iload_n hx hb dX10_dips_138 rfl (lv_at hl 2 rfl) ?_
      refine lv_dup2_11 hx hb dX10_dips_139 rfl rfl ?_
      refine va_iald hx hb hK hP 14 13 rfl rfl (by assumption) dX10_dips_140 ?_
      refine lv_topi (fun z_69 ez_69 => ?_)
      have ez_69 : z_69 = (a 18) ck.toNatClampNeg := ez_69
      refine lv_iconst (v := 1) hx hb dX10_dips_141 (by decide) ?_
      refine lv_iadd hx hb dX10_dips_142 ?_
      refine lv_topi (fun z_70 ez_70 => ?_)
      refine va_iast hx hb hK hP hD hS 14 13 rfl rfl (by assumption) dX10_dips_143 (fun H locs hP hD hS => ?_)
      have hP : va_P (dC, dI) vwCl (mw g h0 b i (va_up (va_up (va_up (va_up (va_up (va_up (va_up (va_up (va_up (va_up a 4 f_5) 5 f_54) 6 f_11) 7 f_51) 8 f_60) 9 f_64) 10 f_57) 14 f_8) 17 f_68) 18 (upd (a 18) ck.toNatClampNeg z_70))) _ := hP
      have hD : va_D _ (mw g h0 b i (va_up (va_up (va_up (va_up (va_up (va_up (va_up (va_up (va_up (va_up a 4 f_5) 5 f_54) 6 f_11) 7 f_51) 8 f_60) 9 f_64) 10 f_57) 14 f_8) 17 f_68) 18 (upd (a 18) ck.toNatClampNeg z_70))) := hD
      obtain ⟨f_71, ef_71⟩ : ∃ z, z = (upd (a 18) ck.toNatClampNeg z_70) := ⟨_, rfl⟩
      rw [← ef_71] at hP hD
      refine lv_iload hx hb dX10_dips_144 (lv_at hl 0 rfl) ?_
      exact M_i hx hb hr hlocks (f_5, f_54, f_11, f_51, f_60, f_64, f_57, f_8, f_68, f_71) hP hD hK hS ⟨⟨_, rfl⟩, trivial⟩ (Nat.le_of_ble_eq_true rfl) (Nat.le_of_ble_eq_true rfl) dX10_dips_146
    · have nc_56 := nle_i c_56
      have lc_56 : (1 : Int32).toInt = 1 := by decide
      refine lv_aload_n hx hb dX10_dips_79 rfl (lv_at hl 1 rfl) ?_
      refine va_get (D := (dC, dI)) (ci := 10) (v := .ref (b 5)) (C := RX10) (T := TX10) (N := 51) hx hb hts inw_X10_dips_10 hown hK hP 0 rfl rfl 5 (by decide) (hts (.fieldLink RX10 13 "VatHouseModel" "food" "[I") (by decide +kernel)) (fun _ h9 => h9) rfl dX10_dips_80 ?_
      refine lv_iload_n hx hb dX10_dips_83 rfl (lv_at hl 3 rfl) ?_
      refine lv_iconst (v := 0) hx hb dX10_dips_84 (by decide) ?_
      refine va_iast hx hb hK hP hD hS 2 1 rfl rfl (by assumption) dX10_dips_85 (fun H locs hP hD hS => ?_)
      have hP : va_P (dC, dI) vwCl (mw g h0 b i (va_up (va_up (va_up (va_up (va_up a 4 f_5) 5 (upd f_54 vv.toNatClampNeg (0 : Int32))) 6 f_11) 7 f_51) 14 f_8)) _ := hP
      have hD : va_D _ (mw g h0 b i (va_up (va_up (va_up (va_up (va_up a 4 f_5) 5 (upd f_54 vv.toNatClampNeg (0 : Int32))) 6 f_11) 7 f_51) 14 f_8)) := hD
      obtain ⟨f_72, ef_72⟩ : ∃ z, z = (upd f_54 vv.toNatClampNeg (0 : Int32)) := ⟨_, rfl⟩
      rw [← ef_72] at hP hD
      refine lv_aload_n hx hb dX10_dips_86 rfl (lv_at hl 1 rfl) ?_
      refine va_get (D := (dC, dI)) (ci := 10) (v := .ref (b 7)) (C := RX10) (T := TX10) (N := 51) hx hb hts inw_X10_dips_10 hown hK hP 0 rfl rfl 7 (by decide) (hts (.fieldLink RX10 19 "VatHouseModel" "state" "[I") (by decide +kernel)) (fun _ h9 => h9) rfl dX10_dips_87 ?_
      refine lv_iload_n hx hb dX10_dips_90 rfl (lv_at hl 3 rfl) ?_
      refine lv_iconst (v := 2) hx hb dX10_dips_91 (by decide) ?_
      refine va_iast hx hb hK hP hD hS 4 3 rfl rfl (by assumption) dX10_dips_92 (fun H locs hP hD hS => ?_)
      have hP : va_P (dC, dI) vwCl (mw g h0 b i (va_up (va_up (va_up (va_up (va_up a 4 f_5) 5 f_72) 6 f_11) 7 (upd f_51 vv.toNatClampNeg (2 : Int32))) 14 f_8)) _ := hP
      have hD : va_D _ (mw g h0 b i (va_up (va_up (va_up (va_up (va_up a 4 f_5) 5 f_72) 6 f_11) 7 (upd f_51 vv.toNatClampNeg (2 : Int32))) 14 f_8)) := hD
      obtain ⟨f_73, ef_73⟩ : ∃ z, z = (upd f_51 vv.toNatClampNeg (2 : Int32)) := ⟨_, rfl⟩
      rw [← ef_73] at hP hD
      refine lv_aload_n hx hb dX10_dips_93 rfl (lv_at hl 1 rfl) ?_
      refine va_get (D := (dC, dI)) (ci := 10) (v := .ref (b 10)) (C := RX10) (T := TX10) (N := 51) hx hb hts inw_X10_dips_10 hown hK hP 0 rfl rfl 10 (by decide) (hts (.fieldLink RX10 28 "VatHouseModel" "isDipped" "[Z") (by decide +kernel)) (fun _ h9 => h9) rfl dX10_dips_94 ?_
      refine lv_iload_n hx hb dX10_dips_97 rfl (lv_at hl 3 rfl) ?_
      refine lv_iconst (v := 1) hx hb dX10_dips_98 (by decide) ?_
      refine va_zast hx hb hK hP hD hS 7 6 rfl rfl (by assumption) dX10_dips_99 (fun H locs hP hD hS => ?_)
      have hP : va_P (dC, dI) vwCl (mw g h0 b i (va_up (va_up (va_up (va_up (va_up (va_up a 4 f_5) 5 f_72) 6 f_11) 7 f_73) 10 (upd (a 10) vv.toNatClampNeg (vp_nar .boolean (1 : Int32)))) 14 f_8)) _ := hP
      have hD : va_D _ (mw g h0 b i (va_up (va_up (va_up (va_up (va_up (va_up a 4 f_5) 5 f_72) 6 f_11) 7 f_73) 10 (upd (a 10) vv.toNatClampNeg (vp_nar .boolean (1 : Int32)))) 14 f_8)) := hD
      obtain ⟨f_74, ef_74⟩ : ∃ z, z = (upd (a 10) vv.toNatClampNeg (vp_nar .boolean (1 : Int32))) := ⟨_, rfl⟩
      rw [← ef_74] at hP hD
      refine lv_aload_n hx hb dX10_dips_100 rfl (lv_at hl 1 rfl) ?_
      refine va_get (D := (dC, dI)) (ci := 10) (v := .ref (b 8)) (C := RX10) (T := TX10) (N := 51) hx hb hts inw_X10_dips_10 hown hK hP 0 rfl rfl 8 (by decide) (hts (.fieldLink RX10 22 "VatHouseModel" "dips" "[I") (by decide +kernel)) (fun _ h9 => h9) rfl dX10_dips_101 ?_
      refine lv_iload_n hx hb dX10_dips_104 rfl (lv_at hl 3 rfl) ?_
      refine lv_dup2_11 hx hb dX10_dips_105 rfl rfl ?_
      refine va_iald hx hb hK hP 5 4 rfl rfl (by assumption) dX10_dips_106 ?_
      refine lv_topi (fun z_75 ez_75 => ?_)
      have ez_75 : z_75 = (a 8) vv.toNatClampNeg := ez_75
      refine lv_iconst (v := 1) hx hb dX10_dips_107 (by decide) ?_
      refine lv_iadd hx hb dX10_dips_108 ?_
      refine lv_topi (fun z_76 ez_76 => ?_)
      refine va_iast hx hb hK hP hD hS 5 4 rfl rfl (by assumption) dX10_dips_109 (fun H locs hP hD hS => ?_)
      have hP : va_P (dC, dI) vwCl (mw g h0 b i (va_up (va_up (va_up (va_up (va_up (va_up (va_up a 4 f_5) 5 f_72) 6 f_11) 7 f_73) 8 (upd (a 8) vv.toNatClampNeg z_76)) 10 f_74) 14 f_8)) _ := hP
      have hD : va_D _ (mw g h0 b i (va_up (va_up (va_up (va_up (va_up (va_up (va_up a 4 f_5) 5 f_72) 6 f_11) 7 f_73) 8 (upd (a 8) vv.toNatClampNeg z_76)) 10 f_74) 14 f_8)) := hD
      obtain ⟨f_77, ef_77⟩ : ∃ z, z = (upd (a 8) vv.toNatClampNeg z_76) := ⟨_, rfl⟩
      rw [← ef_77] at hP hD
      refine lv_aload_n hx hb dX10_dips_110 rfl (lv_at hl 1 rfl) ?_
      refine va_get (D := (dC, dI)) (ci := 10) (v := .ref (b 9)) (C := RX10) (T := TX10) (N := 51) hx hb hts inw_X10_dips_10 hown hK hP 0 rfl rfl 9 (by decide) (hts (.fieldLink RX10 25 "VatHouseModel" "dyed" "[I") (by decide +kernel)) (fun _ h9 => h9) rfl dX10_dips_111 ?_
      refine lv_iload_n hx hb dX10_dips_114 rfl (lv_at hl 3 rfl) ?_
      refine lv_dup2_11 hx hb dX10_dips_115 rfl rfl ?_
      refine va_iald hx hb hK hP 6 5 rfl rfl (by assumption) dX10_dips_116 ?_
      refine lv_topi (fun z_78 ez_78 => ?_)
      have ez_78 : z_78 = (a 9) vv.toNatClampNeg := ez_78
      refine lv_iconst (v := 1) hx hb dX10_dips_117 (by decide) ?_
      refine lv_iload_n hx hb dX10_dips_118 rfl (lv_at hl 2 rfl) ?_
      refine lv_ishl hx hb dX10_dips_119 ?_
      refine lv_topi (fun z_79 ez_79 => ?_)
      refine lv_ior hx hb dX10_dips_120 ?_
      refine lv_topi (fun z_80 ez_80 => ?_)
      refine va_iast hx hb hK hP hD hS 6 5 rfl rfl (by assumption) dX10_dips_121 (fun H locs hP hD hS => ?_)
      have hP : va_P (dC, dI) vwCl (mw g h0 b i (va_up (va_up (va_up (va_up (va_up (va_up (va_up (va_up a 4 f_5) 5 f_72) 6 f_11) 7 f_73) 8 f_77) 9 (upd (a 9) vv.toNatClampNeg z_80)) 10 f_74) 14 f_8)) _ := hP
      have hD : va_D _ (mw g h0 b i (va_up (va_up (va_up (va_up (va_up (va_up (va_up (va_up a 4 f_5) 5 f_72) 6 f_11) 7 f_73) 8 f_77) 9 (upd (a 9) vv.toNatClampNeg z_80)) 10 f_74) 14 f_8)) := hD
      obtain ⟨f_81, ef_81⟩ : ∃ z, z = (upd (a 9) vv.toNatClampNeg z_80) := ⟨_, rfl⟩
      rw [← ef_81] at hP hD
      refine lv_aload_n hx hb dX10_dips_122 rfl (lv_at hl 1 rfl) ?_
      refine va_get (D := (dC, dI)) (ci := 10) (v := .ref (b 17)) (C := RX10) (T := TX10) (N := 51) hx hb hts inw_X10_dips_10 hown hK hP 0 rfl rfl 17 (by decide) (hts (.fieldLink RX10 47 "VatHouseModel" "vats" "[I") (by decide +kernel)) (fun _ h9 => h9) rfl dX10_dips_123 ?_
      refine lv_iload_n hx hb dX10_dips_126 rfl (lv_at hl 2 rfl) ?_
      refine lv_dup2_11 hx hb dX10_dips_127 rfl rfl ?_
      refine va_iald hx hb hK hP 13 12 rfl rfl (by assumption) dX10_dips_128 ?_
      refine lv_topi (fun z_82 ez_82 => ?_)
      have ez_82 : z_82 = (a 17) ck.toNatClampNeg := ez_82
      refine lv_iconst (v := 1) hx hb dX10_dips_129 (by decide) ?_
      refine lv_iload_n hx hb dX10_dips_130 rfl (lv_at hl 3 rfl) ?_
      refine lv_ishl hx hb dX10_dips_131 ?_
      refine lv_topi (fun z_83 ez_83 => ?_)
      refine lv_ior hx hb dX10_dips_132 ?_
      refine lv_topi (fun z_84 ez_84 => ?_)
      refine va_iast hx hb hK hP hD hS 13 12 rfl rfl (by assumption) dX10_dips_133 (fun H locs hP hD hS => ?_)
      have hP : va_P (dC, dI) vwCl (mw g h0 b i (va_up (va_up (va_up (va_up (va_up (va_up (va_up (va_up (va_up a 4 f_5) 5 f_72) 6 f_11) 7 f_73) 8 f_77) 9 f_81) 10 f_74) 14 f_8) 17 (upd (a 17) ck.toNatClampNeg z_84))) _ := hP
      have hD : va_D _ (mw g h0 b i (va_up (va_up (va_up (va_up (va_up (va_up (va_up (va_up (va_up a 4 f_5) 5 f_72) 6 f_11) 7 f_73) 8 f_77) 9 f_81) 10 f_74) 14 f_8) 17 (upd (a 17) ck.toNatClampNeg z_84))) := hD
      obtain ⟨f_85, ef_85⟩ : ∃ z, z = (upd (a 17) ck.toNatClampNeg z_84) := ⟨_, rfl⟩
      rw [← ef_85] at hP hD
      refine lv_aload_n hx hb dX10_dips_134 rfl (lv_at hl 1 rfl) ?_
      refine va_get (D := (dC, dI)) (ci := 10) (v := .ref (b 18)) (C := RX10) (T := TX10) (N := 51) hx hb hts inw_X10_dips_10 hown hK hP 0 rfl rfl 18 (by decide) (hts (.fieldLink RX10 50 "VatHouseModel" "often" "[I") (by decide +kernel)) (fun _ h9 => h9) rfl dX10_dips_135 ?_
      refine lv_iload_n hx hb dX10_dips_138 rfl (lv_at hl 2 rfl) ?_
      refine lv_dup2_11 hx hb dX10_dips_139 rfl rfl ?_
      refine va_iald hx hb hK hP 14 13 rfl rfl (by assumption) dX10_dips_140 ?_
      refine lv_topi (fun z_86 ez_86 => ?_)
      have ez_86 : z_86 = (a 18) ck.toNatClampNeg := ez_86
      refine lv_iconst (v := 1) hx hb dX10_dips_141 (by decide) ?_
      refine lv_iadd hx hb dX10_dips_142 ?_
      refine lv_topi (fun z_87 ez_87 => ?_)
      refine va_iast hx hb hK hP hD hS 14 13 rfl rfl (by assumption) dX10_dips_143 (fun H locs hP hD hS => ?_)
      have hP : va_P (dC, dI) vwCl (mw g h0 b i (va_up (va_up (va_up (va_up (va_up (va_up (va_up (va_up (va_up (va_up a 4 f_5) 5 f_72) 6 f_11) 7 f_73) 8 f_77) 9 f_81) 10 f_74) 14 f_8) 17 f_85) 18 (upd (a 18) ck.toNatClampNeg z_87))) _ := hP
      have hD : va_D _ (mw g h0 b i (va_up (va_up (va_up (va_up (va_up (va_up (va_up (va_up (va_up (va_up a 4 f_5) 5 f_72) 6 f_11) 7 f_73) 8 f_77) 9 f_81) 10 f_74) 14 f_8) 17 f_85) 18 (upd (a 18) ck.toNatClampNeg z_87))) := hD
      obtain ⟨f_88, ef_88⟩ : ∃ z, z = (upd (a 18) ck.toNatClampNeg z_87) := ⟨_, rfl⟩
      rw [← ef_88] at hP hD
      refine lv_iload hx hb dX10_dips_144 (lv_at hl 0 rfl) ?_
      exact M_i hx hb hr hlocks (f_5, f_72, f_11, f_73, f_77, f_81, f_74, f_8, f_85, f_88) hP hD hK hS ⟨⟨_, rfl⟩, trivial⟩ (Nat.le_of_ble_eq_true rfl) (Nat.le_of_ble_eq_true rfl) dX10_dips_146

abbrev rm_X10_dip : Room := { frames := 2, cells := 0, slots := 0, locals := 49 }
theorem inw_X10_dip_10 : ∀ w ∈ wsX100, w ∈ wsX10_dip := by decide +kernel
set_option maxHeartbeats 1000000 in
set_option maxRecDepth 100000 in
theorem m_X10_dip (l : Launch) (dC : Nat → ClassId) (dI : Nat → Nat → Nat) (sa : Nat → Nat) (g : Nat → Nat) (h0 : Nat) (b : Nat → Nat) (i : Nat → Int32) (a : Nat → Nat → Int32) (ck : Int32) (vv : Int32) (mm : Int32) (sz : Nat) (hCI : CI (i 12) (a 13)) : CT l dC dI sa yX10_dip wsX10_dip rm_X10_dip [.ref h0, .int ck, .int vv, .int mm] (mw g h0 b i a) (tyM g) sz (fun (r : Option Value) (u : Int32 × (Nat → Int32) × (Nat → Int32) × (Nat → Int32) × (Nat → Int32) × (Nat → Int32) × (Nat → Int32) × (Nat → Int32) × (Nat → Int32) × (Nat → Int32) × (Nat → Int32)) => match u with | (x0, y4, y5, y6, y7, y8, y9, y10, y14, y17, y18) => (∃ z : Int32, r = some (.int z)) ∧ (True)) (fun (u : Int32 × (Nat → Int32) × (Nat → Int32) × (Nat → Int32) × (Nat → Int32) × (Nat → Int32) × (Nat → Int32) × (Nat → Int32) × (Nat → Int32) × (Nat → Int32) × (Nat → Int32)) => match u with | (x0, y4, y5, y6, y7, y8, y9, y10, y14, y17, y18) => mw g h0 b (va_up i 0 x0) (va_up (va_up (va_up (va_up (va_up (va_up (va_up (va_up (va_up (va_up a 4 y4) 5 y5) 6 y6) 7 y7) 8 y8) 9 y9) 10 y10) 14 y14) 17 y17) 18 y18)) (fun _ => []) 0 0 := by
  refine CT.start (cc := cX10_dip) (maxL := 4) (ret := (some .int)) (by decide) rfl (Nat.le_of_ble_eq_true rfl) ?_
  intro p e s m below meth c ls hst hP hK hD hev hS hl
  obtain ⟨hx, hb, hr, hml, hts, hown, hlocks, hin⟩ := hst
  have hown : s.vm.findClass RX10 = some m.cls := hown
  have hA : ∀ q : Nat, s.heap.size ≤ q → va_A (mw g h0 b i a) s.heap.size q := fun _ h => Or.inr h
  have hl : lv_has ls 4 [(0, .ref h0), (1, .int ck), (2, .int vv), (3, .int mm)] := hl
  refine lv_aload_n hx hb dX10_dip_0 rfl (lv_at hl 0 rfl) ?_
  refine lv_iload_n hx hb dX10_dip_1 rfl (lv_at hl 1 rfl) ?_
  refine M_V ⟨hx, hb, hml, hown, hts⟩ (m_X10_isCloth l dC dI sa g h0 b i a ck _ ) (cwV 1 hts gX10_dip_X10_isCloth rfl rfl rfl (by decide +kernel) ⟨Nat.le_of_ble_eq_true rfl, Nat.le_of_ble_eq_true rfl⟩) hP hD hK hS hA hev rfl rfl rfl rfl hl.1 rfl (Nat.le_of_ble_eq_true rfl) dX10_dip_2 ⟨(Nat.le_of_ble_eq_true rfl), (Nat.le_of_ble_eq_true rfl)⟩ (fun r u H locs hw hP hD hS => ?_)
  obtain ⟨x0_1, rfl⟩ : ∃ z, z = u := ⟨_, rfl⟩
  have hw : ((r = some (.int 0) ∧ (True)) ∨ (r = some (.int 1) ∧ (0 ≤ ck.toInt ∧ ck.toInt < (i 12).toInt))) ∧ (True) := hw
  obtain ⟨⟨rfl, hz2_3⟩ | ⟨rfl, hz2_3⟩, hw_2⟩ := hw
  · have hP : va_P (dC, dI) vwCl (mw g h0 b (va_up i 0 x0_1) a) _ := hP
    have hD : va_D _ (mw g h0 b (va_up i 0 x0_1) a) := hD
    refine W.eq (g2 := F0 m 5 ls [.int 0]) rfl ?_
    refine lv_if_eq (tgt := 40) hx hb dX10_dip_5 (by decide) (fun _ => ?_) (fun c_4 => absurd c_4 (by decide))
    refine lv_iconst (v := 0) hx hb dX10_dip_40 (by decide) ?_
    exact M_i hx hb hr hlocks (x0_1, (a 4), (a 5), (a 6), (a 7), (a 8), (a 9), (a 10), (a 14), (a 17), (a 18)) hP hD hK hS ⟨⟨_, rfl⟩, trivial⟩ (Nat.le_of_ble_eq_true rfl) (Nat.le_of_ble_eq_true rfl) dX10_dip_41
  · have hP : va_P (dC, dI) vwCl (mw g h0 b (va_up i 0 x0_1) a) _ := hP
    have hD : va_D _ (mw g h0 b (va_up i 0 x0_1) a) := hD
    refine W.eq (g2 := F0 m 5 ls [.int 1]) rfl ?_
    obtain ⟨hc30, hwt⟩ := hCI.at hz2_3
    refine lv_if_eq (tgt := 40) hx hb dX10_dip_5 (by decide) (fun c_5 => absurd c_5 (by decide)) (fun _ => ?_)
    refine lv_aload_n hx hb dX10_dip_8 rfl (lv_at hl 0 rfl) ?_
    refine lv_iload_n hx hb dX10_dip_9 rfl (lv_at hl 2 rfl) ?_
    refine M_V ⟨hx, hb, hml, hown, hts⟩ (m_X10_isVat l dC dI sa g h0 b (va_up i 0 x0_1) a vv _ ) (cwV 1 hts gX10_dip_X10_isVat rfl rfl rfl (by decide +kernel) ⟨Nat.le_of_ble_eq_true rfl, Nat.le_of_ble_eq_true rfl⟩) hP hD hK hS hA hev rfl rfl rfl rfl hl.1 rfl (Nat.le_of_ble_eq_true rfl) dX10_dip_10 ⟨(Nat.le_of_ble_eq_true rfl), (Nat.le_of_ble_eq_true rfl)⟩ (fun r u H locs hw hP hD hS => ?_)
    obtain ⟨x0_6, rfl⟩ : ∃ z, z = u := ⟨_, rfl⟩
    have hw : ((r = some (.int 0) ∧ (True)) ∨ (r = some (.int 1) ∧ (vp_in vv 6))) ∧ (True) := hw
    obtain ⟨⟨rfl, hz2_8⟩ | ⟨rfl, hz2_8⟩, hw_7⟩ := hw
    · have hP : va_P (dC, dI) vwCl (mw g h0 b (va_up i 0 x0_6) a) _ := hP
      have hD : va_D _ (mw g h0 b (va_up i 0 x0_6) a) := hD
      refine W.eq (g2 := F0 m 13 ls [.int 0]) rfl ?_
      refine lv_if_eq (tgt := 40) hx hb dX10_dip_13 (by decide) (fun _ => ?_) (fun c_9 => absurd c_9 (by decide))
      refine lv_iconst (v := 0) hx hb dX10_dip_40 (by decide) ?_
      exact M_i hx hb hr hlocks (x0_6, (a 4), (a 5), (a 6), (a 7), (a 8), (a 9), (a 10), (a 14), (a 17), (a 18)) hP hD hK hS ⟨⟨_, rfl⟩, trivial⟩ (Nat.le_of_ble_eq_true rfl) (Nat.le_of_ble_eq_true rfl) dX10_dip_41
    · have hP : va_P (dC, dI) vwCl (mw g h0 b (va_up i 0 x0_6) a) _ := hP
      have hD : va_D _ (mw g h0 b (va_up i 0 x0_6) a) := hD
      refine W.eq (g2 := F0 m 13 ls [.int 1]) rfl ?_
      have hv6 := hz2_8
      refine lv_if_eq (tgt := 40) hx hb dX10_dip_13 (by decide) (fun c_10 => absurd c_10 (by decide)) (fun _ => ?_)
      refine lv_aload_n hx hb dX10_dip_16 rfl (lv_at hl 0 rfl) ?_
      refine lv_iload_n hx hb dX10_dip_17 rfl (lv_at hl 3 rfl) ?_
      refine lv_iconst (v := 1) hx hb dX10_dip_18 (by decide) ?_
      refine lv_icmp_lt (tgt := 32) hx hb dX10_dip_19 (by decide) (fun c_11 => ?_) (fun c_11 => ?_)
      · have nc_11 := lt_i c_11
        have lc_11 : (1 : Int32).toInt = 1 := by decide
        refine lv_iconst (v := 0) hx hb dX10_dip_32 (by decide) ?_
        refine lv_iconst (v := 2) hx hb dX10_dip_33 (by decide) ?_
        refine M_V ⟨hx, hb, hml, hown, hts⟩ (m_X10_right l dC dI sa g h0 b (va_up i 0 x0_6) a (0 : Int32) (2 : Int32) _ (by decide)) (cwV 2 hts gX10_dip_X10_right rfl rfl rfl (by decide +kernel) ⟨Nat.le_of_ble_eq_true rfl, Nat.le_of_ble_eq_true rfl⟩) hP hD hK hS hA hev rfl rfl rfl rfl hl.1 rfl (Nat.le_of_ble_eq_true rfl) dX10_dip_34 ⟨(Nat.le_of_ble_eq_true rfl), (Nat.le_of_ble_eq_true rfl)⟩ (fun r u H locs hw hP hD hS => ?_)
        obtain ⟨x0_12, rfl⟩ : ∃ z, z = u := ⟨_, rfl⟩
        have hw : ((r = some (.int 0) ∧ (True)) ∨ (r = some (.int 1) ∧ (¬ (0 : Int32) = 0))) ∧ (True) := hw
        obtain ⟨⟨rfl, hz2_14⟩ | ⟨rfl, hz2_14⟩, hw_13⟩ := hw
        · have hP : va_P (dC, dI) vwCl (mw g h0 b (va_up i 0 x0_12) a) _ := hP
          have hD : va_D _ (mw g h0 b (va_up i 0 x0_12) a) := hD
          refine W.eq (g2 := F0 m 37 ls [.int 0]) rfl ?_
          refine lv_if_ne (tgt := 42) hx hb dX10_dip_37 (by decide) (fun c_15 => absurd c_15 (by decide)) (fun _ => ?_)
          refine lv_iconst (v := 0) hx hb dX10_dip_40 (by decide) ?_
          exact M_i hx hb hr hlocks (x0_12, (a 4), (a 5), (a 6), (a 7), (a 8), (a 9), (a 10), (a 14), (a 17), (a 18)) hP hD hK hS ⟨⟨_, rfl⟩, trivial⟩ (Nat.le_of_ble_eq_true rfl) (Nat.le_of_ble_eq_true rfl) dX10_dip_41
        · have hP : va_P (dC, dI) vwCl (mw g h0 b (va_up i 0 x0_12) a) _ := hP
          have hD : va_D _ (mw g h0 b (va_up i 0 x0_12) a) := hD
          refine W.eq (g2 := F0 m 37 ls [.int 1]) rfl ?_
          exact absurd rfl hz2_14
      · have nc_11 := nlt_i c_11
        have lc_11 : (1 : Int32).toInt = 1 := by decide
        refine lv_iload_n hx hb dX10_dip_22 rfl (lv_at hl 3 rfl) ?_
        refine lv_bipush (v := 20) hx hb dX10_dip_23 (by decide) ?_
        refine lv_icmp_gt (tgt := 32) hx hb dX10_dip_25 (by decide) (fun c_16 => ?_) (fun c_16 => ?_)
        · have nc_16 := lt_i c_16
          have lc_16 : (20 : Int32).toInt = 20 := by decide
          refine lv_iconst (v := 0) hx hb dX10_dip_32 (by decide) ?_
          refine lv_iconst (v := 2) hx hb dX10_dip_33 (by decide) ?_
          refine M_V ⟨hx, hb, hml, hown, hts⟩ (m_X10_right l dC dI sa g h0 b (va_up i 0 x0_6) a (0 : Int32) (2 : Int32) _ (by decide)) (cwV 2 hts gX10_dip_X10_right rfl rfl rfl (by decide +kernel) ⟨Nat.le_of_ble_eq_true rfl, Nat.le_of_ble_eq_true rfl⟩) hP hD hK hS hA hev rfl rfl rfl rfl hl.1 rfl (Nat.le_of_ble_eq_true rfl) dX10_dip_34 ⟨(Nat.le_of_ble_eq_true rfl), (Nat.le_of_ble_eq_true rfl)⟩ (fun r u H locs hw hP hD hS => ?_)
          obtain ⟨x0_17, rfl⟩ : ∃ z, z = u := ⟨_, rfl⟩
          have hw : ((r = some (.int 0) ∧ (True)) ∨ (r = some (.int 1) ∧ (¬ (0 : Int32) = 0))) ∧ (True) := hw
          obtain ⟨⟨rfl, hz2_19⟩ | ⟨rfl, hz2_19⟩, hw_18⟩ := hw
          · have hP : va_P (dC, dI) vwCl (mw g h0 b (va_up i 0 x0_17) a) _ := hP
            have hD : va_D _ (mw g h0 b (va_up i 0 x0_17) a) := hD
            refine W.eq (g2 := F0 m 37 ls [.int 0]) rfl ?_
            refine lv_if_ne (tgt := 42) hx hb dX10_dip_37 (by decide) (fun c_20 => absurd c_20 (by decide)) (fun _ => ?_)
            refine lv_iconst (v := 0) hx hb dX10_dip_40 (by decide) ?_
            exact M_i hx hb hr hlocks (x0_17, (a 4), (a 5), (a 6), (a 7), (a 8), (a 9), (a 10), (a 14), (a 17), (a 18)) hP hD hK hS ⟨⟨_, rfl⟩, trivial⟩ (Nat.le_of_ble_eq_true rfl) (Nat.le_of_ble_eq_true rfl) dX10_dip_41
          · have hP : va_P (dC, dI) vwCl (mw g h0 b (va_up i 0 x0_17) a) _ := hP
            have hD : va_D _ (mw g h0 b (va_up i 0 x0_17) a) := hD
            refine W.eq (g2 := F0 m 37 ls [.int 1]) rfl ?_
            exact absurd rfl hz2_19
        · have nc_16 := nlt_i c_16
          have lc_16 : (20 : Int32).toInt = 20 := by decide
          refine lv_iconst (v := 1) hx hb dX10_dip_28 (by decide) ?_
          refine lv_goto (tgt := 33) hx hb dX10_dip_29 (by decide) ?_
          refine lv_iconst (v := 2) hx hb dX10_dip_33 (by decide) ?_
          refine M_V ⟨hx, hb, hml, hown, hts⟩ (m_X10_right l dC dI sa g h0 b (va_up i 0 x0_6) a (1 : Int32) (2 : Int32) _ (by decide)) (cwV 2 hts gX10_dip_X10_right rfl rfl rfl (by decide +kernel) ⟨Nat.le_of_ble_eq_true rfl, Nat.le_of_ble_eq_true rfl⟩) hP hD hK hS hA hev rfl rfl rfl rfl hl.1 rfl (Nat.le_of_ble_eq_true rfl) dX10_dip_34 ⟨(Nat.le_of_ble_eq_true rfl), (Nat.le_of_ble_eq_true rfl)⟩ (fun r u H locs hw hP hD hS => ?_)
          obtain ⟨x0_21, rfl⟩ : ∃ z, z = u := ⟨_, rfl⟩
          have hw : ((r = some (.int 0) ∧ (True)) ∨ (r = some (.int 1) ∧ (¬ (1 : Int32) = 0))) ∧ (True) := hw
          obtain ⟨⟨rfl, hz2_23⟩ | ⟨rfl, hz2_23⟩, hw_22⟩ := hw
          · have hP : va_P (dC, dI) vwCl (mw g h0 b (va_up i 0 x0_21) a) _ := hP
            have hD : va_D _ (mw g h0 b (va_up i 0 x0_21) a) := hD
            refine W.eq (g2 := F0 m 37 ls [.int 0]) rfl ?_
            refine lv_if_ne (tgt := 42) hx hb dX10_dip_37 (by decide) (fun c_24 => absurd c_24 (by decide)) (fun _ => ?_)
            refine lv_iconst (v := 0) hx hb dX10_dip_40 (by decide) ?_
            exact M_i hx hb hr hlocks (x0_21, (a 4), (a 5), (a 6), (a 7), (a 8), (a 9), (a 10), (a 14), (a 17), (a 18)) hP hD hK hS ⟨⟨_, rfl⟩, trivial⟩ (Nat.le_of_ble_eq_true rfl) (Nat.le_of_ble_eq_true rfl) dX10_dip_41
          · have hP : va_P (dC, dI) vwCl (mw g h0 b (va_up i 0 x0_21) a) _ := hP
            have hD : va_D _ (mw g h0 b (va_up i 0 x0_21) a) := hD
            refine W.eq (g2 := F0 m 37 ls [.int 1]) rfl ?_
            refine lv_if_ne (tgt := 42) hx hb dX10_dip_37 (by decide) (fun _ => ?_) (fun c_25 => absurd c_25 (by decide))
            refine lv_aload_n hx hb dX10_dip_42 rfl (lv_at hl 0 rfl) ?_
            refine va_get (D := (dC, dI)) (ci := 10) (v := .ref (b 7)) (C := RX10) (T := TX10) (N := 51) hx hb hts inw_X10_dip_10 hown hK hP 0 rfl rfl 7 (by decide) (hts (.fieldLink RX10 19 "VatHouseModel" "state" "[I") (by decide +kernel)) (fun _ h9 => h9) rfl dX10_dip_43 ?_
            refine lv_iload_n hx hb dX10_dip_46 rfl (lv_at hl 2 rfl) ?_
            refine va_iald hx hb hK hP 4 3 rfl rfl (by assumption) dX10_dip_47 ?_
            refine lv_topi (fun z_26 ez_26 => ?_)
            have ez_26 : z_26 = (a 7) vv.toNatClampNeg := ez_26
            refine lv_iconst (v := 2) hx hb dX10_dip_48 (by decide) ?_
            refine lv_icmp_eq (tgt := 60) hx hb dX10_dip_49 (by decide) (fun c_27 => ?_) (fun c_27 => ?_)
            · have nc_27 := eq_i c_27
              have lc_27 : (2 : Int32).toInt = 2 := by decide
              refine lv_iconst (v := (-1)) hx hb dX10_dip_60 (by decide) ?_
              refine lv_goto (tgt := 71) hx hb dX10_dip_61 (by decide) ?_
              exact M_i hx hb hr hlocks (x0_21, (a 4), (a 5), (a 6), (a 7), (a 8), (a 9), (a 10), (a 14), (a 17), (a 18)) hP hD hK hS ⟨⟨_, rfl⟩, trivial⟩ (Nat.le_of_ble_eq_true rfl) (Nat.le_of_ble_eq_true rfl) dX10_dip_71
            · have nc_27 := ne_i c_27
              have lc_27 : (2 : Int32).toInt = 2 := by decide
              refine lv_aload_n hx hb dX10_dip_52 rfl (lv_at hl 0 rfl) ?_
              refine lv_iload_n hx hb dX10_dip_53 rfl (lv_at hl 1 rfl) ?_
              refine M_V ⟨hx, hb, hml, hown, hts⟩ (m_X10_isDry l dC dI sa g h0 b (va_up i 0 x0_21) a ck _ hc30) (cwV 1 hts gX10_dip_X10_isDry rfl rfl rfl (by decide +kernel) ⟨Nat.le_of_ble_eq_true rfl, Nat.le_of_ble_eq_true rfl⟩) hP hD hK hS hA hev rfl rfl rfl rfl hl.1 rfl (Nat.le_of_ble_eq_true rfl) dX10_dip_54 ⟨(Nat.le_of_ble_eq_true rfl), (Nat.le_of_ble_eq_true rfl)⟩ (fun r u H locs hw hP hD hS => ?_)
              have hw : (∃ z : Int32, r = some (.int z) ∧ (z = 0 ∨ z = 1)) ∧ (True) := hw
              obtain ⟨⟨z_29, rfl, hz_z_29⟩, hw_28⟩ := hw
              have hP : va_P (dC, dI) vwCl (mw g h0 b (va_up i 0 x0_21) a) _ := hP
              have hD : va_D _ (mw g h0 b (va_up i 0 x0_21) a) := hD
              refine W.eq (g2 := F0 m 57 ls [.int z_29]) rfl ?_
              refine lv_if_eq (tgt := 64) hx hb dX10_dip_57 (by decide) (fun c_30 => ?_) (fun c_30 => ?_)
              · have nc_30 := eq_i c_30
                have lc_30 : (0 : Int32).toInt = 0 := by decide
                refine lv_aload_n hx hb dX10_dip_64 rfl (lv_at hl 0 rfl) ?_
                refine lv_iload_n hx hb dX10_dip_65 rfl (lv_at hl 1 rfl) ?_
                refine lv_iload_n hx hb dX10_dip_66 rfl (lv_at hl 2 rfl) ?_
                refine lv_iload_n hx hb dX10_dip_67 rfl (lv_at hl 3 rfl) ?_
                refine M_V ⟨hx, hb, hml, hown, hts⟩ (m_X10_dips l dC dI sa g h0 b (va_up i 0 x0_21) a ck vv mm _ hc30 hv6 hwt) (cwV 3 hts gX10_dip_X10_dips rfl rfl rfl (by decide +kernel) ⟨Nat.le_of_ble_eq_true rfl, Nat.le_of_ble_eq_true rfl⟩) hP hD hK hS hA hev rfl rfl rfl rfl hl.1 rfl (Nat.le_of_ble_eq_true rfl) dX10_dip_68 ⟨(Nat.le_of_ble_eq_true rfl), (Nat.le_of_ble_eq_true rfl)⟩ (fun r u H locs hw hP hD hS => ?_)
                obtain ⟨y4_31, y5_32, y6_33, y7_34, y8_35, y9_36, y10_37, y14_38, y17_39, y18_40⟩ := u
                have hw : (∃ z : Int32, r = some (.int z)) ∧ (True) := hw
                obtain ⟨⟨z_42, rfl⟩, hw_41⟩ := hw
                have hP : va_P (dC, dI) vwCl (mw g h0 b (va_up i 0 x0_21) (va_up (va_up (va_up (va_up (va_up (va_up (va_up (va_up (va_up (va_up a 4 y4_31) 5 y5_32) 6 y6_33) 7 y7_34) 8 y8_35) 9 y9_36) 10 y10_37) 14 y14_38) 17 y17_39) 18 y18_40)) _ := hP
                have hD : va_D _ (mw g h0 b (va_up i 0 x0_21) (va_up (va_up (va_up (va_up (va_up (va_up (va_up (va_up (va_up (va_up a 4 y4_31) 5 y5_32) 6 y6_33) 7 y7_34) 8 y8_35) 9 y9_36) 10 y10_37) 14 y14_38) 17 y17_39) 18 y18_40)) := hD
                refine W.eq (g2 := F0 m 71 ls [.int z_42]) rfl ?_
                exact M_i hx hb hr hlocks (x0_21, y4_31, y5_32, y6_33, y7_34, y8_35, y9_36, y10_37, y14_38, y17_39, y18_40) hP hD hK hS ⟨⟨_, rfl⟩, trivial⟩ (Nat.le_of_ble_eq_true rfl) (Nat.le_of_ble_eq_true rfl) dX10_dip_71
              · have nc_30 := ne_i c_30
                have lc_30 : (0 : Int32).toInt = 0 := by decide
                refine lv_iconst (v := (-1)) hx hb dX10_dip_60 (by decide) ?_
                refine lv_goto (tgt := 71) hx hb dX10_dip_61 (by decide) ?_
                exact M_i hx hb hr hlocks (x0_21, (a 4), (a 5), (a 6), (a 7), (a 8), (a 9), (a 10), (a 14), (a 17), (a 18)) hP hD hK hS ⟨⟨_, rfl⟩, trivial⟩ (Nat.le_of_ble_eq_true rfl) (Nat.le_of_ble_eq_true rfl) dX10_dip_71

abbrev rm_X10_airs : Room := { frames := 0, cells := 0, slots := 0, locals := 0 }
theorem inw_X10_airs_10 : ∀ w ∈ wsX100, w ∈ wsX10_airs := by decide +kernel
set_option maxHeartbeats 1000000 in
set_option maxRecDepth 100000 in
theorem m_X10_airs (l : Launch) (dC : Nat → ClassId) (dI : Nat → Nat → Nat) (sa : Nat → Nat) (g : Nat → Nat) (h0 : Nat) (b : Nat → Nat) (i : Nat → Int32) (a : Nat → Nat → Int32) (ck : Int32) (sz : Nat) (hc30 : vp_in ck 30) : CT l dC dI sa yX10_airs wsX10_airs rm_X10_airs [.ref h0, .int ck] (mw g h0 b i a) (tyM g) sz (fun (r : Option Value) (u : Int32 × (Nat → Int32) × (Nat → Int32)) => match u with | (x2, y14, y15) => (∃ z : Int32, r = some (.int z)) ∧ (True)) (fun (u : Int32 × (Nat → Int32) × (Nat → Int32)) => match u with | (x2, y14, y15) => mw g h0 b (va_up i 2 x2) (va_up (va_up a 14 y14) 15 y15)) (fun _ => []) 0 0 := by
  refine CT.start (cc := cX10_airs) (maxL := 3) (ret := (some .int)) (by decide) rfl (Nat.le_of_ble_eq_true rfl) ?_
  intro p e s m below meth c ls hst hP hK hD hev hS hl
  obtain ⟨hx, hb, hr, hml, hts, hown, hlocks, hin⟩ := hst
  have hown : s.vm.findClass RX10 = some m.cls := hown
  have hA : ∀ q : Nat, s.heap.size ≤ q → va_A (mw g h0 b i a) s.heap.size q := fun _ h => Or.inr h
  have hl : lv_has ls 3 [(0, .ref h0), (1, .int ck)] := hl
  refine lv_aload_n hx hb dX10_airs_0 rfl (lv_at hl 0 rfl) ?_
  refine va_get (D := (dC, dI)) (ci := 10) (v := .ref (b 14)) (C := RX10) (T := TX10) (N := 51) hx hb hts inw_X10_airs_10 hown hK hP 0 rfl rfl 14 (by decide) (hts (.fieldLink RX10 38 "VatHouseModel" "loose" "[I") (by decide +kernel)) (fun _ h9 => h9) rfl dX10_airs_1 ?_
  refine lv_iload_n hx hb dX10_airs_4 rfl (lv_at hl 1 rfl) ?_
  refine va_iald hx hb hK hP 10 9 rfl rfl (by assumption) dX10_airs_5 ?_
  refine lv_topi (fun z_1 ez_1 => ?_)
  have ez_1 : z_1 = (a 14) ck.toNatClampNeg := ez_1
  refine lv_bipush (v := 8) hx hb dX10_airs_6 (by decide) ?_
  refine lv_idiv hx hb dX10_airs_8 (by decide) ?_
  refine lv_topi (fun z_2 ez_2 => ?_)
  refine lv_istore_n (lv' := [(2, .int z_2), (0, .ref h0), (1, .int ck)]) hx hb dX10_airs_9 rfl hl (by decide) rfl (fun ls hl => ?_)
  refine lv_aload_n hx hb dX10_airs_10 rfl (lv_at hl 1 rfl) ?_
  refine va_get (D := (dC, dI)) (ci := 10) (v := .ref (b 15)) (C := RX10) (T := TX10) (N := 51) hx hb hts inw_X10_airs_10 hown hK hP 0 rfl rfl 15 (by decide) (hts (.fieldLink RX10 41 "VatHouseModel" "fast" "[I") (by decide +kernel)) (fun _ h9 => h9) rfl dX10_airs_11 ?_
  refine lv_iload_n hx hb dX10_airs_14 rfl (lv_at hl 2 rfl) ?_
  refine lv_dup2_11 hx hb dX10_airs_15 rfl rfl ?_
  refine va_iald hx hb hK hP 11 10 rfl rfl (by assumption) dX10_airs_16 ?_
  refine lv_topi (fun z_3 ez_3 => ?_)
  have ez_3 : z_3 = (a 15) ck.toNatClampNeg := ez_3
  refine lv_aload_n hx hb dX10_airs_17 rfl (lv_at hl 1 rfl) ?_
  refine va_get (D := (dC, dI)) (ci := 10) (v := .ref (b 14)) (C := RX10) (T := TX10) (N := 51) hx hb hts inw_X10_airs_10 hown hK hP 0 rfl rfl 14 (by decide) (hts (.fieldLink RX10 38 "VatHouseModel" "loose" "[I") (by decide +kernel)) (fun _ h9 => h9) rfl dX10_airs_18 ?_
  refine lv_iload_n hx hb dX10_airs_21 rfl (lv_at hl 2 rfl) ?_
  refine va_iald hx hb hK hP 10 9 rfl rfl (by assumption) dX10_airs_22 ?_
  refine lv_topi (fun z_4 ez_4 => ?_)
  have ez_4 : z_4 = (a 14) ck.toNatClampNeg := ez_4
  refine lv_iload_n hx hb dX10_airs_23 rfl (lv_at hl 0 rfl) ?_
  refine lv_isub hx hb dX10_airs_24 ?_
  refine lv_topi (fun z_5 ez_5 => ?_)
  refine lv_iadd hx hb dX10_airs_25 ?_
  refine lv_topi (fun z_6 ez_6 => ?_)
  refine va_iast hx hb hK hP hD hS 11 10 rfl rfl (by assumption) dX10_airs_26 (fun H locs hP hD hS => ?_)
  have hP : va_P (dC, dI) vwCl (mw g h0 b i (va_up a 15 (upd (a 15) ck.toNatClampNeg z_6))) _ := hP
  have hD : va_D _ (mw g h0 b i (va_up a 15 (upd (a 15) ck.toNatClampNeg z_6))) := hD
  obtain ⟨f_7, ef_7⟩ : ∃ z, z = (upd (a 15) ck.toNatClampNeg z_6) := ⟨_, rfl⟩
  rw [← ef_7] at hP hD
  refine lv_aload_n hx hb dX10_airs_27 rfl (lv_at hl 1 rfl) ?_
  refine va_get (D := (dC, dI)) (ci := 10) (v := .ref (b 14)) (C := RX10) (T := TX10) (N := 51) hx hb hts inw_X10_airs_10 hown hK hP 0 rfl rfl 14 (by decide) (hts (.fieldLink RX10 38 "VatHouseModel" "loose" "[I") (by decide +kernel)) (fun _ h9 => h9) rfl dX10_airs_28 ?_
  refine lv_iload_n hx hb dX10_airs_31 rfl (lv_at hl 2 rfl) ?_
  refine lv_iconst (v := 0) hx hb dX10_airs_32 (by decide) ?_
  refine va_iast hx hb hK hP hD hS 10 9 rfl rfl (by assumption) dX10_airs_33 (fun H locs hP hD hS => ?_)
  have hP : va_P (dC, dI) vwCl (mw g h0 b i (va_up (va_up a 14 (upd (a 14) ck.toNatClampNeg (0 : Int32))) 15 f_7)) _ := hP
  have hD : va_D _ (mw g h0 b i (va_up (va_up a 14 (upd (a 14) ck.toNatClampNeg (0 : Int32))) 15 f_7)) := hD
  obtain ⟨f_8, ef_8⟩ : ∃ z, z = (upd (a 14) ck.toNatClampNeg (0 : Int32)) := ⟨_, rfl⟩
  rw [← ef_8] at hP hD
  refine lv_aload_n hx hb dX10_airs_34 rfl (lv_at hl 1 rfl) ?_
  refine lv_dup hx hb dX10_airs_35 rfl ?_
  refine va_get (D := (dC, dI)) (ci := 10) (v := .int (i 2)) (C := RX10) (T := TX10) (N := 51) hx hb hts inw_X10_airs_10 hown hK hP 0 rfl rfl 2 (by decide) (hts (.fieldLink RX10 149 "VatHouseModel" "drain" "I") (by decide +kernel)) (fun _ h9 => h9) rfl dX10_airs_36 ?_
  refine lv_iload_n hx hb dX10_airs_39 rfl (lv_at hl 0 rfl) ?_
  refine lv_iadd hx hb dX10_airs_40 ?_
  refine lv_topi (fun z_9 ez_9 => ?_)
  refine va_put (D := (dC, dI)) (ci := 10) (v := .int z_9) (ty := .int) (C := RX10) (T := TX10) (N := 51) hx hb hts inw_X10_airs_10 tyX10 tyX10_ok nmX10 hown hK hP hD hS 0 rfl rfl 2 (by decide) (hts (.fieldLink RX10 149 "VatHouseModel" "drain" "I") (by decide +kernel)) (fun _ h9 => h9) rfl (by decide +kernel) rfl rfl (Nat.le_of_ble_eq_true rfl) dX10_airs_41 (fun H locs hP hD hS => ?_)
  have hP : va_P (dC, dI) vwCl (mw g h0 b (va_up i 2 z_9) (va_up (va_up a 14 f_8) 15 f_7)) _ := hP
  have hD : va_D _ (mw g h0 b (va_up i 2 z_9) (va_up (va_up a 14 f_8) 15 f_7)) := hD
  refine lv_iload_n hx hb dX10_airs_44 rfl (lv_at hl 0 rfl) ?_
  exact M_i hx hb hr hlocks (z_9, f_8, f_7) hP hD hK hS ⟨⟨_, rfl⟩, trivial⟩ (Nat.le_of_ble_eq_true rfl) (Nat.le_of_ble_eq_true rfl) dX10_airs_45

abbrev rm_X10_washes : Room := { frames := 0, cells := 0, slots := 0, locals := 0 }
theorem inw_X10_washes_10 : ∀ w ∈ wsX100, w ∈ wsX10_washes := by decide +kernel
set_option maxHeartbeats 1000000 in
set_option maxRecDepth 100000 in
theorem m_X10_washes (l : Launch) (dC : Nat → ClassId) (dI : Nat → Nat → Nat) (sa : Nat → Nat) (g : Nat → Nat) (h0 : Nat) (b : Nat → Nat) (i : Nat → Int32) (a : Nat → Nat → Int32) (ck : Int32) (sz : Nat) (hc30 : vp_in ck 30) : CT l dC dI sa yX10_washes wsX10_washes rm_X10_washes [.ref h0, .int ck] (mw g h0 b i a) (tyM g) sz (fun (r : Option Value) (u : Int32 × (Nat → Int32) × (Nat → Int32)) => match u with | (x2, y14, y15) => (∃ z : Int32, r = some (.int z)) ∧ (True)) (fun (u : Int32 × (Nat → Int32) × (Nat → Int32)) => match u with | (x2, y14, y15) => mw g h0 b (va_up i 2 x2) (va_up (va_up a 14 y14) 15 y15)) (fun _ => []) 0 0 := by
  refine CT.start (cc := cX10_washes) (maxL := 3) (ret := (some .int)) (by decide) rfl (Nat.le_of_ble_eq_true rfl) ?_
  intro p e s m below meth c ls hst hP hK hD hev hS hl
  obtain ⟨hx, hb, hr, hml, hts, hown, hlocks, hin⟩ := hst
  have hown : s.vm.findClass RX10 = some m.cls := hown
  have hA : ∀ q : Nat, s.heap.size ≤ q → va_A (mw g h0 b i a) s.heap.size q := fun _ h => Or.inr h
  have hl : lv_has ls 3 [(0, .ref h0), (1, .int ck)] := hl
  refine lv_aload_n hx hb dX10_washes_0 rfl (lv_at hl 0 rfl) ?_
  refine va_get (D := (dC, dI)) (ci := 10) (v := .ref (b 14)) (C := RX10) (T := TX10) (N := 51) hx hb hts inw_X10_washes_10 hown hK hP 0 rfl rfl 14 (by decide) (hts (.fieldLink RX10 38 "VatHouseModel" "loose" "[I") (by decide +kernel)) (fun _ h9 => h9) rfl dX10_washes_1 ?_
  refine lv_iload_n hx hb dX10_washes_4 rfl (lv_at hl 1 rfl) ?_
  refine va_iald hx hb hK hP 10 9 rfl rfl (by assumption) dX10_washes_5 ?_
  refine lv_topi (fun z_1 ez_1 => ?_)
  have ez_1 : z_1 = (a 14) ck.toNatClampNeg := ez_1
  refine lv_aload_n hx hb dX10_washes_6 rfl (lv_at hl 0 rfl) ?_
  refine va_get (D := (dC, dI)) (ci := 10) (v := .ref (b 15)) (C := RX10) (T := TX10) (N := 51) hx hb hts inw_X10_washes_10 hown hK hP 0 rfl rfl 15 (by decide) (hts (.fieldLink RX10 41 "VatHouseModel" "fast" "[I") (by decide +kernel)) (fun _ h9 => h9) rfl dX10_washes_7 ?_
  refine lv_iload_n hx hb dX10_washes_10 rfl (lv_at hl 1 rfl) ?_
  refine va_iald hx hb hK hP 11 10 rfl rfl (by assumption) dX10_washes_11 ?_
  refine lv_topi (fun z_2 ez_2 => ?_)
  have ez_2 : z_2 = (a 15) ck.toNatClampNeg := ez_2
  refine lv_bipush (v := 20) hx hb dX10_washes_12 (by decide) ?_
  refine lv_idiv hx hb dX10_washes_14 (by decide) ?_
  refine lv_topi (fun z_3 ez_3 => ?_)
  refine lv_iadd hx hb dX10_washes_15 ?_
  refine lv_topi (fun z_4 ez_4 => ?_)
  refine lv_istore_n (lv' := [(2, .int z_4), (0, .ref h0), (1, .int ck)]) hx hb dX10_washes_16 rfl hl (by decide) rfl (fun ls hl => ?_)
  refine lv_aload_n hx hb dX10_washes_17 rfl (lv_at hl 1 rfl) ?_
  refine va_get (D := (dC, dI)) (ci := 10) (v := .ref (b 15)) (C := RX10) (T := TX10) (N := 51) hx hb hts inw_X10_washes_10 hown hK hP 0 rfl rfl 15 (by decide) (hts (.fieldLink RX10 41 "VatHouseModel" "fast" "[I") (by decide +kernel)) (fun _ h9 => h9) rfl dX10_washes_18 ?_
  refine lv_iload_n hx hb dX10_washes_21 rfl (lv_at hl 2 rfl) ?_
  refine lv_dup2_11 hx hb dX10_washes_22 rfl rfl ?_
  refine va_iald hx hb hK hP 11 10 rfl rfl (by assumption) dX10_washes_23 ?_
  refine lv_topi (fun z_5 ez_5 => ?_)
  have ez_5 : z_5 = (a 15) ck.toNatClampNeg := ez_5
  refine lv_aload_n hx hb dX10_washes_24 rfl (lv_at hl 1 rfl) ?_
  refine va_get (D := (dC, dI)) (ci := 10) (v := .ref (b 15)) (C := RX10) (T := TX10) (N := 51) hx hb hts inw_X10_washes_10 hown hK hP 0 rfl rfl 15 (by decide) (hts (.fieldLink RX10 41 "VatHouseModel" "fast" "[I") (by decide +kernel)) (fun _ h9 => h9) rfl dX10_washes_25 ?_
  refine lv_iload_n hx hb dX10_washes_28 rfl (lv_at hl 2 rfl) ?_
  refine va_iald hx hb hK hP 11 10 rfl rfl (by assumption) dX10_washes_29 ?_
  refine lv_topi (fun z_6 ez_6 => ?_)
  have ez_6 : z_6 = (a 15) ck.toNatClampNeg := ez_6
  refine lv_bipush (v := 20) hx hb dX10_washes_30 (by decide) ?_
  refine lv_idiv hx hb dX10_washes_32 (by decide) ?_
  refine lv_topi (fun z_7 ez_7 => ?_)
  refine lv_isub hx hb dX10_washes_33 ?_
  refine lv_topi (fun z_8 ez_8 => ?_)
  refine va_iast hx hb hK hP hD hS 11 10 rfl rfl (by assumption) dX10_washes_34 (fun H locs hP hD hS => ?_)
  have hP : va_P (dC, dI) vwCl (mw g h0 b i (va_up a 15 (upd (a 15) ck.toNatClampNeg z_8))) _ := hP
  have hD : va_D _ (mw g h0 b i (va_up a 15 (upd (a 15) ck.toNatClampNeg z_8))) := hD
  obtain ⟨f_9, ef_9⟩ : ∃ z, z = (upd (a 15) ck.toNatClampNeg z_8) := ⟨_, rfl⟩
  rw [← ef_9] at hP hD
  refine lv_aload_n hx hb dX10_washes_35 rfl (lv_at hl 1 rfl) ?_
  refine va_get (D := (dC, dI)) (ci := 10) (v := .ref (b 14)) (C := RX10) (T := TX10) (N := 51) hx hb hts inw_X10_washes_10 hown hK hP 0 rfl rfl 14 (by decide) (hts (.fieldLink RX10 38 "VatHouseModel" "loose" "[I") (by decide +kernel)) (fun _ h9 => h9) rfl dX10_washes_36 ?_
  refine lv_iload_n hx hb dX10_washes_39 rfl (lv_at hl 2 rfl) ?_
  refine lv_iconst (v := 0) hx hb dX10_washes_40 (by decide) ?_
  refine va_iast hx hb hK hP hD hS 10 9 rfl rfl (by assumption) dX10_washes_41 (fun H locs hP hD hS => ?_)
  have hP : va_P (dC, dI) vwCl (mw g h0 b i (va_up (va_up a 14 (upd (a 14) ck.toNatClampNeg (0 : Int32))) 15 f_9)) _ := hP
  have hD : va_D _ (mw g h0 b i (va_up (va_up a 14 (upd (a 14) ck.toNatClampNeg (0 : Int32))) 15 f_9)) := hD
  obtain ⟨f_10, ef_10⟩ : ∃ z, z = (upd (a 14) ck.toNatClampNeg (0 : Int32)) := ⟨_, rfl⟩
  rw [← ef_10] at hP hD
  refine lv_aload_n hx hb dX10_washes_42 rfl (lv_at hl 1 rfl) ?_
  refine lv_dup hx hb dX10_washes_43 rfl ?_
  refine va_get (D := (dC, dI)) (ci := 10) (v := .int (i 2)) (C := RX10) (T := TX10) (N := 51) hx hb hts inw_X10_washes_10 hown hK hP 0 rfl rfl 2 (by decide) (hts (.fieldLink RX10 149 "VatHouseModel" "drain" "I") (by decide +kernel)) (fun _ h9 => h9) rfl dX10_washes_44 ?_
  refine lv_iload_n hx hb dX10_washes_47 rfl (lv_at hl 0 rfl) ?_
  refine lv_iadd hx hb dX10_washes_48 ?_
  refine lv_topi (fun z_11 ez_11 => ?_)
  refine va_put (D := (dC, dI)) (ci := 10) (v := .int z_11) (ty := .int) (C := RX10) (T := TX10) (N := 51) hx hb hts inw_X10_washes_10 tyX10 tyX10_ok nmX10 hown hK hP hD hS 0 rfl rfl 2 (by decide) (hts (.fieldLink RX10 149 "VatHouseModel" "drain" "I") (by decide +kernel)) (fun _ h9 => h9) rfl (by decide +kernel) rfl rfl (Nat.le_of_ble_eq_true rfl) dX10_washes_49 (fun H locs hP hD hS => ?_)
  have hP : va_P (dC, dI) vwCl (mw g h0 b (va_up i 2 z_11) (va_up (va_up a 14 f_10) 15 f_9)) _ := hP
  have hD : va_D _ (mw g h0 b (va_up i 2 z_11) (va_up (va_up a 14 f_10) 15 f_9)) := hD
  refine lv_iload_n hx hb dX10_washes_52 rfl (lv_at hl 0 rfl) ?_
  exact M_i hx hb hr hlocks (z_11, f_10, f_9) hP hD hK hS ⟨⟨_, rfl⟩, trivial⟩ (Nat.le_of_ble_eq_true rfl) (Nat.le_of_ble_eq_true rfl) dX10_washes_53

abbrev rm_X10_treat : Room := { frames := 2, cells := 0, slots := 0, locals := 43 }
theorem inw_X10_treat_10 : ∀ w ∈ wsX100, w ∈ wsX10_treat := by decide +kernel
set_option maxHeartbeats 1000000 in
set_option maxRecDepth 100000 in
theorem m_X10_treat (l : Launch) (dC : Nat → ClassId) (dI : Nat → Nat → Nat) (sa : Nat → Nat) (g : Nat → Nat) (h0 : Nat) (b : Nat → Nat) (i : Nat → Int32) (a : Nat → Nat → Int32) (ck : Int32) (wt : Int32) (sz : Nat) (hCI : CI (i 12) (a 13)) : CT l dC dI sa yX10_treat wsX10_treat rm_X10_treat [.ref h0, .int ck, .int wt] (mw g h0 b i a) (tyM g) sz (fun (r : Option Value) (u : Int32 × Int32 × (Nat → Int32) × (Nat → Int32) × (Nat → Int32)) => match u with | (x0, x2, y14, y15, y16) => (∃ z : Int32, r = some (.int z)) ∧ (True)) (fun (u : Int32 × Int32 × (Nat → Int32) × (Nat → Int32) × (Nat → Int32)) => match u with | (x0, x2, y14, y15, y16) => mw g h0 b (va_up (va_up i 0 x0) 2 x2) (va_up (va_up (va_up a 14 y14) 15 y15) 16 y16)) (fun _ => []) 0 0 := by
  refine CT.start (cc := cX10_treat) (maxL := 4) (ret := (some .int)) (by decide) rfl (Nat.le_of_ble_eq_true rfl) ?_
  intro p e s m below meth c ls hst hP hK hD hev hS hl
  obtain ⟨hx, hb, hr, hml, hts, hown, hlocks, hin⟩ := hst
  have hown : s.vm.findClass RX10 = some m.cls := hown
  have hA : ∀ q : Nat, s.heap.size ≤ q → va_A (mw g h0 b i a) s.heap.size q := fun _ h => Or.inr h
  have hl : lv_has ls 4 [(0, .ref h0), (1, .int ck), (2, .int wt)] := hl
  refine lv_aload_n hx hb dX10_treat_0 rfl (lv_at hl 0 rfl) ?_
  refine lv_iload_n hx hb dX10_treat_1 rfl (lv_at hl 1 rfl) ?_
  refine M_V ⟨hx, hb, hml, hown, hts⟩ (m_X10_isCloth l dC dI sa g h0 b i a ck _ ) (cwV 1 hts gX10_treat_X10_isCloth rfl rfl rfl (by decide +kernel) ⟨Nat.le_of_ble_eq_true rfl, Nat.le_of_ble_eq_true rfl⟩) hP hD hK hS hA hev rfl rfl rfl rfl hl.1 rfl (Nat.le_of_ble_eq_true rfl) dX10_treat_2 ⟨(Nat.le_of_ble_eq_true rfl), (Nat.le_of_ble_eq_true rfl)⟩ (fun r u H locs hw hP hD hS => ?_)
  obtain ⟨x0_1, rfl⟩ : ∃ z, z = u := ⟨_, rfl⟩
  have hw : ((r = some (.int 0) ∧ (True)) ∨ (r = some (.int 1) ∧ (0 ≤ ck.toInt ∧ ck.toInt < (i 12).toInt))) ∧ (True) := hw
  obtain ⟨⟨rfl, hz2_3⟩ | ⟨rfl, hz2_3⟩, hw_2⟩ := hw
  · have hP : va_P (dC, dI) vwCl (mw g h0 b (va_up i 0 x0_1) a) _ := hP
    have hD : va_D _ (mw g h0 b (va_up i 0 x0_1) a) := hD
    refine W.eq (g2 := F0 m 5 ls [.int 0]) rfl ?_
    refine lv_if_eq (tgt := 30) hx hb dX10_treat_5 (by decide) (fun _ => ?_) (fun c_4 => absurd c_4 (by decide))
    refine lv_iconst (v := 0) hx hb dX10_treat_30 (by decide) ?_
    exact M_i hx hb hr hlocks (x0_1, (i 2), (a 14), (a 15), (a 16)) hP hD hK hS ⟨⟨_, rfl⟩, trivial⟩ (Nat.le_of_ble_eq_true rfl) (Nat.le_of_ble_eq_true rfl) dX10_treat_31
  · have hP : va_P (dC, dI) vwCl (mw g h0 b (va_up i 0 x0_1) a) _ := hP
    have hD : va_D _ (mw g h0 b (va_up i 0 x0_1) a) := hD
    refine W.eq (g2 := F0 m 5 ls [.int 1]) rfl ?_
    obtain ⟨hc30, hwt⟩ := hCI.at hz2_3
    refine lv_if_eq (tgt := 30) hx hb dX10_treat_5 (by decide) (fun c_5 => absurd c_5 (by decide)) (fun _ => ?_)
    refine lv_aload_n hx hb dX10_treat_8 rfl (lv_at hl 0 rfl) ?_
    refine lv_iload_n hx hb dX10_treat_9 rfl (lv_at hl 2 rfl) ?_
    refine lv_if_lt (tgt := 22) hx hb dX10_treat_10 (by decide) (fun c_6 => ?_) (fun c_6 => ?_)
    · have nc_6 := lt_i c_6
      have lc_6 : (0 : Int32).toInt = 0 := by decide
      refine lv_iconst (v := 0) hx hb dX10_treat_22 (by decide) ?_
      refine lv_iconst (v := 2) hx hb dX10_treat_23 (by decide) ?_
      refine M_V ⟨hx, hb, hml, hown, hts⟩ (m_X10_right l dC dI sa g h0 b (va_up i 0 x0_1) a (0 : Int32) (2 : Int32) _ (by decide)) (cwV 2 hts gX10_treat_X10_right rfl rfl rfl (by decide +kernel) ⟨Nat.le_of_ble_eq_true rfl, Nat.le_of_ble_eq_true rfl⟩) hP hD hK hS hA hev rfl rfl rfl rfl hl.1 rfl (Nat.le_of_ble_eq_true rfl) dX10_treat_24 ⟨(Nat.le_of_ble_eq_true rfl), (Nat.le_of_ble_eq_true rfl)⟩ (fun r u H locs hw hP hD hS => ?_)
      obtain ⟨x0_7, rfl⟩ : ∃ z, z = u := ⟨_, rfl⟩
      have hw : ((r = some (.int 0) ∧ (True)) ∨ (r = some (.int 1) ∧ (¬ (0 : Int32) = 0))) ∧ (True) := hw
      obtain ⟨⟨rfl, hz2_9⟩ | ⟨rfl, hz2_9⟩, hw_8⟩ := hw
      · have hP : va_P (dC, dI) vwCl (mw g h0 b (va_up i 0 x0_7) a) _ := hP
        have hD : va_D _ (mw g h0 b (va_up i 0 x0_7) a) := hD
        refine W.eq (g2 := F0 m 27 ls [.int 0]) rfl ?_
        refine lv_if_ne (tgt := 32) hx hb dX10_treat_27 (by decide) (fun c_10 => absurd c_10 (by decide)) (fun _ => ?_)
        refine lv_iconst (v := 0) hx hb dX10_treat_30 (by decide) ?_
        exact M_i hx hb hr hlocks (x0_7, (i 2), (a 14), (a 15), (a 16)) hP hD hK hS ⟨⟨_, rfl⟩, trivial⟩ (Nat.le_of_ble_eq_true rfl) (Nat.le_of_ble_eq_true rfl) dX10_treat_31
      · have hP : va_P (dC, dI) vwCl (mw g h0 b (va_up i 0 x0_7) a) _ := hP
        have hD : va_D _ (mw g h0 b (va_up i 0 x0_7) a) := hD
        refine W.eq (g2 := F0 m 27 ls [.int 1]) rfl ?_
        exact absurd rfl hz2_9
    · have nc_6 := nlt_i c_6
      have lc_6 : (0 : Int32).toInt = 0 := by decide
      refine lv_iload_n hx hb dX10_treat_13 rfl (lv_at hl 2 rfl) ?_
      refine lv_iconst (v := 2) hx hb dX10_treat_14 (by decide) ?_
      refine lv_icmp_gt (tgt := 22) hx hb dX10_treat_15 (by decide) (fun c_11 => ?_) (fun c_11 => ?_)
      · have nc_11 := lt_i c_11
        have lc_11 : (2 : Int32).toInt = 2 := by decide
        refine lv_iconst (v := 0) hx hb dX10_treat_22 (by decide) ?_
        refine lv_iconst (v := 2) hx hb dX10_treat_23 (by decide) ?_
        refine M_V ⟨hx, hb, hml, hown, hts⟩ (m_X10_right l dC dI sa g h0 b (va_up i 0 x0_1) a (0 : Int32) (2 : Int32) _ (by decide)) (cwV 2 hts gX10_treat_X10_right rfl rfl rfl (by decide +kernel) ⟨Nat.le_of_ble_eq_true rfl, Nat.le_of_ble_eq_true rfl⟩) hP hD hK hS hA hev rfl rfl rfl rfl hl.1 rfl (Nat.le_of_ble_eq_true rfl) dX10_treat_24 ⟨(Nat.le_of_ble_eq_true rfl), (Nat.le_of_ble_eq_true rfl)⟩ (fun r u H locs hw hP hD hS => ?_)
        obtain ⟨x0_12, rfl⟩ : ∃ z, z = u := ⟨_, rfl⟩
        have hw : ((r = some (.int 0) ∧ (True)) ∨ (r = some (.int 1) ∧ (¬ (0 : Int32) = 0))) ∧ (True) := hw
        obtain ⟨⟨rfl, hz2_14⟩ | ⟨rfl, hz2_14⟩, hw_13⟩ := hw
        · have hP : va_P (dC, dI) vwCl (mw g h0 b (va_up i 0 x0_12) a) _ := hP
          have hD : va_D _ (mw g h0 b (va_up i 0 x0_12) a) := hD
          refine W.eq (g2 := F0 m 27 ls [.int 0]) rfl ?_
          refine lv_if_ne (tgt := 32) hx hb dX10_treat_27 (by decide) (fun c_15 => absurd c_15 (by decide)) (fun _ => ?_)
          refine lv_iconst (v := 0) hx hb dX10_treat_30 (by decide) ?_
          exact M_i hx hb hr hlocks (x0_12, (i 2), (a 14), (a 15), (a 16)) hP hD hK hS ⟨⟨_, rfl⟩, trivial⟩ (Nat.le_of_ble_eq_true rfl) (Nat.le_of_ble_eq_true rfl) dX10_treat_31
        · have hP : va_P (dC, dI) vwCl (mw g h0 b (va_up i 0 x0_12) a) _ := hP
          have hD : va_D _ (mw g h0 b (va_up i 0 x0_12) a) := hD
          refine W.eq (g2 := F0 m 27 ls [.int 1]) rfl ?_
          exact absurd rfl hz2_14
      · have nc_11 := nlt_i c_11
        have lc_11 : (2 : Int32).toInt = 2 := by decide
        refine lv_iconst (v := 1) hx hb dX10_treat_18 (by decide) ?_
        refine lv_goto (tgt := 23) hx hb dX10_treat_19 (by decide) ?_
        refine lv_iconst (v := 2) hx hb dX10_treat_23 (by decide) ?_
        refine M_V ⟨hx, hb, hml, hown, hts⟩ (m_X10_right l dC dI sa g h0 b (va_up i 0 x0_1) a (1 : Int32) (2 : Int32) _ (by decide)) (cwV 2 hts gX10_treat_X10_right rfl rfl rfl (by decide +kernel) ⟨Nat.le_of_ble_eq_true rfl, Nat.le_of_ble_eq_true rfl⟩) hP hD hK hS hA hev rfl rfl rfl rfl hl.1 rfl (Nat.le_of_ble_eq_true rfl) dX10_treat_24 ⟨(Nat.le_of_ble_eq_true rfl), (Nat.le_of_ble_eq_true rfl)⟩ (fun r u H locs hw hP hD hS => ?_)
        obtain ⟨x0_16, rfl⟩ : ∃ z, z = u := ⟨_, rfl⟩
        have hw : ((r = some (.int 0) ∧ (True)) ∨ (r = some (.int 1) ∧ (¬ (1 : Int32) = 0))) ∧ (True) := hw
        obtain ⟨⟨rfl, hz2_18⟩ | ⟨rfl, hz2_18⟩, hw_17⟩ := hw
        · have hP : va_P (dC, dI) vwCl (mw g h0 b (va_up i 0 x0_16) a) _ := hP
          have hD : va_D _ (mw g h0 b (va_up i 0 x0_16) a) := hD
          refine W.eq (g2 := F0 m 27 ls [.int 0]) rfl ?_
          refine lv_if_ne (tgt := 32) hx hb dX10_treat_27 (by decide) (fun c_19 => absurd c_19 (by decide)) (fun _ => ?_)
          refine lv_iconst (v := 0) hx hb dX10_treat_30 (by decide) ?_
          exact M_i hx hb hr hlocks (x0_16, (i 2), (a 14), (a 15), (a 16)) hP hD hK hS ⟨⟨_, rfl⟩, trivial⟩ (Nat.le_of_ble_eq_true rfl) (Nat.le_of_ble_eq_true rfl) dX10_treat_31
        · have hP : va_P (dC, dI) vwCl (mw g h0 b (va_up i 0 x0_16) a) _ := hP
          have hD : va_D _ (mw g h0 b (va_up i 0 x0_16) a) := hD
          refine W.eq (g2 := F0 m 27 ls [.int 1]) rfl ?_
          refine lv_if_ne (tgt := 32) hx hb dX10_treat_27 (by decide) (fun _ => ?_) (fun c_20 => absurd c_20 (by decide))
          refine lv_aload_n hx hb dX10_treat_32 rfl (lv_at hl 0 rfl) ?_
          refine lv_iload_n hx hb dX10_treat_33 rfl (lv_at hl 1 rfl) ?_
          refine M_V ⟨hx, hb, hml, hown, hts⟩ (m_X10_isDry l dC dI sa g h0 b (va_up i 0 x0_16) a ck _ hc30) (cwV 1 hts gX10_treat_X10_isDry rfl rfl rfl (by decide +kernel) ⟨Nat.le_of_ble_eq_true rfl, Nat.le_of_ble_eq_true rfl⟩) hP hD hK hS hA hev rfl rfl rfl rfl hl.1 rfl (Nat.le_of_ble_eq_true rfl) dX10_treat_34 ⟨(Nat.le_of_ble_eq_true rfl), (Nat.le_of_ble_eq_true rfl)⟩ (fun r u H locs hw hP hD hS => ?_)
          have hw : (∃ z : Int32, r = some (.int z) ∧ (z = 0 ∨ z = 1)) ∧ (True) := hw
          obtain ⟨⟨z_22, rfl, hz_z_22⟩, hw_21⟩ := hw
          have hP : va_P (dC, dI) vwCl (mw g h0 b (va_up i 0 x0_16) a) _ := hP
          have hD : va_D _ (mw g h0 b (va_up i 0 x0_16) a) := hD
          refine W.eq (g2 := F0 m 37 ls [.int z_22]) rfl ?_
          refine lv_if_eq (tgt := 42) hx hb dX10_treat_37 (by decide) (fun c_23 => ?_) (fun c_23 => ?_)
          · have nc_23 := eq_i c_23
            have lc_23 : (0 : Int32).toInt = 0 := by decide
            refine lv_iload_n hx hb dX10_treat_42 rfl (lv_at hl 2 rfl) ?_
            refine lv_iconst (v := 1) hx hb dX10_treat_43 (by decide) ?_
            refine lv_icmp_ne (tgt := 53) hx hb dX10_treat_44 (by decide) (fun c_24 => ?_) (fun c_24 => ?_)
            · have nc_24 := ne_i c_24
              have lc_24 : (1 : Int32).toInt = 1 := by decide
              refine lv_aload_n hx hb dX10_treat_53 rfl (lv_at hl 0 rfl) ?_
              refine lv_iload_n hx hb dX10_treat_54 rfl (lv_at hl 1 rfl) ?_
              refine M_V ⟨hx, hb, hml, hown, hts⟩ (m_X10_airs l dC dI sa g h0 b (va_up i 0 x0_16) a ck _ hc30) (cwV 1 hts gX10_treat_X10_airs rfl rfl rfl (by decide +kernel) ⟨Nat.le_of_ble_eq_true rfl, Nat.le_of_ble_eq_true rfl⟩) hP hD hK hS hA hev rfl rfl rfl rfl hl.1 rfl (Nat.le_of_ble_eq_true rfl) dX10_treat_55 ⟨(Nat.le_of_ble_eq_true rfl), (Nat.le_of_ble_eq_true rfl)⟩ (fun r u H locs hw hP hD hS => ?_)
              obtain ⟨x2_25, y14_26, y15_27⟩ := u
              have hw : (∃ z : Int32, r = some (.int z)) ∧ (True) := hw
              obtain ⟨⟨z_29, rfl⟩, hw_28⟩ := hw
              have hP : va_P (dC, dI) vwCl (mw g h0 b (va_up (va_up i 0 x0_16) 2 x2_25) (va_up (va_up a 14 y14_26) 15 y15_27)) _ := hP
              have hD : va_D _ (mw g h0 b (va_up (va_up i 0 x0_16) 2 x2_25) (va_up (va_up a 14 y14_26) 15 y15_27)) := hD
              refine W.eq (g2 := F0 m 58 ls [.int z_29]) rfl ?_
              refine lv_istore_n (lv' := [(3, .int z_29), (0, .ref h0), (1, .int ck), (2, .int wt)]) hx hb dX10_treat_58 rfl hl (by decide) rfl (fun ls hl => ?_)
              refine lv_iload_n hx hb dX10_treat_59 rfl (lv_at hl 3 rfl) ?_
              refine lv_iconst (v := 2) hx hb dX10_treat_60 (by decide) ?_
              refine lv_icmp_ne (tgt := 77) hx hb dX10_treat_61 (by decide) (fun c_30 => ?_) (fun c_30 => ?_)
              · have nc_30 := ne_i c_30
                have lc_30 : (2 : Int32).toInt = 2 := by decide
                refine lv_iload_n hx hb dX10_treat_77 rfl (lv_at hl 0 rfl) ?_
                exact M_i hx hb hr hlocks (x0_16, x2_25, y14_26, y15_27, (a 16)) hP hD hK hS ⟨⟨_, rfl⟩, trivial⟩ (Nat.le_of_ble_eq_true rfl) (Nat.le_of_ble_eq_true rfl) dX10_treat_78
              · have nc_30 := eq_i c_30
                have lc_30 : (2 : Int32).toInt = 2 := by decide
                refine lv_aload_n hx hb dX10_treat_64 rfl (lv_at hl 1 rfl) ?_
                refine va_get (D := (dC, dI)) (ci := 10) (v := .ref (b 16)) (C := RX10) (T := TX10) (N := 51) hx hb hts inw_X10_treat_10 hown hK hP 0 rfl rfl 16 (by decide) (hts (.fieldLink RX10 44 "VatHouseModel" "day" "[I") (by decide +kernel)) (fun _ h9 => h9) rfl dX10_treat_65 ?_
                refine lv_iload_n hx hb dX10_treat_68 rfl (lv_at hl 2 rfl) ?_
                refine lv_aload_n hx hb dX10_treat_69 rfl (lv_at hl 1 rfl) ?_
                refine va_get (D := (dC, dI)) (ci := 10) (v := .int (i 1)) (C := RX10) (T := TX10) (N := 51) hx hb hts inw_X10_treat_10 hown hK hP 0 rfl rfl 1 (by decide) (hts (.fieldLink RX10 131 "VatHouseModel" "hours" "I") (by decide +kernel)) (fun _ h9 => h9) rfl dX10_treat_70 ?_
                refine lv_bipush (v := 24) hx hb dX10_treat_73 (by decide) ?_
                refine lv_idiv hx hb dX10_treat_75 (by decide) ?_
                refine lv_topi (fun z_31 ez_31 => ?_)
                refine va_iast hx hb hK hP hD hS 12 11 rfl rfl (by assumption) dX10_treat_76 (fun H locs hP hD hS => ?_)
                have hP : va_P (dC, dI) vwCl (mw g h0 b (va_up (va_up i 0 x0_16) 2 x2_25) (va_up (va_up (va_up a 14 y14_26) 15 y15_27) 16 (upd (a 16) ck.toNatClampNeg z_31))) _ := hP
                have hD : va_D _ (mw g h0 b (va_up (va_up i 0 x0_16) 2 x2_25) (va_up (va_up (va_up a 14 y14_26) 15 y15_27) 16 (upd (a 16) ck.toNatClampNeg z_31))) := hD
                obtain ⟨f_32, ef_32⟩ : ∃ z, z = (upd (a 16) ck.toNatClampNeg z_31) := ⟨_, rfl⟩
                rw [← ef_32] at hP hD
                refine lv_iload_n hx hb dX10_treat_77 rfl (lv_at hl 0 rfl) ?_
                exact M_i hx hb hr hlocks (x0_16, x2_25, y14_26, y15_27, f_32) hP hD hK hS ⟨⟨_, rfl⟩, trivial⟩ (Nat.le_of_ble_eq_true rfl) (Nat.le_of_ble_eq_true rfl) dX10_treat_78
            · have nc_24 := eq_i c_24
              have lc_24 : (1 : Int32).toInt = 1 := by decide
              refine lv_aload_n hx hb dX10_treat_47 rfl (lv_at hl 0 rfl) ?_
              refine lv_iload_n hx hb dX10_treat_48 rfl (lv_at hl 1 rfl) ?_
              refine M_V ⟨hx, hb, hml, hown, hts⟩ (m_X10_washes l dC dI sa g h0 b (va_up i 0 x0_16) a ck _ hc30) (cwV 1 hts gX10_treat_X10_washes rfl rfl rfl (by decide +kernel) ⟨Nat.le_of_ble_eq_true rfl, Nat.le_of_ble_eq_true rfl⟩) hP hD hK hS hA hev rfl rfl rfl rfl hl.1 rfl (Nat.le_of_ble_eq_true rfl) dX10_treat_49 ⟨(Nat.le_of_ble_eq_true rfl), (Nat.le_of_ble_eq_true rfl)⟩ (fun r u H locs hw hP hD hS => ?_)
              obtain ⟨x2_33, y14_34, y15_35⟩ := u
              have hw : (∃ z : Int32, r = some (.int z)) ∧ (True) := hw
              obtain ⟨⟨z_37, rfl⟩, hw_36⟩ := hw
              have hP : va_P (dC, dI) vwCl (mw g h0 b (va_up (va_up i 0 x0_16) 2 x2_33) (va_up (va_up a 14 y14_34) 15 y15_35)) _ := hP
              have hD : va_D _ (mw g h0 b (va_up (va_up i 0 x0_16) 2 x2_33) (va_up (va_up a 14 y14_34) 15 y15_35)) := hD
              refine W.eq (g2 := F0 m 52 ls [.int z_37]) rfl ?_
              exact M_i hx hb hr hlocks (x0_16, x2_33, y14_34, y15_35, (a 16)) hP hD hK hS ⟨⟨_, rfl⟩, trivial⟩ (Nat.le_of_ble_eq_true rfl) (Nat.le_of_ble_eq_true rfl) dX10_treat_52
          · have nc_23 := ne_i c_23
            have lc_23 : (0 : Int32).toInt = 0 := by decide
            refine lv_iconst (v := (-1)) hx hb dX10_treat_40 (by decide) ?_
            exact M_i hx hb hr hlocks (x0_16, (i 2), (a 14), (a 15), (a 16)) hP hD hK hS ⟨⟨_, rfl⟩, trivial⟩ (Nat.le_of_ble_eq_true rfl) (Nat.le_of_ble_eq_true rfl) dX10_treat_41

/-- lays: the shift, the times done, what is taped -/
def La (tl k : Int32) (x : Int32) (n : Nat) : Prop := ∃ i : Nat, ((i = 0 ∧ x = 24) ∨ (i = 1 ∧ x = 16) ∨ (i = 2 ∧ x = 8) ∨ (i = 3 ∧ x = 0) ∨ (i = 4 ∧ x = -8)) ∧ 4 < i + n ∧ k.toInt = tl.toInt + i
theorem La.z {tl k x : Int32} (h : La tl k x 0) : False := by
  obtain ⟨i, h1, h2, -⟩ := h
  rcases h1 with ⟨h, -⟩ | ⟨h, -⟩ | ⟨h, -⟩ | ⟨h, -⟩ | ⟨h, -⟩ <;> omega
theorem La.in {tl k x : Int32} {n : Nat} (h : La tl k x (n + 1)) (h0 : ¬ x < 0) (ht : 0 ≤ tl.toInt ∧ tl.toInt ≤ 1496) : 0 ≤ k.toInt ∧ k.toInt < 1500 := by
  obtain ⟨i, h1, -, h3⟩ := h
  have h5 : i ≤ 3 := by
    rcases h1 with ⟨h, -⟩ | ⟨h, -⟩ | ⟨h, -⟩ | ⟨h, -⟩ | ⟨h, e⟩
    · omega
    · omega
    · omega
    · omega
    · subst e; exact absurd (by decide) h0
  omega
theorem La.nx {tl k z x : Int32} {n : Nat} (h : La tl k x (n + 1)) (h0 : ¬ x < 0) (ht : 0 ≤ tl.toInt ∧ tl.toInt ≤ 1496) (hz : z = k + 1) : La tl z (x + (-8)) n := by
  have hin := h.in h0 ht
  have ez := inc_toInt (a := k) (b := 1500) (by rw [Int32.lt_iff_toInt_lt]; have e : (1500 : Int32).toInt = 1500 := by decide
                                                omega)
  rw [← hz] at ez
  obtain ⟨i, h1, h2, h3⟩ := h
  refine ⟨i + 1, ?_, by omega, by push_cast; omega⟩
  rcases h1 with ⟨rfl, rfl⟩ | ⟨rfl, rfl⟩ | ⟨rfl, rfl⟩ | ⟨rfl, rfl⟩ | ⟨rfl, rfl⟩
  · exact Or.inr (Or.inl ⟨rfl, by decide⟩)
  · exact Or.inr (Or.inr (Or.inl ⟨rfl, by decide⟩))
  · exact Or.inr (Or.inr (Or.inr (Or.inl ⟨rfl, by decide⟩)))
  · exact Or.inr (Or.inr (Or.inr (Or.inr ⟨rfl, by decide⟩)))
  · exact absurd (by decide) h0
theorem La.e {tl k x : Int32} {n : Nat} (h : La tl k x n) (h0 : x < 0) : k.toInt = tl.toInt + 4 := by
  obtain ⟨i, h1, -, h3⟩ := h
  rcases h1 with ⟨rfl, rfl⟩ | ⟨rfl, rfl⟩ | ⟨rfl, rfl⟩ | ⟨rfl, rfl⟩ | ⟨rfl, rfl⟩
  · exact absurd h0 (by decide)
  · exact absurd h0 (by decide)
  · exact absurd h0 (by decide)
  · exact absurd h0 (by decide)
  · exact h3

abbrev rm_X10_lays : Room := { frames := 0, cells := 0, slots := 0, locals := 0 }
theorem inw_X10_lays_10 : ∀ w ∈ wsX100, w ∈ wsX10_lays := by decide +kernel
set_option maxHeartbeats 1000000 in
set_option maxRecDepth 100000 in
theorem m_X10_lays (l : Launch) (dC : Nat → ClassId) (dI : Nat → Nat → Nat) (sa : Nat → Nat) (g : Nat → Nat) (h0 : Nat) (b : Nat → Nat) (i : Nat → Int32) (a : Nat → Nat → Int32) (vl : Int32) (sz : Nat) (hTI : 0 ≤ (i 20).toInt ∧ (i 20).toInt ≤ 1496) : CT l dC dI sa yX10_lays wsX10_lays rm_X10_lays [.ref h0, .int vl] (mw g h0 b i a) (tyM g) sz (fun (r : Option Value) (u : Int32 × (Nat → Int32)) => match u with | (x20, y19) => (r = none) ∧ (x20.toInt = (i 20).toInt + 4)) (fun (u : Int32 × (Nat → Int32)) => match u with | (x20, y19) => mw g h0 b (va_up i 20 x20) (va_up a 19 y19)) (fun _ => []) 0 0 := by
  refine CT.start (cc := cX10_lays) (maxL := 3) (ret := none) (by decide) rfl (Nat.le_of_ble_eq_true rfl) ?_
  intro p e s m below meth c ls hst hP hK hD hev hS hl
  obtain ⟨hx, hb, hr, hml, hts, hown, hlocks, hin⟩ := hst
  have hown : s.vm.findClass RX10 = some m.cls := hown
  have hA : ∀ q : Nat, s.heap.size ≤ q → va_A (mw g h0 b i a) s.heap.size q := fun _ h => Or.inr h
  have hl : lv_has ls 3 [(0, .ref h0), (1, .int vl)] := hl
  refine lv_bipush (v := 24) hx hb dX10_lays_0 (by decide) ?_
  refine lv_istore_n (lv' := [(2, .int 24), (0, .ref h0), (1, .int vl)]) hx hb dX10_lays_2 rfl hl (by decide) rfl (fun ls hl => ?_)
  have lp : ∀ (n : Nat) (sh : Int32) (l20 : Int32) (l19 : Nat → Int32) (H : Heap) (locs : List Loc) (ls : Array Slot), (La (i 20) l20 sh n) → va_P (dC, dI) vwCl (mw g h0 b (va_up i 20 l20) (va_up a 19 l19)) H → va_D (va_A (mw g h0 b i a) s.heap.size) (mw g h0 b (va_up i 20 l20) (va_up a 19 l19)) → va_S (va_A (mw g h0 b i a) s.heap.size) s.heap H locs → lv_has ls 3 [(2, .int sh), (0, .ref h0), (1, .int vl)] → W p l e rm_X10_lays s m [.ref h0, .int vl].toArray below meth c H locs 0 0 (MQ below (Qg (fun (r : Option Value) (u : Int32 × (Nat → Int32)) => match u with | (x20, y19) => (r = none) ∧ (x20.toInt = (i 20).toInt + 4)) (fun u t => QW dC dI (va_A (mw g h0 b i a) s.heap.size) ((fun (u : Int32 × (Nat → Int32)) => match u with | (x20, y19) => mw g h0 b (va_up i 20 x20) (va_up a 19 y19)) u) [] t) (va_A (mw g h0 b i a) s.heap.size)) [.ref h0, .int vl].toArray s 0 0 (va_A (mw g h0 b i a) s.heap.size)) (F0 m 3 ls []) := by
    intro n
    induction n with
    | zero => intro sh l20 l19 H locs ls hm  hP hD hS hl; exact hm.z.elim
    | succ n ih =>
      intro sh l20 l19 H locs ls hm  hP hD hS hl
      refine lv_iload_n hx hb dX10_lays_3 rfl (lv_at hl 0 rfl) ?_
      refine lv_if_lt (tgt := 39) hx hb dX10_lays_4 (by decide) (fun c_1 => ?_) (fun c_1 => ?_)
      · have nc_1 := lt_i c_1
        have lc_1 : (0 : Int32).toInt = 0 := by decide
        exact M_v hx hb hr hlocks (l20, l19) hP hD hK hS ⟨rfl, hm.e c_1⟩ (Nat.le_of_ble_eq_true rfl) (Nat.le_of_ble_eq_true rfl) dX10_lays_39
      · have nc_1 := nlt_i c_1
        have lc_1 : (0 : Int32).toInt = 0 := by decide
        refine lv_aload_n hx hb dX10_lays_7 rfl (lv_at hl 1 rfl) ?_
        refine va_get (D := (dC, dI)) (ci := 10) (v := .ref (b 19)) (C := RX10) (T := TX10) (N := 51) hx hb hts inw_X10_lays_10 hown hK hP 0 rfl rfl 19 (by decide) (hts (.fieldLink RX10 53 "VatHouseModel" "tape" "[I") (by decide +kernel)) (fun _ h9 => h9) rfl dX10_lays_8 ?_
        refine lv_aload_n hx hb dX10_lays_11 rfl (lv_at hl 1 rfl) ?_
        refine va_get (D := (dC, dI)) (ci := 10) (v := .int l20) (C := RX10) (T := TX10) (N := 51) hx hb hts inw_X10_lays_10 hown hK hP 0 rfl rfl 20 (by decide) (hts (.fieldLink RX10 159 "VatHouseModel" "taped" "I") (by decide +kernel)) (fun _ h9 => h9) rfl dX10_lays_12 ?_
        refine lv_iload_n hx hb dX10_lays_15 rfl (lv_at hl 2 rfl) ?_
        refine lv_iload_n hx hb dX10_lays_16 rfl (lv_at hl 0 rfl) ?_
        refine lv_ishr hx hb dX10_lays_17 ?_
        refine lv_topi (fun z_2 ez_2 => ?_)
        refine lv_sipush (v := 255) hx hb dX10_lays_18 (by decide) ?_
        refine lv_iand hx hb dX10_lays_21 ?_
        refine lv_topi (fun z_3 ez_3 => ?_)
        refine va_iast hx hb hK hP hD hS 15 14 rfl rfl (in_i (hm.in c_1 hTI).1 (hm.in c_1 hTI).2) dX10_lays_22 (fun H locs hP hD hS => ?_)
        have hP : va_P (dC, dI) vwCl (mw g h0 b (va_up i 20 l20) (va_up a 19 (upd l19 l20.toNatClampNeg z_3))) _ := hP
        have hD : va_D _ (mw g h0 b (va_up i 20 l20) (va_up a 19 (upd l19 l20.toNatClampNeg z_3))) := hD
        obtain ⟨f_4, ef_4⟩ : ∃ z, z = (upd l19 l20.toNatClampNeg z_3) := ⟨_, rfl⟩
        rw [← ef_4] at hP hD
        refine lv_aload_n hx hb dX10_lays_23 rfl (lv_at hl 1 rfl) ?_
        refine lv_dup hx hb dX10_lays_24 rfl ?_
        refine va_get (D := (dC, dI)) (ci := 10) (v := .int l20) (C := RX10) (T := TX10) (N := 51) hx hb hts inw_X10_lays_10 hown hK hP 0 rfl rfl 20 (by decide) (hts (.fieldLink RX10 159 "VatHouseModel" "taped" "I") (by decide +kernel)) (fun _ h9 => h9) rfl dX10_lays_25 ?_
        refine lv_iconst (v := 1) hx hb dX10_lays_28 (by decide) ?_
        refine lv_iadd hx hb dX10_lays_29 ?_
        refine lv_topi (fun z_5 ez_5 => ?_)
        refine va_put (D := (dC, dI)) (ci := 10) (v := .int z_5) (ty := .int) (C := RX10) (T := TX10) (N := 51) hx hb hts inw_X10_lays_10 tyX10 tyX10_ok nmX10 hown hK hP hD hS 0 rfl rfl 20 (by decide) (hts (.fieldLink RX10 159 "VatHouseModel" "taped" "I") (by decide +kernel)) (fun _ h9 => h9) rfl (by decide +kernel) rfl rfl (Nat.le_of_ble_eq_true rfl) dX10_lays_30 (fun H locs hP hD hS => ?_)
        have hP : va_P (dC, dI) vwCl (mw g h0 b (va_up i 20 z_5) (va_up a 19 f_4)) _ := hP
        have hD : va_D _ (mw g h0 b (va_up i 20 z_5) (va_up a 19 f_4)) := hD
        refine lv_iinc (v := (sh + (-8))) (lv' := [(2, .int (sh + (-8))), (0, .ref h0), (1, .int vl)]) hx hb dX10_lays_33 hl (k := 0) rfl rfl (by decide) rfl (fun ls hl => ?_)
        refine lv_goto (tgt := 3) hx hb dX10_lays_36 (by decide) ?_
        exact ih (sh + (-8)) z_5 f_4 _ _ _ (hm.nx c_1 hTI ez_5)  hP hD hS (lv_sub hl [0, 1, 2] rfl)
  exact lp 5 (24 : Int32) (i 20) (a 19) _ _ _ (⟨0, Or.inl ⟨rfl, rfl⟩, by omega, by omega⟩)  hP hD hS (lv_sub hl [0, 1, 2] rfl)

abbrev rm_X10_put : Room := { frames := 1, cells := 0, slots := 0, locals := 22 }
theorem inw_X10_put_10 : ∀ w ∈ wsX100, w ∈ wsX10_put := by decide +kernel
set_option maxHeartbeats 1000000 in
set_option maxRecDepth 100000 in
theorem m_X10_put (l : Launch) (dC : Nat → ClassId) (dI : Nat → Nat → Nat) (sa : Nat → Nat) (g : Nat → Nat) (h0 : Nat) (b : Nat → Nat) (i : Nat → Int32) (a : Nat → Nat → Int32) (a1 : Int32) (a2 : Int32) (a3 : Int32) (a4 : Int32) (a5 : Int32) (sz : Nat) (hT2 : 0 ≤ (i 20).toInt ∧ (i 20).toInt ≤ 1500) : CT l dC dI sa yX10_put wsX10_put rm_X10_put [.ref h0, .int a1, .int a2, .int a3, .int a4, .int a5] (mw g h0 b i a) (tyM g) sz (fun (r : Option Value) (u : Int32 × Int32 × (Nat → Int32)) => match u with | (x0, x20, y19) => (∃ z : Int32, r = some (.int z) ∧ ((1480 < (i 20).toInt ∧ z = -1 ∧ x20 = (i 20)) ∨ ((i 20).toInt ≤ 1480 ∧ z = x20 ∧ x20.toInt = (i 20).toInt + 20))) ∧ (True)) (fun (u : Int32 × Int32 × (Nat → Int32)) => match u with | (x0, x20, y19) => mw g h0 b (va_up (va_up i 0 x0) 20 x20) (va_up a 19 y19)) (fun _ => []) 0 0 := by
  refine CT.start (cc := cX10_put) (maxL := 6) (ret := (some .int)) (by decide) rfl (Nat.le_of_ble_eq_true rfl) ?_
  intro p e s m below meth c ls hst hP hK hD hev hS hl
  obtain ⟨hx, hb, hr, hml, hts, hown, hlocks, hin⟩ := hst
  have hown : s.vm.findClass RX10 = some m.cls := hown
  have hA : ∀ q : Nat, s.heap.size ≤ q → va_A (mw g h0 b i a) s.heap.size q := fun _ h => Or.inr h
  have hl : lv_has ls 6 [(0, .ref h0), (1, .int a1), (2, .int a2), (3, .int a3), (4, .int a4), (5, .int a5)] := hl
  refine lv_aload_n hx hb dX10_put_0 rfl (lv_at hl 0 rfl) ?_
  refine lv_iconst (v := 0) hx hb dX10_put_1 (by decide) ?_
  refine va_put (D := (dC, dI)) (ci := 10) (v := .int 0) (ty := .int) (C := RX10) (T := TX10) (N := 51) hx hb hts inw_X10_put_10 tyX10 tyX10_ok nmX10 hown hK hP hD hS 0 rfl rfl 0 (by decide) (hts (.fieldLink RX10 105 "VatHouseModel" "thrown" "I") (by decide +kernel)) (fun _ h9 => h9) rfl (by decide +kernel) rfl rfl (Nat.le_of_ble_eq_true rfl) dX10_put_2 (fun H locs hP hD hS => ?_)
  have hP : va_P (dC, dI) vwCl (mw g h0 b (va_up i 0 (0 : Int32)) a) _ := hP
  have hD : va_D _ (mw g h0 b (va_up i 0 (0 : Int32)) a) := hD
  refine lv_aload_n hx hb dX10_put_5 rfl (lv_at hl 0 rfl) ?_
  refine va_get (D := (dC, dI)) (ci := 10) (v := .int (i 20)) (C := RX10) (T := TX10) (N := 51) hx hb hts inw_X10_put_10 hown hK hP 0 rfl rfl 20 (by decide) (hts (.fieldLink RX10 159 "VatHouseModel" "taped" "I") (by decide +kernel)) (fun _ h9 => h9) rfl dX10_put_6 ?_
  refine lv_bipush (v := 20) hx hb dX10_put_9 (by decide) ?_
  refine lv_iadd hx hb dX10_put_11 ?_
  refine lv_topi (fun z_1 ez_1 => ?_)
  have h20 : (20 : Int32).toInt = 20 := by decide
  have hs20 := add_i ez_1 (by omega) (by omega)
  refine lv_sipush (v := 1500) hx hb dX10_put_12 (by decide) ?_
  refine lv_icmp_le (tgt := 20) hx hb dX10_put_15 (by decide) (fun c_2 => ?_) (fun c_2 => ?_)
  · have nc_2 := le_i c_2
    have lc_2 : (1500 : Int32).toInt = 1500 := by decide
    refine lv_aload_n hx hb dX10_put_20 rfl (lv_at hl 0 rfl) ?_
    refine lv_iload_n hx hb dX10_put_21 rfl (lv_at hl 1 rfl) ?_
    refine M_V ⟨hx, hb, hml, hown, hts⟩ (m_X10_lays l dC dI sa g h0 b (va_up i 0 (0 : Int32)) a a1 _ (show 0 ≤ (i 20).toInt ∧ (i 20).toInt ≤ 1496 from ⟨by omega, by omega⟩)) (cwV 1 hts gX10_put_X10_lays rfl rfl rfl (by decide +kernel) ⟨Nat.le_of_ble_eq_true rfl, Nat.le_of_ble_eq_true rfl⟩) hP hD hK hS hA hev rfl rfl rfl rfl hl.1 rfl (Nat.le_of_ble_eq_true rfl) dX10_put_22 ⟨(Nat.le_of_ble_eq_true rfl), (Nat.le_of_ble_eq_true rfl)⟩ (fun r u H locs hw hP hD hS => ?_)
    obtain ⟨x20_3, y19_4⟩ := u
    have hw : (r = none) ∧ (x20_3.toInt = (i 20).toInt + 4) := hw
    obtain ⟨rfl, hw_5⟩ := hw
    have hP : va_P (dC, dI) vwCl (mw g h0 b (va_up (va_up i 0 (0 : Int32)) 20 x20_3) (va_up a 19 y19_4)) _ := hP
    have hD : va_D _ (mw g h0 b (va_up (va_up i 0 (0 : Int32)) 20 x20_3) (va_up a 19 y19_4)) := hD
    refine W.eq (g2 := F0 m 25 ls []) rfl ?_
    refine lv_aload_n hx hb dX10_put_25 rfl (lv_at hl 0 rfl) ?_
    refine lv_iload_n hx hb dX10_put_26 rfl (lv_at hl 2 rfl) ?_
    refine M_V ⟨hx, hb, hml, hown, hts⟩ (m_X10_lays l dC dI sa g h0 b (va_up (va_up i 0 (0 : Int32)) 20 x20_3) (va_up a 19 y19_4) a2 _ (show 0 ≤ x20_3.toInt ∧ x20_3.toInt ≤ 1496 from ⟨by omega, by omega⟩)) (cwV 1 hts gX10_put_X10_lays rfl rfl rfl (by decide +kernel) ⟨Nat.le_of_ble_eq_true rfl, Nat.le_of_ble_eq_true rfl⟩) hP hD hK hS hA hev rfl rfl rfl rfl hl.1 rfl (Nat.le_of_ble_eq_true rfl) dX10_put_27 ⟨(Nat.le_of_ble_eq_true rfl), (Nat.le_of_ble_eq_true rfl)⟩ (fun r u H locs hw hP hD hS => ?_)
    obtain ⟨x20_6, y19_7⟩ := u
    have hw : (r = none) ∧ (x20_6.toInt = x20_3.toInt + 4) := hw
    obtain ⟨rfl, hw_8⟩ := hw
    have hP : va_P (dC, dI) vwCl (mw g h0 b (va_up (va_up i 0 (0 : Int32)) 20 x20_6) (va_up a 19 y19_7)) _ := hP
    have hD : va_D _ (mw g h0 b (va_up (va_up i 0 (0 : Int32)) 20 x20_6) (va_up a 19 y19_7)) := hD
    refine W.eq (g2 := F0 m 30 ls []) rfl ?_
    refine lv_aload_n hx hb dX10_put_30 rfl (lv_at hl 0 rfl) ?_
    refine lv_iload_n hx hb dX10_put_31 rfl (lv_at hl 3 rfl) ?_
    refine M_V ⟨hx, hb, hml, hown, hts⟩ (m_X10_lays l dC dI sa g h0 b (va_up (va_up i 0 (0 : Int32)) 20 x20_6) (va_up a 19 y19_7) a3 _ (show 0 ≤ x20_6.toInt ∧ x20_6.toInt ≤ 1496 from ⟨by omega, by omega⟩)) (cwV 1 hts gX10_put_X10_lays rfl rfl rfl (by decide +kernel) ⟨Nat.le_of_ble_eq_true rfl, Nat.le_of_ble_eq_true rfl⟩) hP hD hK hS hA hev rfl rfl rfl rfl hl.1 rfl (Nat.le_of_ble_eq_true rfl) dX10_put_32 ⟨(Nat.le_of_ble_eq_true rfl), (Nat.le_of_ble_eq_true rfl)⟩ (fun r u H locs hw hP hD hS => ?_)
    obtain ⟨x20_9, y19_10⟩ := u
    have hw : (r = none) ∧ (x20_9.toInt = x20_6.toInt + 4) := hw
    obtain ⟨rfl, hw_11⟩ := hw
    have hP : va_P (dC, dI) vwCl (mw g h0 b (va_up (va_up i 0 (0 : Int32)) 20 x20_9) (va_up a 19 y19_10)) _ := hP
    have hD : va_D _ (mw g h0 b (va_up (va_up i 0 (0 : Int32)) 20 x20_9) (va_up a 19 y19_10)) := hD
    refine W.eq (g2 := F0 m 35 ls []) rfl ?_
    refine lv_aload_n hx hb dX10_put_35 rfl (lv_at hl 0 rfl) ?_
    refine lv_iload hx hb dX10_put_36 (lv_at hl 4 rfl) ?_
    refine M_V ⟨hx, hb, hml, hown, hts⟩ (m_X10_lays l dC dI sa g h0 b (va_up (va_up i 0 (0 : Int32)) 20 x20_9) (va_up a 19 y19_10) a4 _ (show 0 ≤ x20_9.toInt ∧ x20_9.toInt ≤ 1496 from ⟨by omega, by omega⟩)) (cwV 1 hts gX10_put_X10_lays rfl rfl rfl (by decide +kernel) ⟨Nat.le_of_ble_eq_true rfl, Nat.le_of_ble_eq_true rfl⟩) hP hD hK hS hA hev rfl rfl rfl rfl hl.1 rfl (Nat.le_of_ble_eq_true rfl) dX10_put_38 ⟨(Nat.le_of_ble_eq_true rfl), (Nat.le_of_ble_eq_true rfl)⟩ (fun r u H locs hw hP hD hS => ?_)
    obtain ⟨x20_12, y19_13⟩ := u
    have hw : (r = none) ∧ (x20_12.toInt = x20_9.toInt + 4) := hw
    obtain ⟨rfl, hw_14⟩ := hw
    have hP : va_P (dC, dI) vwCl (mw g h0 b (va_up (va_up i 0 (0 : Int32)) 20 x20_12) (va_up a 19 y19_13)) _ := hP
    have hD : va_D _ (mw g h0 b (va_up (va_up i 0 (0 : Int32)) 20 x20_12) (va_up a 19 y19_13)) := hD
    refine W.eq (g2 := F0 m 41 ls []) rfl ?_
    refine lv_aload_n hx hb dX10_put_41 rfl (lv_at hl 0 rfl) ?_
    refine lv_iload hx hb dX10_put_42 (lv_at hl 5 rfl) ?_
    refine M_V ⟨hx, hb, hml, hown, hts⟩ (m_X10_lays l dC dI sa g h0 b (va_up (va_up i 0 (0 : Int32)) 20 x20_12) (va_up a 19 y19_13) a5 _ (show 0 ≤ x20_12.toInt ∧ x20_12.toInt ≤ 1496 from ⟨by omega, by omega⟩)) (cwV 1 hts gX10_put_X10_lays rfl rfl rfl (by decide +kernel) ⟨Nat.le_of_ble_eq_true rfl, Nat.le_of_ble_eq_true rfl⟩) hP hD hK hS hA hev rfl rfl rfl rfl hl.1 rfl (Nat.le_of_ble_eq_true rfl) dX10_put_44 ⟨(Nat.le_of_ble_eq_true rfl), (Nat.le_of_ble_eq_true rfl)⟩ (fun r u H locs hw hP hD hS => ?_)
    obtain ⟨x20_15, y19_16⟩ := u
    have hw : (r = none) ∧ (x20_15.toInt = x20_12.toInt + 4) := hw
    obtain ⟨rfl, hw_17⟩ := hw
    have hP : va_P (dC, dI) vwCl (mw g h0 b (va_up (va_up i 0 (0 : Int32)) 20 x20_15) (va_up a 19 y19_16)) _ := hP
    have hD : va_D _ (mw g h0 b (va_up (va_up i 0 (0 : Int32)) 20 x20_15) (va_up a 19 y19_16)) := hD
    refine W.eq (g2 := F0 m 47 ls []) rfl ?_
    refine lv_aload_n hx hb dX10_put_47 rfl (lv_at hl 0 rfl) ?_
    refine va_get (D := (dC, dI)) (ci := 10) (v := .int x20_15) (C := RX10) (T := TX10) (N := 51) hx hb hts inw_X10_put_10 hown hK hP 0 rfl rfl 20 (by decide) (hts (.fieldLink RX10 159 "VatHouseModel" "taped" "I") (by decide +kernel)) (fun _ h9 => h9) rfl dX10_put_48 ?_
    exact M_i hx hb hr hlocks ((0 : Int32), x20_15, y19_16) hP hD hK hS ⟨⟨_, rfl, Or.inr ⟨by omega, rfl, by omega⟩⟩, trivial⟩ (Nat.le_of_ble_eq_true rfl) (Nat.le_of_ble_eq_true rfl) dX10_put_51
  · have nc_2 := nle_i c_2
    have lc_2 : (1500 : Int32).toInt = 1500 := by decide
    refine lv_iconst (v := (-1)) hx hb dX10_put_18 (by decide) ?_
    exact M_i hx hb hr hlocks ((0 : Int32), (i 20), (a 19)) hP hD hK hS ⟨⟨_, rfl, Or.inl ⟨by omega, rfl, rfl⟩⟩, trivial⟩ (Nat.le_of_ble_eq_true rfl) (Nat.le_of_ble_eq_true rfl) dX10_put_19

abbrev rm_X10_fault : Room := { frames := 1, cells := 0, slots := 0, locals := 22 }
theorem inw_X10_fault_10 : ∀ w ∈ wsX100, w ∈ wsX10_fault := by decide +kernel
set_option maxHeartbeats 1000000 in
set_option maxRecDepth 100000 in
theorem m_X10_fault (l : Launch) (dC : Nat → ClassId) (dI : Nat → Nat → Nat) (sa : Nat → Nat) (g : Nat → Nat) (h0 : Nat) (b : Nat → Nat) (i : Nat → Int32) (a : Nat → Nat → Int32) (wt : Int32) (sz : Nat) : CT l dC dI sa yX10_fault wsX10_fault rm_X10_fault [.ref h0, .int wt] (mw g h0 b i a) (tyM g) sz (fun (r : Option Value) (x0 : Int32) => (∃ z : Int32, r = some (.int z)) ∧ (True)) (fun (x0 : Int32) => mw g h0 b (va_up i 0 x0) a) (fun _ => []) 0 0 := by
  refine CT.start (cc := cX10_fault) (maxL := 2) (ret := (some .int)) (by decide) rfl (Nat.le_of_ble_eq_true rfl) ?_
  intro p e s m below meth c ls hst hP hK hD hev hS hl
  obtain ⟨hx, hb, hr, hml, hts, hown, hlocks, hin⟩ := hst
  have hown : s.vm.findClass RX10 = some m.cls := hown
  have hA : ∀ q : Nat, s.heap.size ≤ q → va_A (mw g h0 b i a) s.heap.size q := fun _ h => Or.inr h
  have hl : lv_has ls 2 [(0, .ref h0), (1, .int wt)] := hl
  refine lv_aload_n hx hb dX10_fault_0 rfl (lv_at hl 0 rfl) ?_
  refine lv_iconst (v := 0) hx hb dX10_fault_1 (by decide) ?_
  refine va_put (D := (dC, dI)) (ci := 10) (v := .int 0) (ty := .int) (C := RX10) (T := TX10) (N := 51) hx hb hts inw_X10_fault_10 tyX10 tyX10_ok nmX10 hown hK hP hD hS 0 rfl rfl 0 (by decide) (hts (.fieldLink RX10 105 "VatHouseModel" "thrown" "I") (by decide +kernel)) (fun _ h9 => h9) rfl (by decide +kernel) rfl rfl (Nat.le_of_ble_eq_true rfl) dX10_fault_2 (fun H locs hP hD hS => ?_)
  have hP : va_P (dC, dI) vwCl (mw g h0 b (va_up i 0 (0 : Int32)) a) _ := hP
  have hD : va_D _ (mw g h0 b (va_up i 0 (0 : Int32)) a) := hD
  refine lv_aload_n hx hb dX10_fault_5 rfl (lv_at hl 0 rfl) ?_
  refine lv_iload_n hx hb dX10_fault_6 rfl (lv_at hl 1 rfl) ?_
  refine lv_if_eq (tgt := 15) hx hb dX10_fault_7 (by decide) (fun c_1 => ?_) (fun c_1 => ?_)
  · have nc_1 := eq_i c_1
    have lc_1 : (0 : Int32).toInt = 0 := by decide
    refine lv_iconst (v := 1) hx hb dX10_fault_15 (by decide) ?_
    refine lv_goto (tgt := 20) hx hb dX10_fault_16 (by decide) ?_
    refine lv_iconst (v := 1) hx hb dX10_fault_20 (by decide) ?_
    refine M_V ⟨hx, hb, hml, hown, hts⟩ (m_X10_right l dC dI sa g h0 b (va_up i 0 (0 : Int32)) a (1 : Int32) (1 : Int32) _ (by decide)) (cwV 2 hts gX10_fault_X10_right rfl rfl rfl (by decide +kernel) ⟨Nat.le_of_ble_eq_true rfl, Nat.le_of_ble_eq_true rfl⟩) hP hD hK hS hA hev rfl rfl rfl rfl hl.1 rfl (Nat.le_of_ble_eq_true rfl) dX10_fault_21 ⟨(Nat.le_of_ble_eq_true rfl), (Nat.le_of_ble_eq_true rfl)⟩ (fun r u H locs hw hP hD hS => ?_)
    obtain ⟨x0_2, rfl⟩ : ∃ z, z = u := ⟨_, rfl⟩
    have hw : ((r = some (.int 0) ∧ (True)) ∨ (r = some (.int 1) ∧ (¬ (1 : Int32) = 0))) ∧ (True) := hw
    obtain ⟨⟨rfl, hz2_4⟩ | ⟨rfl, hz2_4⟩, hw_3⟩ := hw
    · have hP : va_P (dC, dI) vwCl (mw g h0 b (va_up i 0 x0_2) a) _ := hP
      have hD : va_D _ (mw g h0 b (va_up i 0 x0_2) a) := hD
      refine W.eq (g2 := F0 m 24 ls [.int 0]) rfl ?_
      refine lv_if_ne (tgt := 29) hx hb dX10_fault_24 (by decide) (fun c_5 => absurd c_5 (by decide)) (fun _ => ?_)
      refine lv_iconst (v := 0) hx hb dX10_fault_27 (by decide) ?_
      exact M_i hx hb hr hlocks (x0_2) hP hD hK hS ⟨⟨_, rfl⟩, trivial⟩ (Nat.le_of_ble_eq_true rfl) (Nat.le_of_ble_eq_true rfl) dX10_fault_28
    · have hP : va_P (dC, dI) vwCl (mw g h0 b (va_up i 0 x0_2) a) _ := hP
      have hD : va_D _ (mw g h0 b (va_up i 0 x0_2) a) := hD
      refine W.eq (g2 := F0 m 24 ls [.int 1]) rfl ?_
      refine lv_if_ne (tgt := 29) hx hb dX10_fault_24 (by decide) (fun _ => ?_) (fun c_6 => absurd c_6 (by decide))
      refine lv_iload_n hx hb dX10_fault_29 rfl (lv_at hl 1 rfl) ?_
      refine lv_if_ne (tgt := 40) hx hb dX10_fault_30 (by decide) (fun c_7 => ?_) (fun c_7 => ?_)
      · have nc_7 := ne_i c_7
        have lc_7 : (0 : Int32).toInt = 0 := by decide
        refine lv_aload_n hx hb dX10_fault_40 rfl (lv_at hl 0 rfl) ?_
        refine va_get (D := (dC, dI)) (ci := 10) (v := .int (i 24)) (C := RX10) (T := TX10) (N := 51) hx hb hts inw_X10_fault_10 hown hK hP 0 rfl rfl 24 (by decide) (hts (.fieldLink RX10 56 "VatHouseModel" "faultPlace" "I") (by decide +kernel)) (fun _ h9 => h9) rfl dX10_fault_41 ?_
        exact M_i hx hb hr hlocks (x0_2) hP hD hK hS ⟨⟨_, rfl⟩, trivial⟩ (Nat.le_of_ble_eq_true rfl) (Nat.le_of_ble_eq_true rfl) dX10_fault_44
      · have nc_7 := eq_i c_7
        have lc_7 : (0 : Int32).toInt = 0 := by decide
        refine lv_aload_n hx hb dX10_fault_33 rfl (lv_at hl 0 rfl) ?_
        refine va_get (D := (dC, dI)) (ci := 10) (v := .int (i 23)) (C := RX10) (T := TX10) (N := 51) hx hb hts inw_X10_fault_10 hown hK hP 0 rfl rfl 23 (by decide) (hts (.fieldLink RX10 165 "VatHouseModel" "faultKind" "I") (by decide +kernel)) (fun _ h9 => h9) rfl dX10_fault_34 ?_
        refine lv_goto (tgt := 44) hx hb dX10_fault_37 (by decide) ?_
        exact M_i hx hb hr hlocks (x0_2) hP hD hK hS ⟨⟨_, rfl⟩, trivial⟩ (Nat.le_of_ble_eq_true rfl) (Nat.le_of_ble_eq_true rfl) dX10_fault_44
  · have nc_1 := ne_i c_1
    have lc_1 : (0 : Int32).toInt = 0 := by decide
    refine lv_iload_n hx hb dX10_fault_10 rfl (lv_at hl 1 rfl) ?_
    refine lv_iconst (v := 1) hx hb dX10_fault_11 (by decide) ?_
    refine lv_icmp_ne (tgt := 19) hx hb dX10_fault_12 (by decide) (fun c_8 => ?_) (fun c_8 => ?_)
    · have nc_8 := ne_i c_8
      have lc_8 : (1 : Int32).toInt = 1 := by decide
      refine lv_iconst (v := 0) hx hb dX10_fault_19 (by decide) ?_
      refine lv_iconst (v := 1) hx hb dX10_fault_20 (by decide) ?_
      refine M_V ⟨hx, hb, hml, hown, hts⟩ (m_X10_right l dC dI sa g h0 b (va_up i 0 (0 : Int32)) a (0 : Int32) (1 : Int32) _ (by decide)) (cwV 2 hts gX10_fault_X10_right rfl rfl rfl (by decide +kernel) ⟨Nat.le_of_ble_eq_true rfl, Nat.le_of_ble_eq_true rfl⟩) hP hD hK hS hA hev rfl rfl rfl rfl hl.1 rfl (Nat.le_of_ble_eq_true rfl) dX10_fault_21 ⟨(Nat.le_of_ble_eq_true rfl), (Nat.le_of_ble_eq_true rfl)⟩ (fun r u H locs hw hP hD hS => ?_)
      obtain ⟨x0_9, rfl⟩ : ∃ z, z = u := ⟨_, rfl⟩
      have hw : ((r = some (.int 0) ∧ (True)) ∨ (r = some (.int 1) ∧ (¬ (0 : Int32) = 0))) ∧ (True) := hw
      obtain ⟨⟨rfl, hz2_11⟩ | ⟨rfl, hz2_11⟩, hw_10⟩ := hw
      · have hP : va_P (dC, dI) vwCl (mw g h0 b (va_up i 0 x0_9) a) _ := hP
        have hD : va_D _ (mw g h0 b (va_up i 0 x0_9) a) := hD
        refine W.eq (g2 := F0 m 24 ls [.int 0]) rfl ?_
        refine lv_if_ne (tgt := 29) hx hb dX10_fault_24 (by decide) (fun c_12 => absurd c_12 (by decide)) (fun _ => ?_)
        refine lv_iconst (v := 0) hx hb dX10_fault_27 (by decide) ?_
        exact M_i hx hb hr hlocks (x0_9) hP hD hK hS ⟨⟨_, rfl⟩, trivial⟩ (Nat.le_of_ble_eq_true rfl) (Nat.le_of_ble_eq_true rfl) dX10_fault_28
      · have hP : va_P (dC, dI) vwCl (mw g h0 b (va_up i 0 x0_9) a) _ := hP
        have hD : va_D _ (mw g h0 b (va_up i 0 x0_9) a) := hD
        refine W.eq (g2 := F0 m 24 ls [.int 1]) rfl ?_
        exact absurd rfl hz2_11
    · have nc_8 := eq_i c_8
      have lc_8 : (1 : Int32).toInt = 1 := by decide
      refine lv_iconst (v := 1) hx hb dX10_fault_15 (by decide) ?_
      refine lv_goto (tgt := 20) hx hb dX10_fault_16 (by decide) ?_
      refine lv_iconst (v := 1) hx hb dX10_fault_20 (by decide) ?_
      refine M_V ⟨hx, hb, hml, hown, hts⟩ (m_X10_right l dC dI sa g h0 b (va_up i 0 (0 : Int32)) a (1 : Int32) (1 : Int32) _ (by decide)) (cwV 2 hts gX10_fault_X10_right rfl rfl rfl (by decide +kernel) ⟨Nat.le_of_ble_eq_true rfl, Nat.le_of_ble_eq_true rfl⟩) hP hD hK hS hA hev rfl rfl rfl rfl hl.1 rfl (Nat.le_of_ble_eq_true rfl) dX10_fault_21 ⟨(Nat.le_of_ble_eq_true rfl), (Nat.le_of_ble_eq_true rfl)⟩ (fun r u H locs hw hP hD hS => ?_)
      obtain ⟨x0_13, rfl⟩ : ∃ z, z = u := ⟨_, rfl⟩
      have hw : ((r = some (.int 0) ∧ (True)) ∨ (r = some (.int 1) ∧ (¬ (1 : Int32) = 0))) ∧ (True) := hw
      obtain ⟨⟨rfl, hz2_15⟩ | ⟨rfl, hz2_15⟩, hw_14⟩ := hw
      · have hP : va_P (dC, dI) vwCl (mw g h0 b (va_up i 0 x0_13) a) _ := hP
        have hD : va_D _ (mw g h0 b (va_up i 0 x0_13) a) := hD
        refine W.eq (g2 := F0 m 24 ls [.int 0]) rfl ?_
        refine lv_if_ne (tgt := 29) hx hb dX10_fault_24 (by decide) (fun c_16 => absurd c_16 (by decide)) (fun _ => ?_)
        refine lv_iconst (v := 0) hx hb dX10_fault_27 (by decide) ?_
        exact M_i hx hb hr hlocks (x0_13) hP hD hK hS ⟨⟨_, rfl⟩, trivial⟩ (Nat.le_of_ble_eq_true rfl) (Nat.le_of_ble_eq_true rfl) dX10_fault_28
      · have hP : va_P (dC, dI) vwCl (mw g h0 b (va_up i 0 x0_13) a) _ := hP
        have hD : va_D _ (mw g h0 b (va_up i 0 x0_13) a) := hD
        refine W.eq (g2 := F0 m 24 ls [.int 1]) rfl ?_
        refine lv_if_ne (tgt := 29) hx hb dX10_fault_24 (by decide) (fun _ => ?_) (fun c_17 => absurd c_17 (by decide))
        refine lv_iload_n hx hb dX10_fault_29 rfl (lv_at hl 1 rfl) ?_
        refine lv_if_ne (tgt := 40) hx hb dX10_fault_30 (by decide) (fun c_18 => ?_) (fun c_18 => ?_)
        · have nc_18 := ne_i c_18
          have lc_18 : (0 : Int32).toInt = 0 := by decide
          refine lv_aload_n hx hb dX10_fault_40 rfl (lv_at hl 0 rfl) ?_
          refine va_get (D := (dC, dI)) (ci := 10) (v := .int (i 24)) (C := RX10) (T := TX10) (N := 51) hx hb hts inw_X10_fault_10 hown hK hP 0 rfl rfl 24 (by decide) (hts (.fieldLink RX10 56 "VatHouseModel" "faultPlace" "I") (by decide +kernel)) (fun _ h9 => h9) rfl dX10_fault_41 ?_
          exact M_i hx hb hr hlocks (x0_13) hP hD hK hS ⟨⟨_, rfl⟩, trivial⟩ (Nat.le_of_ble_eq_true rfl) (Nat.le_of_ble_eq_true rfl) dX10_fault_44
        · have nc_18 := eq_i c_18
          have lc_18 : (0 : Int32).toInt = 0 := by decide
          refine lv_aload_n hx hb dX10_fault_33 rfl (lv_at hl 0 rfl) ?_
          refine va_get (D := (dC, dI)) (ci := 10) (v := .int (i 23)) (C := RX10) (T := TX10) (N := 51) hx hb hts inw_X10_fault_10 hown hK hP 0 rfl rfl 23 (by decide) (hts (.fieldLink RX10 165 "VatHouseModel" "faultKind" "I") (by decide +kernel)) (fun _ h9 => h9) rfl dX10_fault_34 ?_
          refine lv_goto (tgt := 44) hx hb dX10_fault_37 (by decide) ?_
          exact M_i hx hb hr hlocks (x0_13) hP hD hK hS ⟨⟨_, rfl⟩, trivial⟩ (Nat.le_of_ble_eq_true rfl) (Nat.le_of_ble_eq_true rfl) dX10_fault_44

abbrev rm_X10_ran : Room := { frames := 1, cells := 0, slots := 0, locals := 22 }
theorem inw_X10_ran_10 : ∀ w ∈ wsX100, w ∈ wsX10_ran := by decide +kernel
set_option maxHeartbeats 1000000 in
set_option maxRecDepth 100000 in
theorem m_X10_ran (l : Launch) (dC : Nat → ClassId) (dI : Nat → Nat → Nat) (sa : Nat → Nat) (g : Nat → Nat) (h0 : Nat) (b : Nat → Nat) (i : Nat → Int32) (a : Nat → Nat → Int32) (wt : Int32) (sz : Nat) : CT l dC dI sa yX10_ran wsX10_ran rm_X10_ran [.ref h0, .int wt] (mw g h0 b i a) (tyM g) sz (fun (r : Option Value) (x0 : Int32) => (∃ z : Int32, r = some (.int z)) ∧ (True)) (fun (x0 : Int32) => mw g h0 b (va_up i 0 x0) a) (fun _ => []) 0 0 := by
  refine CT.start (cc := cX10_ran) (maxL := 2) (ret := (some .int)) (by decide) rfl (Nat.le_of_ble_eq_true rfl) ?_
  intro p e s m below meth c ls hst hP hK hD hev hS hl
  obtain ⟨hx, hb, hr, hml, hts, hown, hlocks, hin⟩ := hst
  have hown : s.vm.findClass RX10 = some m.cls := hown
  have hA : ∀ q : Nat, s.heap.size ≤ q → va_A (mw g h0 b i a) s.heap.size q := fun _ h => Or.inr h
  have hl : lv_has ls 2 [(0, .ref h0), (1, .int wt)] := hl
  refine lv_aload_n hx hb dX10_ran_0 rfl (lv_at hl 0 rfl) ?_
  refine lv_iconst (v := 0) hx hb dX10_ran_1 (by decide) ?_
  refine va_put (D := (dC, dI)) (ci := 10) (v := .int 0) (ty := .int) (C := RX10) (T := TX10) (N := 51) hx hb hts inw_X10_ran_10 tyX10 tyX10_ok nmX10 hown hK hP hD hS 0 rfl rfl 0 (by decide) (hts (.fieldLink RX10 105 "VatHouseModel" "thrown" "I") (by decide +kernel)) (fun _ h9 => h9) rfl (by decide +kernel) rfl rfl (Nat.le_of_ble_eq_true rfl) dX10_ran_2 (fun H locs hP hD hS => ?_)
  have hP : va_P (dC, dI) vwCl (mw g h0 b (va_up i 0 (0 : Int32)) a) _ := hP
  have hD : va_D _ (mw g h0 b (va_up i 0 (0 : Int32)) a) := hD
  refine lv_aload_n hx hb dX10_ran_5 rfl (lv_at hl 0 rfl) ?_
  refine lv_iload_n hx hb dX10_ran_6 rfl (lv_at hl 1 rfl) ?_
  refine lv_if_lt (tgt := 19) hx hb dX10_ran_7 (by decide) (fun c_1 => ?_) (fun c_1 => ?_)
  · have nc_1 := lt_i c_1
    have lc_1 : (0 : Int32).toInt = 0 := by decide
    refine lv_iconst (v := 0) hx hb dX10_ran_19 (by decide) ?_
    refine lv_iconst (v := 1) hx hb dX10_ran_20 (by decide) ?_
    refine M_V ⟨hx, hb, hml, hown, hts⟩ (m_X10_right l dC dI sa g h0 b (va_up i 0 (0 : Int32)) a (0 : Int32) (1 : Int32) _ (by decide)) (cwV 2 hts gX10_ran_X10_right rfl rfl rfl (by decide +kernel) ⟨Nat.le_of_ble_eq_true rfl, Nat.le_of_ble_eq_true rfl⟩) hP hD hK hS hA hev rfl rfl rfl rfl hl.1 rfl (Nat.le_of_ble_eq_true rfl) dX10_ran_21 ⟨(Nat.le_of_ble_eq_true rfl), (Nat.le_of_ble_eq_true rfl)⟩ (fun r u H locs hw hP hD hS => ?_)
    obtain ⟨x0_2, rfl⟩ : ∃ z, z = u := ⟨_, rfl⟩
    have hw : ((r = some (.int 0) ∧ (True)) ∨ (r = some (.int 1) ∧ (¬ (0 : Int32) = 0))) ∧ (True) := hw
    obtain ⟨⟨rfl, hz2_4⟩ | ⟨rfl, hz2_4⟩, hw_3⟩ := hw
    · have hP : va_P (dC, dI) vwCl (mw g h0 b (va_up i 0 x0_2) a) _ := hP
      have hD : va_D _ (mw g h0 b (va_up i 0 x0_2) a) := hD
      refine W.eq (g2 := F0 m 24 ls [.int 0]) rfl ?_
      refine lv_if_ne (tgt := 29) hx hb dX10_ran_24 (by decide) (fun c_5 => absurd c_5 (by decide)) (fun _ => ?_)
      refine lv_iconst (v := 0) hx hb dX10_ran_27 (by decide) ?_
      exact M_i hx hb hr hlocks (x0_2) hP hD hK hS ⟨⟨_, rfl⟩, trivial⟩ (Nat.le_of_ble_eq_true rfl) (Nat.le_of_ble_eq_true rfl) dX10_ran_28
    · have hP : va_P (dC, dI) vwCl (mw g h0 b (va_up i 0 x0_2) a) _ := hP
      have hD : va_D _ (mw g h0 b (va_up i 0 x0_2) a) := hD
      refine W.eq (g2 := F0 m 24 ls [.int 1]) rfl ?_
      exact absurd rfl hz2_4
  · have nc_1 := nlt_i c_1
    have lc_1 : (0 : Int32).toInt = 0 := by decide
    refine lv_iload_n hx hb dX10_ran_10 rfl (lv_at hl 1 rfl) ?_
    refine lv_iconst (v := 5) hx hb dX10_ran_11 (by decide) ?_
    refine lv_icmp_gt (tgt := 19) hx hb dX10_ran_12 (by decide) (fun c_6 => ?_) (fun c_6 => ?_)
    · have nc_6 := lt_i c_6
      have lc_6 : (5 : Int32).toInt = 5 := by decide
      refine lv_iconst (v := 0) hx hb dX10_ran_19 (by decide) ?_
      refine lv_iconst (v := 1) hx hb dX10_ran_20 (by decide) ?_
      refine M_V ⟨hx, hb, hml, hown, hts⟩ (m_X10_right l dC dI sa g h0 b (va_up i 0 (0 : Int32)) a (0 : Int32) (1 : Int32) _ (by decide)) (cwV 2 hts gX10_ran_X10_right rfl rfl rfl (by decide +kernel) ⟨Nat.le_of_ble_eq_true rfl, Nat.le_of_ble_eq_true rfl⟩) hP hD hK hS hA hev rfl rfl rfl rfl hl.1 rfl (Nat.le_of_ble_eq_true rfl) dX10_ran_21 ⟨(Nat.le_of_ble_eq_true rfl), (Nat.le_of_ble_eq_true rfl)⟩ (fun r u H locs hw hP hD hS => ?_)
      obtain ⟨x0_7, rfl⟩ : ∃ z, z = u := ⟨_, rfl⟩
      have hw : ((r = some (.int 0) ∧ (True)) ∨ (r = some (.int 1) ∧ (¬ (0 : Int32) = 0))) ∧ (True) := hw
      obtain ⟨⟨rfl, hz2_9⟩ | ⟨rfl, hz2_9⟩, hw_8⟩ := hw
      · have hP : va_P (dC, dI) vwCl (mw g h0 b (va_up i 0 x0_7) a) _ := hP
        have hD : va_D _ (mw g h0 b (va_up i 0 x0_7) a) := hD
        refine W.eq (g2 := F0 m 24 ls [.int 0]) rfl ?_
        refine lv_if_ne (tgt := 29) hx hb dX10_ran_24 (by decide) (fun c_10 => absurd c_10 (by decide)) (fun _ => ?_)
        refine lv_iconst (v := 0) hx hb dX10_ran_27 (by decide) ?_
        exact M_i hx hb hr hlocks (x0_7) hP hD hK hS ⟨⟨_, rfl⟩, trivial⟩ (Nat.le_of_ble_eq_true rfl) (Nat.le_of_ble_eq_true rfl) dX10_ran_28
      · have hP : va_P (dC, dI) vwCl (mw g h0 b (va_up i 0 x0_7) a) _ := hP
        have hD : va_D _ (mw g h0 b (va_up i 0 x0_7) a) := hD
        refine W.eq (g2 := F0 m 24 ls [.int 1]) rfl ?_
        exact absurd rfl hz2_9
    · have nc_6 := nlt_i c_6
      have lc_6 : (5 : Int32).toInt = 5 := by decide
      refine lv_iconst (v := 1) hx hb dX10_ran_15 (by decide) ?_
      refine lv_goto (tgt := 20) hx hb dX10_ran_16 (by decide) ?_
      refine lv_iconst (v := 1) hx hb dX10_ran_20 (by decide) ?_
      refine M_V ⟨hx, hb, hml, hown, hts⟩ (m_X10_right l dC dI sa g h0 b (va_up i 0 (0 : Int32)) a (1 : Int32) (1 : Int32) _ (by decide)) (cwV 2 hts gX10_ran_X10_right rfl rfl rfl (by decide +kernel) ⟨Nat.le_of_ble_eq_true rfl, Nat.le_of_ble_eq_true rfl⟩) hP hD hK hS hA hev rfl rfl rfl rfl hl.1 rfl (Nat.le_of_ble_eq_true rfl) dX10_ran_21 ⟨(Nat.le_of_ble_eq_true rfl), (Nat.le_of_ble_eq_true rfl)⟩ (fun r u H locs hw hP hD hS => ?_)
      obtain ⟨x0_11, rfl⟩ : ∃ z, z = u := ⟨_, rfl⟩
      have hw : ((r = some (.int 0) ∧ (True)) ∨ (r = some (.int 1) ∧ (¬ (1 : Int32) = 0))) ∧ (True) := hw
      obtain ⟨⟨rfl, hz2_13⟩ | ⟨rfl, hz2_13⟩, hw_12⟩ := hw
      · have hP : va_P (dC, dI) vwCl (mw g h0 b (va_up i 0 x0_11) a) _ := hP
        have hD : va_D _ (mw g h0 b (va_up i 0 x0_11) a) := hD
        refine W.eq (g2 := F0 m 24 ls [.int 0]) rfl ?_
        refine lv_if_ne (tgt := 29) hx hb dX10_ran_24 (by decide) (fun c_14 => absurd c_14 (by decide)) (fun _ => ?_)
        refine lv_iconst (v := 0) hx hb dX10_ran_27 (by decide) ?_
        exact M_i hx hb hr hlocks (x0_11) hP hD hK hS ⟨⟨_, rfl⟩, trivial⟩ (Nat.le_of_ble_eq_true rfl) (Nat.le_of_ble_eq_true rfl) dX10_ran_28
      · have hP : va_P (dC, dI) vwCl (mw g h0 b (va_up i 0 x0_11) a) _ := hP
        have hD : va_D _ (mw g h0 b (va_up i 0 x0_11) a) := hD
        refine W.eq (g2 := F0 m 24 ls [.int 1]) rfl ?_
        refine lv_if_ne (tgt := 29) hx hb dX10_ran_24 (by decide) (fun _ => ?_) (fun c_15 => absurd c_15 (by decide))
        refine lv_iload_n hx hb dX10_ran_29 rfl (lv_at hl 1 rfl) ?_
        by_cases c_16 : wt = 0
        · refine lv_tableIn (tgt := 64) hx hb dX10_ran_30 (by rw [c_16]; decide) (by rw [c_16]; decide) (by rw [c_16]; rfl) (by decide) ?_
          refine lv_aload_n hx hb dX10_ran_64 rfl (lv_at hl 0 rfl) ?_
          refine va_get (D := (dC, dI)) (ci := 10) (v := .int (i 44)) (C := RX10) (T := TX10) (N := 51) hx hb hts inw_X10_ran_10 hown hK hP 0 rfl rfl 44 (by decide) (hts (.fieldLink RX10 90 "VatHouseModel" "ran" "I") (by decide +kernel)) (fun _ h9 => h9) rfl dX10_ran_65 ?_
          exact M_i hx hb hr hlocks (x0_11) hP hD hK hS ⟨⟨_, rfl⟩, trivial⟩ (Nat.le_of_ble_eq_true rfl) (Nat.le_of_ble_eq_true rfl) dX10_ran_68
        by_cases c_17 : wt = 1
        · refine lv_tableIn (tgt := 69) hx hb dX10_ran_30 (by rw [c_17]; decide) (by rw [c_17]; decide) (by rw [c_17]; rfl) (by decide) ?_
          refine lv_aload_n hx hb dX10_ran_69 rfl (lv_at hl 0 rfl) ?_
          refine va_get (D := (dC, dI)) (ci := 10) (v := .int (i 45)) (C := RX10) (T := TX10) (N := 51) hx hb hts inw_X10_ran_10 hown hK hP 0 rfl rfl 45 (by decide) (hts (.fieldLink RX10 328 "VatHouseModel" "failure" "I") (by decide +kernel)) (fun _ h9 => h9) rfl dX10_ran_70 ?_
          exact M_i hx hb hr hlocks (x0_11) hP hD hK hS ⟨⟨_, rfl⟩, trivial⟩ (Nat.le_of_ble_eq_true rfl) (Nat.le_of_ble_eq_true rfl) dX10_ran_73
        by_cases c_18 : wt = 2
        · refine lv_tableIn (tgt := 74) hx hb dX10_ran_30 (by rw [c_18]; decide) (by rw [c_18]; decide) (by rw [c_18]; rfl) (by decide) ?_
          refine lv_aload_n hx hb dX10_ran_74 rfl (lv_at hl 0 rfl) ?_
          refine va_get (D := (dC, dI)) (ci := 10) (v := .int (i 40)) (C := RX10) (T := TX10) (N := 51) hx hb hts inw_X10_ran_10 hown hK hP 0 rfl rfl 40 (by decide) (hts (.fieldLink RX10 287 "VatHouseModel" "counted" "I") (by decide +kernel)) (fun _ h9 => h9) rfl dX10_ran_75 ?_
          exact M_i hx hb hr hlocks (x0_11) hP hD hK hS ⟨⟨_, rfl⟩, trivial⟩ (Nat.le_of_ble_eq_true rfl) (Nat.le_of_ble_eq_true rfl) dX10_ran_78
        by_cases c_19 : wt = 3
        · refine lv_tableIn (tgt := 79) hx hb dX10_ran_30 (by rw [c_19]; decide) (by rw [c_19]; decide) (by rw [c_19]; rfl) (by decide) ?_
          refine lv_aload_n hx hb dX10_ran_79 rfl (lv_at hl 0 rfl) ?_
          refine va_get (D := (dC, dI)) (ci := 10) (v := .int (i 41)) (C := RX10) (T := TX10) (N := 51) hx hb hts inw_X10_ran_10 hown hK hP 0 rfl rfl 41 (by decide) (hts (.fieldLink RX10 313 "VatHouseModel" "ranDips" "I") (by decide +kernel)) (fun _ h9 => h9) rfl dX10_ran_80 ?_
          exact M_i hx hb hr hlocks (x0_11) hP hD hK hS ⟨⟨_, rfl⟩, trivial⟩ (Nat.le_of_ble_eq_true rfl) (Nat.le_of_ble_eq_true rfl) dX10_ran_83
        by_cases c_20 : wt = 4
        · refine lv_tableIn (tgt := 84) hx hb dX10_ran_30 (by rw [c_20]; decide) (by rw [c_20]; decide) (by rw [c_20]; rfl) (by decide) ?_
          refine lv_aload_n hx hb dX10_ran_84 rfl (lv_at hl 0 rfl) ?_
          refine va_get (D := (dC, dI)) (ci := 10) (v := .int (i 42)) (C := RX10) (T := TX10) (N := 51) hx hb hts inw_X10_ran_10 hown hK hP 0 rfl rfl 42 (by decide) (hts (.fieldLink RX10 310 "VatHouseModel" "ranGrains" "I") (by decide +kernel)) (fun _ h9 => h9) rfl dX10_ran_85 ?_
          exact M_i hx hb hr hlocks (x0_11) hP hD hK hS ⟨⟨_, rfl⟩, trivial⟩ (Nat.le_of_ble_eq_true rfl) (Nat.le_of_ble_eq_true rfl) dX10_ran_88
        refine lv_tableOut (tgt := 89) hx hb dX10_ran_30 (tab_out5 c_16 c_17 c_18 c_19 c_20) (by decide) ?_
        refine lv_aload_n hx hb dX10_ran_89 rfl (lv_at hl 0 rfl) ?_
        refine va_get (D := (dC, dI)) (ci := 10) (v := .int (i 43)) (C := RX10) (T := TX10) (N := 51) hx hb hts inw_X10_ran_10 hown hK hP 0 rfl rfl 43 (by decide) (hts (.fieldLink RX10 316 "VatHouseModel" "ranHours" "I") (by decide +kernel)) (fun _ h9 => h9) rfl dX10_ran_90 ?_
        exact M_i hx hb hr hlocks (x0_11) hP hD hK hS ⟨⟨_, rfl⟩, trivial⟩ (Nat.le_of_ble_eq_true rfl) (Nat.le_of_ble_eq_true rfl) dX10_ran_93

abbrev rm_X10_planned : Room := { frames := 1, cells := 0, slots := 0, locals := 22 }
theorem inw_X10_planned_10 : ∀ w ∈ wsX100, w ∈ wsX10_planned := by decide +kernel
set_option maxHeartbeats 1000000 in
set_option maxRecDepth 100000 in
theorem m_X10_planned (l : Launch) (dC : Nat → ClassId) (dI : Nat → Nat → Nat) (sa : Nat → Nat) (g : Nat → Nat) (h0 : Nat) (b : Nat → Nat) (i : Nat → Int32) (a : Nat → Nat → Int32) (ix : Int32) (wt : Int32) (sz : Nat) (hkp : (i 46).toInt ≤ 3) : CT l dC dI sa yX10_planned wsX10_planned rm_X10_planned [.ref h0, .int ix, .int wt] (mw g h0 b i a) (tyM g) sz (fun (r : Option Value) (x0 : Int32) => (∃ z : Int32, r = some (.int z)) ∧ (True)) (fun (x0 : Int32) => mw g h0 b (va_up i 0 x0) a) (fun _ => []) 0 0 := by
  refine CT.start (cc := cX10_planned) (maxL := 3) (ret := (some .int)) (by decide) rfl (Nat.le_of_ble_eq_true rfl) ?_
  intro p e s m below meth c ls hst hP hK hD hev hS hl
  obtain ⟨hx, hb, hr, hml, hts, hown, hlocks, hin⟩ := hst
  have hown : s.vm.findClass RX10 = some m.cls := hown
  have hA : ∀ q : Nat, s.heap.size ≤ q → va_A (mw g h0 b i a) s.heap.size q := fun _ h => Or.inr h
  have hl : lv_has ls 3 [(0, .ref h0), (1, .int ix), (2, .int wt)] := hl
  refine lv_aload_n hx hb dX10_planned_0 rfl (lv_at hl 0 rfl) ?_
  refine lv_iconst (v := 0) hx hb dX10_planned_1 (by decide) ?_
  refine va_put (D := (dC, dI)) (ci := 10) (v := .int 0) (ty := .int) (C := RX10) (T := TX10) (N := 51) hx hb hts inw_X10_planned_10 tyX10 tyX10_ok nmX10 hown hK hP hD hS 0 rfl rfl 0 (by decide) (hts (.fieldLink RX10 105 "VatHouseModel" "thrown" "I") (by decide +kernel)) (fun _ h9 => h9) rfl (by decide +kernel) rfl rfl (Nat.le_of_ble_eq_true rfl) dX10_planned_2 (fun H locs hP hD hS => ?_)
  have hP : va_P (dC, dI) vwCl (mw g h0 b (va_up i 0 (0 : Int32)) a) _ := hP
  have hD : va_D _ (mw g h0 b (va_up i 0 (0 : Int32)) a) := hD
  refine lv_aload_n hx hb dX10_planned_5 rfl (lv_at hl 0 rfl) ?_
  refine lv_iload_n hx hb dX10_planned_6 rfl (lv_at hl 1 rfl) ?_
  refine lv_if_lt (tgt := 31) hx hb dX10_planned_7 (by decide) (fun c_1 => ?_) (fun c_1 => ?_)
  · have nc_1 := lt_i c_1
    have lc_1 : (0 : Int32).toInt = 0 := by decide
    refine lv_iconst (v := 0) hx hb dX10_planned_31 (by decide) ?_
    refine lv_iconst (v := 1) hx hb dX10_planned_32 (by decide) ?_
    refine M_V ⟨hx, hb, hml, hown, hts⟩ (m_X10_right l dC dI sa g h0 b (va_up i 0 (0 : Int32)) a (0 : Int32) (1 : Int32) _ (by decide)) (cwV 2 hts gX10_planned_X10_right rfl rfl rfl (by decide +kernel) ⟨Nat.le_of_ble_eq_true rfl, Nat.le_of_ble_eq_true rfl⟩) hP hD hK hS hA hev rfl rfl rfl rfl hl.1 rfl (Nat.le_of_ble_eq_true rfl) dX10_planned_33 ⟨(Nat.le_of_ble_eq_true rfl), (Nat.le_of_ble_eq_true rfl)⟩ (fun r u H locs hw hP hD hS => ?_)
    obtain ⟨x0_2, rfl⟩ : ∃ z, z = u := ⟨_, rfl⟩
    have hw : ((r = some (.int 0) ∧ (True)) ∨ (r = some (.int 1) ∧ (¬ (0 : Int32) = 0))) ∧ (True) := hw
    obtain ⟨⟨rfl, hz2_4⟩ | ⟨rfl, hz2_4⟩, hw_3⟩ := hw
    · have hP : va_P (dC, dI) vwCl (mw g h0 b (va_up i 0 x0_2) a) _ := hP
      have hD : va_D _ (mw g h0 b (va_up i 0 x0_2) a) := hD
      refine W.eq (g2 := F0 m 36 ls [.int 0]) rfl ?_
      refine lv_if_ne (tgt := 41) hx hb dX10_planned_36 (by decide) (fun c_5 => absurd c_5 (by decide)) (fun _ => ?_)
      refine lv_iconst (v := 0) hx hb dX10_planned_39 (by decide) ?_
      exact M_i hx hb hr hlocks (x0_2) hP hD hK hS ⟨⟨_, rfl⟩, trivial⟩ (Nat.le_of_ble_eq_true rfl) (Nat.le_of_ble_eq_true rfl) dX10_planned_40
    · have hP : va_P (dC, dI) vwCl (mw g h0 b (va_up i 0 x0_2) a) _ := hP
      have hD : va_D _ (mw g h0 b (va_up i 0 x0_2) a) := hD
      refine W.eq (g2 := F0 m 36 ls [.int 1]) rfl ?_
      exact absurd rfl hz2_4
  · have nc_1 := nlt_i c_1
    have lc_1 : (0 : Int32).toInt = 0 := by decide
    refine lv_iload_n hx hb dX10_planned_10 rfl (lv_at hl 1 rfl) ?_
    refine lv_aload_n hx hb dX10_planned_11 rfl (lv_at hl 0 rfl) ?_
    refine va_get (D := (dC, dI)) (ci := 10) (v := .int (i 46)) (C := RX10) (T := TX10) (N := 51) hx hb hts inw_X10_planned_10 hown hK hP 0 rfl rfl 46 (by decide) (hts (.fieldLink RX10 346 "VatHouseModel" "kept" "I") (by decide +kernel)) (fun _ h9 => h9) rfl dX10_planned_12 ?_
    refine lv_icmp_ge (tgt := 31) hx hb dX10_planned_15 (by decide) (fun c_6 => ?_) (fun c_6 => ?_)
    · have nc_6 := le_i c_6
      refine lv_iconst (v := 0) hx hb dX10_planned_31 (by decide) ?_
      refine lv_iconst (v := 1) hx hb dX10_planned_32 (by decide) ?_
      refine M_V ⟨hx, hb, hml, hown, hts⟩ (m_X10_right l dC dI sa g h0 b (va_up i 0 (0 : Int32)) a (0 : Int32) (1 : Int32) _ (by decide)) (cwV 2 hts gX10_planned_X10_right rfl rfl rfl (by decide +kernel) ⟨Nat.le_of_ble_eq_true rfl, Nat.le_of_ble_eq_true rfl⟩) hP hD hK hS hA hev rfl rfl rfl rfl hl.1 rfl (Nat.le_of_ble_eq_true rfl) dX10_planned_33 ⟨(Nat.le_of_ble_eq_true rfl), (Nat.le_of_ble_eq_true rfl)⟩ (fun r u H locs hw hP hD hS => ?_)
      obtain ⟨x0_7, rfl⟩ : ∃ z, z = u := ⟨_, rfl⟩
      have hw : ((r = some (.int 0) ∧ (True)) ∨ (r = some (.int 1) ∧ (¬ (0 : Int32) = 0))) ∧ (True) := hw
      obtain ⟨⟨rfl, hz2_9⟩ | ⟨rfl, hz2_9⟩, hw_8⟩ := hw
      · have hP : va_P (dC, dI) vwCl (mw g h0 b (va_up i 0 x0_7) a) _ := hP
        have hD : va_D _ (mw g h0 b (va_up i 0 x0_7) a) := hD
        refine W.eq (g2 := F0 m 36 ls [.int 0]) rfl ?_
        refine lv_if_ne (tgt := 41) hx hb dX10_planned_36 (by decide) (fun c_10 => absurd c_10 (by decide)) (fun _ => ?_)
        refine lv_iconst (v := 0) hx hb dX10_planned_39 (by decide) ?_
        exact M_i hx hb hr hlocks (x0_7) hP hD hK hS ⟨⟨_, rfl⟩, trivial⟩ (Nat.le_of_ble_eq_true rfl) (Nat.le_of_ble_eq_true rfl) dX10_planned_40
      · have hP : va_P (dC, dI) vwCl (mw g h0 b (va_up i 0 x0_7) a) _ := hP
        have hD : va_D _ (mw g h0 b (va_up i 0 x0_7) a) := hD
        refine W.eq (g2 := F0 m 36 ls [.int 1]) rfl ?_
        exact absurd rfl hz2_9
    · have nc_6 := nle_i c_6
      refine lv_iload_n hx hb dX10_planned_18 rfl (lv_at hl 2 rfl) ?_
      refine lv_if_lt (tgt := 31) hx hb dX10_planned_19 (by decide) (fun c_11 => ?_) (fun c_11 => ?_)
      · have nc_11 := lt_i c_11
        have lc_11 : (0 : Int32).toInt = 0 := by decide
        refine lv_iconst (v := 0) hx hb dX10_planned_31 (by decide) ?_
        refine lv_iconst (v := 1) hx hb dX10_planned_32 (by decide) ?_
        refine M_V ⟨hx, hb, hml, hown, hts⟩ (m_X10_right l dC dI sa g h0 b (va_up i 0 (0 : Int32)) a (0 : Int32) (1 : Int32) _ (by decide)) (cwV 2 hts gX10_planned_X10_right rfl rfl rfl (by decide +kernel) ⟨Nat.le_of_ble_eq_true rfl, Nat.le_of_ble_eq_true rfl⟩) hP hD hK hS hA hev rfl rfl rfl rfl hl.1 rfl (Nat.le_of_ble_eq_true rfl) dX10_planned_33 ⟨(Nat.le_of_ble_eq_true rfl), (Nat.le_of_ble_eq_true rfl)⟩ (fun r u H locs hw hP hD hS => ?_)
        obtain ⟨x0_12, rfl⟩ : ∃ z, z = u := ⟨_, rfl⟩
        have hw : ((r = some (.int 0) ∧ (True)) ∨ (r = some (.int 1) ∧ (¬ (0 : Int32) = 0))) ∧ (True) := hw
        obtain ⟨⟨rfl, hz2_14⟩ | ⟨rfl, hz2_14⟩, hw_13⟩ := hw
        · have hP : va_P (dC, dI) vwCl (mw g h0 b (va_up i 0 x0_12) a) _ := hP
          have hD : va_D _ (mw g h0 b (va_up i 0 x0_12) a) := hD
          refine W.eq (g2 := F0 m 36 ls [.int 0]) rfl ?_
          refine lv_if_ne (tgt := 41) hx hb dX10_planned_36 (by decide) (fun c_15 => absurd c_15 (by decide)) (fun _ => ?_)
          refine lv_iconst (v := 0) hx hb dX10_planned_39 (by decide) ?_
          exact M_i hx hb hr hlocks (x0_12) hP hD hK hS ⟨⟨_, rfl⟩, trivial⟩ (Nat.le_of_ble_eq_true rfl) (Nat.le_of_ble_eq_true rfl) dX10_planned_40
        · have hP : va_P (dC, dI) vwCl (mw g h0 b (va_up i 0 x0_12) a) _ := hP
          have hD : va_D _ (mw g h0 b (va_up i 0 x0_12) a) := hD
          refine W.eq (g2 := F0 m 36 ls [.int 1]) rfl ?_
          exact absurd rfl hz2_14
      · have nc_11 := nlt_i c_11
        have lc_11 : (0 : Int32).toInt = 0 := by decide
        refine lv_iload_n hx hb dX10_planned_22 rfl (lv_at hl 2 rfl) ?_
        refine lv_iconst (v := 2) hx hb dX10_planned_23 (by decide) ?_
        refine lv_icmp_gt (tgt := 31) hx hb dX10_planned_24 (by decide) (fun c_16 => ?_) (fun c_16 => ?_)
        · have nc_16 := lt_i c_16
          have lc_16 : (2 : Int32).toInt = 2 := by decide
          refine lv_iconst (v := 0) hx hb dX10_planned_31 (by decide) ?_
          refine lv_iconst (v := 1) hx hb dX10_planned_32 (by decide) ?_
          refine M_V ⟨hx, hb, hml, hown, hts⟩ (m_X10_right l dC dI sa g h0 b (va_up i 0 (0 : Int32)) a (0 : Int32) (1 : Int32) _ (by decide)) (cwV 2 hts gX10_planned_X10_right rfl rfl rfl (by decide +kernel) ⟨Nat.le_of_ble_eq_true rfl, Nat.le_of_ble_eq_true rfl⟩) hP hD hK hS hA hev rfl rfl rfl rfl hl.1 rfl (Nat.le_of_ble_eq_true rfl) dX10_planned_33 ⟨(Nat.le_of_ble_eq_true rfl), (Nat.le_of_ble_eq_true rfl)⟩ (fun r u H locs hw hP hD hS => ?_)
          obtain ⟨x0_17, rfl⟩ : ∃ z, z = u := ⟨_, rfl⟩
          have hw : ((r = some (.int 0) ∧ (True)) ∨ (r = some (.int 1) ∧ (¬ (0 : Int32) = 0))) ∧ (True) := hw
          obtain ⟨⟨rfl, hz2_19⟩ | ⟨rfl, hz2_19⟩, hw_18⟩ := hw
          · have hP : va_P (dC, dI) vwCl (mw g h0 b (va_up i 0 x0_17) a) _ := hP
            have hD : va_D _ (mw g h0 b (va_up i 0 x0_17) a) := hD
            refine W.eq (g2 := F0 m 36 ls [.int 0]) rfl ?_
            refine lv_if_ne (tgt := 41) hx hb dX10_planned_36 (by decide) (fun c_20 => absurd c_20 (by decide)) (fun _ => ?_)
            refine lv_iconst (v := 0) hx hb dX10_planned_39 (by decide) ?_
            exact M_i hx hb hr hlocks (x0_17) hP hD hK hS ⟨⟨_, rfl⟩, trivial⟩ (Nat.le_of_ble_eq_true rfl) (Nat.le_of_ble_eq_true rfl) dX10_planned_40
          · have hP : va_P (dC, dI) vwCl (mw g h0 b (va_up i 0 x0_17) a) _ := hP
            have hD : va_D _ (mw g h0 b (va_up i 0 x0_17) a) := hD
            refine W.eq (g2 := F0 m 36 ls [.int 1]) rfl ?_
            exact absurd rfl hz2_19
        · have nc_16 := nlt_i c_16
          have lc_16 : (2 : Int32).toInt = 2 := by decide
          refine lv_iconst (v := 1) hx hb dX10_planned_27 (by decide) ?_
          refine lv_goto (tgt := 32) hx hb dX10_planned_28 (by decide) ?_
          refine lv_iconst (v := 1) hx hb dX10_planned_32 (by decide) ?_
          refine M_V ⟨hx, hb, hml, hown, hts⟩ (m_X10_right l dC dI sa g h0 b (va_up i 0 (0 : Int32)) a (1 : Int32) (1 : Int32) _ (by decide)) (cwV 2 hts gX10_planned_X10_right rfl rfl rfl (by decide +kernel) ⟨Nat.le_of_ble_eq_true rfl, Nat.le_of_ble_eq_true rfl⟩) hP hD hK hS hA hev rfl rfl rfl rfl hl.1 rfl (Nat.le_of_ble_eq_true rfl) dX10_planned_33 ⟨(Nat.le_of_ble_eq_true rfl), (Nat.le_of_ble_eq_true rfl)⟩ (fun r u H locs hw hP hD hS => ?_)
          obtain ⟨x0_21, rfl⟩ : ∃ z, z = u := ⟨_, rfl⟩
          have hw : ((r = some (.int 0) ∧ (True)) ∨ (r = some (.int 1) ∧ (¬ (1 : Int32) = 0))) ∧ (True) := hw
          obtain ⟨⟨rfl, hz2_23⟩ | ⟨rfl, hz2_23⟩, hw_22⟩ := hw
          · have hP : va_P (dC, dI) vwCl (mw g h0 b (va_up i 0 x0_21) a) _ := hP
            have hD : va_D _ (mw g h0 b (va_up i 0 x0_21) a) := hD
            refine W.eq (g2 := F0 m 36 ls [.int 0]) rfl ?_
            refine lv_if_ne (tgt := 41) hx hb dX10_planned_36 (by decide) (fun c_24 => absurd c_24 (by decide)) (fun _ => ?_)
            refine lv_iconst (v := 0) hx hb dX10_planned_39 (by decide) ?_
            exact M_i hx hb hr hlocks (x0_21) hP hD hK hS ⟨⟨_, rfl⟩, trivial⟩ (Nat.le_of_ble_eq_true rfl) (Nat.le_of_ble_eq_true rfl) dX10_planned_40
          · have hP : va_P (dC, dI) vwCl (mw g h0 b (va_up i 0 x0_21) a) _ := hP
            have hD : va_D _ (mw g h0 b (va_up i 0 x0_21) a) := hD
            refine W.eq (g2 := F0 m 36 ls [.int 1]) rfl ?_
            refine lv_if_ne (tgt := 41) hx hb dX10_planned_36 (by decide) (fun _ => ?_) (fun c_25 => absurd c_25 (by decide))
            refine lv_iload_n hx hb dX10_planned_41 rfl (lv_at hl 2 rfl) ?_
            refine lv_if_ne (tgt := 54) hx hb dX10_planned_42 (by decide) (fun c_26 => ?_) (fun c_26 => ?_)
            · have nc_26 := ne_i c_26
              have lc_26 : (0 : Int32).toInt = 0 := by decide
              refine lv_iload_n hx hb dX10_planned_54 rfl (lv_at hl 2 rfl) ?_
              refine lv_iconst (v := 1) hx hb dX10_planned_55 (by decide) ?_
              refine lv_icmp_ne (tgt := 68) hx hb dX10_planned_56 (by decide) (fun c_27 => ?_) (fun c_27 => ?_)
              · have nc_27 := ne_i c_27
                have lc_27 : (1 : Int32).toInt = 1 := by decide
                refine lv_aload_n hx hb dX10_planned_68 rfl (lv_at hl 0 rfl) ?_
                refine va_get (D := (dC, dI)) (ci := 10) (v := .ref (b 49)) (C := RX10) (T := TX10) (N := 51) hx hb hts inw_X10_planned_10 hown hK hP 0 rfl rfl 49 (by decide) (hts (.fieldLink RX10 99 "VatHouseModel" "keptShade" "[I") (by decide +kernel)) (fun _ h9 => h9) rfl dX10_planned_69 ?_
                refine lv_iload_n hx hb dX10_planned_72 rfl (lv_at hl 1 rfl) ?_
                refine va_iald hx hb hK hP 28 27 rfl rfl (in_i (by omega) (by omega)) dX10_planned_73 ?_
                refine lv_topi (fun z_28 ez_28 => ?_)
                have ez_28 : z_28 = (a 49) ix.toNatClampNeg := ez_28
                exact M_i hx hb hr hlocks (x0_21) hP hD hK hS ⟨⟨_, rfl⟩, trivial⟩ (Nat.le_of_ble_eq_true rfl) (Nat.le_of_ble_eq_true rfl) dX10_planned_74
              · have nc_27 := eq_i c_27
                have lc_27 : (1 : Int32).toInt = 1 := by decide
                refine lv_aload_n hx hb dX10_planned_59 rfl (lv_at hl 0 rfl) ?_
                refine va_get (D := (dC, dI)) (ci := 10) (v := .ref (b 48)) (C := RX10) (T := TX10) (N := 51) hx hb hts inw_X10_planned_10 hown hK hP 0 rfl rfl 48 (by decide) (hts (.fieldLink RX10 96 "VatHouseModel" "keptMinutes" "[I") (by decide +kernel)) (fun _ h9 => h9) rfl dX10_planned_60 ?_
                refine lv_iload_n hx hb dX10_planned_63 rfl (lv_at hl 1 rfl) ?_
                refine va_iald hx hb hK hP 27 26 rfl rfl (in_i (by omega) (by omega)) dX10_planned_64 ?_
                refine lv_topi (fun z_29 ez_29 => ?_)
                have ez_29 : z_29 = (a 48) ix.toNatClampNeg := ez_29
                refine lv_goto (tgt := 74) hx hb dX10_planned_65 (by decide) ?_
                exact M_i hx hb hr hlocks (x0_21) hP hD hK hS ⟨⟨_, rfl⟩, trivial⟩ (Nat.le_of_ble_eq_true rfl) (Nat.le_of_ble_eq_true rfl) dX10_planned_74
            · have nc_26 := eq_i c_26
              have lc_26 : (0 : Int32).toInt = 0 := by decide
              refine lv_aload_n hx hb dX10_planned_45 rfl (lv_at hl 0 rfl) ?_
              refine va_get (D := (dC, dI)) (ci := 10) (v := .ref (b 47)) (C := RX10) (T := TX10) (N := 51) hx hb hts inw_X10_planned_10 hown hK hP 0 rfl rfl 47 (by decide) (hts (.fieldLink RX10 93 "VatHouseModel" "keptVat" "[I") (by decide +kernel)) (fun _ h9 => h9) rfl dX10_planned_46 ?_
              refine lv_iload_n hx hb dX10_planned_49 rfl (lv_at hl 1 rfl) ?_
              refine va_iald hx hb hK hP 26 25 rfl rfl (in_i (by omega) (by omega)) dX10_planned_50 ?_
              refine lv_topi (fun z_30 ez_30 => ?_)
              have ez_30 : z_30 = (a 47) ix.toNatClampNeg := ez_30
              refine lv_goto (tgt := 74) hx hb dX10_planned_51 (by decide) ?_
              exact M_i hx hb hr hlocks (x0_21) hP hD hK hS ⟨⟨_, rfl⟩, trivial⟩ (Nat.le_of_ble_eq_true rfl) (Nat.le_of_ble_eq_true rfl) dX10_planned_74

abbrev rm_X10_vat : Room := { frames := 2, cells := 0, slots := 0, locals := 43 }
theorem inw_X10_vat_10 : ∀ w ∈ wsX100, w ∈ wsX10_vat := by decide +kernel
set_option maxHeartbeats 1000000 in
set_option maxRecDepth 100000 in
theorem m_X10_vat (l : Launch) (dC : Nat → ClassId) (dI : Nat → Nat → Nat) (sa : Nat → Nat) (g : Nat → Nat) (h0 : Nat) (b : Nat → Nat) (i : Nat → Int32) (a : Nat → Nat → Int32) (vv : Int32) (wt : Int32) (sz : Nat) : CT l dC dI sa yX10_vat wsX10_vat rm_X10_vat [.ref h0, .int vv, .int wt] (mw g h0 b i a) (tyM g) sz (fun (r : Option Value) (x0 : Int32) => (∃ z : Int32, r = some (.int z)) ∧ (True)) (fun (x0 : Int32) => mw g h0 b (va_up i 0 x0) a) (fun _ => []) 0 0 := by
  refine CT.start (cc := cX10_vat) (maxL := 3) (ret := (some .int)) (by decide) rfl (Nat.le_of_ble_eq_true rfl) ?_
  intro p e s m below meth c ls hst hP hK hD hev hS hl
  obtain ⟨hx, hb, hr, hml, hts, hown, hlocks, hin⟩ := hst
  have hown : s.vm.findClass RX10 = some m.cls := hown
  have hA : ∀ q : Nat, s.heap.size ≤ q → va_A (mw g h0 b i a) s.heap.size q := fun _ h => Or.inr h
  have hl : lv_has ls 3 [(0, .ref h0), (1, .int vv), (2, .int wt)] := hl
  refine lv_aload_n hx hb dX10_vat_0 rfl (lv_at hl 0 rfl) ?_
  refine lv_iload_n hx hb dX10_vat_1 rfl (lv_at hl 1 rfl) ?_
  refine M_V ⟨hx, hb, hml, hown, hts⟩ (m_X10_isVat l dC dI sa g h0 b i a vv _ ) (cwV 1 hts gX10_vat_X10_isVat rfl rfl rfl (by decide +kernel) ⟨Nat.le_of_ble_eq_true rfl, Nat.le_of_ble_eq_true rfl⟩) hP hD hK hS hA hev rfl rfl rfl rfl hl.1 rfl (Nat.le_of_ble_eq_true rfl) dX10_vat_2 ⟨(Nat.le_of_ble_eq_true rfl), (Nat.le_of_ble_eq_true rfl)⟩ (fun r u H locs hw hP hD hS => ?_)
  obtain ⟨x0_1, rfl⟩ : ∃ z, z = u := ⟨_, rfl⟩
  have hw : ((r = some (.int 0) ∧ (True)) ∨ (r = some (.int 1) ∧ (vp_in vv 6))) ∧ (True) := hw
  obtain ⟨⟨rfl, hz2_3⟩ | ⟨rfl, hz2_3⟩, hw_2⟩ := hw
  · have hP : va_P (dC, dI) vwCl (mw g h0 b (va_up i 0 x0_1) a) _ := hP
    have hD : va_D _ (mw g h0 b (va_up i 0 x0_1) a) := hD
    refine W.eq (g2 := F0 m 5 ls [.int 0]) rfl ?_
    refine lv_if_eq (tgt := 30) hx hb dX10_vat_5 (by decide) (fun _ => ?_) (fun c_4 => absurd c_4 (by decide))
    refine lv_iconst (v := 0) hx hb dX10_vat_30 (by decide) ?_
    exact M_i hx hb hr hlocks (x0_1) hP hD hK hS ⟨⟨_, rfl⟩, trivial⟩ (Nat.le_of_ble_eq_true rfl) (Nat.le_of_ble_eq_true rfl) dX10_vat_31
  · have hP : va_P (dC, dI) vwCl (mw g h0 b (va_up i 0 x0_1) a) _ := hP
    have hD : va_D _ (mw g h0 b (va_up i 0 x0_1) a) := hD
    refine W.eq (g2 := F0 m 5 ls [.int 1]) rfl ?_
    have hv6 := hz2_3
    refine lv_if_eq (tgt := 30) hx hb dX10_vat_5 (by decide) (fun c_5 => absurd c_5 (by decide)) (fun _ => ?_)
    refine lv_aload_n hx hb dX10_vat_8 rfl (lv_at hl 0 rfl) ?_
    refine lv_iload_n hx hb dX10_vat_9 rfl (lv_at hl 2 rfl) ?_
    refine lv_if_lt (tgt := 22) hx hb dX10_vat_10 (by decide) (fun c_6 => ?_) (fun c_6 => ?_)
    · have nc_6 := lt_i c_6
      have lc_6 : (0 : Int32).toInt = 0 := by decide
      refine lv_iconst (v := 0) hx hb dX10_vat_22 (by decide) ?_
      refine lv_iconst (v := 1) hx hb dX10_vat_23 (by decide) ?_
      refine M_V ⟨hx, hb, hml, hown, hts⟩ (m_X10_right l dC dI sa g h0 b (va_up i 0 x0_1) a (0 : Int32) (1 : Int32) _ (by decide)) (cwV 2 hts gX10_vat_X10_right rfl rfl rfl (by decide +kernel) ⟨Nat.le_of_ble_eq_true rfl, Nat.le_of_ble_eq_true rfl⟩) hP hD hK hS hA hev rfl rfl rfl rfl hl.1 rfl (Nat.le_of_ble_eq_true rfl) dX10_vat_24 ⟨(Nat.le_of_ble_eq_true rfl), (Nat.le_of_ble_eq_true rfl)⟩ (fun r u H locs hw hP hD hS => ?_)
      obtain ⟨x0_7, rfl⟩ : ∃ z, z = u := ⟨_, rfl⟩
      have hw : ((r = some (.int 0) ∧ (True)) ∨ (r = some (.int 1) ∧ (¬ (0 : Int32) = 0))) ∧ (True) := hw
      obtain ⟨⟨rfl, hz2_9⟩ | ⟨rfl, hz2_9⟩, hw_8⟩ := hw
      · have hP : va_P (dC, dI) vwCl (mw g h0 b (va_up i 0 x0_7) a) _ := hP
        have hD : va_D _ (mw g h0 b (va_up i 0 x0_7) a) := hD
        refine W.eq (g2 := F0 m 27 ls [.int 0]) rfl ?_
        refine lv_if_ne (tgt := 32) hx hb dX10_vat_27 (by decide) (fun c_10 => absurd c_10 (by decide)) (fun _ => ?_)
        refine lv_iconst (v := 0) hx hb dX10_vat_30 (by decide) ?_
        exact M_i hx hb hr hlocks (x0_7) hP hD hK hS ⟨⟨_, rfl⟩, trivial⟩ (Nat.le_of_ble_eq_true rfl) (Nat.le_of_ble_eq_true rfl) dX10_vat_31
      · have hP : va_P (dC, dI) vwCl (mw g h0 b (va_up i 0 x0_7) a) _ := hP
        have hD : va_D _ (mw g h0 b (va_up i 0 x0_7) a) := hD
        refine W.eq (g2 := F0 m 27 ls [.int 1]) rfl ?_
        exact absurd rfl hz2_9
    · have nc_6 := nlt_i c_6
      have lc_6 : (0 : Int32).toInt = 0 := by decide
      refine lv_iload_n hx hb dX10_vat_13 rfl (lv_at hl 2 rfl) ?_
      refine lv_iconst (v := 5) hx hb dX10_vat_14 (by decide) ?_
      refine lv_icmp_gt (tgt := 22) hx hb dX10_vat_15 (by decide) (fun c_11 => ?_) (fun c_11 => ?_)
      · have nc_11 := lt_i c_11
        have lc_11 : (5 : Int32).toInt = 5 := by decide
        refine lv_iconst (v := 0) hx hb dX10_vat_22 (by decide) ?_
        refine lv_iconst (v := 1) hx hb dX10_vat_23 (by decide) ?_
        refine M_V ⟨hx, hb, hml, hown, hts⟩ (m_X10_right l dC dI sa g h0 b (va_up i 0 x0_1) a (0 : Int32) (1 : Int32) _ (by decide)) (cwV 2 hts gX10_vat_X10_right rfl rfl rfl (by decide +kernel) ⟨Nat.le_of_ble_eq_true rfl, Nat.le_of_ble_eq_true rfl⟩) hP hD hK hS hA hev rfl rfl rfl rfl hl.1 rfl (Nat.le_of_ble_eq_true rfl) dX10_vat_24 ⟨(Nat.le_of_ble_eq_true rfl), (Nat.le_of_ble_eq_true rfl)⟩ (fun r u H locs hw hP hD hS => ?_)
        obtain ⟨x0_12, rfl⟩ : ∃ z, z = u := ⟨_, rfl⟩
        have hw : ((r = some (.int 0) ∧ (True)) ∨ (r = some (.int 1) ∧ (¬ (0 : Int32) = 0))) ∧ (True) := hw
        obtain ⟨⟨rfl, hz2_14⟩ | ⟨rfl, hz2_14⟩, hw_13⟩ := hw
        · have hP : va_P (dC, dI) vwCl (mw g h0 b (va_up i 0 x0_12) a) _ := hP
          have hD : va_D _ (mw g h0 b (va_up i 0 x0_12) a) := hD
          refine W.eq (g2 := F0 m 27 ls [.int 0]) rfl ?_
          refine lv_if_ne (tgt := 32) hx hb dX10_vat_27 (by decide) (fun c_15 => absurd c_15 (by decide)) (fun _ => ?_)
          refine lv_iconst (v := 0) hx hb dX10_vat_30 (by decide) ?_
          exact M_i hx hb hr hlocks (x0_12) hP hD hK hS ⟨⟨_, rfl⟩, trivial⟩ (Nat.le_of_ble_eq_true rfl) (Nat.le_of_ble_eq_true rfl) dX10_vat_31
        · have hP : va_P (dC, dI) vwCl (mw g h0 b (va_up i 0 x0_12) a) _ := hP
          have hD : va_D _ (mw g h0 b (va_up i 0 x0_12) a) := hD
          refine W.eq (g2 := F0 m 27 ls [.int 1]) rfl ?_
          exact absurd rfl hz2_14
      · have nc_11 := nlt_i c_11
        have lc_11 : (5 : Int32).toInt = 5 := by decide
        refine lv_iconst (v := 1) hx hb dX10_vat_18 (by decide) ?_
        refine lv_goto (tgt := 23) hx hb dX10_vat_19 (by decide) ?_
        refine lv_iconst (v := 1) hx hb dX10_vat_23 (by decide) ?_
        refine M_V ⟨hx, hb, hml, hown, hts⟩ (m_X10_right l dC dI sa g h0 b (va_up i 0 x0_1) a (1 : Int32) (1 : Int32) _ (by decide)) (cwV 2 hts gX10_vat_X10_right rfl rfl rfl (by decide +kernel) ⟨Nat.le_of_ble_eq_true rfl, Nat.le_of_ble_eq_true rfl⟩) hP hD hK hS hA hev rfl rfl rfl rfl hl.1 rfl (Nat.le_of_ble_eq_true rfl) dX10_vat_24 ⟨(Nat.le_of_ble_eq_true rfl), (Nat.le_of_ble_eq_true rfl)⟩ (fun r u H locs hw hP hD hS => ?_)
        obtain ⟨x0_16, rfl⟩ : ∃ z, z = u := ⟨_, rfl⟩
        have hw : ((r = some (.int 0) ∧ (True)) ∨ (r = some (.int 1) ∧ (¬ (1 : Int32) = 0))) ∧ (True) := hw
        obtain ⟨⟨rfl, hz2_18⟩ | ⟨rfl, hz2_18⟩, hw_17⟩ := hw
        · have hP : va_P (dC, dI) vwCl (mw g h0 b (va_up i 0 x0_16) a) _ := hP
          have hD : va_D _ (mw g h0 b (va_up i 0 x0_16) a) := hD
          refine W.eq (g2 := F0 m 27 ls [.int 0]) rfl ?_
          refine lv_if_ne (tgt := 32) hx hb dX10_vat_27 (by decide) (fun c_19 => absurd c_19 (by decide)) (fun _ => ?_)
          refine lv_iconst (v := 0) hx hb dX10_vat_30 (by decide) ?_
          exact M_i hx hb hr hlocks (x0_16) hP hD hK hS ⟨⟨_, rfl⟩, trivial⟩ (Nat.le_of_ble_eq_true rfl) (Nat.le_of_ble_eq_true rfl) dX10_vat_31
        · have hP : va_P (dC, dI) vwCl (mw g h0 b (va_up i 0 x0_16) a) _ := hP
          have hD : va_D _ (mw g h0 b (va_up i 0 x0_16) a) := hD
          refine W.eq (g2 := F0 m 27 ls [.int 1]) rfl ?_
          refine lv_if_ne (tgt := 32) hx hb dX10_vat_27 (by decide) (fun _ => ?_) (fun c_20 => absurd c_20 (by decide))
          refine lv_iload_n hx hb dX10_vat_32 rfl (lv_at hl 2 rfl) ?_
          by_cases c_21 : wt = 0
          · refine lv_tableIn (tgt := 68) hx hb dX10_vat_33 (by rw [c_21]; decide) (by rw [c_21]; decide) (by rw [c_21]; rfl) (by decide) ?_
            refine lv_aload_n hx hb dX10_vat_68 rfl (lv_at hl 0 rfl) ?_
            refine va_get (D := (dC, dI)) (ci := 10) (v := .ref (b 4)) (C := RX10) (T := TX10) (N := 51) hx hb hts inw_X10_vat_10 hown hK hP 0 rfl rfl 4 (by decide) (hts (.fieldLink RX10 7 "VatHouseModel" "grains" "[I") (by decide +kernel)) (fun _ h9 => h9) rfl dX10_vat_69 ?_
            refine lv_iload_n hx hb dX10_vat_72 rfl (lv_at hl 1 rfl) ?_
            refine va_iald hx hb hK hP 1 0 rfl rfl (by assumption) dX10_vat_73 ?_
            refine lv_topi (fun z_22 ez_22 => ?_)
            have ez_22 : z_22 = (a 4) vv.toNatClampNeg := ez_22
            exact M_i hx hb hr hlocks (x0_16) hP hD hK hS ⟨⟨_, rfl⟩, trivial⟩ (Nat.le_of_ble_eq_true rfl) (Nat.le_of_ble_eq_true rfl) dX10_vat_74
          by_cases c_23 : wt = 1
          · refine lv_tableIn (tgt := 75) hx hb dX10_vat_33 (by rw [c_23]; decide) (by rw [c_23]; decide) (by rw [c_23]; rfl) (by decide) ?_
            refine lv_aload_n hx hb dX10_vat_75 rfl (lv_at hl 0 rfl) ?_
            refine va_get (D := (dC, dI)) (ci := 10) (v := .ref (b 5)) (C := RX10) (T := TX10) (N := 51) hx hb hts inw_X10_vat_10 hown hK hP 0 rfl rfl 5 (by decide) (hts (.fieldLink RX10 13 "VatHouseModel" "food" "[I") (by decide +kernel)) (fun _ h9 => h9) rfl dX10_vat_76 ?_
            refine lv_iload_n hx hb dX10_vat_79 rfl (lv_at hl 1 rfl) ?_
            refine va_iald hx hb hK hP 2 1 rfl rfl (by assumption) dX10_vat_80 ?_
            refine lv_topi (fun z_24 ez_24 => ?_)
            have ez_24 : z_24 = (a 5) vv.toNatClampNeg := ez_24
            exact M_i hx hb hr hlocks (x0_16) hP hD hK hS ⟨⟨_, rfl⟩, trivial⟩ (Nat.le_of_ble_eq_true rfl) (Nat.le_of_ble_eq_true rfl) dX10_vat_81
          by_cases c_25 : wt = 2
          · refine lv_tableIn (tgt := 82) hx hb dX10_vat_33 (by rw [c_25]; decide) (by rw [c_25]; decide) (by rw [c_25]; rfl) (by decide) ?_
            refine lv_aload_n hx hb dX10_vat_82 rfl (lv_at hl 0 rfl) ?_
            refine va_get (D := (dC, dI)) (ci := 10) (v := .ref (b 6)) (C := RX10) (T := TX10) (N := 51) hx hb hts inw_X10_vat_10 hown hK hP 0 rfl rfl 6 (by decide) (hts (.fieldLink RX10 16 "VatHouseModel" "minutes" "[I") (by decide +kernel)) (fun _ h9 => h9) rfl dX10_vat_83 ?_
            refine lv_iload_n hx hb dX10_vat_86 rfl (lv_at hl 1 rfl) ?_
            refine va_iald hx hb hK hP 3 2 rfl rfl (by assumption) dX10_vat_87 ?_
            refine lv_topi (fun z_26 ez_26 => ?_)
            have ez_26 : z_26 = (a 6) vv.toNatClampNeg := ez_26
            exact M_i hx hb hr hlocks (x0_16) hP hD hK hS ⟨⟨_, rfl⟩, trivial⟩ (Nat.le_of_ble_eq_true rfl) (Nat.le_of_ble_eq_true rfl) dX10_vat_88
          by_cases c_27 : wt = 3
          · refine lv_tableIn (tgt := 89) hx hb dX10_vat_33 (by rw [c_27]; decide) (by rw [c_27]; decide) (by rw [c_27]; rfl) (by decide) ?_
            refine lv_aload_n hx hb dX10_vat_89 rfl (lv_at hl 0 rfl) ?_
            refine va_get (D := (dC, dI)) (ci := 10) (v := .ref (b 7)) (C := RX10) (T := TX10) (N := 51) hx hb hts inw_X10_vat_10 hown hK hP 0 rfl rfl 7 (by decide) (hts (.fieldLink RX10 19 "VatHouseModel" "state" "[I") (by decide +kernel)) (fun _ h9 => h9) rfl dX10_vat_90 ?_
            refine lv_iload_n hx hb dX10_vat_93 rfl (lv_at hl 1 rfl) ?_
            refine va_iald hx hb hK hP 4 3 rfl rfl (by assumption) dX10_vat_94 ?_
            refine lv_topi (fun z_28 ez_28 => ?_)
            have ez_28 : z_28 = (a 7) vv.toNatClampNeg := ez_28
            exact M_i hx hb hr hlocks (x0_16) hP hD hK hS ⟨⟨_, rfl⟩, trivial⟩ (Nat.le_of_ble_eq_true rfl) (Nat.le_of_ble_eq_true rfl) dX10_vat_95
          by_cases c_29 : wt = 4
          · refine lv_tableIn (tgt := 96) hx hb dX10_vat_33 (by rw [c_29]; decide) (by rw [c_29]; decide) (by rw [c_29]; rfl) (by decide) ?_
            refine lv_aload_n hx hb dX10_vat_96 rfl (lv_at hl 0 rfl) ?_
            refine va_get (D := (dC, dI)) (ci := 10) (v := .ref (b 8)) (C := RX10) (T := TX10) (N := 51) hx hb hts inw_X10_vat_10 hown hK hP 0 rfl rfl 8 (by decide) (hts (.fieldLink RX10 22 "VatHouseModel" "dips" "[I") (by decide +kernel)) (fun _ h9 => h9) rfl dX10_vat_97 ?_
            refine lv_iload_n hx hb dX10_vat_100 rfl (lv_at hl 1 rfl) ?_
            refine va_iald hx hb hK hP 5 4 rfl rfl (by assumption) dX10_vat_101 ?_
            refine lv_topi (fun z_30 ez_30 => ?_)
            have ez_30 : z_30 = (a 8) vv.toNatClampNeg := ez_30
            exact M_i hx hb hr hlocks (x0_16) hP hD hK hS ⟨⟨_, rfl⟩, trivial⟩ (Nat.le_of_ble_eq_true rfl) (Nat.le_of_ble_eq_true rfl) dX10_vat_102
          refine lv_tableOut (tgt := 103) hx hb dX10_vat_33 (tab_out5 c_21 c_23 c_25 c_27 c_29) (by decide) ?_
          refine lv_aload_n hx hb dX10_vat_103 rfl (lv_at hl 0 rfl) ?_
          refine va_get (D := (dC, dI)) (ci := 10) (v := .ref (b 9)) (C := RX10) (T := TX10) (N := 51) hx hb hts inw_X10_vat_10 hown hK hP 0 rfl rfl 9 (by decide) (hts (.fieldLink RX10 25 "VatHouseModel" "dyed" "[I") (by decide +kernel)) (fun _ h9 => h9) rfl dX10_vat_104 ?_
          refine lv_iload_n hx hb dX10_vat_107 rfl (lv_at hl 1 rfl) ?_
          refine va_iald hx hb hK hP 6 5 rfl rfl (by assumption) dX10_vat_108 ?_
          refine lv_topi (fun z_31 ez_31 => ?_)
          have ez_31 : z_31 = (a 9) vv.toNatClampNeg := ez_31
          exact M_i hx hb hr hlocks (x0_16) hP hD hK hS ⟨⟨_, rfl⟩, trivial⟩ (Nat.le_of_ble_eq_true rfl) (Nat.le_of_ble_eq_true rfl) dX10_vat_109

abbrev rm_X10_about : Room := { frames := 2, cells := 0, slots := 0, locals := 43 }
theorem inw_X10_about_10 : ∀ w ∈ wsX100, w ∈ wsX10_about := by decide +kernel
set_option maxHeartbeats 1000000 in
set_option maxRecDepth 100000 in
theorem m_X10_about (l : Launch) (dC : Nat → ClassId) (dI : Nat → Nat → Nat) (sa : Nat → Nat) (g : Nat → Nat) (h0 : Nat) (b : Nat → Nat) (i : Nat → Int32) (a : Nat → Nat → Int32) (ck : Int32) (wt : Int32) (sz : Nat) (hCI : CI (i 12) (a 13)) : CT l dC dI sa yX10_about wsX10_about rm_X10_about [.ref h0, .int ck, .int wt] (mw g h0 b i a) (tyM g) sz (fun (r : Option Value) (x0 : Int32) => (∃ z : Int32, r = some (.int z)) ∧ (True)) (fun (x0 : Int32) => mw g h0 b (va_up i 0 x0) a) (fun _ => []) 0 0 := by
  refine CT.start (cc := cX10_about) (maxL := 3) (ret := (some .int)) (by decide) rfl (Nat.le_of_ble_eq_true rfl) ?_
  intro p e s m below meth c ls hst hP hK hD hev hS hl
  obtain ⟨hx, hb, hr, hml, hts, hown, hlocks, hin⟩ := hst
  have hown : s.vm.findClass RX10 = some m.cls := hown
  have hA : ∀ q : Nat, s.heap.size ≤ q → va_A (mw g h0 b i a) s.heap.size q := fun _ h => Or.inr h
  have hl : lv_has ls 3 [(0, .ref h0), (1, .int ck), (2, .int wt)] := hl
  refine lv_aload_n hx hb dX10_about_0 rfl (lv_at hl 0 rfl) ?_
  refine lv_iload_n hx hb dX10_about_1 rfl (lv_at hl 1 rfl) ?_
  refine M_V ⟨hx, hb, hml, hown, hts⟩ (m_X10_isCloth l dC dI sa g h0 b i a ck _ ) (cwV 1 hts gX10_about_X10_isCloth rfl rfl rfl (by decide +kernel) ⟨Nat.le_of_ble_eq_true rfl, Nat.le_of_ble_eq_true rfl⟩) hP hD hK hS hA hev rfl rfl rfl rfl hl.1 rfl (Nat.le_of_ble_eq_true rfl) dX10_about_2 ⟨(Nat.le_of_ble_eq_true rfl), (Nat.le_of_ble_eq_true rfl)⟩ (fun r u H locs hw hP hD hS => ?_)
  obtain ⟨x0_1, rfl⟩ : ∃ z, z = u := ⟨_, rfl⟩
  have hw : ((r = some (.int 0) ∧ (True)) ∨ (r = some (.int 1) ∧ (0 ≤ ck.toInt ∧ ck.toInt < (i 12).toInt))) ∧ (True) := hw
  obtain ⟨⟨rfl, hz2_3⟩ | ⟨rfl, hz2_3⟩, hw_2⟩ := hw
  · have hP : va_P (dC, dI) vwCl (mw g h0 b (va_up i 0 x0_1) a) _ := hP
    have hD : va_D _ (mw g h0 b (va_up i 0 x0_1) a) := hD
    refine W.eq (g2 := F0 m 5 ls [.int 0]) rfl ?_
    refine lv_if_eq (tgt := 31) hx hb dX10_about_5 (by decide) (fun _ => ?_) (fun c_4 => absurd c_4 (by decide))
    refine lv_iconst (v := 0) hx hb dX10_about_31 (by decide) ?_
    exact M_i hx hb hr hlocks (x0_1) hP hD hK hS ⟨⟨_, rfl⟩, trivial⟩ (Nat.le_of_ble_eq_true rfl) (Nat.le_of_ble_eq_true rfl) dX10_about_32
  · have hP : va_P (dC, dI) vwCl (mw g h0 b (va_up i 0 x0_1) a) _ := hP
    have hD : va_D _ (mw g h0 b (va_up i 0 x0_1) a) := hD
    refine W.eq (g2 := F0 m 5 ls [.int 1]) rfl ?_
    obtain ⟨hc30, hwt⟩ := hCI.at hz2_3
    refine lv_if_eq (tgt := 31) hx hb dX10_about_5 (by decide) (fun c_5 => absurd c_5 (by decide)) (fun _ => ?_)
    refine lv_aload_n hx hb dX10_about_8 rfl (lv_at hl 0 rfl) ?_
    refine lv_iload_n hx hb dX10_about_9 rfl (lv_at hl 2 rfl) ?_
    refine lv_if_lt (tgt := 23) hx hb dX10_about_10 (by decide) (fun c_6 => ?_) (fun c_6 => ?_)
    · have nc_6 := lt_i c_6
      have lc_6 : (0 : Int32).toInt = 0 := by decide
      refine lv_iconst (v := 0) hx hb dX10_about_23 (by decide) ?_
      refine lv_iconst (v := 1) hx hb dX10_about_24 (by decide) ?_
      refine M_V ⟨hx, hb, hml, hown, hts⟩ (m_X10_right l dC dI sa g h0 b (va_up i 0 x0_1) a (0 : Int32) (1 : Int32) _ (by decide)) (cwV 2 hts gX10_about_X10_right rfl rfl rfl (by decide +kernel) ⟨Nat.le_of_ble_eq_true rfl, Nat.le_of_ble_eq_true rfl⟩) hP hD hK hS hA hev rfl rfl rfl rfl hl.1 rfl (Nat.le_of_ble_eq_true rfl) dX10_about_25 ⟨(Nat.le_of_ble_eq_true rfl), (Nat.le_of_ble_eq_true rfl)⟩ (fun r u H locs hw hP hD hS => ?_)
      obtain ⟨x0_7, rfl⟩ : ∃ z, z = u := ⟨_, rfl⟩
      have hw : ((r = some (.int 0) ∧ (True)) ∨ (r = some (.int 1) ∧ (¬ (0 : Int32) = 0))) ∧ (True) := hw
      obtain ⟨⟨rfl, hz2_9⟩ | ⟨rfl, hz2_9⟩, hw_8⟩ := hw
      · have hP : va_P (dC, dI) vwCl (mw g h0 b (va_up i 0 x0_7) a) _ := hP
        have hD : va_D _ (mw g h0 b (va_up i 0 x0_7) a) := hD
        refine W.eq (g2 := F0 m 28 ls [.int 0]) rfl ?_
        refine lv_if_ne (tgt := 33) hx hb dX10_about_28 (by decide) (fun c_10 => absurd c_10 (by decide)) (fun _ => ?_)
        refine lv_iconst (v := 0) hx hb dX10_about_31 (by decide) ?_
        exact M_i hx hb hr hlocks (x0_7) hP hD hK hS ⟨⟨_, rfl⟩, trivial⟩ (Nat.le_of_ble_eq_true rfl) (Nat.le_of_ble_eq_true rfl) dX10_about_32
      · have hP : va_P (dC, dI) vwCl (mw g h0 b (va_up i 0 x0_7) a) _ := hP
        have hD : va_D _ (mw g h0 b (va_up i 0 x0_7) a) := hD
        refine W.eq (g2 := F0 m 28 ls [.int 1]) rfl ?_
        exact absurd rfl hz2_9
    · have nc_6 := nlt_i c_6
      have lc_6 : (0 : Int32).toInt = 0 := by decide
      refine lv_iload_n hx hb dX10_about_13 rfl (lv_at hl 2 rfl) ?_
      refine lv_bipush (v := 7) hx hb dX10_about_14 (by decide) ?_
      refine lv_icmp_gt (tgt := 23) hx hb dX10_about_16 (by decide) (fun c_11 => ?_) (fun c_11 => ?_)
      · have nc_11 := lt_i c_11
        have lc_11 : (7 : Int32).toInt = 7 := by decide
        refine lv_iconst (v := 0) hx hb dX10_about_23 (by decide) ?_
        refine lv_iconst (v := 1) hx hb dX10_about_24 (by decide) ?_
        refine M_V ⟨hx, hb, hml, hown, hts⟩ (m_X10_right l dC dI sa g h0 b (va_up i 0 x0_1) a (0 : Int32) (1 : Int32) _ (by decide)) (cwV 2 hts gX10_about_X10_right rfl rfl rfl (by decide +kernel) ⟨Nat.le_of_ble_eq_true rfl, Nat.le_of_ble_eq_true rfl⟩) hP hD hK hS hA hev rfl rfl rfl rfl hl.1 rfl (Nat.le_of_ble_eq_true rfl) dX10_about_25 ⟨(Nat.le_of_ble_eq_true rfl), (Nat.le_of_ble_eq_true rfl)⟩ (fun r u H locs hw hP hD hS => ?_)
        obtain ⟨x0_12, rfl⟩ : ∃ z, z = u := ⟨_, rfl⟩
        have hw : ((r = some (.int 0) ∧ (True)) ∨ (r = some (.int 1) ∧ (¬ (0 : Int32) = 0))) ∧ (True) := hw
        obtain ⟨⟨rfl, hz2_14⟩ | ⟨rfl, hz2_14⟩, hw_13⟩ := hw
        · have hP : va_P (dC, dI) vwCl (mw g h0 b (va_up i 0 x0_12) a) _ := hP
          have hD : va_D _ (mw g h0 b (va_up i 0 x0_12) a) := hD
          refine W.eq (g2 := F0 m 28 ls [.int 0]) rfl ?_
          refine lv_if_ne (tgt := 33) hx hb dX10_about_28 (by decide) (fun c_15 => absurd c_15 (by decide)) (fun _ => ?_)
          refine lv_iconst (v := 0) hx hb dX10_about_31 (by decide) ?_
          exact M_i hx hb hr hlocks (x0_12) hP hD hK hS ⟨⟨_, rfl⟩, trivial⟩ (Nat.le_of_ble_eq_true rfl) (Nat.le_of_ble_eq_true rfl) dX10_about_32
        · have hP : va_P (dC, dI) vwCl (mw g h0 b (va_up i 0 x0_12) a) _ := hP
          have hD : va_D _ (mw g h0 b (va_up i 0 x0_12) a) := hD
          refine W.eq (g2 := F0 m 28 ls [.int 1]) rfl ?_
          exact absurd rfl hz2_14
      · have nc_11 := nlt_i c_11
        have lc_11 : (7 : Int32).toInt = 7 := by decide
        refine lv_iconst (v := 1) hx hb dX10_about_19 (by decide) ?_
        refine lv_goto (tgt := 24) hx hb dX10_about_20 (by decide) ?_
        refine lv_iconst (v := 1) hx hb dX10_about_24 (by decide) ?_
        refine M_V ⟨hx, hb, hml, hown, hts⟩ (m_X10_right l dC dI sa g h0 b (va_up i 0 x0_1) a (1 : Int32) (1 : Int32) _ (by decide)) (cwV 2 hts gX10_about_X10_right rfl rfl rfl (by decide +kernel) ⟨Nat.le_of_ble_eq_true rfl, Nat.le_of_ble_eq_true rfl⟩) hP hD hK hS hA hev rfl rfl rfl rfl hl.1 rfl (Nat.le_of_ble_eq_true rfl) dX10_about_25 ⟨(Nat.le_of_ble_eq_true rfl), (Nat.le_of_ble_eq_true rfl)⟩ (fun r u H locs hw hP hD hS => ?_)
        obtain ⟨x0_16, rfl⟩ : ∃ z, z = u := ⟨_, rfl⟩
        have hw : ((r = some (.int 0) ∧ (True)) ∨ (r = some (.int 1) ∧ (¬ (1 : Int32) = 0))) ∧ (True) := hw
        obtain ⟨⟨rfl, hz2_18⟩ | ⟨rfl, hz2_18⟩, hw_17⟩ := hw
        · have hP : va_P (dC, dI) vwCl (mw g h0 b (va_up i 0 x0_16) a) _ := hP
          have hD : va_D _ (mw g h0 b (va_up i 0 x0_16) a) := hD
          refine W.eq (g2 := F0 m 28 ls [.int 0]) rfl ?_
          refine lv_if_ne (tgt := 33) hx hb dX10_about_28 (by decide) (fun c_19 => absurd c_19 (by decide)) (fun _ => ?_)
          refine lv_iconst (v := 0) hx hb dX10_about_31 (by decide) ?_
          exact M_i hx hb hr hlocks (x0_16) hP hD hK hS ⟨⟨_, rfl⟩, trivial⟩ (Nat.le_of_ble_eq_true rfl) (Nat.le_of_ble_eq_true rfl) dX10_about_32
        · have hP : va_P (dC, dI) vwCl (mw g h0 b (va_up i 0 x0_16) a) _ := hP
          have hD : va_D _ (mw g h0 b (va_up i 0 x0_16) a) := hD
          refine W.eq (g2 := F0 m 28 ls [.int 1]) rfl ?_
          refine lv_if_ne (tgt := 33) hx hb dX10_about_28 (by decide) (fun _ => ?_) (fun c_20 => absurd c_20 (by decide))
          refine lv_iload_n hx hb dX10_about_33 rfl (lv_at hl 2 rfl) ?_
          by_cases c_21 : wt = 0
          · refine lv_tableIn (tgt := 76) hx hb dX10_about_34 (by rw [c_21]; decide) (by rw [c_21]; decide) (by rw [c_21]; rfl) (by decide) ?_
            refine lv_aload_n hx hb dX10_about_76 rfl (lv_at hl 0 rfl) ?_
            refine va_get (D := (dC, dI)) (ci := 10) (v := .ref (b 13)) (C := RX10) (T := TX10) (N := 51) hx hb hts inw_X10_about_10 hown hK hP 0 rfl rfl 13 (by decide) (hts (.fieldLink RX10 35 "VatHouseModel" "weight" "[I") (by decide +kernel)) (fun _ h9 => h9) rfl dX10_about_77 ?_
            refine lv_iload_n hx hb dX10_about_80 rfl (lv_at hl 1 rfl) ?_
            refine va_iald hx hb hK hP 9 8 rfl rfl (by assumption) dX10_about_81 ?_
            refine lv_topi (fun z_22 ez_22 => ?_)
            have ez_22 : z_22 = (a 13) ck.toNatClampNeg := ez_22
            exact M_i hx hb hr hlocks (x0_16) hP hD hK hS ⟨⟨_, rfl⟩, trivial⟩ (Nat.le_of_ble_eq_true rfl) (Nat.le_of_ble_eq_true rfl) dX10_about_82
          by_cases c_23 : wt = 1
          · refine lv_tableIn (tgt := 83) hx hb dX10_about_34 (by rw [c_23]; decide) (by rw [c_23]; decide) (by rw [c_23]; rfl) (by decide) ?_
            refine lv_aload_n hx hb dX10_about_83 rfl (lv_at hl 0 rfl) ?_
            refine va_get (D := (dC, dI)) (ci := 10) (v := .ref (b 14)) (C := RX10) (T := TX10) (N := 51) hx hb hts inw_X10_about_10 hown hK hP 0 rfl rfl 14 (by decide) (hts (.fieldLink RX10 38 "VatHouseModel" "loose" "[I") (by decide +kernel)) (fun _ h9 => h9) rfl dX10_about_84 ?_
            refine lv_iload_n hx hb dX10_about_87 rfl (lv_at hl 1 rfl) ?_
            refine va_iald hx hb hK hP 10 9 rfl rfl (by assumption) dX10_about_88 ?_
            refine lv_topi (fun z_24 ez_24 => ?_)
            have ez_24 : z_24 = (a 14) ck.toNatClampNeg := ez_24
            exact M_i hx hb hr hlocks (x0_16) hP hD hK hS ⟨⟨_, rfl⟩, trivial⟩ (Nat.le_of_ble_eq_true rfl) (Nat.le_of_ble_eq_true rfl) dX10_about_89
          by_cases c_25 : wt = 2
          · refine lv_tableIn (tgt := 90) hx hb dX10_about_34 (by rw [c_25]; decide) (by rw [c_25]; decide) (by rw [c_25]; rfl) (by decide) ?_
            refine lv_aload_n hx hb dX10_about_90 rfl (lv_at hl 0 rfl) ?_
            refine va_get (D := (dC, dI)) (ci := 10) (v := .ref (b 15)) (C := RX10) (T := TX10) (N := 51) hx hb hts inw_X10_about_10 hown hK hP 0 rfl rfl 15 (by decide) (hts (.fieldLink RX10 41 "VatHouseModel" "fast" "[I") (by decide +kernel)) (fun _ h9 => h9) rfl dX10_about_91 ?_
            refine lv_iload_n hx hb dX10_about_94 rfl (lv_at hl 1 rfl) ?_
            refine va_iald hx hb hK hP 11 10 rfl rfl (by assumption) dX10_about_95 ?_
            refine lv_topi (fun z_26 ez_26 => ?_)
            have ez_26 : z_26 = (a 15) ck.toNatClampNeg := ez_26
            exact M_i hx hb hr hlocks (x0_16) hP hD hK hS ⟨⟨_, rfl⟩, trivial⟩ (Nat.le_of_ble_eq_true rfl) (Nat.le_of_ble_eq_true rfl) dX10_about_96
          by_cases c_27 : wt = 3
          · refine lv_tableIn (tgt := 97) hx hb dX10_about_34 (by rw [c_27]; decide) (by rw [c_27]; decide) (by rw [c_27]; rfl) (by decide) ?_
            refine lv_aload_n hx hb dX10_about_97 rfl (lv_at hl 0 rfl) ?_
            refine lv_iload_n hx hb dX10_about_98 rfl (lv_at hl 1 rfl) ?_
            refine M_V ⟨hx, hb, hml, hown, hts⟩ (m_X10_shadeOf l dC dI sa g h0 b (va_up i 0 x0_16) a ck _ hc30 hwt) (cwV 1 hts gX10_about_X10_shadeOf rfl rfl rfl (by decide +kernel) ⟨Nat.le_of_ble_eq_true rfl, Nat.le_of_ble_eq_true rfl⟩) hP hD hK hS hA hev rfl rfl rfl rfl hl.1 rfl (Nat.le_of_ble_eq_true rfl) dX10_about_99 ⟨(Nat.le_of_ble_eq_true rfl), (Nat.le_of_ble_eq_true rfl)⟩ (fun r u H locs hw hP hD hS => ?_)
            have hw : (∃ z : Int32, r = some (.int z)) ∧ (True) := hw
            obtain ⟨⟨z_29, rfl⟩, hw_28⟩ := hw
            have hP : va_P (dC, dI) vwCl (mw g h0 b (va_up i 0 x0_16) a) _ := hP
            have hD : va_D _ (mw g h0 b (va_up i 0 x0_16) a) := hD
            refine W.eq (g2 := F0 m 102 ls [.int z_29]) rfl ?_
            exact M_i hx hb hr hlocks (x0_16) hP hD hK hS ⟨⟨_, rfl⟩, trivial⟩ (Nat.le_of_ble_eq_true rfl) (Nat.le_of_ble_eq_true rfl) dX10_about_102
          by_cases c_30 : wt = 4
          · refine lv_tableIn (tgt := 103) hx hb dX10_about_34 (by rw [c_30]; decide) (by rw [c_30]; decide) (by rw [c_30]; rfl) (by decide) ?_
            refine lv_aload_n hx hb dX10_about_103 rfl (lv_at hl 0 rfl) ?_
            refine lv_iload_n hx hb dX10_about_104 rfl (lv_at hl 1 rfl) ?_
            refine M_V ⟨hx, hb, hml, hown, hts⟩ (m_X10_isDry l dC dI sa g h0 b (va_up i 0 x0_16) a ck _ hc30) (cwV 1 hts gX10_about_X10_isDry rfl rfl rfl (by decide +kernel) ⟨Nat.le_of_ble_eq_true rfl, Nat.le_of_ble_eq_true rfl⟩) hP hD hK hS hA hev rfl rfl rfl rfl hl.1 rfl (Nat.le_of_ble_eq_true rfl) dX10_about_105 ⟨(Nat.le_of_ble_eq_true rfl), (Nat.le_of_ble_eq_true rfl)⟩ (fun r u H locs hw hP hD hS => ?_)
            have hw : (∃ z : Int32, r = some (.int z) ∧ (z = 0 ∨ z = 1)) ∧ (True) := hw
            obtain ⟨⟨z_32, rfl, hz_z_32⟩, hw_31⟩ := hw
            have hP : va_P (dC, dI) vwCl (mw g h0 b (va_up i 0 x0_16) a) _ := hP
            have hD : va_D _ (mw g h0 b (va_up i 0 x0_16) a) := hD
            refine W.eq (g2 := F0 m 108 ls [.int z_32]) rfl ?_
            refine lv_if_eq (tgt := 115) hx hb dX10_about_108 (by decide) (fun c_33 => ?_) (fun c_33 => ?_)
            · have nc_33 := eq_i c_33
              have lc_33 : (0 : Int32).toInt = 0 := by decide
              refine lv_iconst (v := 0) hx hb dX10_about_115 (by decide) ?_
              exact M_i hx hb hr hlocks (x0_16) hP hD hK hS ⟨⟨_, rfl⟩, trivial⟩ (Nat.le_of_ble_eq_true rfl) (Nat.le_of_ble_eq_true rfl) dX10_about_116
            · have nc_33 := ne_i c_33
              have lc_33 : (0 : Int32).toInt = 0 := by decide
              refine lv_iconst (v := 1) hx hb dX10_about_111 (by decide) ?_
              refine lv_goto (tgt := 116) hx hb dX10_about_112 (by decide) ?_
              exact M_i hx hb hr hlocks (x0_16) hP hD hK hS ⟨⟨_, rfl⟩, trivial⟩ (Nat.le_of_ble_eq_true rfl) (Nat.le_of_ble_eq_true rfl) dX10_about_116
          by_cases c_34 : wt = 5
          · refine lv_tableIn (tgt := 117) hx hb dX10_about_34 (by rw [c_34]; decide) (by rw [c_34]; decide) (by rw [c_34]; rfl) (by decide) ?_
            refine lv_aload_n hx hb dX10_about_117 rfl (lv_at hl 0 rfl) ?_
            refine va_get (D := (dC, dI)) (ci := 10) (v := .ref (b 16)) (C := RX10) (T := TX10) (N := 51) hx hb hts inw_X10_about_10 hown hK hP 0 rfl rfl 16 (by decide) (hts (.fieldLink RX10 44 "VatHouseModel" "day" "[I") (by decide +kernel)) (fun _ h9 => h9) rfl dX10_about_118 ?_
            refine lv_iload_n hx hb dX10_about_121 rfl (lv_at hl 1 rfl) ?_
            refine va_iald hx hb hK hP 12 11 rfl rfl (by assumption) dX10_about_122 ?_
            refine lv_topi (fun z_35 ez_35 => ?_)
            have ez_35 : z_35 = (a 16) ck.toNatClampNeg := ez_35
            exact M_i hx hb hr hlocks (x0_16) hP hD hK hS ⟨⟨_, rfl⟩, trivial⟩ (Nat.le_of_ble_eq_true rfl) (Nat.le_of_ble_eq_true rfl) dX10_about_123
          by_cases c_36 : wt = 6
          · refine lv_tableIn (tgt := 124) hx hb dX10_about_34 (by rw [c_36]; decide) (by rw [c_36]; decide) (by rw [c_36]; rfl) (by decide) ?_
            refine lv_aload_n hx hb dX10_about_124 rfl (lv_at hl 0 rfl) ?_
            refine va_get (D := (dC, dI)) (ci := 10) (v := .ref (b 17)) (C := RX10) (T := TX10) (N := 51) hx hb hts inw_X10_about_10 hown hK hP 0 rfl rfl 17 (by decide) (hts (.fieldLink RX10 47 "VatHouseModel" "vats" "[I") (by decide +kernel)) (fun _ h9 => h9) rfl dX10_about_125 ?_
            refine lv_iload_n hx hb dX10_about_128 rfl (lv_at hl 1 rfl) ?_
            refine va_iald hx hb hK hP 13 12 rfl rfl (by assumption) dX10_about_129 ?_
            refine lv_topi (fun z_37 ez_37 => ?_)
            have ez_37 : z_37 = (a 17) ck.toNatClampNeg := ez_37
            exact M_i hx hb hr hlocks (x0_16) hP hD hK hS ⟨⟨_, rfl⟩, trivial⟩ (Nat.le_of_ble_eq_true rfl) (Nat.le_of_ble_eq_true rfl) dX10_about_130
          refine lv_tableOut (tgt := 131) hx hb dX10_about_34 (tab_out7 c_21 c_23 c_25 c_27 c_30 c_34 c_36) (by decide) ?_
          refine lv_aload_n hx hb dX10_about_131 rfl (lv_at hl 0 rfl) ?_
          refine va_get (D := (dC, dI)) (ci := 10) (v := .ref (b 18)) (C := RX10) (T := TX10) (N := 51) hx hb hts inw_X10_about_10 hown hK hP 0 rfl rfl 18 (by decide) (hts (.fieldLink RX10 50 "VatHouseModel" "often" "[I") (by decide +kernel)) (fun _ h9 => h9) rfl dX10_about_132 ?_
          refine lv_iload_n hx hb dX10_about_135 rfl (lv_at hl 1 rfl) ?_
          refine va_iald hx hb hK hP 14 13 rfl rfl (by assumption) dX10_about_136 ?_
          refine lv_topi (fun z_38 ez_38 => ?_)
          have ez_38 : z_38 = (a 18) ck.toNatClampNeg := ez_38
          exact M_i hx hb hr hlocks (x0_16) hP hD hK hS ⟨⟨_, rfl⟩, trivial⟩ (Nat.le_of_ble_eq_true rfl) (Nat.le_of_ble_eq_true rfl) dX10_about_137

abbrev rm_X10_count : Room := { frames := 1, cells := 0, slots := 0, locals := 22 }
theorem inw_X10_count_10 : ∀ w ∈ wsX100, w ∈ wsX10_count := by decide +kernel
set_option maxHeartbeats 1000000 in
set_option maxRecDepth 100000 in
theorem m_X10_count (l : Launch) (dC : Nat → ClassId) (dI : Nat → Nat → Nat) (sa : Nat → Nat) (g : Nat → Nat) (h0 : Nat) (b : Nat → Nat) (i : Nat → Int32) (a : Nat → Nat → Int32) (wt : Int32) (sz : Nat) : CT l dC dI sa yX10_count wsX10_count rm_X10_count [.ref h0, .int wt] (mw g h0 b i a) (tyM g) sz (fun (r : Option Value) (x0 : Int32) => (∃ z : Int32, r = some (.int z)) ∧ (True)) (fun (x0 : Int32) => mw g h0 b (va_up i 0 x0) a) (fun _ => []) 0 0 := by
  refine CT.start (cc := cX10_count) (maxL := 2) (ret := (some .int)) (by decide) rfl (Nat.le_of_ble_eq_true rfl) ?_
  intro p e s m below meth c ls hst hP hK hD hev hS hl
  obtain ⟨hx, hb, hr, hml, hts, hown, hlocks, hin⟩ := hst
  have hown : s.vm.findClass RX10 = some m.cls := hown
  have hA : ∀ q : Nat, s.heap.size ≤ q → va_A (mw g h0 b i a) s.heap.size q := fun _ h => Or.inr h
  have hl : lv_has ls 2 [(0, .ref h0), (1, .int wt)] := hl
  refine lv_aload_n hx hb dX10_count_0 rfl (lv_at hl 0 rfl) ?_
  refine lv_iconst (v := 0) hx hb dX10_count_1 (by decide) ?_
  refine va_put (D := (dC, dI)) (ci := 10) (v := .int 0) (ty := .int) (C := RX10) (T := TX10) (N := 51) hx hb hts inw_X10_count_10 tyX10 tyX10_ok nmX10 hown hK hP hD hS 0 rfl rfl 0 (by decide) (hts (.fieldLink RX10 105 "VatHouseModel" "thrown" "I") (by decide +kernel)) (fun _ h9 => h9) rfl (by decide +kernel) rfl rfl (Nat.le_of_ble_eq_true rfl) dX10_count_2 (fun H locs hP hD hS => ?_)
  have hP : va_P (dC, dI) vwCl (mw g h0 b (va_up i 0 (0 : Int32)) a) _ := hP
  have hD : va_D _ (mw g h0 b (va_up i 0 (0 : Int32)) a) := hD
  refine lv_aload_n hx hb dX10_count_5 rfl (lv_at hl 0 rfl) ?_
  refine lv_iload_n hx hb dX10_count_6 rfl (lv_at hl 1 rfl) ?_
  refine lv_if_lt (tgt := 19) hx hb dX10_count_7 (by decide) (fun c_1 => ?_) (fun c_1 => ?_)
  · have nc_1 := lt_i c_1
    have lc_1 : (0 : Int32).toInt = 0 := by decide
    refine lv_iconst (v := 0) hx hb dX10_count_19 (by decide) ?_
    refine lv_iconst (v := 1) hx hb dX10_count_20 (by decide) ?_
    refine M_V ⟨hx, hb, hml, hown, hts⟩ (m_X10_right l dC dI sa g h0 b (va_up i 0 (0 : Int32)) a (0 : Int32) (1 : Int32) _ (by decide)) (cwV 2 hts gX10_count_X10_right rfl rfl rfl (by decide +kernel) ⟨Nat.le_of_ble_eq_true rfl, Nat.le_of_ble_eq_true rfl⟩) hP hD hK hS hA hev rfl rfl rfl rfl hl.1 rfl (Nat.le_of_ble_eq_true rfl) dX10_count_21 ⟨(Nat.le_of_ble_eq_true rfl), (Nat.le_of_ble_eq_true rfl)⟩ (fun r u H locs hw hP hD hS => ?_)
    obtain ⟨x0_2, rfl⟩ : ∃ z, z = u := ⟨_, rfl⟩
    have hw : ((r = some (.int 0) ∧ (True)) ∨ (r = some (.int 1) ∧ (¬ (0 : Int32) = 0))) ∧ (True) := hw
    obtain ⟨⟨rfl, hz2_4⟩ | ⟨rfl, hz2_4⟩, hw_3⟩ := hw
    · have hP : va_P (dC, dI) vwCl (mw g h0 b (va_up i 0 x0_2) a) _ := hP
      have hD : va_D _ (mw g h0 b (va_up i 0 x0_2) a) := hD
      refine W.eq (g2 := F0 m 24 ls [.int 0]) rfl ?_
      refine lv_if_ne (tgt := 29) hx hb dX10_count_24 (by decide) (fun c_5 => absurd c_5 (by decide)) (fun _ => ?_)
      refine lv_iconst (v := 0) hx hb dX10_count_27 (by decide) ?_
      exact M_i hx hb hr hlocks (x0_2) hP hD hK hS ⟨⟨_, rfl⟩, trivial⟩ (Nat.le_of_ble_eq_true rfl) (Nat.le_of_ble_eq_true rfl) dX10_count_28
    · have hP : va_P (dC, dI) vwCl (mw g h0 b (va_up i 0 x0_2) a) _ := hP
      have hD : va_D _ (mw g h0 b (va_up i 0 x0_2) a) := hD
      refine W.eq (g2 := F0 m 24 ls [.int 1]) rfl ?_
      exact absurd rfl hz2_4
  · have nc_1 := nlt_i c_1
    have lc_1 : (0 : Int32).toInt = 0 := by decide
    refine lv_iload_n hx hb dX10_count_10 rfl (lv_at hl 1 rfl) ?_
    refine lv_iconst (v := 5) hx hb dX10_count_11 (by decide) ?_
    refine lv_icmp_gt (tgt := 19) hx hb dX10_count_12 (by decide) (fun c_6 => ?_) (fun c_6 => ?_)
    · have nc_6 := lt_i c_6
      have lc_6 : (5 : Int32).toInt = 5 := by decide
      refine lv_iconst (v := 0) hx hb dX10_count_19 (by decide) ?_
      refine lv_iconst (v := 1) hx hb dX10_count_20 (by decide) ?_
      refine M_V ⟨hx, hb, hml, hown, hts⟩ (m_X10_right l dC dI sa g h0 b (va_up i 0 (0 : Int32)) a (0 : Int32) (1 : Int32) _ (by decide)) (cwV 2 hts gX10_count_X10_right rfl rfl rfl (by decide +kernel) ⟨Nat.le_of_ble_eq_true rfl, Nat.le_of_ble_eq_true rfl⟩) hP hD hK hS hA hev rfl rfl rfl rfl hl.1 rfl (Nat.le_of_ble_eq_true rfl) dX10_count_21 ⟨(Nat.le_of_ble_eq_true rfl), (Nat.le_of_ble_eq_true rfl)⟩ (fun r u H locs hw hP hD hS => ?_)
      obtain ⟨x0_7, rfl⟩ : ∃ z, z = u := ⟨_, rfl⟩
      have hw : ((r = some (.int 0) ∧ (True)) ∨ (r = some (.int 1) ∧ (¬ (0 : Int32) = 0))) ∧ (True) := hw
      obtain ⟨⟨rfl, hz2_9⟩ | ⟨rfl, hz2_9⟩, hw_8⟩ := hw
      · have hP : va_P (dC, dI) vwCl (mw g h0 b (va_up i 0 x0_7) a) _ := hP
        have hD : va_D _ (mw g h0 b (va_up i 0 x0_7) a) := hD
        refine W.eq (g2 := F0 m 24 ls [.int 0]) rfl ?_
        refine lv_if_ne (tgt := 29) hx hb dX10_count_24 (by decide) (fun c_10 => absurd c_10 (by decide)) (fun _ => ?_)
        refine lv_iconst (v := 0) hx hb dX10_count_27 (by decide) ?_
        exact M_i hx hb hr hlocks (x0_7) hP hD hK hS ⟨⟨_, rfl⟩, trivial⟩ (Nat.le_of_ble_eq_true rfl) (Nat.le_of_ble_eq_true rfl) dX10_count_28
      · have hP : va_P (dC, dI) vwCl (mw g h0 b (va_up i 0 x0_7) a) _ := hP
        have hD : va_D _ (mw g h0 b (va_up i 0 x0_7) a) := hD
        refine W.eq (g2 := F0 m 24 ls [.int 1]) rfl ?_
        exact absurd rfl hz2_9
    · have nc_6 := nlt_i c_6
      have lc_6 : (5 : Int32).toInt = 5 := by decide
      refine lv_iconst (v := 1) hx hb dX10_count_15 (by decide) ?_
      refine lv_goto (tgt := 20) hx hb dX10_count_16 (by decide) ?_
      refine lv_iconst (v := 1) hx hb dX10_count_20 (by decide) ?_
      refine M_V ⟨hx, hb, hml, hown, hts⟩ (m_X10_right l dC dI sa g h0 b (va_up i 0 (0 : Int32)) a (1 : Int32) (1 : Int32) _ (by decide)) (cwV 2 hts gX10_count_X10_right rfl rfl rfl (by decide +kernel) ⟨Nat.le_of_ble_eq_true rfl, Nat.le_of_ble_eq_true rfl⟩) hP hD hK hS hA hev rfl rfl rfl rfl hl.1 rfl (Nat.le_of_ble_eq_true rfl) dX10_count_21 ⟨(Nat.le_of_ble_eq_true rfl), (Nat.le_of_ble_eq_true rfl)⟩ (fun r u H locs hw hP hD hS => ?_)
      obtain ⟨x0_11, rfl⟩ : ∃ z, z = u := ⟨_, rfl⟩
      have hw : ((r = some (.int 0) ∧ (True)) ∨ (r = some (.int 1) ∧ (¬ (1 : Int32) = 0))) ∧ (True) := hw
      obtain ⟨⟨rfl, hz2_13⟩ | ⟨rfl, hz2_13⟩, hw_12⟩ := hw
      · have hP : va_P (dC, dI) vwCl (mw g h0 b (va_up i 0 x0_11) a) _ := hP
        have hD : va_D _ (mw g h0 b (va_up i 0 x0_11) a) := hD
        refine W.eq (g2 := F0 m 24 ls [.int 0]) rfl ?_
        refine lv_if_ne (tgt := 29) hx hb dX10_count_24 (by decide) (fun c_14 => absurd c_14 (by decide)) (fun _ => ?_)
        refine lv_iconst (v := 0) hx hb dX10_count_27 (by decide) ?_
        exact M_i hx hb hr hlocks (x0_11) hP hD hK hS ⟨⟨_, rfl⟩, trivial⟩ (Nat.le_of_ble_eq_true rfl) (Nat.le_of_ble_eq_true rfl) dX10_count_28
      · have hP : va_P (dC, dI) vwCl (mw g h0 b (va_up i 0 x0_11) a) _ := hP
        have hD : va_D _ (mw g h0 b (va_up i 0 x0_11) a) := hD
        refine W.eq (g2 := F0 m 24 ls [.int 1]) rfl ?_
        refine lv_if_ne (tgt := 29) hx hb dX10_count_24 (by decide) (fun _ => ?_) (fun c_15 => absurd c_15 (by decide))
        refine lv_iload_n hx hb dX10_count_29 rfl (lv_at hl 1 rfl) ?_
        by_cases c_16 : wt = 0
        · refine lv_tableIn (tgt := 64) hx hb dX10_count_30 (by rw [c_16]; decide) (by rw [c_16]; decide) (by rw [c_16]; rfl) (by decide) ?_
          refine lv_aload_n hx hb dX10_count_64 rfl (lv_at hl 0 rfl) ?_
          refine va_get (D := (dC, dI)) (ci := 10) (v := .int (i 1)) (C := RX10) (T := TX10) (N := 51) hx hb hts inw_X10_count_10 hown hK hP 0 rfl rfl 1 (by decide) (hts (.fieldLink RX10 131 "VatHouseModel" "hours" "I") (by decide +kernel)) (fun _ h9 => h9) rfl dX10_count_65 ?_
          exact M_i hx hb hr hlocks (x0_11) hP hD hK hS ⟨⟨_, rfl⟩, trivial⟩ (Nat.le_of_ble_eq_true rfl) (Nat.le_of_ble_eq_true rfl) dX10_count_68
        by_cases c_17 : wt = 1
        · refine lv_tableIn (tgt := 69) hx hb dX10_count_30 (by rw [c_17]; decide) (by rw [c_17]; decide) (by rw [c_17]; rfl) (by decide) ?_
          refine lv_aload_n hx hb dX10_count_69 rfl (lv_at hl 0 rfl) ?_
          refine va_get (D := (dC, dI)) (ci := 10) (v := .int (i 2)) (C := RX10) (T := TX10) (N := 51) hx hb hts inw_X10_count_10 hown hK hP 0 rfl rfl 2 (by decide) (hts (.fieldLink RX10 149 "VatHouseModel" "drain" "I") (by decide +kernel)) (fun _ h9 => h9) rfl dX10_count_70 ?_
          exact M_i hx hb hr hlocks (x0_11) hP hD hK hS ⟨⟨_, rfl⟩, trivial⟩ (Nat.le_of_ble_eq_true rfl) (Nat.le_of_ble_eq_true rfl) dX10_count_73
        by_cases c_18 : wt = 2
        · refine lv_tableIn (tgt := 74) hx hb dX10_count_30 (by rw [c_18]; decide) (by rw [c_18]; decide) (by rw [c_18]; rfl) (by decide) ?_
          refine lv_aload_n hx hb dX10_count_74 rfl (lv_at hl 0 rfl) ?_
          refine va_get (D := (dC, dI)) (ci := 10) (v := .int (i 12)) (C := RX10) (T := TX10) (N := 51) hx hb hts inw_X10_count_10 hown hK hP 0 rfl rfl 12 (by decide) (hts (.fieldLink RX10 112 "VatHouseModel" "cloths" "I") (by decide +kernel)) (fun _ h9 => h9) rfl dX10_count_75 ?_
          exact M_i hx hb hr hlocks (x0_11) hP hD hK hS ⟨⟨_, rfl⟩, trivial⟩ (Nat.le_of_ble_eq_true rfl) (Nat.le_of_ble_eq_true rfl) dX10_count_78
        by_cases c_19 : wt = 3
        · refine lv_tableIn (tgt := 79) hx hb dX10_count_30 (by rw [c_19]; decide) (by rw [c_19]; decide) (by rw [c_19]; rfl) (by decide) ?_
          refine lv_aload_n hx hb dX10_count_79 rfl (lv_at hl 0 rfl) ?_
          refine va_get (D := (dC, dI)) (ci := 10) (v := .int (i 3)) (C := RX10) (T := TX10) (N := 51) hx hb hts inw_X10_count_10 hown hK hP 0 rfl rfl 3 (by decide) (hts (.fieldLink RX10 120 "VatHouseModel" "put" "I") (by decide +kernel)) (fun _ h9 => h9) rfl dX10_count_80 ?_
          exact M_i hx hb hr hlocks (x0_11) hP hD hK hS ⟨⟨_, rfl⟩, trivial⟩ (Nat.le_of_ble_eq_true rfl) (Nat.le_of_ble_eq_true rfl) dX10_count_83
        by_cases c_20 : wt = 4
        · refine lv_tableIn (tgt := 84) hx hb dX10_count_30 (by rw [c_20]; decide) (by rw [c_20]; decide) (by rw [c_20]; rfl) (by decide) ?_
          refine lv_aload_n hx hb dX10_count_84 rfl (lv_at hl 0 rfl) ?_
          refine va_get (D := (dC, dI)) (ci := 10) (v := .int (i 20)) (C := RX10) (T := TX10) (N := 51) hx hb hts inw_X10_count_10 hown hK hP 0 rfl rfl 20 (by decide) (hts (.fieldLink RX10 159 "VatHouseModel" "taped" "I") (by decide +kernel)) (fun _ h9 => h9) rfl dX10_count_85 ?_
          exact M_i hx hb hr hlocks (x0_11) hP hD hK hS ⟨⟨_, rfl⟩, trivial⟩ (Nat.le_of_ble_eq_true rfl) (Nat.le_of_ble_eq_true rfl) dX10_count_88
        refine lv_tableOut (tgt := 89) hx hb dX10_count_30 (tab_out5 c_16 c_17 c_18 c_19 c_20) (by decide) ?_
        refine lv_aload_n hx hb dX10_count_89 rfl (lv_at hl 0 rfl) ?_
        refine va_get (D := (dC, dI)) (ci := 10) (v := .int (i 37)) (C := RX10) (T := TX10) (N := 51) hx hb hts inw_X10_count_10 hown hK hP 0 rfl rfl 37 (by decide) (hts (.fieldLink RX10 284 "VatHouseModel" "latest" "I") (by decide +kernel)) (fun _ h9 => h9) rfl dX10_count_90 ?_
        exact M_i hx hb hr hlocks (x0_11) hP hD hK hS ⟨⟨_, rfl⟩, trivial⟩ (Nat.le_of_ble_eq_true rfl) (Nat.le_of_ble_eq_true rfl) dX10_count_93

abbrev rm_X10_hasSpan : Room := { frames := 1, cells := 0, slots := 0, locals := 21 }
theorem inw_X10_hasSpan_10 : ∀ w ∈ wsX100, w ∈ wsX10_hasSpan := by decide +kernel
set_option maxHeartbeats 1000000 in
set_option maxRecDepth 100000 in
theorem m_X10_hasSpan (l : Launch) (dC : Nat → ClassId) (dI : Nat → Nat → Nat) (sa : Nat → Nat) (g : Nat → Nat) (h0 : Nat) (b : Nat → Nat) (i : Nat → Int32) (a : Nat → Nat → Int32) (ck : Int32) (dy : Int32) (sz : Nat) (hc30 : vp_in ck 30) : CT l dC dI sa yX10_hasSpan wsX10_hasSpan rm_X10_hasSpan [.ref h0, .int ck, .int dy] (mw g h0 b i a) (tyM g) sz (fun (r : Option Value) (_ : Unit) => (∃ z : Int32, r = some (.int z) ∧ (z = 0 ∨ z = 1)) ∧ (True)) (fun (_ : Unit) => mw g h0 b i a) (fun _ => []) 0 0 := by
  refine CT.start (cc := cX10_hasSpan) (maxL := 3) (ret := (some .boolean)) (by decide) rfl (Nat.le_of_ble_eq_true rfl) ?_
  intro p e s m below meth c ls hst hP hK hD hev hS hl
  obtain ⟨hx, hb, hr, hml, hts, hown, hlocks, hin⟩ := hst
  have hown : s.vm.findClass RX10 = some m.cls := hown
  have hA : ∀ q : Nat, s.heap.size ≤ q → va_A (mw g h0 b i a) s.heap.size q := fun _ h => Or.inr h
  have hl : lv_has ls 3 [(0, .ref h0), (1, .int ck), (2, .int dy)] := hl
  refine lv_aload_n hx hb dX10_hasSpan_0 rfl (lv_at hl 0 rfl) ?_
  refine lv_iload_n hx hb dX10_hasSpan_1 rfl (lv_at hl 1 rfl) ?_
  refine M_V ⟨hx, hb, hml, hown, hts⟩ (m_X10_isDry l dC dI sa g h0 b i a ck _ hc30) (cwV 1 hts gX10_hasSpan_X10_isDry rfl rfl rfl (by decide +kernel) ⟨Nat.le_of_ble_eq_true rfl, Nat.le_of_ble_eq_true rfl⟩) hP hD hK hS hA hev rfl rfl rfl rfl hl.1 rfl (Nat.le_of_ble_eq_true rfl) dX10_hasSpan_2 ⟨(Nat.le_of_ble_eq_true rfl), (Nat.le_of_ble_eq_true rfl)⟩ (fun r u H locs hw hP hD hS => ?_)
  have hw : (∃ z : Int32, r = some (.int z) ∧ (z = 0 ∨ z = 1)) ∧ (True) := hw
  obtain ⟨⟨z_2, rfl, hz_z_2⟩, hw_1⟩ := hw
  have hP : va_P (dC, dI) vwCl (mw g h0 b i a) _ := hP
  have hD : va_D _ (mw g h0 b i a) := hD
  refine W.eq (g2 := F0 m 5 ls [.int z_2]) rfl ?_
  refine lv_if_eq (tgt := 22) hx hb dX10_hasSpan_5 (by decide) (fun c_3 => ?_) (fun c_3 => ?_)
  · have nc_3 := eq_i c_3
    have lc_3 : (0 : Int32).toInt = 0 := by decide
    refine lv_iconst (v := 0) hx hb dX10_hasSpan_22 (by decide) ?_
    exact M_z hx hb hr rfl hlocks () hP hD hK hS ⟨⟨_, rfl, Or.inl rfl⟩, trivial⟩ (Nat.le_of_ble_eq_true rfl) (Nat.le_of_ble_eq_true rfl) dX10_hasSpan_23
  · have nc_3 := ne_i c_3
    have lc_3 : (0 : Int32).toInt = 0 := by decide
    refine lv_aload_n hx hb dX10_hasSpan_8 rfl (lv_at hl 0 rfl) ?_
    refine va_get (D := (dC, dI)) (ci := 10) (v := .ref (b 16)) (C := RX10) (T := TX10) (N := 51) hx hb hts inw_X10_hasSpan_10 hown hK hP 0 rfl rfl 16 (by decide) (hts (.fieldLink RX10 44 "VatHouseModel" "day" "[I") (by decide +kernel)) (fun _ h9 => h9) rfl dX10_hasSpan_9 ?_
    refine lv_iload_n hx hb dX10_hasSpan_12 rfl (lv_at hl 1 rfl) ?_
    refine va_iald hx hb hK hP 12 11 rfl rfl (by assumption) dX10_hasSpan_13 ?_
    refine lv_topi (fun z_4 ez_4 => ?_)
    have ez_4 : z_4 = (a 16) ck.toNatClampNeg := ez_4
    refine lv_iload_n hx hb dX10_hasSpan_14 rfl (lv_at hl 2 rfl) ?_
    refine lv_icmp_gt (tgt := 22) hx hb dX10_hasSpan_15 (by decide) (fun c_5 => ?_) (fun c_5 => ?_)
    · have nc_5 := lt_i c_5
      refine lv_iconst (v := 0) hx hb dX10_hasSpan_22 (by decide) ?_
      exact M_z hx hb hr rfl hlocks () hP hD hK hS ⟨⟨_, rfl, Or.inl rfl⟩, trivial⟩ (Nat.le_of_ble_eq_true rfl) (Nat.le_of_ble_eq_true rfl) dX10_hasSpan_23
    · have nc_5 := nlt_i c_5
      refine lv_iconst (v := 1) hx hb dX10_hasSpan_18 (by decide) ?_
      refine lv_goto (tgt := 23) hx hb dX10_hasSpan_19 (by decide) ?_
      exact M_z hx hb hr rfl hlocks () hP hD hK hS ⟨⟨_, rfl, Or.inr rfl⟩, trivial⟩ (Nat.le_of_ble_eq_true rfl) (Nat.le_of_ble_eq_true rfl) dX10_hasSpan_23

abbrev rm_X10_fadedTo : Room := { frames := 1, cells := 0, slots := 0, locals := 21 }
theorem inw_X10_fadedTo_10 : ∀ w ∈ wsX100, w ∈ wsX10_fadedTo := by decide +kernel
set_option maxHeartbeats 1000000 in
set_option maxRecDepth 100000 in
theorem m_X10_fadedTo (l : Launch) (dC : Nat → ClassId) (dI : Nat → Nat → Nat) (sa : Nat → Nat) (g : Nat → Nat) (h0 : Nat) (b : Nat → Nat) (i : Nat → Int32) (a : Nat → Nat → Int32) (ck : Int32) (dy : Int32) (wt : Int32) (sz : Nat) (hc30 : vp_in ck 30) (hwt : 1 ≤ ((a 13) ck.toNatClampNeg).toInt ∧ ((a 13) ck.toNatClampNeg).toInt ≤ 50) : CT l dC dI sa yX10_fadedTo wsX10_fadedTo rm_X10_fadedTo [.ref h0, .int ck, .int dy, .int wt] (mw g h0 b i a) (tyM g) sz (fun (r : Option Value) (_ : Unit) => (∃ z : Int32, r = some (.int z)) ∧ (True)) (fun (_ : Unit) => mw g h0 b i a) (fun _ => []) 0 0 := by
  refine CT.start (cc := cX10_fadedTo) (maxL := 6) (ret := (some .int)) (by decide) rfl (Nat.le_of_ble_eq_true rfl) ?_
  intro p e s m below meth c ls hst hP hK hD hev hS hl
  obtain ⟨hx, hb, hr, hml, hts, hown, hlocks, hin⟩ := hst
  have hown : s.vm.findClass RX10 = some m.cls := hown
  have hA : ∀ q : Nat, s.heap.size ≤ q → va_A (mw g h0 b i a) s.heap.size q := fun _ h => Or.inr h
  have hl : lv_has ls 6 [(0, .ref h0), (1, .int ck), (2, .int dy), (3, .int wt)] := hl
  refine lv_iload_n hx hb dX10_fadedTo_0 rfl (lv_at hl 2 rfl) ?_
  refine lv_aload_n hx hb dX10_fadedTo_1 rfl (lv_at hl 0 rfl) ?_
  refine va_get (D := (dC, dI)) (ci := 10) (v := .ref (b 16)) (C := RX10) (T := TX10) (N := 51) hx hb hts inw_X10_fadedTo_10 hown hK hP 0 rfl rfl 16 (by decide) (hts (.fieldLink RX10 44 "VatHouseModel" "day" "[I") (by decide +kernel)) (fun _ h9 => h9) rfl dX10_fadedTo_2 ?_
  refine lv_iload_n hx hb dX10_fadedTo_5 rfl (lv_at hl 1 rfl) ?_
  refine va_iald hx hb hK hP 12 11 rfl rfl (by assumption) dX10_fadedTo_6 ?_
  refine lv_topi (fun z_1 ez_1 => ?_)
  have ez_1 : z_1 = (a 16) ck.toNatClampNeg := ez_1
  refine lv_isub hx hb dX10_fadedTo_7 ?_
  refine lv_topi (fun z_2 ez_2 => ?_)
  refine lv_istore (lv' := [(4, .int z_2), (0, .ref h0), (1, .int ck), (2, .int dy), (3, .int wt)]) hx hb dX10_fadedTo_8 hl (by decide) rfl (fun ls hl => ?_)
  refine lv_aload_n hx hb dX10_fadedTo_10 rfl (lv_at hl 1 rfl) ?_
  refine lv_iload_n hx hb dX10_fadedTo_11 rfl (lv_at hl 2 rfl) ?_
  refine M_V ⟨hx, hb, hml, hown, hts⟩ (m_X10_shadeOf l dC dI sa g h0 b i a ck _ hc30 hwt) (cwV 1 hts gX10_fadedTo_X10_shadeOf rfl rfl rfl (by decide +kernel) ⟨Nat.le_of_ble_eq_true rfl, Nat.le_of_ble_eq_true rfl⟩) hP hD hK hS hA hev rfl rfl rfl rfl hl.1 rfl (Nat.le_of_ble_eq_true rfl) dX10_fadedTo_12 ⟨(Nat.le_of_ble_eq_true rfl), (Nat.le_of_ble_eq_true rfl)⟩ (fun r u H locs hw hP hD hS => ?_)
  have hw : (∃ z : Int32, r = some (.int z)) ∧ (True) := hw
  obtain ⟨⟨z_4, rfl⟩, hw_3⟩ := hw
  have hP : va_P (dC, dI) vwCl (mw g h0 b i a) _ := hP
  have hD : va_D _ (mw g h0 b i a) := hD
  refine W.eq (g2 := F0 m 15 ls [.int z_4]) rfl ?_
  refine lv_iload_n hx hb dX10_fadedTo_15 rfl (lv_at hl 4 rfl) ?_
  refine lv_if_ne (tgt := 29) hx hb dX10_fadedTo_16 (by decide) (fun c_5 => ?_) (fun c_5 => ?_)
  · have nc_5 := ne_i c_5
    have lc_5 : (0 : Int32).toInt = 0 := by decide
    refine lv_iload hx hb dX10_fadedTo_29 (lv_at hl 0 rfl) ?_
    refine lv_bipush (v := 100) hx hb dX10_fadedTo_31 (by decide) ?_
    refine lv_idiv hx hb dX10_fadedTo_33 (by decide) ?_
    refine lv_topi (fun z_6 ez_6 => ?_)
    refine lv_isub hx hb dX10_fadedTo_34 ?_
    refine lv_topi (fun z_7 ez_7 => ?_)
    refine lv_istore (lv' := [(5, .int z_7), (4, .int z_2), (0, .ref h0), (1, .int ck), (2, .int dy), (3, .int wt)]) hx hb dX10_fadedTo_35 hl (by decide) rfl (fun ls hl => ?_)
    refine lv_iload hx hb dX10_fadedTo_37 (lv_at hl 0 rfl) ?_
    refine lv_if_le (tgt := 47) hx hb dX10_fadedTo_39 (by decide) (fun c_8 => ?_) (fun c_8 => ?_)
    · have nc_8 := le_i c_8
      have lc_8 : (0 : Int32).toInt = 0 := by decide
      refine lv_iconst (v := 0) hx hb dX10_fadedTo_47 (by decide) ?_
      exact M_i hx hb hr hlocks () hP hD hK hS ⟨⟨_, rfl⟩, trivial⟩ (Nat.le_of_ble_eq_true rfl) (Nat.le_of_ble_eq_true rfl) dX10_fadedTo_48
    · have nc_8 := nle_i c_8
      have lc_8 : (0 : Int32).toInt = 0 := by decide
      refine lv_iload hx hb dX10_fadedTo_42 (lv_at hl 0 rfl) ?_
      refine lv_goto (tgt := 48) hx hb dX10_fadedTo_44 (by decide) ?_
      exact M_i hx hb hr hlocks () hP hD hK hS ⟨⟨_, rfl⟩, trivial⟩ (Nat.le_of_ble_eq_true rfl) (Nat.le_of_ble_eq_true rfl) dX10_fadedTo_48
  · have nc_5 := eq_i c_5
    have lc_5 : (0 : Int32).toInt = 0 := by decide
    refine lv_iconst (v := 3) hx hb dX10_fadedTo_19 (by decide) ?_
    refine lv_iload hx hb dX10_fadedTo_20 (lv_at hl 0 rfl) ?_
    refine lv_imul hx hb dX10_fadedTo_22 ?_
    refine lv_topi (fun z_9 ez_9 => ?_)
    refine lv_bipush (v := 100) hx hb dX10_fadedTo_23 (by decide) ?_
    refine lv_idiv hx hb dX10_fadedTo_25 (by decide) ?_
    refine lv_topi (fun z_10 ez_10 => ?_)
    refine lv_goto (tgt := 34) hx hb dX10_fadedTo_26 (by decide) ?_
    refine lv_isub hx hb dX10_fadedTo_34 ?_
    refine lv_topi (fun z_11 ez_11 => ?_)
    refine lv_istore (lv' := [(5, .int z_11), (4, .int z_2), (0, .ref h0), (1, .int ck), (2, .int dy), (3, .int wt)]) hx hb dX10_fadedTo_35 hl (by decide) rfl (fun ls hl => ?_)
    refine lv_iload hx hb dX10_fadedTo_37 (lv_at hl 0 rfl) ?_
    refine lv_if_le (tgt := 47) hx hb dX10_fadedTo_39 (by decide) (fun c_12 => ?_) (fun c_12 => ?_)
    · have nc_12 := le_i c_12
      have lc_12 : (0 : Int32).toInt = 0 := by decide
      refine lv_iconst (v := 0) hx hb dX10_fadedTo_47 (by decide) ?_
      exact M_i hx hb hr hlocks () hP hD hK hS ⟨⟨_, rfl⟩, trivial⟩ (Nat.le_of_ble_eq_true rfl) (Nat.le_of_ble_eq_true rfl) dX10_fadedTo_48
    · have nc_12 := nle_i c_12
      have lc_12 : (0 : Int32).toInt = 0 := by decide
      refine lv_iload hx hb dX10_fadedTo_42 (lv_at hl 0 rfl) ?_
      refine lv_goto (tgt := 48) hx hb dX10_fadedTo_44 (by decide) ?_
      exact M_i hx hb hr hlocks () hP hD hK hS ⟨⟨_, rfl⟩, trivial⟩ (Nat.le_of_ble_eq_true rfl) (Nat.le_of_ble_eq_true rfl) dX10_fadedTo_48

abbrev rm_X10_faded : Room := { frames := 2, cells := 0, slots := 0, locals := 46 }
set_option maxHeartbeats 1000000 in
set_option maxRecDepth 100000 in
theorem m_X10_faded (l : Launch) (dC : Nat → ClassId) (dI : Nat → Nat → Nat) (sa : Nat → Nat) (g : Nat → Nat) (h0 : Nat) (b : Nat → Nat) (i : Nat → Int32) (a : Nat → Nat → Int32) (ck : Int32) (dy : Int32) (wt : Int32) (sz : Nat) (hCI : CI (i 12) (a 13)) : CT l dC dI sa yX10_faded wsX10_faded rm_X10_faded [.ref h0, .int ck, .int dy, .int wt] (mw g h0 b i a) (tyM g) sz (fun (r : Option Value) (x0 : Int32) => (∃ z : Int32, r = some (.int z)) ∧ (True)) (fun (x0 : Int32) => mw g h0 b (va_up i 0 x0) a) (fun _ => []) 0 0 := by
  refine CT.start (cc := cX10_faded) (maxL := 4) (ret := (some .int)) (by decide) rfl (Nat.le_of_ble_eq_true rfl) ?_
  intro p e s m below meth c ls hst hP hK hD hev hS hl
  obtain ⟨hx, hb, hr, hml, hts, hown, hlocks, hin⟩ := hst
  have hown : s.vm.findClass RX10 = some m.cls := hown
  have hA : ∀ q : Nat, s.heap.size ≤ q → va_A (mw g h0 b i a) s.heap.size q := fun _ h => Or.inr h
  have hl : lv_has ls 4 [(0, .ref h0), (1, .int ck), (2, .int dy), (3, .int wt)] := hl
  refine lv_aload_n hx hb dX10_faded_0 rfl (lv_at hl 0 rfl) ?_
  refine lv_iload_n hx hb dX10_faded_1 rfl (lv_at hl 1 rfl) ?_
  refine M_V ⟨hx, hb, hml, hown, hts⟩ (m_X10_isCloth l dC dI sa g h0 b i a ck _ ) (cwV 1 hts gX10_faded_X10_isCloth rfl rfl rfl (by decide +kernel) ⟨Nat.le_of_ble_eq_true rfl, Nat.le_of_ble_eq_true rfl⟩) hP hD hK hS hA hev rfl rfl rfl rfl hl.1 rfl (Nat.le_of_ble_eq_true rfl) dX10_faded_2 ⟨(Nat.le_of_ble_eq_true rfl), (Nat.le_of_ble_eq_true rfl)⟩ (fun r u H locs hw hP hD hS => ?_)
  obtain ⟨x0_1, rfl⟩ : ∃ z, z = u := ⟨_, rfl⟩
  have hw : ((r = some (.int 0) ∧ (True)) ∨ (r = some (.int 1) ∧ (0 ≤ ck.toInt ∧ ck.toInt < (i 12).toInt))) ∧ (True) := hw
  obtain ⟨⟨rfl, hz2_3⟩ | ⟨rfl, hz2_3⟩, hw_2⟩ := hw
  · have hP : va_P (dC, dI) vwCl (mw g h0 b (va_up i 0 x0_1) a) _ := hP
    have hD : va_D _ (mw g h0 b (va_up i 0 x0_1) a) := hD
    refine W.eq (g2 := F0 m 5 ls [.int 0]) rfl ?_
    refine lv_if_eq (tgt := 40) hx hb dX10_faded_5 (by decide) (fun _ => ?_) (fun c_4 => absurd c_4 (by decide))
    refine lv_iconst (v := 0) hx hb dX10_faded_40 (by decide) ?_
    exact M_i hx hb hr hlocks (x0_1) hP hD hK hS ⟨⟨_, rfl⟩, trivial⟩ (Nat.le_of_ble_eq_true rfl) (Nat.le_of_ble_eq_true rfl) dX10_faded_41
  · have hP : va_P (dC, dI) vwCl (mw g h0 b (va_up i 0 x0_1) a) _ := hP
    have hD : va_D _ (mw g h0 b (va_up i 0 x0_1) a) := hD
    refine W.eq (g2 := F0 m 5 ls [.int 1]) rfl ?_
    obtain ⟨hc30, hwt⟩ := hCI.at hz2_3
    refine lv_if_eq (tgt := 40) hx hb dX10_faded_5 (by decide) (fun c_5 => absurd c_5 (by decide)) (fun _ => ?_)
    refine lv_aload_n hx hb dX10_faded_8 rfl (lv_at hl 0 rfl) ?_
    refine lv_iload_n hx hb dX10_faded_9 rfl (lv_at hl 3 rfl) ?_
    refine lv_if_eq (tgt := 18) hx hb dX10_faded_10 (by decide) (fun c_6 => ?_) (fun c_6 => ?_)
    · have nc_6 := eq_i c_6
      have lc_6 : (0 : Int32).toInt = 0 := by decide
      refine lv_iload_n hx hb dX10_faded_18 rfl (lv_at hl 2 rfl) ?_
      refine lv_if_lt (tgt := 32) hx hb dX10_faded_19 (by decide) (fun c_7 => ?_) (fun c_7 => ?_)
      · have nc_7 := lt_i c_7
        have lc_7 : (0 : Int32).toInt = 0 := by decide
        refine lv_iconst (v := 0) hx hb dX10_faded_32 (by decide) ?_
        refine lv_iconst (v := 2) hx hb dX10_faded_33 (by decide) ?_
        refine M_V ⟨hx, hb, hml, hown, hts⟩ (m_X10_right l dC dI sa g h0 b (va_up i 0 x0_1) a (0 : Int32) (2 : Int32) _ (by decide)) (cwV 2 hts gX10_faded_X10_right rfl rfl rfl (by decide +kernel) ⟨Nat.le_of_ble_eq_true rfl, Nat.le_of_ble_eq_true rfl⟩) hP hD hK hS hA hev rfl rfl rfl rfl hl.1 rfl (Nat.le_of_ble_eq_true rfl) dX10_faded_34 ⟨(Nat.le_of_ble_eq_true rfl), (Nat.le_of_ble_eq_true rfl)⟩ (fun r u H locs hw hP hD hS => ?_)
        obtain ⟨x0_8, rfl⟩ : ∃ z, z = u := ⟨_, rfl⟩
        have hw : ((r = some (.int 0) ∧ (True)) ∨ (r = some (.int 1) ∧ (¬ (0 : Int32) = 0))) ∧ (True) := hw
        obtain ⟨⟨rfl, hz2_10⟩ | ⟨rfl, hz2_10⟩, hw_9⟩ := hw
        · have hP : va_P (dC, dI) vwCl (mw g h0 b (va_up i 0 x0_8) a) _ := hP
          have hD : va_D _ (mw g h0 b (va_up i 0 x0_8) a) := hD
          refine W.eq (g2 := F0 m 37 ls [.int 0]) rfl ?_
          refine lv_if_ne (tgt := 42) hx hb dX10_faded_37 (by decide) (fun c_11 => absurd c_11 (by decide)) (fun _ => ?_)
          refine lv_iconst (v := 0) hx hb dX10_faded_40 (by decide) ?_
          exact M_i hx hb hr hlocks (x0_8) hP hD hK hS ⟨⟨_, rfl⟩, trivial⟩ (Nat.le_of_ble_eq_true rfl) (Nat.le_of_ble_eq_true rfl) dX10_faded_41
        · have hP : va_P (dC, dI) vwCl (mw g h0 b (va_up i 0 x0_8) a) _ := hP
          have hD : va_D _ (mw g h0 b (va_up i 0 x0_8) a) := hD
          refine W.eq (g2 := F0 m 37 ls [.int 1]) rfl ?_
          exact absurd rfl hz2_10
      · have nc_7 := nlt_i c_7
        have lc_7 : (0 : Int32).toInt = 0 := by decide
        refine lv_iload_n hx hb dX10_faded_22 rfl (lv_at hl 2 rfl) ?_
        refine lv_ldc (v := 1000000) hx hb hown (hts (.constant RX10 119 (1000000)) (by decide +kernel)) dX10_faded_23 ?_
        refine lv_icmp_gt (tgt := 32) hx hb dX10_faded_25 (by decide) (fun c_12 => ?_) (fun c_12 => ?_)
        · have nc_12 := lt_i c_12
          have lc_12 : (1000000 : Int32).toInt = 1000000 := by decide
          refine lv_iconst (v := 0) hx hb dX10_faded_32 (by decide) ?_
          refine lv_iconst (v := 2) hx hb dX10_faded_33 (by decide) ?_
          refine M_V ⟨hx, hb, hml, hown, hts⟩ (m_X10_right l dC dI sa g h0 b (va_up i 0 x0_1) a (0 : Int32) (2 : Int32) _ (by decide)) (cwV 2 hts gX10_faded_X10_right rfl rfl rfl (by decide +kernel) ⟨Nat.le_of_ble_eq_true rfl, Nat.le_of_ble_eq_true rfl⟩) hP hD hK hS hA hev rfl rfl rfl rfl hl.1 rfl (Nat.le_of_ble_eq_true rfl) dX10_faded_34 ⟨(Nat.le_of_ble_eq_true rfl), (Nat.le_of_ble_eq_true rfl)⟩ (fun r u H locs hw hP hD hS => ?_)
          obtain ⟨x0_13, rfl⟩ : ∃ z, z = u := ⟨_, rfl⟩
          have hw : ((r = some (.int 0) ∧ (True)) ∨ (r = some (.int 1) ∧ (¬ (0 : Int32) = 0))) ∧ (True) := hw
          obtain ⟨⟨rfl, hz2_15⟩ | ⟨rfl, hz2_15⟩, hw_14⟩ := hw
          · have hP : va_P (dC, dI) vwCl (mw g h0 b (va_up i 0 x0_13) a) _ := hP
            have hD : va_D _ (mw g h0 b (va_up i 0 x0_13) a) := hD
            refine W.eq (g2 := F0 m 37 ls [.int 0]) rfl ?_
            refine lv_if_ne (tgt := 42) hx hb dX10_faded_37 (by decide) (fun c_16 => absurd c_16 (by decide)) (fun _ => ?_)
            refine lv_iconst (v := 0) hx hb dX10_faded_40 (by decide) ?_
            exact M_i hx hb hr hlocks (x0_13) hP hD hK hS ⟨⟨_, rfl⟩, trivial⟩ (Nat.le_of_ble_eq_true rfl) (Nat.le_of_ble_eq_true rfl) dX10_faded_41
          · have hP : va_P (dC, dI) vwCl (mw g h0 b (va_up i 0 x0_13) a) _ := hP
            have hD : va_D _ (mw g h0 b (va_up i 0 x0_13) a) := hD
            refine W.eq (g2 := F0 m 37 ls [.int 1]) rfl ?_
            exact absurd rfl hz2_15
        · have nc_12 := nlt_i c_12
          have lc_12 : (1000000 : Int32).toInt = 1000000 := by decide
          refine lv_iconst (v := 1) hx hb dX10_faded_28 (by decide) ?_
          refine lv_goto (tgt := 33) hx hb dX10_faded_29 (by decide) ?_
          refine lv_iconst (v := 2) hx hb dX10_faded_33 (by decide) ?_
          refine M_V ⟨hx, hb, hml, hown, hts⟩ (m_X10_right l dC dI sa g h0 b (va_up i 0 x0_1) a (1 : Int32) (2 : Int32) _ (by decide)) (cwV 2 hts gX10_faded_X10_right rfl rfl rfl (by decide +kernel) ⟨Nat.le_of_ble_eq_true rfl, Nat.le_of_ble_eq_true rfl⟩) hP hD hK hS hA hev rfl rfl rfl rfl hl.1 rfl (Nat.le_of_ble_eq_true rfl) dX10_faded_34 ⟨(Nat.le_of_ble_eq_true rfl), (Nat.le_of_ble_eq_true rfl)⟩ (fun r u H locs hw hP hD hS => ?_)
          obtain ⟨x0_17, rfl⟩ : ∃ z, z = u := ⟨_, rfl⟩
          have hw : ((r = some (.int 0) ∧ (True)) ∨ (r = some (.int 1) ∧ (¬ (1 : Int32) = 0))) ∧ (True) := hw
          obtain ⟨⟨rfl, hz2_19⟩ | ⟨rfl, hz2_19⟩, hw_18⟩ := hw
          · have hP : va_P (dC, dI) vwCl (mw g h0 b (va_up i 0 x0_17) a) _ := hP
            have hD : va_D _ (mw g h0 b (va_up i 0 x0_17) a) := hD
            refine W.eq (g2 := F0 m 37 ls [.int 0]) rfl ?_
            refine lv_if_ne (tgt := 42) hx hb dX10_faded_37 (by decide) (fun c_20 => absurd c_20 (by decide)) (fun _ => ?_)
            refine lv_iconst (v := 0) hx hb dX10_faded_40 (by decide) ?_
            exact M_i hx hb hr hlocks (x0_17) hP hD hK hS ⟨⟨_, rfl⟩, trivial⟩ (Nat.le_of_ble_eq_true rfl) (Nat.le_of_ble_eq_true rfl) dX10_faded_41
          · have hP : va_P (dC, dI) vwCl (mw g h0 b (va_up i 0 x0_17) a) _ := hP
            have hD : va_D _ (mw g h0 b (va_up i 0 x0_17) a) := hD
            refine W.eq (g2 := F0 m 37 ls [.int 1]) rfl ?_
            refine lv_if_ne (tgt := 42) hx hb dX10_faded_37 (by decide) (fun _ => ?_) (fun c_21 => absurd c_21 (by decide))
            refine lv_aload_n hx hb dX10_faded_42 rfl (lv_at hl 0 rfl) ?_
            refine lv_iload_n hx hb dX10_faded_43 rfl (lv_at hl 1 rfl) ?_
            refine lv_iload_n hx hb dX10_faded_44 rfl (lv_at hl 2 rfl) ?_
            refine M_V ⟨hx, hb, hml, hown, hts⟩ (m_X10_hasSpan l dC dI sa g h0 b (va_up i 0 x0_17) a ck dy _ hc30) (cwV 2 hts gX10_faded_X10_hasSpan rfl rfl rfl (by decide +kernel) ⟨Nat.le_of_ble_eq_true rfl, Nat.le_of_ble_eq_true rfl⟩) hP hD hK hS hA hev rfl rfl rfl rfl hl.1 rfl (Nat.le_of_ble_eq_true rfl) dX10_faded_45 ⟨(Nat.le_of_ble_eq_true rfl), (Nat.le_of_ble_eq_true rfl)⟩ (fun r u H locs hw hP hD hS => ?_)
            have hw : (∃ z : Int32, r = some (.int z) ∧ (z = 0 ∨ z = 1)) ∧ (True) := hw
            obtain ⟨⟨z_23, rfl, hz_z_23⟩, hw_22⟩ := hw
            have hP : va_P (dC, dI) vwCl (mw g h0 b (va_up i 0 x0_17) a) _ := hP
            have hD : va_D _ (mw g h0 b (va_up i 0 x0_17) a) := hD
            refine W.eq (g2 := F0 m 48 ls [.int z_23]) rfl ?_
            refine lv_if_eq (tgt := 61) hx hb dX10_faded_48 (by decide) (fun c_24 => ?_) (fun c_24 => ?_)
            · have nc_24 := eq_i c_24
              have lc_24 : (0 : Int32).toInt = 0 := by decide
              refine lv_iconst (v := (-1)) hx hb dX10_faded_61 (by decide) ?_
              exact M_i hx hb hr hlocks (x0_17) hP hD hK hS ⟨⟨_, rfl⟩, trivial⟩ (Nat.le_of_ble_eq_true rfl) (Nat.le_of_ble_eq_true rfl) dX10_faded_62
            · have nc_24 := ne_i c_24
              have lc_24 : (0 : Int32).toInt = 0 := by decide
              refine lv_aload_n hx hb dX10_faded_51 rfl (lv_at hl 0 rfl) ?_
              refine lv_iload_n hx hb dX10_faded_52 rfl (lv_at hl 1 rfl) ?_
              refine lv_iload_n hx hb dX10_faded_53 rfl (lv_at hl 2 rfl) ?_
              refine lv_iload_n hx hb dX10_faded_54 rfl (lv_at hl 3 rfl) ?_
              refine M_V ⟨hx, hb, hml, hown, hts⟩ (m_X10_fadedTo l dC dI sa g h0 b (va_up i 0 x0_17) a ck dy wt _ hc30 hwt) (cwV 3 hts gX10_faded_X10_fadedTo rfl rfl rfl (by decide +kernel) ⟨Nat.le_of_ble_eq_true rfl, Nat.le_of_ble_eq_true rfl⟩) hP hD hK hS hA hev rfl rfl rfl rfl hl.1 rfl (Nat.le_of_ble_eq_true rfl) dX10_faded_55 ⟨(Nat.le_of_ble_eq_true rfl), (Nat.le_of_ble_eq_true rfl)⟩ (fun r u H locs hw hP hD hS => ?_)
              have hw : (∃ z : Int32, r = some (.int z)) ∧ (True) := hw
              obtain ⟨⟨z_26, rfl⟩, hw_25⟩ := hw
              have hP : va_P (dC, dI) vwCl (mw g h0 b (va_up i 0 x0_17) a) _ := hP
              have hD : va_D _ (mw g h0 b (va_up i 0 x0_17) a) := hD
              refine W.eq (g2 := F0 m 58 ls [.int z_26]) rfl ?_
              refine lv_goto (tgt := 62) hx hb dX10_faded_58 (by decide) ?_
              exact M_i hx hb hr hlocks (x0_17) hP hD hK hS ⟨⟨_, rfl⟩, trivial⟩ (Nat.le_of_ble_eq_true rfl) (Nat.le_of_ble_eq_true rfl) dX10_faded_62
    · have nc_6 := ne_i c_6
      have lc_6 : (0 : Int32).toInt = 0 := by decide
      refine lv_iload_n hx hb dX10_faded_13 rfl (lv_at hl 3 rfl) ?_
      refine lv_iconst (v := 1) hx hb dX10_faded_14 (by decide) ?_
      refine lv_icmp_ne (tgt := 32) hx hb dX10_faded_15 (by decide) (fun c_27 => ?_) (fun c_27 => ?_)
      · have nc_27 := ne_i c_27
        have lc_27 : (1 : Int32).toInt = 1 := by decide
        refine lv_iconst (v := 0) hx hb dX10_faded_32 (by decide) ?_
        refine lv_iconst (v := 2) hx hb dX10_faded_33 (by decide) ?_
        refine M_V ⟨hx, hb, hml, hown, hts⟩ (m_X10_right l dC dI sa g h0 b (va_up i 0 x0_1) a (0 : Int32) (2 : Int32) _ (by decide)) (cwV 2 hts gX10_faded_X10_right rfl rfl rfl (by decide +kernel) ⟨Nat.le_of_ble_eq_true rfl, Nat.le_of_ble_eq_true rfl⟩) hP hD hK hS hA hev rfl rfl rfl rfl hl.1 rfl (Nat.le_of_ble_eq_true rfl) dX10_faded_34 ⟨(Nat.le_of_ble_eq_true rfl), (Nat.le_of_ble_eq_true rfl)⟩ (fun r u H locs hw hP hD hS => ?_)
        obtain ⟨x0_28, rfl⟩ : ∃ z, z = u := ⟨_, rfl⟩
        have hw : ((r = some (.int 0) ∧ (True)) ∨ (r = some (.int 1) ∧ (¬ (0 : Int32) = 0))) ∧ (True) := hw
        obtain ⟨⟨rfl, hz2_30⟩ | ⟨rfl, hz2_30⟩, hw_29⟩ := hw
        · have hP : va_P (dC, dI) vwCl (mw g h0 b (va_up i 0 x0_28) a) _ := hP
          have hD : va_D _ (mw g h0 b (va_up i 0 x0_28) a) := hD
          refine W.eq (g2 := F0 m 37 ls [.int 0]) rfl ?_
          refine lv_if_ne (tgt := 42) hx hb dX10_faded_37 (by decide) (fun c_31 => absurd c_31 (by decide)) (fun _ => ?_)
          refine lv_iconst (v := 0) hx hb dX10_faded_40 (by decide) ?_
          exact M_i hx hb hr hlocks (x0_28) hP hD hK hS ⟨⟨_, rfl⟩, trivial⟩ (Nat.le_of_ble_eq_true rfl) (Nat.le_of_ble_eq_true rfl) dX10_faded_41
        · have hP : va_P (dC, dI) vwCl (mw g h0 b (va_up i 0 x0_28) a) _ := hP
          have hD : va_D _ (mw g h0 b (va_up i 0 x0_28) a) := hD
          refine W.eq (g2 := F0 m 37 ls [.int 1]) rfl ?_
          exact absurd rfl hz2_30
      · have nc_27 := eq_i c_27
        have lc_27 : (1 : Int32).toInt = 1 := by decide
        refine lv_iload_n hx hb dX10_faded_18 rfl (lv_at hl 2 rfl) ?_
        refine lv_if_lt (tgt := 32) hx hb dX10_faded_19 (by decide) (fun c_32 => ?_) (fun c_32 => ?_)
        · have nc_32 := lt_i c_32
          have lc_32 : (0 : Int32).toInt = 0 := by decide
          refine lv_iconst (v := 0) hx hb dX10_faded_32 (by decide) ?_
          refine lv_iconst (v := 2) hx hb dX10_faded_33 (by decide) ?_
          refine M_V ⟨hx, hb, hml, hown, hts⟩ (m_X10_right l dC dI sa g h0 b (va_up i 0 x0_1) a (0 : Int32) (2 : Int32) _ (by decide)) (cwV 2 hts gX10_faded_X10_right rfl rfl rfl (by decide +kernel) ⟨Nat.le_of_ble_eq_true rfl, Nat.le_of_ble_eq_true rfl⟩) hP hD hK hS hA hev rfl rfl rfl rfl hl.1 rfl (Nat.le_of_ble_eq_true rfl) dX10_faded_34 ⟨(Nat.le_of_ble_eq_true rfl), (Nat.le_of_ble_eq_true rfl)⟩ (fun r u H locs hw hP hD hS => ?_)
          obtain ⟨x0_33, rfl⟩ : ∃ z, z = u := ⟨_, rfl⟩
          have hw : ((r = some (.int 0) ∧ (True)) ∨ (r = some (.int 1) ∧ (¬ (0 : Int32) = 0))) ∧ (True) := hw
          obtain ⟨⟨rfl, hz2_35⟩ | ⟨rfl, hz2_35⟩, hw_34⟩ := hw
          · have hP : va_P (dC, dI) vwCl (mw g h0 b (va_up i 0 x0_33) a) _ := hP
            have hD : va_D _ (mw g h0 b (va_up i 0 x0_33) a) := hD
            refine W.eq (g2 := F0 m 37 ls [.int 0]) rfl ?_
            refine lv_if_ne (tgt := 42) hx hb dX10_faded_37 (by decide) (fun c_36 => absurd c_36 (by decide)) (fun _ => ?_)
            refine lv_iconst (v := 0) hx hb dX10_faded_40 (by decide) ?_
            exact M_i hx hb hr hlocks (x0_33) hP hD hK hS ⟨⟨_, rfl⟩, trivial⟩ (Nat.le_of_ble_eq_true rfl) (Nat.le_of_ble_eq_true rfl) dX10_faded_41
          · have hP : va_P (dC, dI) vwCl (mw g h0 b (va_up i 0 x0_33) a) _ := hP
            have hD : va_D _ (mw g h0 b (va_up i 0 x0_33) a) := hD
            refine W.eq (g2 := F0 m 37 ls [.int 1]) rfl ?_
            exact absurd rfl hz2_35
        · have nc_32 := nlt_i c_32
          have lc_32 : (0 : Int32).toInt = 0 := by decide
          refine lv_iload_n hx hb dX10_faded_22 rfl (lv_at hl 2 rfl) ?_
          refine lv_ldc (v := 1000000) hx hb hown (hts (.constant RX10 119 (1000000)) (by decide +kernel)) dX10_faded_23 ?_
          refine lv_icmp_gt (tgt := 32) hx hb dX10_faded_25 (by decide) (fun c_37 => ?_) (fun c_37 => ?_)
          · have nc_37 := lt_i c_37
            have lc_37 : (1000000 : Int32).toInt = 1000000 := by decide
            refine lv_iconst (v := 0) hx hb dX10_faded_32 (by decide) ?_
            refine lv_iconst (v := 2) hx hb dX10_faded_33 (by decide) ?_
            refine M_V ⟨hx, hb, hml, hown, hts⟩ (m_X10_right l dC dI sa g h0 b (va_up i 0 x0_1) a (0 : Int32) (2 : Int32) _ (by decide)) (cwV 2 hts gX10_faded_X10_right rfl rfl rfl (by decide +kernel) ⟨Nat.le_of_ble_eq_true rfl, Nat.le_of_ble_eq_true rfl⟩) hP hD hK hS hA hev rfl rfl rfl rfl hl.1 rfl (Nat.le_of_ble_eq_true rfl) dX10_faded_34 ⟨(Nat.le_of_ble_eq_true rfl), (Nat.le_of_ble_eq_true rfl)⟩ (fun r u H locs hw hP hD hS => ?_)
            obtain ⟨x0_38, rfl⟩ : ∃ z, z = u := ⟨_, rfl⟩
            have hw : ((r = some (.int 0) ∧ (True)) ∨ (r = some (.int 1) ∧ (¬ (0 : Int32) = 0))) ∧ (True) := hw
            obtain ⟨⟨rfl, hz2_40⟩ | ⟨rfl, hz2_40⟩, hw_39⟩ := hw
            · have hP : va_P (dC, dI) vwCl (mw g h0 b (va_up i 0 x0_38) a) _ := hP
              have hD : va_D _ (mw g h0 b (va_up i 0 x0_38) a) := hD
              refine W.eq (g2 := F0 m 37 ls [.int 0]) rfl ?_
              refine lv_if_ne (tgt := 42) hx hb dX10_faded_37 (by decide) (fun c_41 => absurd c_41 (by decide)) (fun _ => ?_)
              refine lv_iconst (v := 0) hx hb dX10_faded_40 (by decide) ?_
              exact M_i hx hb hr hlocks (x0_38) hP hD hK hS ⟨⟨_, rfl⟩, trivial⟩ (Nat.le_of_ble_eq_true rfl) (Nat.le_of_ble_eq_true rfl) dX10_faded_41
            · have hP : va_P (dC, dI) vwCl (mw g h0 b (va_up i 0 x0_38) a) _ := hP
              have hD : va_D _ (mw g h0 b (va_up i 0 x0_38) a) := hD
              refine W.eq (g2 := F0 m 37 ls [.int 1]) rfl ?_
              exact absurd rfl hz2_40
          · have nc_37 := nlt_i c_37
            have lc_37 : (1000000 : Int32).toInt = 1000000 := by decide
            refine lv_iconst (v := 1) hx hb dX10_faded_28 (by decide) ?_
            refine lv_goto (tgt := 33) hx hb dX10_faded_29 (by decide) ?_
            refine lv_iconst (v := 2) hx hb dX10_faded_33 (by decide) ?_
            refine M_V ⟨hx, hb, hml, hown, hts⟩ (m_X10_right l dC dI sa g h0 b (va_up i 0 x0_1) a (1 : Int32) (2 : Int32) _ (by decide)) (cwV 2 hts gX10_faded_X10_right rfl rfl rfl (by decide +kernel) ⟨Nat.le_of_ble_eq_true rfl, Nat.le_of_ble_eq_true rfl⟩) hP hD hK hS hA hev rfl rfl rfl rfl hl.1 rfl (Nat.le_of_ble_eq_true rfl) dX10_faded_34 ⟨(Nat.le_of_ble_eq_true rfl), (Nat.le_of_ble_eq_true rfl)⟩ (fun r u H locs hw hP hD hS => ?_)
            obtain ⟨x0_42, rfl⟩ : ∃ z, z = u := ⟨_, rfl⟩
            have hw : ((r = some (.int 0) ∧ (True)) ∨ (r = some (.int 1) ∧ (¬ (1 : Int32) = 0))) ∧ (True) := hw
            obtain ⟨⟨rfl, hz2_44⟩ | ⟨rfl, hz2_44⟩, hw_43⟩ := hw
            · have hP : va_P (dC, dI) vwCl (mw g h0 b (va_up i 0 x0_42) a) _ := hP
              have hD : va_D _ (mw g h0 b (va_up i 0 x0_42) a) := hD
              refine W.eq (g2 := F0 m 37 ls [.int 0]) rfl ?_
              refine lv_if_ne (tgt := 42) hx hb dX10_faded_37 (by decide) (fun c_45 => absurd c_45 (by decide)) (fun _ => ?_)
              refine lv_iconst (v := 0) hx hb dX10_faded_40 (by decide) ?_
              exact M_i hx hb hr hlocks (x0_42) hP hD hK hS ⟨⟨_, rfl⟩, trivial⟩ (Nat.le_of_ble_eq_true rfl) (Nat.le_of_ble_eq_true rfl) dX10_faded_41
            · have hP : va_P (dC, dI) vwCl (mw g h0 b (va_up i 0 x0_42) a) _ := hP
              have hD : va_D _ (mw g h0 b (va_up i 0 x0_42) a) := hD
              refine W.eq (g2 := F0 m 37 ls [.int 1]) rfl ?_
              refine lv_if_ne (tgt := 42) hx hb dX10_faded_37 (by decide) (fun _ => ?_) (fun c_46 => absurd c_46 (by decide))
              refine lv_aload_n hx hb dX10_faded_42 rfl (lv_at hl 0 rfl) ?_
              refine lv_iload_n hx hb dX10_faded_43 rfl (lv_at hl 1 rfl) ?_
              refine lv_iload_n hx hb dX10_faded_44 rfl (lv_at hl 2 rfl) ?_
              refine M_V ⟨hx, hb, hml, hown, hts⟩ (m_X10_hasSpan l dC dI sa g h0 b (va_up i 0 x0_42) a ck dy _ hc30) (cwV 2 hts gX10_faded_X10_hasSpan rfl rfl rfl (by decide +kernel) ⟨Nat.le_of_ble_eq_true rfl, Nat.le_of_ble_eq_true rfl⟩) hP hD hK hS hA hev rfl rfl rfl rfl hl.1 rfl (Nat.le_of_ble_eq_true rfl) dX10_faded_45 ⟨(Nat.le_of_ble_eq_true rfl), (Nat.le_of_ble_eq_true rfl)⟩ (fun r u H locs hw hP hD hS => ?_)
              have hw : (∃ z : Int32, r = some (.int z) ∧ (z = 0 ∨ z = 1)) ∧ (True) := hw
              obtain ⟨⟨z_48, rfl, hz_z_48⟩, hw_47⟩ := hw
              have hP : va_P (dC, dI) vwCl (mw g h0 b (va_up i 0 x0_42) a) _ := hP
              have hD : va_D _ (mw g h0 b (va_up i 0 x0_42) a) := hD
              refine W.eq (g2 := F0 m 48 ls [.int z_48]) rfl ?_
              refine lv_if_eq (tgt := 61) hx hb dX10_faded_48 (by decide) (fun c_49 => ?_) (fun c_49 => ?_)
              · have nc_49 := eq_i c_49
                have lc_49 : (0 : Int32).toInt = 0 := by decide
                refine lv_iconst (v := (-1)) hx hb dX10_faded_61 (by decide) ?_
                exact M_i hx hb hr hlocks (x0_42) hP hD hK hS ⟨⟨_, rfl⟩, trivial⟩ (Nat.le_of_ble_eq_true rfl) (Nat.le_of_ble_eq_true rfl) dX10_faded_62
              · have nc_49 := ne_i c_49
                have lc_49 : (0 : Int32).toInt = 0 := by decide
                refine lv_aload_n hx hb dX10_faded_51 rfl (lv_at hl 0 rfl) ?_
                refine lv_iload_n hx hb dX10_faded_52 rfl (lv_at hl 1 rfl) ?_
                refine lv_iload_n hx hb dX10_faded_53 rfl (lv_at hl 2 rfl) ?_
                refine lv_iload_n hx hb dX10_faded_54 rfl (lv_at hl 3 rfl) ?_
                refine M_V ⟨hx, hb, hml, hown, hts⟩ (m_X10_fadedTo l dC dI sa g h0 b (va_up i 0 x0_42) a ck dy wt _ hc30 hwt) (cwV 3 hts gX10_faded_X10_fadedTo rfl rfl rfl (by decide +kernel) ⟨Nat.le_of_ble_eq_true rfl, Nat.le_of_ble_eq_true rfl⟩) hP hD hK hS hA hev rfl rfl rfl rfl hl.1 rfl (Nat.le_of_ble_eq_true rfl) dX10_faded_55 ⟨(Nat.le_of_ble_eq_true rfl), (Nat.le_of_ble_eq_true rfl)⟩ (fun r u H locs hw hP hD hS => ?_)
                have hw : (∃ z : Int32, r = some (.int z)) ∧ (True) := hw
                obtain ⟨⟨z_51, rfl⟩, hw_50⟩ := hw
                have hP : va_P (dC, dI) vwCl (mw g h0 b (va_up i 0 x0_42) a) _ := hP
                have hD : va_D _ (mw g h0 b (va_up i 0 x0_42) a) := hD
                refine W.eq (g2 := F0 m 58 ls [.int z_51]) rfl ?_
                refine lv_goto (tgt := 62) hx hb dX10_faded_58 (by decide) ?_
                exact M_i hx hb hr hlocks (x0_42) hP hD hK hS ⟨⟨_, rfl⟩, trivial⟩ (Nat.le_of_ble_eq_true rfl) (Nat.le_of_ble_eq_true rfl) dX10_faded_62

abbrev rm_X10_matching : Room := { frames := 2, cells := 0, slots := 0, locals := 46 }
theorem inw_X10_matching_10 : ∀ w ∈ wsX100, w ∈ wsX10_matching := by decide +kernel
set_option maxHeartbeats 1000000 in
set_option maxRecDepth 100000 in
theorem m_X10_matching (l : Launch) (dC : Nat → ClassId) (dI : Nat → Nat → Nat) (sa : Nat → Nat) (g : Nat → Nat) (h0 : Nat) (b : Nat → Nat) (i : Nat → Int32) (a : Nat → Nat → Int32) (ck : Int32) (dy : Int32) (sz : Nat) (hCI : CI (i 12) (a 13)) : CT l dC dI sa yX10_matching wsX10_matching rm_X10_matching [.ref h0, .int ck, .int dy] (mw g h0 b i a) (tyM g) sz (fun (r : Option Value) (x0 : Int32) => (∃ z : Int32, r = some (.int z)) ∧ (True)) (fun (x0 : Int32) => mw g h0 b (va_up i 0 x0) a) (fun _ => []) 0 0 := by
  refine CT.start (cc := cX10_matching) (maxL := 5) (ret := (some .int)) (by decide) rfl (Nat.le_of_ble_eq_true rfl) ?_
  intro p e s m below meth c ls hst hP hK hD hev hS hl
  obtain ⟨hx, hb, hr, hml, hts, hown, hlocks, hin⟩ := hst
  have hown : s.vm.findClass RX10 = some m.cls := hown
  have hA : ∀ q : Nat, s.heap.size ≤ q → va_A (mw g h0 b i a) s.heap.size q := fun _ h => Or.inr h
  have hl : lv_has ls 5 [(0, .ref h0), (1, .int ck), (2, .int dy)] := hl
  refine lv_aload_n hx hb dX10_matching_0 rfl (lv_at hl 0 rfl) ?_
  refine lv_iload_n hx hb dX10_matching_1 rfl (lv_at hl 1 rfl) ?_
  refine M_V ⟨hx, hb, hml, hown, hts⟩ (m_X10_isCloth l dC dI sa g h0 b i a ck _ ) (cwV 1 hts gX10_matching_X10_isCloth rfl rfl rfl (by decide +kernel) ⟨Nat.le_of_ble_eq_true rfl, Nat.le_of_ble_eq_true rfl⟩) hP hD hK hS hA hev rfl rfl rfl rfl hl.1 rfl (Nat.le_of_ble_eq_true rfl) dX10_matching_2 ⟨(Nat.le_of_ble_eq_true rfl), (Nat.le_of_ble_eq_true rfl)⟩ (fun r u H locs hw hP hD hS => ?_)
  obtain ⟨x0_1, rfl⟩ : ∃ z, z = u := ⟨_, rfl⟩
  have hw : ((r = some (.int 0) ∧ (True)) ∨ (r = some (.int 1) ∧ (0 ≤ ck.toInt ∧ ck.toInt < (i 12).toInt))) ∧ (True) := hw
  obtain ⟨⟨rfl, hz2_3⟩ | ⟨rfl, hz2_3⟩, hw_2⟩ := hw
  · have hP : va_P (dC, dI) vwCl (mw g h0 b (va_up i 0 x0_1) a) _ := hP
    have hD : va_D _ (mw g h0 b (va_up i 0 x0_1) a) := hD
    refine W.eq (g2 := F0 m 5 ls [.int 0]) rfl ?_
    refine lv_if_eq (tgt := 31) hx hb dX10_matching_5 (by decide) (fun _ => ?_) (fun c_4 => absurd c_4 (by decide))
    refine lv_iconst (v := 0) hx hb dX10_matching_31 (by decide) ?_
    exact M_i hx hb hr hlocks (x0_1) hP hD hK hS ⟨⟨_, rfl⟩, trivial⟩ (Nat.le_of_ble_eq_true rfl) (Nat.le_of_ble_eq_true rfl) dX10_matching_32
  · have hP : va_P (dC, dI) vwCl (mw g h0 b (va_up i 0 x0_1) a) _ := hP
    have hD : va_D _ (mw g h0 b (va_up i 0 x0_1) a) := hD
    refine W.eq (g2 := F0 m 5 ls [.int 1]) rfl ?_
    obtain ⟨hc30, hwt⟩ := hCI.at hz2_3
    refine lv_if_eq (tgt := 31) hx hb dX10_matching_5 (by decide) (fun c_5 => absurd c_5 (by decide)) (fun _ => ?_)
    refine lv_aload_n hx hb dX10_matching_8 rfl (lv_at hl 0 rfl) ?_
    refine lv_iload_n hx hb dX10_matching_9 rfl (lv_at hl 2 rfl) ?_
    refine lv_if_lt (tgt := 23) hx hb dX10_matching_10 (by decide) (fun c_6 => ?_) (fun c_6 => ?_)
    · have nc_6 := lt_i c_6
      have lc_6 : (0 : Int32).toInt = 0 := by decide
      refine lv_iconst (v := 0) hx hb dX10_matching_23 (by decide) ?_
      refine lv_iconst (v := 2) hx hb dX10_matching_24 (by decide) ?_
      refine M_V ⟨hx, hb, hml, hown, hts⟩ (m_X10_right l dC dI sa g h0 b (va_up i 0 x0_1) a (0 : Int32) (2 : Int32) _ (by decide)) (cwV 2 hts gX10_matching_X10_right rfl rfl rfl (by decide +kernel) ⟨Nat.le_of_ble_eq_true rfl, Nat.le_of_ble_eq_true rfl⟩) hP hD hK hS hA hev rfl rfl rfl rfl hl.1 rfl (Nat.le_of_ble_eq_true rfl) dX10_matching_25 ⟨(Nat.le_of_ble_eq_true rfl), (Nat.le_of_ble_eq_true rfl)⟩ (fun r u H locs hw hP hD hS => ?_)
      obtain ⟨x0_7, rfl⟩ : ∃ z, z = u := ⟨_, rfl⟩
      have hw : ((r = some (.int 0) ∧ (True)) ∨ (r = some (.int 1) ∧ (¬ (0 : Int32) = 0))) ∧ (True) := hw
      obtain ⟨⟨rfl, hz2_9⟩ | ⟨rfl, hz2_9⟩, hw_8⟩ := hw
      · have hP : va_P (dC, dI) vwCl (mw g h0 b (va_up i 0 x0_7) a) _ := hP
        have hD : va_D _ (mw g h0 b (va_up i 0 x0_7) a) := hD
        refine W.eq (g2 := F0 m 28 ls [.int 0]) rfl ?_
        refine lv_if_ne (tgt := 33) hx hb dX10_matching_28 (by decide) (fun c_10 => absurd c_10 (by decide)) (fun _ => ?_)
        refine lv_iconst (v := 0) hx hb dX10_matching_31 (by decide) ?_
        exact M_i hx hb hr hlocks (x0_7) hP hD hK hS ⟨⟨_, rfl⟩, trivial⟩ (Nat.le_of_ble_eq_true rfl) (Nat.le_of_ble_eq_true rfl) dX10_matching_32
      · have hP : va_P (dC, dI) vwCl (mw g h0 b (va_up i 0 x0_7) a) _ := hP
        have hD : va_D _ (mw g h0 b (va_up i 0 x0_7) a) := hD
        refine W.eq (g2 := F0 m 28 ls [.int 1]) rfl ?_
        exact absurd rfl hz2_9
    · have nc_6 := nlt_i c_6
      have lc_6 : (0 : Int32).toInt = 0 := by decide
      refine lv_iload_n hx hb dX10_matching_13 rfl (lv_at hl 2 rfl) ?_
      refine lv_ldc (v := 1000000) hx hb hown (hts (.constant RX10 119 (1000000)) (by decide +kernel)) dX10_matching_14 ?_
      refine lv_icmp_gt (tgt := 23) hx hb dX10_matching_16 (by decide) (fun c_11 => ?_) (fun c_11 => ?_)
      · have nc_11 := lt_i c_11
        have lc_11 : (1000000 : Int32).toInt = 1000000 := by decide
        refine lv_iconst (v := 0) hx hb dX10_matching_23 (by decide) ?_
        refine lv_iconst (v := 2) hx hb dX10_matching_24 (by decide) ?_
        refine M_V ⟨hx, hb, hml, hown, hts⟩ (m_X10_right l dC dI sa g h0 b (va_up i 0 x0_1) a (0 : Int32) (2 : Int32) _ (by decide)) (cwV 2 hts gX10_matching_X10_right rfl rfl rfl (by decide +kernel) ⟨Nat.le_of_ble_eq_true rfl, Nat.le_of_ble_eq_true rfl⟩) hP hD hK hS hA hev rfl rfl rfl rfl hl.1 rfl (Nat.le_of_ble_eq_true rfl) dX10_matching_25 ⟨(Nat.le_of_ble_eq_true rfl), (Nat.le_of_ble_eq_true rfl)⟩ (fun r u H locs hw hP hD hS => ?_)
        obtain ⟨x0_12, rfl⟩ : ∃ z, z = u := ⟨_, rfl⟩
        have hw : ((r = some (.int 0) ∧ (True)) ∨ (r = some (.int 1) ∧ (¬ (0 : Int32) = 0))) ∧ (True) := hw
        obtain ⟨⟨rfl, hz2_14⟩ | ⟨rfl, hz2_14⟩, hw_13⟩ := hw
        · have hP : va_P (dC, dI) vwCl (mw g h0 b (va_up i 0 x0_12) a) _ := hP
          have hD : va_D _ (mw g h0 b (va_up i 0 x0_12) a) := hD
          refine W.eq (g2 := F0 m 28 ls [.int 0]) rfl ?_
          refine lv_if_ne (tgt := 33) hx hb dX10_matching_28 (by decide) (fun c_15 => absurd c_15 (by decide)) (fun _ => ?_)
          refine lv_iconst (v := 0) hx hb dX10_matching_31 (by decide) ?_
          exact M_i hx hb hr hlocks (x0_12) hP hD hK hS ⟨⟨_, rfl⟩, trivial⟩ (Nat.le_of_ble_eq_true rfl) (Nat.le_of_ble_eq_true rfl) dX10_matching_32
        · have hP : va_P (dC, dI) vwCl (mw g h0 b (va_up i 0 x0_12) a) _ := hP
          have hD : va_D _ (mw g h0 b (va_up i 0 x0_12) a) := hD
          refine W.eq (g2 := F0 m 28 ls [.int 1]) rfl ?_
          exact absurd rfl hz2_14
      · have nc_11 := nlt_i c_11
        have lc_11 : (1000000 : Int32).toInt = 1000000 := by decide
        refine lv_iconst (v := 1) hx hb dX10_matching_19 (by decide) ?_
        refine lv_goto (tgt := 24) hx hb dX10_matching_20 (by decide) ?_
        refine lv_iconst (v := 2) hx hb dX10_matching_24 (by decide) ?_
        refine M_V ⟨hx, hb, hml, hown, hts⟩ (m_X10_right l dC dI sa g h0 b (va_up i 0 x0_1) a (1 : Int32) (2 : Int32) _ (by decide)) (cwV 2 hts gX10_matching_X10_right rfl rfl rfl (by decide +kernel) ⟨Nat.le_of_ble_eq_true rfl, Nat.le_of_ble_eq_true rfl⟩) hP hD hK hS hA hev rfl rfl rfl rfl hl.1 rfl (Nat.le_of_ble_eq_true rfl) dX10_matching_25 ⟨(Nat.le_of_ble_eq_true rfl), (Nat.le_of_ble_eq_true rfl)⟩ (fun r u H locs hw hP hD hS => ?_)
        obtain ⟨x0_16, rfl⟩ : ∃ z, z = u := ⟨_, rfl⟩
        have hw : ((r = some (.int 0) ∧ (True)) ∨ (r = some (.int 1) ∧ (¬ (1 : Int32) = 0))) ∧ (True) := hw
        obtain ⟨⟨rfl, hz2_18⟩ | ⟨rfl, hz2_18⟩, hw_17⟩ := hw
        · have hP : va_P (dC, dI) vwCl (mw g h0 b (va_up i 0 x0_16) a) _ := hP
          have hD : va_D _ (mw g h0 b (va_up i 0 x0_16) a) := hD
          refine W.eq (g2 := F0 m 28 ls [.int 0]) rfl ?_
          refine lv_if_ne (tgt := 33) hx hb dX10_matching_28 (by decide) (fun c_19 => absurd c_19 (by decide)) (fun _ => ?_)
          refine lv_iconst (v := 0) hx hb dX10_matching_31 (by decide) ?_
          exact M_i hx hb hr hlocks (x0_16) hP hD hK hS ⟨⟨_, rfl⟩, trivial⟩ (Nat.le_of_ble_eq_true rfl) (Nat.le_of_ble_eq_true rfl) dX10_matching_32
        · have hP : va_P (dC, dI) vwCl (mw g h0 b (va_up i 0 x0_16) a) _ := hP
          have hD : va_D _ (mw g h0 b (va_up i 0 x0_16) a) := hD
          refine W.eq (g2 := F0 m 28 ls [.int 1]) rfl ?_
          refine lv_if_ne (tgt := 33) hx hb dX10_matching_28 (by decide) (fun _ => ?_) (fun c_20 => absurd c_20 (by decide))
          refine lv_iconst (v := 0) hx hb dX10_matching_33 (by decide) ?_
          refine lv_istore_n (lv' := [(3, .int 0), (0, .ref h0), (1, .int ck), (2, .int dy)]) hx hb dX10_matching_34 rfl hl (by decide) rfl (fun ls hl => ?_)
          refine lv_iconst (v := 0) hx hb dX10_matching_35 (by decide) ?_
          refine lv_istore (lv' := [(4, .int 0), (3, .int 0), (0, .ref h0), (1, .int ck), (2, .int dy)]) hx hb dX10_matching_36 hl (by decide) rfl (fun ls hl => ?_)
          have lp : ∀ (n : Nat) (bi : Int32) (ii : Int32) (H : Heap) (locs : List Loc) (ls : Array Slot), (∃ q : Nat, ii = nI q ∧ q ≤ 30 ∧ 30 < q + n) → va_P (dC, dI) vwCl (mw g h0 b (va_up i 0 x0_16) a) H → va_D (va_A (mw g h0 b i a) s.heap.size) (mw g h0 b (va_up i 0 x0_16) a) → va_S (va_A (mw g h0 b i a) s.heap.size) s.heap H locs → lv_has ls 5 [(3, .int bi), (4, .int ii), (0, .ref h0), (1, .int ck), (2, .int dy)] → W p l e rm_X10_matching s m [.ref h0, .int ck, .int dy].toArray below meth c H locs 0 0 (MQ below (Qg (fun (r : Option Value) (x0 : Int32) => (∃ z : Int32, r = some (.int z)) ∧ (True)) (fun u t => QW dC dI (va_A (mw g h0 b i a) s.heap.size) ((fun (x0 : Int32) => mw g h0 b (va_up i 0 x0) a) u) [] t) (va_A (mw g h0 b i a) s.heap.size)) [.ref h0, .int ck, .int dy].toArray s 0 0 (va_A (mw g h0 b i a) s.heap.size)) (F0 m 38 ls []) := by
            intro n
            induction n with
            | zero => intro bi ii H locs ls hm  hP hD hS hl; exact absurd hm (by rintro ⟨q, -, h1, h2⟩; omega)
            | succ n ih =>
              intro bi ii H locs ls hm  hP hD hS hl
              refine lv_iload hx hb dX10_matching_38 (lv_at hl 1 rfl) ?_
              refine lv_aload_n hx hb dX10_matching_40 rfl (lv_at hl 2 rfl) ?_
              refine va_get (D := (dC, dI)) (ci := 10) (v := .int (i 12)) (C := RX10) (T := TX10) (N := 51) hx hb hts inw_X10_matching_10 hown hK hP 0 rfl rfl 12 (by decide) (hts (.fieldLink RX10 112 "VatHouseModel" "cloths" "I") (by decide +kernel)) (fun _ h9 => h9) rfl dX10_matching_41 ?_
              refine lv_icmp_ge (tgt := 124) hx hb dX10_matching_44 (by decide) (fun c_21 => ?_) (fun c_21 => ?_)
              · have nc_21 := le_i c_21
                refine lv_iload_n hx hb dX10_matching_124 rfl (lv_at hl 0 rfl) ?_
                exact M_i hx hb hr hlocks (x0_16) hP hD hK hS ⟨⟨_, rfl⟩, trivial⟩ (Nat.le_of_ble_eq_true rfl) (Nat.le_of_ble_eq_true rfl) dX10_matching_125
              · have nc_21 := nle_i c_21
                refine lv_aload_n hx hb dX10_matching_47 rfl (lv_at hl 2 rfl) ?_
                refine lv_iload_n hx hb dX10_matching_48 rfl (lv_at hl 3 rfl) ?_
                refine lv_iload_n hx hb dX10_matching_49 rfl (lv_at hl 4 rfl) ?_
                refine M_V ⟨hx, hb, hml, hown, hts⟩ (m_X10_hasSpan l dC dI sa g h0 b (va_up i 0 x0_16) a ck dy _ hc30) (cwV 2 hts gX10_matching_X10_hasSpan rfl rfl rfl (by decide +kernel) ⟨Nat.le_of_ble_eq_true rfl, Nat.le_of_ble_eq_true rfl⟩) hP hD hK hS hA hev rfl rfl rfl rfl hl.1 rfl (Nat.le_of_ble_eq_true rfl) dX10_matching_50 ⟨(Nat.le_of_ble_eq_true rfl), (Nat.le_of_ble_eq_true rfl)⟩ (fun r u H locs hw hP hD hS => ?_)
                have hw : (∃ z : Int32, r = some (.int z) ∧ (z = 0 ∨ z = 1)) ∧ (True) := hw
                obtain ⟨⟨z_23, rfl, hz_z_23⟩, hw_22⟩ := hw
                have hP : va_P (dC, dI) vwCl (mw g h0 b (va_up i 0 x0_16) a) _ := hP
                have hD : va_D _ (mw g h0 b (va_up i 0 x0_16) a) := hD
                refine W.eq (g2 := F0 m 53 ls [.int z_23]) rfl ?_
                refine lv_if_eq (tgt := 124) hx hb dX10_matching_53 (by decide) (fun c_24 => ?_) (fun c_24 => ?_)
                · have nc_24 := eq_i c_24
                  have lc_24 : (0 : Int32).toInt = 0 := by decide
                  refine lv_iload_n hx hb dX10_matching_124 rfl (lv_at hl 0 rfl) ?_
                  exact M_i hx hb hr hlocks (x0_16) hP hD hK hS ⟨⟨_, rfl⟩, trivial⟩ (Nat.le_of_ble_eq_true rfl) (Nat.le_of_ble_eq_true rfl) dX10_matching_125
                · have nc_24 := ne_i c_24
                  have lc_24 : (0 : Int32).toInt = 0 := by decide
                  refine lv_iload hx hb dX10_matching_56 (lv_at hl 1 rfl) ?_
                  refine lv_iload_n hx hb dX10_matching_58 rfl (lv_at hl 3 rfl) ?_
                  refine lv_icmp_eq (tgt := 118) hx hb dX10_matching_59 (by decide) (fun c_25 => ?_) (fun c_25 => ?_)
                  · have nc_25 := eq_i c_25
                    refine lv_iinc (v := (ii + 1)) (lv' := [(4, .int (ii + 1)), (3, .int bi), (0, .ref h0), (1, .int ck), (2, .int dy)]) hx hb dX10_matching_118 hl (k := 1) rfl rfl (by decide) rfl (fun ls hl => ?_)
                    refine lv_goto (tgt := 38) hx hb dX10_matching_121 (by decide) ?_
                    exact ih bi (ii + 1) _ _ _ (up_nx (by decide) hm (Int32.le_iff_toInt_le.mpr hCI.2.1) c_21)  hP hD hS (lv_sub hl [1, 0, 2, 3, 4] rfl)
                  · have nc_25 := ne_i c_25
                    refine lv_aload_n hx hb dX10_matching_62 rfl (lv_at hl 2 rfl) ?_
                    refine lv_iload hx hb dX10_matching_63 (lv_at hl 1 rfl) ?_
                    refine lv_iload_n hx hb dX10_matching_65 rfl (lv_at hl 4 rfl) ?_
                    refine M_V ⟨hx, hb, hml, hown, hts⟩ (m_X10_hasSpan l dC dI sa g h0 b (va_up i 0 x0_16) a ii dy _ (hCI.at ⟨by obtain ⟨q9, h1, h2, h3⟩ := hm; rw [h1, nI_toInt (by omega)]; omega, by omega⟩).1) (cwV 2 hts gX10_matching_X10_hasSpan rfl rfl rfl (by decide +kernel) ⟨Nat.le_of_ble_eq_true rfl, Nat.le_of_ble_eq_true rfl⟩) hP hD hK hS hA hev rfl rfl rfl rfl hl.1 rfl (Nat.le_of_ble_eq_true rfl) dX10_matching_66 ⟨(Nat.le_of_ble_eq_true rfl), (Nat.le_of_ble_eq_true rfl)⟩ (fun r u H locs hw hP hD hS => ?_)
                    have hw : (∃ z : Int32, r = some (.int z) ∧ (z = 0 ∨ z = 1)) ∧ (True) := hw
                    obtain ⟨⟨z_27, rfl, hz_z_27⟩, hw_26⟩ := hw
                    have hP : va_P (dC, dI) vwCl (mw g h0 b (va_up i 0 x0_16) a) _ := hP
                    have hD : va_D _ (mw g h0 b (va_up i 0 x0_16) a) := hD
                    refine W.eq (g2 := F0 m 69 ls [.int z_27]) rfl ?_
                    refine lv_if_ne (tgt := 75) hx hb dX10_matching_69 (by decide) (fun c_28 => ?_) (fun c_28 => ?_)
                    · have nc_28 := ne_i c_28
                      have lc_28 : (0 : Int32).toInt = 0 := by decide
                      refine lv_aload_n hx hb dX10_matching_75 rfl (lv_at hl 2 rfl) ?_
                      refine lv_iload hx hb dX10_matching_76 (lv_at hl 1 rfl) ?_
                      refine lv_iload_n hx hb dX10_matching_78 rfl (lv_at hl 4 rfl) ?_
                      refine lv_iconst (v := 0) hx hb dX10_matching_79 (by decide) ?_
                      refine M_V ⟨hx, hb, hml, hown, hts⟩ (m_X10_fadedTo l dC dI sa g h0 b (va_up i 0 x0_16) a ii dy (0 : Int32) _ (hCI.at ⟨by obtain ⟨q9, h1, h2, h3⟩ := hm; rw [h1, nI_toInt (by omega)]; omega, by omega⟩).1 (hCI.at ⟨by obtain ⟨q9, h1, h2, h3⟩ := hm; rw [h1, nI_toInt (by omega)]; omega, by omega⟩).2) (cwV 3 hts gX10_matching_X10_fadedTo rfl rfl rfl (by decide +kernel) ⟨Nat.le_of_ble_eq_true rfl, Nat.le_of_ble_eq_true rfl⟩) hP hD hK hS hA hev rfl rfl rfl rfl hl.1 rfl (Nat.le_of_ble_eq_true rfl) dX10_matching_80 ⟨(Nat.le_of_ble_eq_true rfl), (Nat.le_of_ble_eq_true rfl)⟩ (fun r u H locs hw hP hD hS => ?_)
                      have hw : (∃ z : Int32, r = some (.int z)) ∧ (True) := hw
                      obtain ⟨⟨z_30, rfl⟩, hw_29⟩ := hw
                      have hP : va_P (dC, dI) vwCl (mw g h0 b (va_up i 0 x0_16) a) _ := hP
                      have hD : va_D _ (mw g h0 b (va_up i 0 x0_16) a) := hD
                      refine W.eq (g2 := F0 m 83 ls [.int z_30]) rfl ?_
                      refine lv_aload_n hx hb dX10_matching_83 rfl (lv_at hl 2 rfl) ?_
                      refine lv_iload_n hx hb dX10_matching_84 rfl (lv_at hl 3 rfl) ?_
                      refine lv_iload_n hx hb dX10_matching_85 rfl (lv_at hl 4 rfl) ?_
                      refine lv_iconst (v := 1) hx hb dX10_matching_86 (by decide) ?_
                      refine M_V ⟨hx, hb, hml, hown, hts⟩ (m_X10_fadedTo l dC dI sa g h0 b (va_up i 0 x0_16) a ck dy (1 : Int32) _ hc30 hwt) (cwV 3 hts gX10_matching_X10_fadedTo rfl rfl rfl (by decide +kernel) ⟨Nat.le_of_ble_eq_true rfl, Nat.le_of_ble_eq_true rfl⟩) hP hD hK hS hA hev rfl rfl rfl rfl hl.1 rfl (Nat.le_of_ble_eq_true rfl) dX10_matching_87 ⟨(Nat.le_of_ble_eq_true rfl), (Nat.le_of_ble_eq_true rfl)⟩ (fun r u H locs hw hP hD hS => ?_)
                      have hw : (∃ z : Int32, r = some (.int z)) ∧ (True) := hw
                      obtain ⟨⟨z_32, rfl⟩, hw_31⟩ := hw
                      have hP : va_P (dC, dI) vwCl (mw g h0 b (va_up i 0 x0_16) a) _ := hP
                      have hD : va_D _ (mw g h0 b (va_up i 0 x0_16) a) := hD
                      refine W.eq (g2 := F0 m 90 ls [.int z_32, .int z_30]) rfl ?_
                      refine lv_icmp_gt (tgt := 118) hx hb dX10_matching_90 (by decide) (fun c_33 => ?_) (fun c_33 => ?_)
                      · have nc_33 := lt_i c_33
                        refine lv_iinc (v := (ii + 1)) (lv' := [(4, .int (ii + 1)), (3, .int bi), (0, .ref h0), (1, .int ck), (2, .int dy)]) hx hb dX10_matching_118 hl (k := 1) rfl rfl (by decide) rfl (fun ls hl => ?_)
                        refine lv_goto (tgt := 38) hx hb dX10_matching_121 (by decide) ?_
                        exact ih bi (ii + 1) _ _ _ (up_nx (by decide) hm (Int32.le_iff_toInt_le.mpr hCI.2.1) c_21)  hP hD hS (lv_sub hl [1, 0, 2, 3, 4] rfl)
                      · have nc_33 := nlt_i c_33
                        refine lv_aload_n hx hb dX10_matching_93 rfl (lv_at hl 2 rfl) ?_
                        refine lv_iload_n hx hb dX10_matching_94 rfl (lv_at hl 3 rfl) ?_
                        refine lv_iload_n hx hb dX10_matching_95 rfl (lv_at hl 4 rfl) ?_
                        refine lv_iconst (v := 0) hx hb dX10_matching_96 (by decide) ?_
                        refine M_V ⟨hx, hb, hml, hown, hts⟩ (m_X10_fadedTo l dC dI sa g h0 b (va_up i 0 x0_16) a ck dy (0 : Int32) _ hc30 hwt) (cwV 3 hts gX10_matching_X10_fadedTo rfl rfl rfl (by decide +kernel) ⟨Nat.le_of_ble_eq_true rfl, Nat.le_of_ble_eq_true rfl⟩) hP hD hK hS hA hev rfl rfl rfl rfl hl.1 rfl (Nat.le_of_ble_eq_true rfl) dX10_matching_97 ⟨(Nat.le_of_ble_eq_true rfl), (Nat.le_of_ble_eq_true rfl)⟩ (fun r u H locs hw hP hD hS => ?_)
                        have hw : (∃ z : Int32, r = some (.int z)) ∧ (True) := hw
                        obtain ⟨⟨z_35, rfl⟩, hw_34⟩ := hw
                        have hP : va_P (dC, dI) vwCl (mw g h0 b (va_up i 0 x0_16) a) _ := hP
                        have hD : va_D _ (mw g h0 b (va_up i 0 x0_16) a) := hD
                        refine W.eq (g2 := F0 m 100 ls [.int z_35]) rfl ?_
                        refine lv_aload_n hx hb dX10_matching_100 rfl (lv_at hl 2 rfl) ?_
                        refine lv_iload hx hb dX10_matching_101 (lv_at hl 1 rfl) ?_
                        refine lv_iload_n hx hb dX10_matching_103 rfl (lv_at hl 4 rfl) ?_
                        refine lv_iconst (v := 1) hx hb dX10_matching_104 (by decide) ?_
                        refine M_V ⟨hx, hb, hml, hown, hts⟩ (m_X10_fadedTo l dC dI sa g h0 b (va_up i 0 x0_16) a ii dy (1 : Int32) _ (hCI.at ⟨by obtain ⟨q9, h1, h2, h3⟩ := hm; rw [h1, nI_toInt (by omega)]; omega, by omega⟩).1 (hCI.at ⟨by obtain ⟨q9, h1, h2, h3⟩ := hm; rw [h1, nI_toInt (by omega)]; omega, by omega⟩).2) (cwV 3 hts gX10_matching_X10_fadedTo rfl rfl rfl (by decide +kernel) ⟨Nat.le_of_ble_eq_true rfl, Nat.le_of_ble_eq_true rfl⟩) hP hD hK hS hA hev rfl rfl rfl rfl hl.1 rfl (Nat.le_of_ble_eq_true rfl) dX10_matching_105 ⟨(Nat.le_of_ble_eq_true rfl), (Nat.le_of_ble_eq_true rfl)⟩ (fun r u H locs hw hP hD hS => ?_)
                        have hw : (∃ z : Int32, r = some (.int z)) ∧ (True) := hw
                        obtain ⟨⟨z_37, rfl⟩, hw_36⟩ := hw
                        have hP : va_P (dC, dI) vwCl (mw g h0 b (va_up i 0 x0_16) a) _ := hP
                        have hD : va_D _ (mw g h0 b (va_up i 0 x0_16) a) := hD
                        refine W.eq (g2 := F0 m 108 ls [.int z_37, .int z_35]) rfl ?_
                        refine lv_icmp_gt (tgt := 118) hx hb dX10_matching_108 (by decide) (fun c_38 => ?_) (fun c_38 => ?_)
                        · have nc_38 := lt_i c_38
                          refine lv_iinc (v := (ii + 1)) (lv' := [(4, .int (ii + 1)), (3, .int bi), (0, .ref h0), (1, .int ck), (2, .int dy)]) hx hb dX10_matching_118 hl (k := 1) rfl rfl (by decide) rfl (fun ls hl => ?_)
                          refine lv_goto (tgt := 38) hx hb dX10_matching_121 (by decide) ?_
                          exact ih bi (ii + 1) _ _ _ (up_nx (by decide) hm (Int32.le_iff_toInt_le.mpr hCI.2.1) c_21)  hP hD hS (lv_sub hl [1, 0, 2, 3, 4] rfl)
                        · have nc_38 := nlt_i c_38
                          refine lv_iload_n hx hb dX10_matching_111 rfl (lv_at hl 0 rfl) ?_
                          refine lv_iconst (v := 1) hx hb dX10_matching_112 (by decide) ?_
                          refine lv_iload hx hb dX10_matching_113 (lv_at hl 1 rfl) ?_
                          refine lv_ishl hx hb dX10_matching_115 ?_
                          refine lv_topi (fun z_39 ez_39 => ?_)
                          refine lv_ior hx hb dX10_matching_116 ?_
                          refine lv_topi (fun z_40 ez_40 => ?_)
                          refine lv_istore_n (lv' := [(3, .int z_40), (4, .int ii), (0, .ref h0), (1, .int ck), (2, .int dy)]) hx hb dX10_matching_117 rfl hl (by decide) rfl (fun ls hl => ?_)
                          refine lv_iinc (v := (ii + 1)) (lv' := [(4, .int (ii + 1)), (3, .int z_40), (0, .ref h0), (1, .int ck), (2, .int dy)]) hx hb dX10_matching_118 hl (k := 1) rfl rfl (by decide) rfl (fun ls hl => ?_)
                          refine lv_goto (tgt := 38) hx hb dX10_matching_121 (by decide) ?_
                          exact ih z_40 (ii + 1) _ _ _ (up_nx (by decide) hm (Int32.le_iff_toInt_le.mpr hCI.2.1) c_21)  hP hD hS (lv_sub hl [1, 0, 2, 3, 4] rfl)
                    · have nc_28 := eq_i c_28
                      have lc_28 : (0 : Int32).toInt = 0 := by decide
                      refine lv_goto (tgt := 118) hx hb dX10_matching_72 (by decide) ?_
                      refine lv_iinc (v := (ii + 1)) (lv' := [(4, .int (ii + 1)), (3, .int bi), (0, .ref h0), (1, .int ck), (2, .int dy)]) hx hb dX10_matching_118 hl (k := 1) rfl rfl (by decide) rfl (fun ls hl => ?_)
                      refine lv_goto (tgt := 38) hx hb dX10_matching_121 (by decide) ?_
                      exact ih bi (ii + 1) _ _ _ (up_nx (by decide) hm (Int32.le_iff_toInt_le.mpr hCI.2.1) c_21)  hP hD hS (lv_sub hl [1, 0, 2, 3, 4] rfl)
          exact lp 31 (0 : Int32) (0 : Int32) _ _ _ (⟨0, nI_0.symm, by omega, by omega⟩)  hP hD hS (lv_sub hl [1, 0, 2, 3, 4] rfl)
