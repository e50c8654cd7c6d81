noncomputable abbrev rm_X10_hasSpanE : Room := { frames := 1, cells := 0, slots := 0, locals := 21 }
set_option maxHeartbeats 4000000 in
set_option maxRecDepth 100000 in
theorem m_X10_hasSpanE (l : Launch) (dC : Nat → ClassId) (dI : Nat → Nat → Nat) (sa : Nat → Nat) (g : Nat → Nat) (h0 : Nat) (b : Nat → Nat) (i : Nat → Int32) (a : Nat → Nat → Int32) (ck : Int32) (dy : Int32) (sz : Nat) (hc30 : vp_in ck 30) : CT l dC dI sa yX10_hasSpan wsX10_hasSpan rm_X10_hasSpanE [.ref h0, .int ck, .int dy] (mw g h0 b i a) (tyM g) sz (fun (r : Option Value) (_ : Unit) => ((r = some (.int 0) ∧ (¬ (¬ ((a 16) ck.toNatClampNeg) = -1 ∧ ((a 16) ck.toNatClampNeg) ≤ dy))) ∨ (r = some (.int 1) ∧ ((¬ ((a 16) ck.toNatClampNeg) = -1 ∧ ((a 16) ck.toNatClampNeg) ≤ dy)))) ∧ (True)) (fun (_ : Unit) => mw g h0 b i a) (fun _ => []) 0 0 := by
  refine CT.start (cc := cX10_hasSpan) (maxL := 3) (ret := (some .boolean)) (by decide) rfl (Nat.le_of_ble_eq_true rfl) ?_
  intro p e s m below meth c ls hst hP hK hD hev hS hl
  obtain ⟨hx, hb, hr, hml, hts, hown, hlocks, hin⟩ := hst
  have hown : s.vm.findClass RX10 = some m.cls := hown
  have hA : ∀ q : Nat, s.heap.size ≤ q → va_A (mw g h0 b i a) s.heap.size q := fun _ h => Or.inr h
  have hl : lv_has ls 3 [(0, .ref h0), (1, .int ck), (2, .int dy)] := hl
  refine lv_aload_n hx hb dX10_hasSpan_0 rfl (lv_at hl 0 rfl) ?_
  refine lv_iload_n hx hb dX10_hasSpan_1 rfl (lv_at hl 1 rfl) ?_
  refine M_V ⟨hx, hb, hml, hown, hts⟩ (m_X10_isDryE l dC dI sa g h0 b i a ck _ hc30) (cwV 1 hts gX10_hasSpan_X10_isDry rfl rfl rfl (by decide +kernel) ⟨Nat.le_of_ble_eq_true rfl, Nat.le_of_ble_eq_true rfl⟩) hP hD hK hS hA hev rfl rfl rfl rfl hl.1 rfl (Nat.le_of_ble_eq_true rfl) dX10_hasSpan_2 ⟨(Nat.le_of_ble_eq_true rfl), (Nat.le_of_ble_eq_true rfl)⟩ (fun r u H locs hw hP hD hS => ?_)
  have hw : ((r = some (.int 0) ∧ (((a 16) ck.toNatClampNeg) = -1)) ∨ (r = some (.int 1) ∧ (¬ ((a 16) ck.toNatClampNeg) = -1))) ∧ (True) := hw
  obtain ⟨⟨rfl, hz2_2⟩ | ⟨rfl, hz2_2⟩, hw_1⟩ := hw
  · have hP : va_P (dC, dI) vwCl (mw g h0 b i a) _ := hP
    have hD : va_D _ (mw g h0 b i a) := hD
    refine W.eq (g2 := F0 m 5 ls [.int 0]) rfl ?_
    refine lv_if_eq (tgt := 22) hx hb dX10_hasSpan_5 (by decide) (fun _ => ?_) (fun c_3 => absurd c_3 (by decide))
    refine lv_iconst (v := 0) hx hb dX10_hasSpan_22 (by decide) ?_
    exact M_z hx hb hr rfl hlocks () hP hD hK hS ⟨Or.inl ⟨rfl, (fun h9 => h9.1 hz2_2)⟩, trivial⟩ (Nat.le_of_ble_eq_true rfl) (Nat.le_of_ble_eq_true rfl) dX10_hasSpan_23
  · have hP : va_P (dC, dI) vwCl (mw g h0 b i a) _ := hP
    have hD : va_D _ (mw g h0 b i a) := hD
    refine W.eq (g2 := F0 m 5 ls [.int 1]) rfl ?_
    refine lv_if_eq (tgt := 22) hx hb dX10_hasSpan_5 (by decide) (fun c_4 => absurd c_4 (by decide)) (fun _ => ?_)
    refine lv_aload_n hx hb dX10_hasSpan_8 rfl (lv_at hl 0 rfl) ?_
    refine va_get (D := (dC, dI)) (ci := 10) (v := .ref (b 16)) (C := RX10) (T := TX10) (N := 51) hx hb hts inw_X10_hasSpan_10 hown hK hP 0 rfl rfl 16 (by decide) (hts (.fieldLink RX10 44 "VatHouseModel" "day" "[I") (List.mem_of_getElem? (i := 1) (by exact rfl))) (fun _ h9 => h9) rfl dX10_hasSpan_9 ?_
    refine lv_iload_n hx hb dX10_hasSpan_12 rfl (lv_at hl 1 rfl) ?_
    refine va_iald hx hb hK hP 12 11 rfl rfl (by assumption) dX10_hasSpan_13 ?_
    refine lv_topi (fun z_5 ez_5 => ?_)
    have ez_5 : z_5 = (a 16) ck.toNatClampNeg := ez_5
    refine lv_iload_n hx hb dX10_hasSpan_14 rfl (lv_at hl 2 rfl) ?_
    refine lv_icmp_gt (tgt := 22) hx hb dX10_hasSpan_15 (by decide) (fun c_6 => ?_) (fun c_6 => ?_)
    · have nc_6 := lt_i c_6
      refine lv_iconst (v := 0) hx hb dX10_hasSpan_22 (by decide) ?_
      exact M_z hx hb hr rfl hlocks () hP hD hK hS ⟨Or.inl ⟨rfl, (fun h9 => le_nlt h9.2 (by rw [← ez_5]; exact c_6))⟩, trivial⟩ (Nat.le_of_ble_eq_true rfl) (Nat.le_of_ble_eq_true rfl) dX10_hasSpan_23
    · have nc_6 := nlt_i c_6
      refine lv_iconst (v := 1) hx hb dX10_hasSpan_18 (by decide) ?_
      refine lv_goto (tgt := 23) hx hb dX10_hasSpan_19 (by decide) ?_
      exact M_z hx hb hr rfl hlocks () hP hD hK hS ⟨Or.inr ⟨rfl, ⟨hz2_2, (by rw [← ez_5]; exact nlt_le c_6)⟩⟩, trivial⟩ (Nat.le_of_ble_eq_true rfl) (Nat.le_of_ble_eq_true rfl) dX10_hasSpan_23

noncomputable abbrev rm_X10_fadedToE : Room := { frames := 1, cells := 0, slots := 0, locals := 21 }
set_option maxHeartbeats 4000000 in
set_option maxRecDepth 100000 in
theorem m_X10_fadedToE (l : Launch) (dC : Nat → ClassId) (dI : Nat → Nat → Nat) (sa : Nat → Nat) (g : Nat → Nat) (h0 : Nat) (b : Nat → Nat) (i : Nat → Int32) (a : Nat → Nat → Int32) (ck : Int32) (dy : Int32) (wt : Int32) (sz : Nat) (hc30 : vp_in ck 30) (hwt : 1 ≤ ((a 13) ck.toNatClampNeg).toInt ∧ ((a 13) ck.toNatClampNeg).toInt ≤ 50) : CT l dC dI sa yX10_fadedTo wsX10_fadedTo rm_X10_fadedToE [.ref h0, .int ck, .int dy, .int wt] (mw g h0 b i a) (tyM g) sz (fun (r : Option Value) (_ : Unit) => (∃ z : Int32, r = some (.int z) ∧ (z = (if wt = 0 then lsV (((a 15) ck.toNatClampNeg) / ((a 13) ck.toNatClampNeg)) ((a 16) ck.toNatClampNeg) dy else gsV (((a 15) ck.toNatClampNeg) / ((a 13) ck.toNatClampNeg)) ((a 16) ck.toNatClampNeg) dy))) ∧ (True)) (fun (_ : Unit) => mw g h0 b i a) (fun _ => []) 0 0 := by
  refine CT.start (cc := cX10_fadedTo) (maxL := 6) (ret := (some .int)) (by decide) rfl (Nat.le_of_ble_eq_true rfl) ?_
  intro p e s m below meth c ls hst hP hK hD hev hS hl
  obtain ⟨hx, hb, hr, hml, hts, hown, hlocks, hin⟩ := hst
  have hown : s.vm.findClass RX10 = some m.cls := hown
  have hA : ∀ q : Nat, s.heap.size ≤ q → va_A (mw g h0 b i a) s.heap.size q := fun _ h => Or.inr h
  have hl : lv_has ls 6 [(0, .ref h0), (1, .int ck), (2, .int dy), (3, .int wt)] := hl
  refine lv_iload_n hx hb dX10_fadedTo_0 rfl (lv_at hl 2 rfl) ?_
  refine lv_aload_n hx hb dX10_fadedTo_1 rfl (lv_at hl 0 rfl) ?_
  refine va_get (D := (dC, dI)) (ci := 10) (v := .ref (b 16)) (C := RX10) (T := TX10) (N := 51) hx hb hts inw_X10_fadedTo_10 hown hK hP 0 rfl rfl 16 (by decide) (hts (.fieldLink RX10 44 "VatHouseModel" "day" "[I") (List.mem_of_getElem? (i := 1) (by exact rfl))) (fun _ h9 => h9) rfl dX10_fadedTo_2 ?_
  refine lv_iload_n hx hb dX10_fadedTo_5 rfl (lv_at hl 1 rfl) ?_
  refine va_iald hx hb hK hP 12 11 rfl rfl (by assumption) dX10_fadedTo_6 ?_
  refine lv_topi (fun z_1 ez_1 => ?_)
  have ez_1 : z_1 = (a 16) ck.toNatClampNeg := ez_1
  refine lv_isub hx hb dX10_fadedTo_7 ?_
  refine lv_topi (fun z_2 ez_2 => ?_)
  refine lv_istore (lv' := [(4, .int z_2), (0, .ref h0), (1, .int ck), (2, .int dy), (3, .int wt)]) hx hb dX10_fadedTo_8 hl (by decide) rfl (fun ls hl => ?_)
  refine lv_aload_n hx hb dX10_fadedTo_10 rfl (lv_at hl 1 rfl) ?_
  refine lv_iload_n hx hb dX10_fadedTo_11 rfl (lv_at hl 2 rfl) ?_
  refine M_V ⟨hx, hb, hml, hown, hts⟩ (m_X10_shadeOfE l dC dI sa g h0 b i a ck _ hc30 hwt) (cwV 1 hts gX10_fadedTo_X10_shadeOf rfl rfl rfl (by decide +kernel) ⟨Nat.le_of_ble_eq_true rfl, Nat.le_of_ble_eq_true rfl⟩) hP hD hK hS hA hev rfl rfl rfl rfl hl.1 rfl (Nat.le_of_ble_eq_true rfl) dX10_fadedTo_12 ⟨(Nat.le_of_ble_eq_true rfl), (Nat.le_of_ble_eq_true rfl)⟩ (fun r u H locs hw hP hD hS => ?_)
  have hw : (∃ z : Int32, r = some (.int z) ∧ (z = ((a 15) ck.toNatClampNeg) / ((a 13) ck.toNatClampNeg))) ∧ (True) := hw
  obtain ⟨⟨z_4, rfl, hz_z_4⟩, hw_3⟩ := hw
  have hP : va_P (dC, dI) vwCl (mw g h0 b i a) _ := hP
  have hD : va_D _ (mw g h0 b i a) := hD
  refine W.eq (g2 := F0 m 15 ls [.int z_4]) rfl ?_
  have ez_4 := hz_z_4
  refine lv_iload_n hx hb dX10_fadedTo_15 rfl (lv_at hl 4 rfl) ?_
  refine lv_if_ne (tgt := 29) hx hb dX10_fadedTo_16 (by decide) (fun c_5 => ?_) (fun c_5 => ?_)
  · have nc_5 := ne_i c_5
    have lc_5 : (0 : Int32).toInt = 0 := by decide
    refine lv_iload hx hb dX10_fadedTo_29 (lv_at hl 0 rfl) ?_
    refine lv_bipush (v := 100) hx hb dX10_fadedTo_31 (by decide) ?_
    refine lv_idiv hx hb dX10_fadedTo_33 (by decide) ?_
    refine lv_topi (fun z_6 ez_6 => ?_)
    refine lv_isub hx hb dX10_fadedTo_34 ?_
    refine lv_topi (fun z_7 ez_7 => ?_)
    refine lv_istore (lv' := [(5, .int z_7), (4, .int z_2), (0, .ref h0), (1, .int ck), (2, .int dy), (3, .int wt)]) hx hb dX10_fadedTo_35 hl (by decide) rfl (fun ls hl => ?_)
    refine lv_iload hx hb dX10_fadedTo_37 (lv_at hl 0 rfl) ?_
    refine lv_if_le (tgt := 47) hx hb dX10_fadedTo_39 (by decide) (fun c_8 => ?_) (fun c_8 => ?_)
    · have nc_8 := le_i c_8
      have lc_8 : (0 : Int32).toInt = 0 := by decide
      refine lv_iconst (v := 0) hx hb dX10_fadedTo_47 (by decide) ?_
      exact M_i hx hb hr hlocks () hP hD hK hS ⟨⟨_, rfl, (by have c_59 := c_5; (try simp only [ez_1, ez_2, ez_4, ez_6, ez_7, upd_at, upd_upd, upd_id] at c_59); have c_89 := le_nlt c_8; (try simp only [ez_1, ez_2, ez_4, ez_6, ez_7, upd_at, upd_upd, upd_id] at c_89); simp only [lsV, gsV, ez_1, ez_2, ez_4, ez_6, ez_7, upd_at, upd_upd, upd_id, if_neg c_59, if_neg c_89, upd_upd, upd_id])⟩, trivial⟩ (Nat.le_of_ble_eq_true rfl) (Nat.le_of_ble_eq_true rfl) dX10_fadedTo_48
    · have nc_8 := nle_i c_8
      have lc_8 : (0 : Int32).toInt = 0 := by decide
      refine lv_iload hx hb dX10_fadedTo_42 (lv_at hl 0 rfl) ?_
      refine lv_goto (tgt := 48) hx hb dX10_fadedTo_44 (by decide) ?_
      exact M_i hx hb hr hlocks () hP hD hK hS ⟨⟨_, rfl, (by have c_59 := c_5; (try simp only [ez_1, ez_2, ez_4, ez_6, ez_7, upd_at, upd_upd, upd_id] at c_59); have c_89 := nle_lt c_8; (try simp only [ez_1, ez_2, ez_4, ez_6, ez_7, upd_at, upd_upd, upd_id] at c_89); simp only [lsV, gsV, ez_1, ez_2, ez_4, ez_6, ez_7, upd_at, upd_upd, upd_id, if_neg c_59, if_pos c_89, upd_upd, upd_id])⟩, trivial⟩ (Nat.le_of_ble_eq_true rfl) (Nat.le_of_ble_eq_true rfl) dX10_fadedTo_48
  · have nc_5 := eq_i c_5
    have lc_5 : (0 : Int32).toInt = 0 := by decide
    refine lv_iconst (v := 3) hx hb dX10_fadedTo_19 (by decide) ?_
    refine lv_iload hx hb dX10_fadedTo_20 (lv_at hl 0 rfl) ?_
    refine lv_imul hx hb dX10_fadedTo_22 ?_
    refine lv_topi (fun z_9 ez_9 => ?_)
    refine lv_bipush (v := 100) hx hb dX10_fadedTo_23 (by decide) ?_
    refine lv_idiv hx hb dX10_fadedTo_25 (by decide) ?_
    refine lv_topi (fun z_10 ez_10 => ?_)
    refine lv_goto (tgt := 34) hx hb dX10_fadedTo_26 (by decide) ?_
    refine lv_isub hx hb dX10_fadedTo_34 ?_
    refine lv_topi (fun z_11 ez_11 => ?_)
    refine lv_istore (lv' := [(5, .int z_11), (4, .int z_2), (0, .ref h0), (1, .int ck), (2, .int dy), (3, .int wt)]) hx hb dX10_fadedTo_35 hl (by decide) rfl (fun ls hl => ?_)
    refine lv_iload hx hb dX10_fadedTo_37 (lv_at hl 0 rfl) ?_
    refine lv_if_le (tgt := 47) hx hb dX10_fadedTo_39 (by decide) (fun c_12 => ?_) (fun c_12 => ?_)
    · have nc_12 := le_i c_12
      have lc_12 : (0 : Int32).toInt = 0 := by decide
      refine lv_iconst (v := 0) hx hb dX10_fadedTo_47 (by decide) ?_
      exact M_i hx hb hr hlocks () hP hD hK hS ⟨⟨_, rfl, (by have c_59 := c_5; (try simp only [ez_1, ez_2, ez_4, ez_9, ez_10, ez_11, upd_at, upd_upd, upd_id] at c_59); have c_129 := le_nlt c_12; (try simp only [ez_1, ez_2, ez_4, ez_9, ez_10, ez_11, upd_at, upd_upd, upd_id] at c_129); simp only [lsV, gsV, ez_1, ez_2, ez_4, ez_9, ez_10, ez_11, upd_at, upd_upd, upd_id, if_pos c_59, if_neg c_129, upd_upd, upd_id])⟩, trivial⟩ (Nat.le_of_ble_eq_true rfl) (Nat.le_of_ble_eq_true rfl) dX10_fadedTo_48
    · have nc_12 := nle_i c_12
      have lc_12 : (0 : Int32).toInt = 0 := by decide
      refine lv_iload hx hb dX10_fadedTo_42 (lv_at hl 0 rfl) ?_
      refine lv_goto (tgt := 48) hx hb dX10_fadedTo_44 (by decide) ?_
      exact M_i hx hb hr hlocks () hP hD hK hS ⟨⟨_, rfl, (by have c_59 := c_5; (try simp only [ez_1, ez_2, ez_4, ez_9, ez_10, ez_11, upd_at, upd_upd, upd_id] at c_59); have c_129 := nle_lt c_12; (try simp only [ez_1, ez_2, ez_4, ez_9, ez_10, ez_11, upd_at, upd_upd, upd_id] at c_129); simp only [lsV, gsV, ez_1, ez_2, ez_4, ez_9, ez_10, ez_11, upd_at, upd_upd, upd_id, if_pos c_59, if_pos c_129, upd_upd, upd_id])⟩, trivial⟩ (Nat.le_of_ble_eq_true rfl) (Nat.le_of_ble_eq_true rfl) dX10_fadedTo_48

noncomputable abbrev rm_X10_fadedE : Room := { frames := 2, cells := 0, slots := 0, locals := 46 }
set_option maxHeartbeats 4000000 in
set_option maxRecDepth 100000 in
theorem m_X10_fadedE (l : Launch) (dC : Nat → ClassId) (dI : Nat → Nat → Nat) (sa : Nat → Nat) (g : Nat → Nat) (h0 : Nat) (b : Nat → Nat) (i : Nat → Int32) (a : Nat → Nat → Int32) (ck : Int32) (dy : Int32) (wt : Int32) (sz : Nat) (hRC : RC (i, a)) : CT l dC dI sa yX10_faded wsX10_faded rm_X10_fadedE [.ref h0, .int ck, .int dy, .int wt] (mw g h0 b i a) (tyM g) sz (fun (r : Option Value) (x0 : Int32) => (∃ z : Int32, r = some (.int z)) ∧ (x0 = (faS ck dy wt (i, a)).1 ∧ ((faS ck dy wt (i, a)).1 = 0 → r = some (.int (faS ck dy wt (i, a)).2.1)))) (fun (x0 : Int32) => mw g h0 b (va_up i 0 x0) a) (fun _ => []) 0 0 := by
  refine CT.start (cc := cX10_faded) (maxL := 4) (ret := (some .int)) (by decide) rfl (Nat.le_of_ble_eq_true rfl) ?_
  intro p e s m below meth c ls hst hP hK hD hev hS hl
  obtain ⟨hx, hb, hr, hml, hts, hown, hlocks, hin⟩ := hst
  have hown : s.vm.findClass RX10 = some m.cls := hown
  have hA : ∀ q : Nat, s.heap.size ≤ q → va_A (mw g h0 b i a) s.heap.size q := fun _ h => Or.inr h
  have hl : lv_has ls 4 [(0, .ref h0), (1, .int ck), (2, .int dy), (3, .int wt)] := hl
  refine lv_aload_n hx hb dX10_faded_0 rfl (lv_at hl 0 rfl) ?_
  refine lv_iload_n hx hb dX10_faded_1 rfl (lv_at hl 1 rfl) ?_
  refine M_V ⟨hx, hb, hml, hown, hts⟩ (m_X10_isClothE l dC dI sa g h0 b i a ck _ ) (cwV 1 hts gX10_faded_X10_isCloth rfl rfl rfl (by decide +kernel) ⟨Nat.le_of_ble_eq_true rfl, Nat.le_of_ble_eq_true rfl⟩) hP hD hK hS hA hev rfl rfl rfl rfl hl.1 rfl (Nat.le_of_ble_eq_true rfl) dX10_faded_2 ⟨(Nat.le_of_ble_eq_true rfl), (Nat.le_of_ble_eq_true rfl)⟩ (fun r u H locs hw hP hD hS => ?_)
  obtain ⟨x0_1, rfl⟩ : ∃ z, z = u := ⟨_, rfl⟩
  have hw : ((r = some (.int 0) ∧ (¬ inC (i, a) ck ∧ x0_1 = 1)) ∨ (r = some (.int 1) ∧ (inC (i, a) ck ∧ x0_1 = 0))) ∧ (True) := hw
  obtain ⟨⟨rfl, hz2_3⟩ | ⟨rfl, hz2_3⟩, hw_2⟩ := hw
  · have hP : va_P (dC, dI) vwCl (mw g h0 b (va_up i 0 x0_1) a) _ := hP
    have hD : va_D _ (mw g h0 b (va_up i 0 x0_1) a) := hD
    refine W.eq (g2 := F0 m 5 ls [.int 0]) rfl ?_
    refine lv_if_eq (tgt := 40) hx hb dX10_faded_5 (by decide) (fun _ => ?_) (fun c_4 => absurd c_4 (by decide))
    refine lv_iconst (v := 0) hx hb dX10_faded_40 (by decide) ?_
    exact M_i hx hb hr hlocks (x0_1) hP hD hK hS ⟨⟨_, rfl⟩, (by rw [show faS ck dy wt (i, a) = _ from if_neg hz2_3.1]; exact ⟨hz2_3.2, fun h9 => (by first | exact n1_0 h9 | exact n2_0 h9)⟩)⟩ (Nat.le_of_ble_eq_true rfl) (Nat.le_of_ble_eq_true rfl) dX10_faded_41
  · have hP : va_P (dC, dI) vwCl (mw g h0 b (va_up i 0 x0_1) a) _ := hP
    have hD : va_D _ (mw g h0 b (va_up i 0 x0_1) a) := hD
    refine W.eq (g2 := F0 m 5 ls [.int 1]) rfl ?_
    have hc30 := in_C hz2_3.1 hRC.1.2
    have hcc := inC_c hz2_3.1
    have hwt := (hRC.2 _ hcc.2).1
    refine lv_if_eq (tgt := 40) hx hb dX10_faded_5 (by decide) (fun c_5 => absurd c_5 (by decide)) (fun _ => ?_)
    refine lv_aload_n hx hb dX10_faded_8 rfl (lv_at hl 0 rfl) ?_
    refine lv_iload_n hx hb dX10_faded_9 rfl (lv_at hl 3 rfl) ?_
    refine lv_if_eq (tgt := 18) hx hb dX10_faded_10 (by decide) (fun c_6 => ?_) (fun c_6 => ?_)
    · have nc_6 := eq_i c_6
      have lc_6 : (0 : Int32).toInt = 0 := by decide
      refine lv_iload_n hx hb dX10_faded_18 rfl (lv_at hl 2 rfl) ?_
      refine lv_if_lt (tgt := 32) hx hb dX10_faded_19 (by decide) (fun c_7 => ?_) (fun c_7 => ?_)
      · have nc_7 := lt_i c_7
        have lc_7 : (0 : Int32).toInt = 0 := by decide
        refine lv_iconst (v := 0) hx hb dX10_faded_32 (by decide) ?_
        refine lv_iconst (v := 2) hx hb dX10_faded_33 (by decide) ?_
        refine M_V ⟨hx, hb, hml, hown, hts⟩ (m_X10_rightX l dC dI sa g h0 b (va_up i 0 x0_1) a (0 : Int32) (2 : Int32) _ (by decide) hz2_3.2) (cwV 2 hts gX10_faded_X10_right rfl rfl rfl (by decide +kernel) ⟨Nat.le_of_ble_eq_true rfl, Nat.le_of_ble_eq_true rfl⟩) hP hD hK hS hA hev rfl rfl rfl rfl hl.1 rfl (Nat.le_of_ble_eq_true rfl) dX10_faded_34 ⟨(Nat.le_of_ble_eq_true rfl), (Nat.le_of_ble_eq_true rfl)⟩ (fun r u H locs hw hP hD hS => ?_)
        obtain ⟨x0_8, rfl⟩ : ∃ z, z = u := ⟨_, rfl⟩
        have hw : ((r = some (.int 0) ∧ ((0 : Int32) = 0 ∧ x0_8 = (2 : Int32))) ∨ (r = some (.int 1) ∧ (¬ (0 : Int32) = 0 ∧ x0_8 = 0))) ∧ (True) := hw
        obtain ⟨⟨rfl, hz2_10⟩ | ⟨rfl, hz2_10⟩, hw_9⟩ := hw
        · have hP : va_P (dC, dI) vwCl (mw g h0 b (va_up i 0 x0_8) a) _ := hP
          have hD : va_D _ (mw g h0 b (va_up i 0 x0_8) a) := hD
          refine W.eq (g2 := F0 m 37 ls [.int 0]) rfl ?_
          refine lv_if_ne (tgt := 42) hx hb dX10_faded_37 (by decide) (fun c_11 => absurd c_11 (by decide)) (fun _ => ?_)
          refine lv_iconst (v := 0) hx hb dX10_faded_40 (by decide) ?_
          exact M_i hx hb hr hlocks (x0_8) hP hD hK hS ⟨⟨_, rfl⟩, (by rw [show faS ck dy wt (i, a) = _ from (if_pos hz2_3.1).trans (if_neg (fun h8 => le_nlt h8.2.1 c_7))]; exact ⟨hz2_10.2, fun h9 => (by first | exact n1_0 h9 | exact n2_0 h9)⟩)⟩ (Nat.le_of_ble_eq_true rfl) (Nat.le_of_ble_eq_true rfl) dX10_faded_41
        · have hP : va_P (dC, dI) vwCl (mw g h0 b (va_up i 0 x0_8) a) _ := hP
          have hD : va_D _ (mw g h0 b (va_up i 0 x0_8) a) := hD
          refine W.eq (g2 := F0 m 37 ls [.int 1]) rfl ?_
          exact absurd rfl hz2_10.1
      · have nc_7 := nlt_i c_7
        have lc_7 : (0 : Int32).toInt = 0 := by decide
        refine lv_iload_n hx hb dX10_faded_22 rfl (lv_at hl 2 rfl) ?_
        refine lv_ldc (v := 1000000) hx hb hown (hts (.constant RX10 119 (1000000)) (List.mem_of_getElem? (i := 1) (by exact rfl))) dX10_faded_23 ?_
        refine lv_icmp_gt (tgt := 32) hx hb dX10_faded_25 (by decide) (fun c_12 => ?_) (fun c_12 => ?_)
        · have nc_12 := lt_i c_12
          have lc_12 : (1000000 : Int32).toInt = 1000000 := by decide
          refine lv_iconst (v := 0) hx hb dX10_faded_32 (by decide) ?_
          refine lv_iconst (v := 2) hx hb dX10_faded_33 (by decide) ?_
          refine M_V ⟨hx, hb, hml, hown, hts⟩ (m_X10_rightX l dC dI sa g h0 b (va_up i 0 x0_1) a (0 : Int32) (2 : Int32) _ (by decide) hz2_3.2) (cwV 2 hts gX10_faded_X10_right rfl rfl rfl (by decide +kernel) ⟨Nat.le_of_ble_eq_true rfl, Nat.le_of_ble_eq_true rfl⟩) hP hD hK hS hA hev rfl rfl rfl rfl hl.1 rfl (Nat.le_of_ble_eq_true rfl) dX10_faded_34 ⟨(Nat.le_of_ble_eq_true rfl), (Nat.le_of_ble_eq_true rfl)⟩ (fun r u H locs hw hP hD hS => ?_)
          obtain ⟨x0_13, rfl⟩ : ∃ z, z = u := ⟨_, rfl⟩
          have hw : ((r = some (.int 0) ∧ ((0 : Int32) = 0 ∧ x0_13 = (2 : Int32))) ∨ (r = some (.int 1) ∧ (¬ (0 : Int32) = 0 ∧ x0_13 = 0))) ∧ (True) := hw
          obtain ⟨⟨rfl, hz2_15⟩ | ⟨rfl, hz2_15⟩, hw_14⟩ := hw
          · have hP : va_P (dC, dI) vwCl (mw g h0 b (va_up i 0 x0_13) a) _ := hP
            have hD : va_D _ (mw g h0 b (va_up i 0 x0_13) a) := hD
            refine W.eq (g2 := F0 m 37 ls [.int 0]) rfl ?_
            refine lv_if_ne (tgt := 42) hx hb dX10_faded_37 (by decide) (fun c_16 => absurd c_16 (by decide)) (fun _ => ?_)
            refine lv_iconst (v := 0) hx hb dX10_faded_40 (by decide) ?_
            exact M_i hx hb hr hlocks (x0_13) hP hD hK hS ⟨⟨_, rfl⟩, (by rw [show faS ck dy wt (i, a) = _ from (if_pos hz2_3.1).trans (if_neg (fun h8 => le_nlt h8.2.2 c_12))]; exact ⟨hz2_15.2, fun h9 => (by first | exact n1_0 h9 | exact n2_0 h9)⟩)⟩ (Nat.le_of_ble_eq_true rfl) (Nat.le_of_ble_eq_true rfl) dX10_faded_41
          · have hP : va_P (dC, dI) vwCl (mw g h0 b (va_up i 0 x0_13) a) _ := hP
            have hD : va_D _ (mw g h0 b (va_up i 0 x0_13) a) := hD
            refine W.eq (g2 := F0 m 37 ls [.int 1]) rfl ?_
            exact absurd rfl hz2_15.1
        · have nc_12 := nlt_i c_12
          have lc_12 : (1000000 : Int32).toInt = 1000000 := by decide
          refine lv_iconst (v := 1) hx hb dX10_faded_28 (by decide) ?_
          refine lv_goto (tgt := 33) hx hb dX10_faded_29 (by decide) ?_
          refine lv_iconst (v := 2) hx hb dX10_faded_33 (by decide) ?_
          refine M_V ⟨hx, hb, hml, hown, hts⟩ (m_X10_rightX l dC dI sa g h0 b (va_up i 0 x0_1) a (1 : Int32) (2 : Int32) _ (by decide) hz2_3.2) (cwV 2 hts gX10_faded_X10_right rfl rfl rfl (by decide +kernel) ⟨Nat.le_of_ble_eq_true rfl, Nat.le_of_ble_eq_true rfl⟩) hP hD hK hS hA hev rfl rfl rfl rfl hl.1 rfl (Nat.le_of_ble_eq_true rfl) dX10_faded_34 ⟨(Nat.le_of_ble_eq_true rfl), (Nat.le_of_ble_eq_true rfl)⟩ (fun r u H locs hw hP hD hS => ?_)
          obtain ⟨x0_17, rfl⟩ : ∃ z, z = u := ⟨_, rfl⟩
          have hw : ((r = some (.int 0) ∧ ((1 : Int32) = 0 ∧ x0_17 = (2 : Int32))) ∨ (r = some (.int 1) ∧ (¬ (1 : Int32) = 0 ∧ x0_17 = 0))) ∧ (True) := hw
          obtain ⟨⟨rfl, hz2_19⟩ | ⟨rfl, hz2_19⟩, hw_18⟩ := hw
          · have hP : va_P (dC, dI) vwCl (mw g h0 b (va_up i 0 x0_17) a) _ := hP
            have hD : va_D _ (mw g h0 b (va_up i 0 x0_17) a) := hD
            refine W.eq (g2 := F0 m 37 ls [.int 0]) rfl ?_
            exact absurd hz2_19.1 (by decide)
          · have hP : va_P (dC, dI) vwCl (mw g h0 b (va_up i 0 x0_17) a) _ := hP
            have hD : va_D _ (mw g h0 b (va_up i 0 x0_17) a) := hD
            refine W.eq (g2 := F0 m 37 ls [.int 1]) rfl ?_
            refine lv_if_ne (tgt := 42) hx hb dX10_faded_37 (by decide) (fun _ => ?_) (fun c_20 => absurd c_20 (by decide))
            refine lv_aload_n hx hb dX10_faded_42 rfl (lv_at hl 0 rfl) ?_
            refine lv_iload_n hx hb dX10_faded_43 rfl (lv_at hl 1 rfl) ?_
            refine lv_iload_n hx hb dX10_faded_44 rfl (lv_at hl 2 rfl) ?_
            refine M_V ⟨hx, hb, hml, hown, hts⟩ (m_X10_hasSpanE l dC dI sa g h0 b (va_up i 0 x0_17) a ck dy _ hc30) (cwV 2 hts gX10_faded_X10_hasSpan rfl rfl rfl (by decide +kernel) ⟨Nat.le_of_ble_eq_true rfl, Nat.le_of_ble_eq_true rfl⟩) hP hD hK hS hA hev rfl rfl rfl rfl hl.1 rfl (Nat.le_of_ble_eq_true rfl) dX10_faded_45 ⟨(Nat.le_of_ble_eq_true rfl), (Nat.le_of_ble_eq_true rfl)⟩ (fun r u H locs hw hP hD hS => ?_)
            have hw : ((r = some (.int 0) ∧ (¬ (¬ ((a 16) ck.toNatClampNeg) = -1 ∧ ((a 16) ck.toNatClampNeg) ≤ dy))) ∨ (r = some (.int 1) ∧ ((¬ ((a 16) ck.toNatClampNeg) = -1 ∧ ((a 16) ck.toNatClampNeg) ≤ dy)))) ∧ (True) := hw
            obtain ⟨⟨rfl, hz2_22⟩ | ⟨rfl, hz2_22⟩, hw_21⟩ := hw
            · have hP : va_P (dC, dI) vwCl (mw g h0 b (va_up i 0 x0_17) a) _ := hP
              have hD : va_D _ (mw g h0 b (va_up i 0 x0_17) a) := hD
              refine W.eq (g2 := F0 m 48 ls [.int 0]) rfl ?_
              refine lv_if_eq (tgt := 61) hx hb dX10_faded_48 (by decide) (fun _ => ?_) (fun c_23 => absurd c_23 (by decide))
              refine lv_iconst (v := (-1)) hx hb dX10_faded_61 (by decide) ?_
              exact M_i hx hb hr hlocks (x0_17) hP hD hK hS ⟨⟨_, rfl⟩, (by rw [show faS ck dy wt (i, a) = _ from (if_pos hz2_3.1).trans ((if_pos ⟨w01 (Or.inl c_6), nlt_le c_7, nlt_le c_12⟩).trans (if_neg hz2_22))]; exact ⟨hz2_19.2, fun h9 => rfl⟩)⟩ (Nat.le_of_ble_eq_true rfl) (Nat.le_of_ble_eq_true rfl) dX10_faded_62
            · have hP : va_P (dC, dI) vwCl (mw g h0 b (va_up i 0 x0_17) a) _ := hP
              have hD : va_D _ (mw g h0 b (va_up i 0 x0_17) a) := hD
              refine W.eq (g2 := F0 m 48 ls [.int 1]) rfl ?_
              refine lv_if_eq (tgt := 61) hx hb dX10_faded_48 (by decide) (fun c_24 => absurd c_24 (by decide)) (fun _ => ?_)
              refine lv_aload_n hx hb dX10_faded_51 rfl (lv_at hl 0 rfl) ?_
              refine lv_iload_n hx hb dX10_faded_52 rfl (lv_at hl 1 rfl) ?_
              refine lv_iload_n hx hb dX10_faded_53 rfl (lv_at hl 2 rfl) ?_
              refine lv_iload_n hx hb dX10_faded_54 rfl (lv_at hl 3 rfl) ?_
              refine M_V ⟨hx, hb, hml, hown, hts⟩ (m_X10_fadedToE l dC dI sa g h0 b (va_up i 0 x0_17) a ck dy wt _ hc30 hwt) (cwV 3 hts gX10_faded_X10_fadedTo rfl rfl rfl (by decide +kernel) ⟨Nat.le_of_ble_eq_true rfl, Nat.le_of_ble_eq_true rfl⟩) hP hD hK hS hA hev rfl rfl rfl rfl hl.1 rfl (Nat.le_of_ble_eq_true rfl) dX10_faded_55 ⟨(Nat.le_of_ble_eq_true rfl), (Nat.le_of_ble_eq_true rfl)⟩ (fun r u H locs hw hP hD hS => ?_)
              have hw : (∃ z : Int32, r = some (.int z) ∧ (z = (if wt = 0 then lsV (((a 15) ck.toNatClampNeg) / ((a 13) ck.toNatClampNeg)) ((a 16) ck.toNatClampNeg) dy else gsV (((a 15) ck.toNatClampNeg) / ((a 13) ck.toNatClampNeg)) ((a 16) ck.toNatClampNeg) dy))) ∧ (True) := hw
              obtain ⟨⟨z_26, rfl, hz_z_26⟩, hw_25⟩ := hw
              have hP : va_P (dC, dI) vwCl (mw g h0 b (va_up i 0 x0_17) a) _ := hP
              have hD : va_D _ (mw g h0 b (va_up i 0 x0_17) a) := hD
              refine W.eq (g2 := F0 m 58 ls [.int z_26]) rfl ?_
              refine lv_goto (tgt := 62) hx hb dX10_faded_58 (by decide) ?_
              exact M_i hx hb hr hlocks (x0_17) hP hD hK hS ⟨⟨_, rfl⟩, (by rw [show faS ck dy wt (i, a) = _ from (if_pos hz2_3.1).trans ((if_pos ⟨w01 (Or.inl c_6), nlt_le c_7, nlt_le c_12⟩).trans (if_pos hz2_22))]; exact ⟨hz2_19.2, fun h9 => (by rw [hz_z_26]; rfl)⟩)⟩ (Nat.le_of_ble_eq_true rfl) (Nat.le_of_ble_eq_true rfl) dX10_faded_62
    · have nc_6 := ne_i c_6
      have lc_6 : (0 : Int32).toInt = 0 := by decide
      refine lv_iload_n hx hb dX10_faded_13 rfl (lv_at hl 3 rfl) ?_
      refine lv_iconst (v := 1) hx hb dX10_faded_14 (by decide) ?_
      refine lv_icmp_ne (tgt := 32) hx hb dX10_faded_15 (by decide) (fun c_27 => ?_) (fun c_27 => ?_)
      · have nc_27 := ne_i c_27
        have lc_27 : (1 : Int32).toInt = 1 := by decide
        refine lv_iconst (v := 0) hx hb dX10_faded_32 (by decide) ?_
        refine lv_iconst (v := 2) hx hb dX10_faded_33 (by decide) ?_
        refine M_V ⟨hx, hb, hml, hown, hts⟩ (m_X10_rightX l dC dI sa g h0 b (va_up i 0 x0_1) a (0 : Int32) (2 : Int32) _ (by decide) hz2_3.2) (cwV 2 hts gX10_faded_X10_right rfl rfl rfl (by decide +kernel) ⟨Nat.le_of_ble_eq_true rfl, Nat.le_of_ble_eq_true rfl⟩) hP hD hK hS hA hev rfl rfl rfl rfl hl.1 rfl (Nat.le_of_ble_eq_true rfl) dX10_faded_34 ⟨(Nat.le_of_ble_eq_true rfl), (Nat.le_of_ble_eq_true rfl)⟩ (fun r u H locs hw hP hD hS => ?_)
        obtain ⟨x0_28, rfl⟩ : ∃ z, z = u := ⟨_, rfl⟩
        have hw : ((r = some (.int 0) ∧ ((0 : Int32) = 0 ∧ x0_28 = (2 : Int32))) ∨ (r = some (.int 1) ∧ (¬ (0 : Int32) = 0 ∧ x0_28 = 0))) ∧ (True) := hw
        obtain ⟨⟨rfl, hz2_30⟩ | ⟨rfl, hz2_30⟩, hw_29⟩ := hw
        · have hP : va_P (dC, dI) vwCl (mw g h0 b (va_up i 0 x0_28) a) _ := hP
          have hD : va_D _ (mw g h0 b (va_up i 0 x0_28) a) := hD
          refine W.eq (g2 := F0 m 37 ls [.int 0]) rfl ?_
          refine lv_if_ne (tgt := 42) hx hb dX10_faded_37 (by decide) (fun c_31 => absurd c_31 (by decide)) (fun _ => ?_)
          refine lv_iconst (v := 0) hx hb dX10_faded_40 (by decide) ?_
          exact M_i hx hb hr hlocks (x0_28) hP hD hK hS ⟨⟨_, rfl⟩, (by rw [show faS ck dy wt (i, a) = _ from (if_pos hz2_3.1).trans (if_neg (fun h8 => nw01 h8.1 c_6 c_27))]; exact ⟨hz2_30.2, fun h9 => (by first | exact n1_0 h9 | exact n2_0 h9)⟩)⟩ (Nat.le_of_ble_eq_true rfl) (Nat.le_of_ble_eq_true rfl) dX10_faded_41
        · have hP : va_P (dC, dI) vwCl (mw g h0 b (va_up i 0 x0_28) a) _ := hP
          have hD : va_D _ (mw g h0 b (va_up i 0 x0_28) a) := hD
          refine W.eq (g2 := F0 m 37 ls [.int 1]) rfl ?_
          exact absurd rfl hz2_30.1
      · have nc_27 := eq_i c_27
        have lc_27 : (1 : Int32).toInt = 1 := by decide
        refine lv_iload_n hx hb dX10_faded_18 rfl (lv_at hl 2 rfl) ?_
        refine lv_if_lt (tgt := 32) hx hb dX10_faded_19 (by decide) (fun c_32 => ?_) (fun c_32 => ?_)
        · have nc_32 := lt_i c_32
          have lc_32 : (0 : Int32).toInt = 0 := by decide
          refine lv_iconst (v := 0) hx hb dX10_faded_32 (by decide) ?_
          refine lv_iconst (v := 2) hx hb dX10_faded_33 (by decide) ?_
          refine M_V ⟨hx, hb, hml, hown, hts⟩ (m_X10_rightX l dC dI sa g h0 b (va_up i 0 x0_1) a (0 : Int32) (2 : Int32) _ (by decide) hz2_3.2) (cwV 2 hts gX10_faded_X10_right rfl rfl rfl (by decide +kernel) ⟨Nat.le_of_ble_eq_true rfl, Nat.le_of_ble_eq_true rfl⟩) hP hD hK hS hA hev rfl rfl rfl rfl hl.1 rfl (Nat.le_of_ble_eq_true rfl) dX10_faded_34 ⟨(Nat.le_of_ble_eq_true rfl), (Nat.le_of_ble_eq_true rfl)⟩ (fun r u H locs hw hP hD hS => ?_)
          obtain ⟨x0_33, rfl⟩ : ∃ z, z = u := ⟨_, rfl⟩
          have hw : ((r = some (.int 0) ∧ ((0 : Int32) = 0 ∧ x0_33 = (2 : Int32))) ∨ (r = some (.int 1) ∧ (¬ (0 : Int32) = 0 ∧ x0_33 = 0))) ∧ (True) := hw
          obtain ⟨⟨rfl, hz2_35⟩ | ⟨rfl, hz2_35⟩, hw_34⟩ := hw
          · have hP : va_P (dC, dI) vwCl (mw g h0 b (va_up i 0 x0_33) a) _ := hP
            have hD : va_D _ (mw g h0 b (va_up i 0 x0_33) a) := hD
            refine W.eq (g2 := F0 m 37 ls [.int 0]) rfl ?_
            refine lv_if_ne (tgt := 42) hx hb dX10_faded_37 (by decide) (fun c_36 => absurd c_36 (by decide)) (fun _ => ?_)
            refine lv_iconst (v := 0) hx hb dX10_faded_40 (by decide) ?_
            exact M_i hx hb hr hlocks (x0_33) hP hD hK hS ⟨⟨_, rfl⟩, (by rw [show faS ck dy wt (i, a) = _ from (if_pos hz2_3.1).trans (if_neg (fun h8 => le_nlt h8.2.1 c_32))]; exact ⟨hz2_35.2, fun h9 => (by first | exact n1_0 h9 | exact n2_0 h9)⟩)⟩ (Nat.le_of_ble_eq_true rfl) (Nat.le_of_ble_eq_true rfl) dX10_faded_41
          · have hP : va_P (dC, dI) vwCl (mw g h0 b (va_up i 0 x0_33) a) _ := hP
            have hD : va_D _ (mw g h0 b (va_up i 0 x0_33) a) := hD
            refine W.eq (g2 := F0 m 37 ls [.int 1]) rfl ?_
            exact absurd rfl hz2_35.1
        · have nc_32 := nlt_i c_32
          have lc_32 : (0 : Int32).toInt = 0 := by decide
          refine lv_iload_n hx hb dX10_faded_22 rfl (lv_at hl 2 rfl) ?_
          refine lv_ldc (v := 1000000) hx hb hown (hts (.constant RX10 119 (1000000)) (List.mem_of_getElem? (i := 1) (by exact rfl))) dX10_faded_23 ?_
          refine lv_icmp_gt (tgt := 32) hx hb dX10_faded_25 (by decide) (fun c_37 => ?_) (fun c_37 => ?_)
          · have nc_37 := lt_i c_37
            have lc_37 : (1000000 : Int32).toInt = 1000000 := by decide
            refine lv_iconst (v := 0) hx hb dX10_faded_32 (by decide) ?_
            refine lv_iconst (v := 2) hx hb dX10_faded_33 (by decide) ?_
            refine M_V ⟨hx, hb, hml, hown, hts⟩ (m_X10_rightX l dC dI sa g h0 b (va_up i 0 x0_1) a (0 : Int32) (2 : Int32) _ (by decide) hz2_3.2) (cwV 2 hts gX10_faded_X10_right rfl rfl rfl (by decide +kernel) ⟨Nat.le_of_ble_eq_true rfl, Nat.le_of_ble_eq_true rfl⟩) hP hD hK hS hA hev rfl rfl rfl rfl hl.1 rfl (Nat.le_of_ble_eq_true rfl) dX10_faded_34 ⟨(Nat.le_of_ble_eq_true rfl), (Nat.le_of_ble_eq_true rfl)⟩ (fun r u H locs hw hP hD hS => ?_)
            obtain ⟨x0_38, rfl⟩ : ∃ z, z = u := ⟨_, rfl⟩
            have hw : ((r = some (.int 0) ∧ ((0 : Int32) = 0 ∧ x0_38 = (2 : Int32))) ∨ (r = some (.int 1) ∧ (¬ (0 : Int32) = 0 ∧ x0_38 = 0))) ∧ (True) := hw
            obtain ⟨⟨rfl, hz2_40⟩ | ⟨rfl, hz2_40⟩, hw_39⟩ := hw
            · have hP : va_P (dC, dI) vwCl (mw g h0 b (va_up i 0 x0_38) a) _ := hP
              have hD : va_D _ (mw g h0 b (va_up i 0 x0_38) a) := hD
              refine W.eq (g2 := F0 m 37 ls [.int 0]) rfl ?_
              refine lv_if_ne (tgt := 42) hx hb dX10_faded_37 (by decide) (fun c_41 => absurd c_41 (by decide)) (fun _ => ?_)
              refine lv_iconst (v := 0) hx hb dX10_faded_40 (by decide) ?_
              exact M_i hx hb hr hlocks (x0_38) hP hD hK hS ⟨⟨_, rfl⟩, (by rw [show faS ck dy wt (i, a) = _ from (if_pos hz2_3.1).trans (if_neg (fun h8 => le_nlt h8.2.2 c_37))]; exact ⟨hz2_40.2, fun h9 => (by first | exact n1_0 h9 | exact n2_0 h9)⟩)⟩ (Nat.le_of_ble_eq_true rfl) (Nat.le_of_ble_eq_true rfl) dX10_faded_41
            · have hP : va_P (dC, dI) vwCl (mw g h0 b (va_up i 0 x0_38) a) _ := hP
              have hD : va_D _ (mw g h0 b (va_up i 0 x0_38) a) := hD
              refine W.eq (g2 := F0 m 37 ls [.int 1]) rfl ?_
              exact absurd rfl hz2_40.1
          · have nc_37 := nlt_i c_37
            have lc_37 : (1000000 : Int32).toInt = 1000000 := by decide
            refine lv_iconst (v := 1) hx hb dX10_faded_28 (by decide) ?_
            refine lv_goto (tgt := 33) hx hb dX10_faded_29 (by decide) ?_
            refine lv_iconst (v := 2) hx hb dX10_faded_33 (by decide) ?_
            refine M_V ⟨hx, hb, hml, hown, hts⟩ (m_X10_rightX l dC dI sa g h0 b (va_up i 0 x0_1) a (1 : Int32) (2 : Int32) _ (by decide) hz2_3.2) (cwV 2 hts gX10_faded_X10_right rfl rfl rfl (by decide +kernel) ⟨Nat.le_of_ble_eq_true rfl, Nat.le_of_ble_eq_true rfl⟩) hP hD hK hS hA hev rfl rfl rfl rfl hl.1 rfl (Nat.le_of_ble_eq_true rfl) dX10_faded_34 ⟨(Nat.le_of_ble_eq_true rfl), (Nat.le_of_ble_eq_true rfl)⟩ (fun r u H locs hw hP hD hS => ?_)
            obtain ⟨x0_42, rfl⟩ : ∃ z, z = u := ⟨_, rfl⟩
            have hw : ((r = some (.int 0) ∧ ((1 : Int32) = 0 ∧ x0_42 = (2 : Int32))) ∨ (r = some (.int 1) ∧ (¬ (1 : Int32) = 0 ∧ x0_42 = 0))) ∧ (True) := hw
            obtain ⟨⟨rfl, hz2_44⟩ | ⟨rfl, hz2_44⟩, hw_43⟩ := hw
            · have hP : va_P (dC, dI) vwCl (mw g h0 b (va_up i 0 x0_42) a) _ := hP
              have hD : va_D _ (mw g h0 b (va_up i 0 x0_42) a) := hD
              refine W.eq (g2 := F0 m 37 ls [.int 0]) rfl ?_
              exact absurd hz2_44.1 (by decide)
            · have hP : va_P (dC, dI) vwCl (mw g h0 b (va_up i 0 x0_42) a) _ := hP
              have hD : va_D _ (mw g h0 b (va_up i 0 x0_42) a) := hD
              refine W.eq (g2 := F0 m 37 ls [.int 1]) rfl ?_
              refine lv_if_ne (tgt := 42) hx hb dX10_faded_37 (by decide) (fun _ => ?_) (fun c_45 => absurd c_45 (by decide))
              refine lv_aload_n hx hb dX10_faded_42 rfl (lv_at hl 0 rfl) ?_
              refine lv_iload_n hx hb dX10_faded_43 rfl (lv_at hl 1 rfl) ?_
              refine lv_iload_n hx hb dX10_faded_44 rfl (lv_at hl 2 rfl) ?_
              refine M_V ⟨hx, hb, hml, hown, hts⟩ (m_X10_hasSpanE l dC dI sa g h0 b (va_up i 0 x0_42) a ck dy _ hc30) (cwV 2 hts gX10_faded_X10_hasSpan rfl rfl rfl (by decide +kernel) ⟨Nat.le_of_ble_eq_true rfl, Nat.le_of_ble_eq_true rfl⟩) hP hD hK hS hA hev rfl rfl rfl rfl hl.1 rfl (Nat.le_of_ble_eq_true rfl) dX10_faded_45 ⟨(Nat.le_of_ble_eq_true rfl), (Nat.le_of_ble_eq_true rfl)⟩ (fun r u H locs hw hP hD hS => ?_)
              have hw : ((r = some (.int 0) ∧ (¬ (¬ ((a 16) ck.toNatClampNeg) = -1 ∧ ((a 16) ck.toNatClampNeg) ≤ dy))) ∨ (r = some (.int 1) ∧ ((¬ ((a 16) ck.toNatClampNeg) = -1 ∧ ((a 16) ck.toNatClampNeg) ≤ dy)))) ∧ (True) := hw
              obtain ⟨⟨rfl, hz2_47⟩ | ⟨rfl, hz2_47⟩, hw_46⟩ := hw
              · have hP : va_P (dC, dI) vwCl (mw g h0 b (va_up i 0 x0_42) a) _ := hP
                have hD : va_D _ (mw g h0 b (va_up i 0 x0_42) a) := hD
                refine W.eq (g2 := F0 m 48 ls [.int 0]) rfl ?_
                refine lv_if_eq (tgt := 61) hx hb dX10_faded_48 (by decide) (fun _ => ?_) (fun c_48 => absurd c_48 (by decide))
                refine lv_iconst (v := (-1)) hx hb dX10_faded_61 (by decide) ?_
                exact M_i hx hb hr hlocks (x0_42) hP hD hK hS ⟨⟨_, rfl⟩, (by rw [show faS ck dy wt (i, a) = _ from (if_pos hz2_3.1).trans ((if_pos ⟨w01 (Or.inr c_27), nlt_le c_32, nlt_le c_37⟩).trans (if_neg hz2_47))]; exact ⟨hz2_44.2, fun h9 => rfl⟩)⟩ (Nat.le_of_ble_eq_true rfl) (Nat.le_of_ble_eq_true rfl) dX10_faded_62
              · have hP : va_P (dC, dI) vwCl (mw g h0 b (va_up i 0 x0_42) a) _ := hP
                have hD : va_D _ (mw g h0 b (va_up i 0 x0_42) a) := hD
                refine W.eq (g2 := F0 m 48 ls [.int 1]) rfl ?_
                refine lv_if_eq (tgt := 61) hx hb dX10_faded_48 (by decide) (fun c_49 => absurd c_49 (by decide)) (fun _ => ?_)
                refine lv_aload_n hx hb dX10_faded_51 rfl (lv_at hl 0 rfl) ?_
                refine lv_iload_n hx hb dX10_faded_52 rfl (lv_at hl 1 rfl) ?_
                refine lv_iload_n hx hb dX10_faded_53 rfl (lv_at hl 2 rfl) ?_
                refine lv_iload_n hx hb dX10_faded_54 rfl (lv_at hl 3 rfl) ?_
                refine M_V ⟨hx, hb, hml, hown, hts⟩ (m_X10_fadedToE l dC dI sa g h0 b (va_up i 0 x0_42) a ck dy wt _ hc30 hwt) (cwV 3 hts gX10_faded_X10_fadedTo rfl rfl rfl (by decide +kernel) ⟨Nat.le_of_ble_eq_true rfl, Nat.le_of_ble_eq_true rfl⟩) hP hD hK hS hA hev rfl rfl rfl rfl hl.1 rfl (Nat.le_of_ble_eq_true rfl) dX10_faded_55 ⟨(Nat.le_of_ble_eq_true rfl), (Nat.le_of_ble_eq_true rfl)⟩ (fun r u H locs hw hP hD hS => ?_)
                have hw : (∃ z : Int32, r = some (.int z) ∧ (z = (if wt = 0 then lsV (((a 15) ck.toNatClampNeg) / ((a 13) ck.toNatClampNeg)) ((a 16) ck.toNatClampNeg) dy else gsV (((a 15) ck.toNatClampNeg) / ((a 13) ck.toNatClampNeg)) ((a 16) ck.toNatClampNeg) dy))) ∧ (True) := hw
                obtain ⟨⟨z_51, rfl, hz_z_51⟩, hw_50⟩ := hw
                have hP : va_P (dC, dI) vwCl (mw g h0 b (va_up i 0 x0_42) a) _ := hP
                have hD : va_D _ (mw g h0 b (va_up i 0 x0_42) a) := hD
                refine W.eq (g2 := F0 m 58 ls [.int z_51]) rfl ?_
                refine lv_goto (tgt := 62) hx hb dX10_faded_58 (by decide) ?_
                exact M_i hx hb hr hlocks (x0_42) hP hD hK hS ⟨⟨_, rfl⟩, (by rw [show faS ck dy wt (i, a) = _ from (if_pos hz2_3.1).trans ((if_pos ⟨w01 (Or.inr c_27), nlt_le c_32, nlt_le c_37⟩).trans (if_pos hz2_47))]; exact ⟨hz2_44.2, fun h9 => (by rw [hz_z_51]; rfl)⟩)⟩ (Nat.le_of_ble_eq_true rfl) (Nat.le_of_ble_eq_true rfl) dX10_faded_62

theorem q_12 {q : Nat} {n ii : Int32} (hq : ii = nI q) (h30 : q ≤ 30) (hqn : (q : Int) ≤ n.toInt) (h : n ≤ ii) : q = n.toNatClampNeg := by
  rw [Int32.le_iff_toInt_le, hq, nI_toInt (by omega)] at h
  have := clamp_i (x := n) (by omega)
  omega

noncomputable abbrev rm_X10_matchingE : Room := { frames := 2, cells := 0, slots := 0, locals := 46 }
set_option maxHeartbeats 4000000 in
set_option maxRecDepth 100000 in
theorem m_X10_matchingE (l : Launch) (dC : Nat → ClassId) (dI : Nat → Nat → Nat) (sa : Nat → Nat) (g : Nat → Nat) (h0 : Nat) (b : Nat → Nat) (i : Nat → Int32) (a : Nat → Nat → Int32) (ck : Int32) (dy : Int32) (sz : Nat) (hRC : RC (i, a)) : CT l dC dI sa yX10_matching wsX10_matching rm_X10_matchingE [.ref h0, .int ck, .int dy] (mw g h0 b i a) (tyM g) sz (fun (r : Option Value) (x0 : Int32) => (∃ z : Int32, r = some (.int z)) ∧ (x0 = (maS ck dy (i, a)).1 ∧ ((maS ck dy (i, a)).1 = 0 → r = some (.int (maS ck dy (i, a)).2.1)))) (fun (x0 : Int32) => mw g h0 b (va_up i 0 x0) a) (fun _ => []) 0 0 := by
  refine CT.start (cc := cX10_matching) (maxL := 5) (ret := (some .int)) (by decide) rfl (Nat.le_of_ble_eq_true rfl) ?_
  intro p e s m below meth c ls hst hP hK hD hev hS hl
  obtain ⟨hx, hb, hr, hml, hts, hown, hlocks, hin⟩ := hst
  have hown : s.vm.findClass RX10 = some m.cls := hown
  have hA : ∀ q : Nat, s.heap.size ≤ q → va_A (mw g h0 b i a) s.heap.size q := fun _ h => Or.inr h
  have hl : lv_has ls 5 [(0, .ref h0), (1, .int ck), (2, .int dy)] := hl
  refine lv_aload_n hx hb dX10_matching_0 rfl (lv_at hl 0 rfl) ?_
  refine lv_iload_n hx hb dX10_matching_1 rfl (lv_at hl 1 rfl) ?_
  refine M_V ⟨hx, hb, hml, hown, hts⟩ (m_X10_isClothE l dC dI sa g h0 b i a ck _ ) (cwV 1 hts gX10_matching_X10_isCloth rfl rfl rfl (by decide +kernel) ⟨Nat.le_of_ble_eq_true rfl, Nat.le_of_ble_eq_true rfl⟩) hP hD hK hS hA hev rfl rfl rfl rfl hl.1 rfl (Nat.le_of_ble_eq_true rfl) dX10_matching_2 ⟨(Nat.le_of_ble_eq_true rfl), (Nat.le_of_ble_eq_true rfl)⟩ (fun r u H locs hw hP hD hS => ?_)
  obtain ⟨x0_1, rfl⟩ : ∃ z, z = u := ⟨_, rfl⟩
  have hw : ((r = some (.int 0) ∧ (¬ inC (i, a) ck ∧ x0_1 = 1)) ∨ (r = some (.int 1) ∧ (inC (i, a) ck ∧ x0_1 = 0))) ∧ (True) := hw
  obtain ⟨⟨rfl, hz2_3⟩ | ⟨rfl, hz2_3⟩, hw_2⟩ := hw
  · have hP : va_P (dC, dI) vwCl (mw g h0 b (va_up i 0 x0_1) a) _ := hP
    have hD : va_D _ (mw g h0 b (va_up i 0 x0_1) a) := hD
    refine W.eq (g2 := F0 m 5 ls [.int 0]) rfl ?_
    refine lv_if_eq (tgt := 31) hx hb dX10_matching_5 (by decide) (fun _ => ?_) (fun c_4 => absurd c_4 (by decide))
    refine lv_iconst (v := 0) hx hb dX10_matching_31 (by decide) ?_
    exact M_i hx hb hr hlocks (x0_1) hP hD hK hS ⟨⟨_, rfl⟩, (by rw [show maS ck dy (i, a) = _ from if_neg hz2_3.1]; exact ⟨hz2_3.2, fun h9 => (by first | exact n1_0 h9 | exact n2_0 h9)⟩)⟩ (Nat.le_of_ble_eq_true rfl) (Nat.le_of_ble_eq_true rfl) dX10_matching_32
  · have hP : va_P (dC, dI) vwCl (mw g h0 b (va_up i 0 x0_1) a) _ := hP
    have hD : va_D _ (mw g h0 b (va_up i 0 x0_1) a) := hD
    refine W.eq (g2 := F0 m 5 ls [.int 1]) rfl ?_
    have hc30 := in_C hz2_3.1 hRC.1.2
    have hcc := inC_c hz2_3.1
    have hwt := (hRC.2 _ hcc.2).1
    refine lv_if_eq (tgt := 31) hx hb dX10_matching_5 (by decide) (fun c_5 => absurd c_5 (by decide)) (fun _ => ?_)
    refine lv_aload_n hx hb dX10_matching_8 rfl (lv_at hl 0 rfl) ?_
    refine lv_iload_n hx hb dX10_matching_9 rfl (lv_at hl 2 rfl) ?_
    refine lv_if_lt (tgt := 23) hx hb dX10_matching_10 (by decide) (fun c_6 => ?_) (fun c_6 => ?_)
    · have nc_6 := lt_i c_6
      have lc_6 : (0 : Int32).toInt = 0 := by decide
      refine lv_iconst (v := 0) hx hb dX10_matching_23 (by decide) ?_
      refine lv_iconst (v := 2) hx hb dX10_matching_24 (by decide) ?_
      refine M_V ⟨hx, hb, hml, hown, hts⟩ (m_X10_rightX l dC dI sa g h0 b (va_up i 0 x0_1) a (0 : Int32) (2 : Int32) _ (by decide) hz2_3.2) (cwV 2 hts gX10_matching_X10_right rfl rfl rfl (by decide +kernel) ⟨Nat.le_of_ble_eq_true rfl, Nat.le_of_ble_eq_true rfl⟩) hP hD hK hS hA hev rfl rfl rfl rfl hl.1 rfl (Nat.le_of_ble_eq_true rfl) dX10_matching_25 ⟨(Nat.le_of_ble_eq_true rfl), (Nat.le_of_ble_eq_true rfl)⟩ (fun r u H locs hw hP hD hS => ?_)
      obtain ⟨x0_7, rfl⟩ : ∃ z, z = u := ⟨_, rfl⟩
      have hw : ((r = some (.int 0) ∧ ((0 : Int32) = 0 ∧ x0_7 = (2 : Int32))) ∨ (r = some (.int 1) ∧ (¬ (0 : Int32) = 0 ∧ x0_7 = 0))) ∧ (True) := hw
      obtain ⟨⟨rfl, hz2_9⟩ | ⟨rfl, hz2_9⟩, hw_8⟩ := hw
      · have hP : va_P (dC, dI) vwCl (mw g h0 b (va_up i 0 x0_7) a) _ := hP
        have hD : va_D _ (mw g h0 b (va_up i 0 x0_7) a) := hD
        refine W.eq (g2 := F0 m 28 ls [.int 0]) rfl ?_
        refine lv_if_ne (tgt := 33) hx hb dX10_matching_28 (by decide) (fun c_10 => absurd c_10 (by decide)) (fun _ => ?_)
        refine lv_iconst (v := 0) hx hb dX10_matching_31 (by decide) ?_
        exact M_i hx hb hr hlocks (x0_7) hP hD hK hS ⟨⟨_, rfl⟩, (by rw [show maS ck dy (i, a) = _ from (if_pos hz2_3.1).trans (if_neg (fun h8 => le_nlt h8.1 c_6))]; exact ⟨hz2_9.2, fun h9 => (by first | exact n1_0 h9 | exact n2_0 h9)⟩)⟩ (Nat.le_of_ble_eq_true rfl) (Nat.le_of_ble_eq_true rfl) dX10_matching_32
      · have hP : va_P (dC, dI) vwCl (mw g h0 b (va_up i 0 x0_7) a) _ := hP
        have hD : va_D _ (mw g h0 b (va_up i 0 x0_7) a) := hD
        refine W.eq (g2 := F0 m 28 ls [.int 1]) rfl ?_
        exact absurd rfl hz2_9.1
    · have nc_6 := nlt_i c_6
      have lc_6 : (0 : Int32).toInt = 0 := by decide
      refine lv_iload_n hx hb dX10_matching_13 rfl (lv_at hl 2 rfl) ?_
      refine lv_ldc (v := 1000000) hx hb hown (hts (.constant RX10 119 (1000000)) (List.mem_of_getElem? (i := 1) (by exact rfl))) dX10_matching_14 ?_
      refine lv_icmp_gt (tgt := 23) hx hb dX10_matching_16 (by decide) (fun c_11 => ?_) (fun c_11 => ?_)
      · have nc_11 := lt_i c_11
        have lc_11 : (1000000 : Int32).toInt = 1000000 := by decide
        refine lv_iconst (v := 0) hx hb dX10_matching_23 (by decide) ?_
        refine lv_iconst (v := 2) hx hb dX10_matching_24 (by decide) ?_
        refine M_V ⟨hx, hb, hml, hown, hts⟩ (m_X10_rightX l dC dI sa g h0 b (va_up i 0 x0_1) a (0 : Int32) (2 : Int32) _ (by decide) hz2_3.2) (cwV 2 hts gX10_matching_X10_right rfl rfl rfl (by decide +kernel) ⟨Nat.le_of_ble_eq_true rfl, Nat.le_of_ble_eq_true rfl⟩) hP hD hK hS hA hev rfl rfl rfl rfl hl.1 rfl (Nat.le_of_ble_eq_true rfl) dX10_matching_25 ⟨(Nat.le_of_ble_eq_true rfl), (Nat.le_of_ble_eq_true rfl)⟩ (fun r u H locs hw hP hD hS => ?_)
        obtain ⟨x0_12, rfl⟩ : ∃ z, z = u := ⟨_, rfl⟩
        have hw : ((r = some (.int 0) ∧ ((0 : Int32) = 0 ∧ x0_12 = (2 : Int32))) ∨ (r = some (.int 1) ∧ (¬ (0 : Int32) = 0 ∧ x0_12 = 0))) ∧ (True) := hw
        obtain ⟨⟨rfl, hz2_14⟩ | ⟨rfl, hz2_14⟩, hw_13⟩ := hw
        · have hP : va_P (dC, dI) vwCl (mw g h0 b (va_up i 0 x0_12) a) _ := hP
          have hD : va_D _ (mw g h0 b (va_up i 0 x0_12) a) := hD
          refine W.eq (g2 := F0 m 28 ls [.int 0]) rfl ?_
          refine lv_if_ne (tgt := 33) hx hb dX10_matching_28 (by decide) (fun c_15 => absurd c_15 (by decide)) (fun _ => ?_)
          refine lv_iconst (v := 0) hx hb dX10_matching_31 (by decide) ?_
          exact M_i hx hb hr hlocks (x0_12) hP hD hK hS ⟨⟨_, rfl⟩, (by rw [show maS ck dy (i, a) = _ from (if_pos hz2_3.1).trans (if_neg (fun h8 => le_nlt h8.2 c_11))]; exact ⟨hz2_14.2, fun h9 => (by first | exact n1_0 h9 | exact n2_0 h9)⟩)⟩ (Nat.le_of_ble_eq_true rfl) (Nat.le_of_ble_eq_true rfl) dX10_matching_32
        · have hP : va_P (dC, dI) vwCl (mw g h0 b (va_up i 0 x0_12) a) _ := hP
          have hD : va_D _ (mw g h0 b (va_up i 0 x0_12) a) := hD
          refine W.eq (g2 := F0 m 28 ls [.int 1]) rfl ?_
          exact absurd rfl hz2_14.1
      · have nc_11 := nlt_i c_11
        have lc_11 : (1000000 : Int32).toInt = 1000000 := by decide
        refine lv_iconst (v := 1) hx hb dX10_matching_19 (by decide) ?_
        refine lv_goto (tgt := 24) hx hb dX10_matching_20 (by decide) ?_
        refine lv_iconst (v := 2) hx hb dX10_matching_24 (by decide) ?_
        refine M_V ⟨hx, hb, hml, hown, hts⟩ (m_X10_rightX l dC dI sa g h0 b (va_up i 0 x0_1) a (1 : Int32) (2 : Int32) _ (by decide) hz2_3.2) (cwV 2 hts gX10_matching_X10_right rfl rfl rfl (by decide +kernel) ⟨Nat.le_of_ble_eq_true rfl, Nat.le_of_ble_eq_true rfl⟩) hP hD hK hS hA hev rfl rfl rfl rfl hl.1 rfl (Nat.le_of_ble_eq_true rfl) dX10_matching_25 ⟨(Nat.le_of_ble_eq_true rfl), (Nat.le_of_ble_eq_true rfl)⟩ (fun r u H locs hw hP hD hS => ?_)
        obtain ⟨x0_16, rfl⟩ : ∃ z, z = u := ⟨_, rfl⟩
        have hw : ((r = some (.int 0) ∧ ((1 : Int32) = 0 ∧ x0_16 = (2 : Int32))) ∨ (r = some (.int 1) ∧ (¬ (1 : Int32) = 0 ∧ x0_16 = 0))) ∧ (True) := hw
        obtain ⟨⟨rfl, hz2_18⟩ | ⟨rfl, hz2_18⟩, hw_17⟩ := hw
        · have hP : va_P (dC, dI) vwCl (mw g h0 b (va_up i 0 x0_16) a) _ := hP
          have hD : va_D _ (mw g h0 b (va_up i 0 x0_16) a) := hD
          refine W.eq (g2 := F0 m 28 ls [.int 0]) rfl ?_
          exact absurd hz2_18.1 (by decide)
        · have hP : va_P (dC, dI) vwCl (mw g h0 b (va_up i 0 x0_16) a) _ := hP
          have hD : va_D _ (mw g h0 b (va_up i 0 x0_16) a) := hD
          refine W.eq (g2 := F0 m 28 ls [.int 1]) rfl ?_
          refine lv_if_ne (tgt := 33) hx hb dX10_matching_28 (by decide) (fun _ => ?_) (fun c_19 => absurd c_19 (by decide))
          refine lv_iconst (v := 0) hx hb dX10_matching_33 (by decide) ?_
          refine lv_istore_n (lv' := [(3, .int 0), (0, .ref h0), (1, .int ck), (2, .int dy)]) hx hb dX10_matching_34 rfl hl (by decide) rfl (fun ls hl => ?_)
          refine lv_iconst (v := 0) hx hb dX10_matching_35 (by decide) ?_
          refine lv_istore (lv' := [(4, .int 0), (3, .int 0), (0, .ref h0), (1, .int ck), (2, .int dy)]) hx hb dX10_matching_36 hl (by decide) rfl (fun ls hl => ?_)
          have lp : ∀ (n : Nat) (bi : Int32) (ii : Int32) (H : Heap) (locs : List Loc) (ls : Array Slot), (∃ q : Nat, ii = nI q ∧ q ≤ 30 ∧ 30 < q + n) → (∃ q : Nat, ii = nI q ∧ (q : Int) ≤ (i 12).toInt ∧ bi = mtF (i, a) ck.toNatClampNeg dy q) → va_P (dC, dI) vwCl (mw g h0 b (va_up i 0 x0_16) a) H → va_D (va_A (mw g h0 b i a) s.heap.size) (mw g h0 b (va_up i 0 x0_16) a) → va_S (va_A (mw g h0 b i a) s.heap.size) s.heap H locs → lv_has ls 5 [(3, .int bi), (4, .int ii), (0, .ref h0), (1, .int ck), (2, .int dy)] → W p l e rm_X10_matchingE s m [.ref h0, .int ck, .int dy].toArray below meth c H locs 0 0 (MQ below (Qg (fun (r : Option Value) (x0 : Int32) => (∃ z : Int32, r = some (.int z)) ∧ (x0 = (maS ck dy (i, a)).1 ∧ ((maS ck dy (i, a)).1 = 0 → r = some (.int (maS ck dy (i, a)).2.1)))) (fun u t => QW dC dI (va_A (mw g h0 b i a) s.heap.size) ((fun (x0 : Int32) => mw g h0 b (va_up i 0 x0) a) u) [] t) (va_A (mw g h0 b i a) s.heap.size)) [.ref h0, .int ck, .int dy].toArray s 0 0 (va_A (mw g h0 b i a) s.heap.size)) (F0 m 38 ls []) := by
            intro n
            induction n with
            | zero => intro bi ii H locs ls hm hL hP hD hS hl; exact absurd hm (by rintro ⟨q, -, h1, h2⟩; omega)
            | succ n ih =>
              intro bi ii H locs ls hm hL hP hD hS hl
              refine lv_iload hx hb dX10_matching_38 (lv_at hl 1 rfl) ?_
              obtain ⟨q, hq, hqn, hbi⟩ := hL
              have hq30 : q ≤ 30 := by have h8 : (i 12).toInt ≤ 30 := hRC.1.2; omega
              have hiq : ii.toNatClampNeg = q := by rw [hq]; exact nI_clamp (by omega)
              refine lv_aload_n hx hb dX10_matching_40 rfl (lv_at hl 2 rfl) ?_
              refine va_get (D := (dC, dI)) (ci := 10) (v := .int (i 12)) (C := RX10) (T := TX10) (N := 51) hx hb hts inw_X10_matching_10 hown hK hP 0 rfl rfl 12 (by decide) (hts (.fieldLink RX10 112 "VatHouseModel" "cloths" "I") (List.mem_of_getElem? (i := 2) (by exact rfl))) (fun _ h9 => h9) rfl dX10_matching_41 ?_
              refine lv_icmp_ge (tgt := 124) hx hb dX10_matching_44 (by decide) (fun c_20 => ?_) (fun c_20 => ?_)
              · have nc_20 := le_i c_20
                refine lv_iload_n hx hb dX10_matching_124 rfl (lv_at hl 0 rfl) ?_
                exact M_i hx hb hr hlocks (x0_16) hP hD hK hS ⟨⟨_, rfl⟩, (by rw [show maS ck dy (i, a) = _ from (if_pos hz2_3.1).trans (if_pos ⟨nlt_le c_6, nlt_le c_11⟩)]; exact ⟨hz2_18.2, fun h9 => (by rw [hbi, q_12 hq hq30 hqn c_20])⟩)⟩ (Nat.le_of_ble_eq_true rfl) (Nat.le_of_ble_eq_true rfl) dX10_matching_125
              · have nc_20 := nle_i c_20
                have hlt : (q : Int) < (i 12).toInt := by have h8 := c_20; rw [Int32.le_iff_toInt_le, hq, nI_toInt (by omega)] at h8; omega
                have hi30 : vp_in ii 30 := by have h30 : (i 12).toInt ≤ 30 := hRC.1.2; rw [hq]; exact vp_in_nI (by omega) (by decide)
                have hiw := (hRC.2 q hlt).1
                rw [← hiq] at hiw
                refine lv_aload_n hx hb dX10_matching_47 rfl (lv_at hl 2 rfl) ?_
                refine lv_iload_n hx hb dX10_matching_48 rfl (lv_at hl 3 rfl) ?_
                refine lv_iload_n hx hb dX10_matching_49 rfl (lv_at hl 4 rfl) ?_
                refine M_V ⟨hx, hb, hml, hown, hts⟩ (m_X10_hasSpanE l dC dI sa g h0 b (va_up i 0 x0_16) a ck dy _ hc30) (cwV 2 hts gX10_matching_X10_hasSpan rfl rfl rfl (by decide +kernel) ⟨Nat.le_of_ble_eq_true rfl, Nat.le_of_ble_eq_true rfl⟩) hP hD hK hS hA hev rfl rfl rfl rfl hl.1 rfl (Nat.le_of_ble_eq_true rfl) dX10_matching_50 ⟨(Nat.le_of_ble_eq_true rfl), (Nat.le_of_ble_eq_true rfl)⟩ (fun r u H locs hw hP hD hS => ?_)
                have hw : ((r = some (.int 0) ∧ (¬ (¬ ((a 16) ck.toNatClampNeg) = -1 ∧ ((a 16) ck.toNatClampNeg) ≤ dy))) ∨ (r = some (.int 1) ∧ ((¬ ((a 16) ck.toNatClampNeg) = -1 ∧ ((a 16) ck.toNatClampNeg) ≤ dy)))) ∧ (True) := hw
                obtain ⟨⟨rfl, hz2_22⟩ | ⟨rfl, hz2_22⟩, hw_21⟩ := hw
                · have hP : va_P (dC, dI) vwCl (mw g h0 b (va_up i 0 x0_16) a) _ := hP
                  have hD : va_D _ (mw g h0 b (va_up i 0 x0_16) a) := hD
                  refine W.eq (g2 := F0 m 53 ls [.int 0]) rfl ?_
                  refine lv_if_eq (tgt := 124) hx hb dX10_matching_53 (by decide) (fun _ => ?_) (fun c_23 => absurd c_23 (by decide))
                  refine lv_iload_n hx hb dX10_matching_124 rfl (lv_at hl 0 rfl) ?_
                  exact M_i hx hb hr hlocks (x0_16) hP hD hK hS ⟨⟨_, rfl⟩, (by rw [show maS ck dy (i, a) = _ from (if_pos hz2_3.1).trans (if_pos ⟨nlt_le c_6, nlt_le c_11⟩)]; exact ⟨hz2_18.2, fun h9 => (by rw [hbi, mtF_0 hz2_22, mtF_0 hz2_22])⟩)⟩ (Nat.le_of_ble_eq_true rfl) (Nat.le_of_ble_eq_true rfl) dX10_matching_125
                · have hP : va_P (dC, dI) vwCl (mw g h0 b (va_up i 0 x0_16) a) _ := hP
                  have hD : va_D _ (mw g h0 b (va_up i 0 x0_16) a) := hD
                  refine W.eq (g2 := F0 m 53 ls [.int 1]) rfl ?_
                  refine lv_if_eq (tgt := 124) hx hb dX10_matching_53 (by decide) (fun c_24 => absurd c_24 (by decide)) (fun _ => ?_)
                  refine lv_iload hx hb dX10_matching_56 (lv_at hl 1 rfl) ?_
                  refine lv_iload_n hx hb dX10_matching_58 rfl (lv_at hl 3 rfl) ?_
                  refine lv_icmp_eq (tgt := 118) hx hb dX10_matching_59 (by decide) (fun c_25 => ?_) (fun c_25 => ?_)
                  · have nc_25 := eq_i c_25
                    refine lv_iinc (v := (ii + 1)) (lv' := [(4, .int (ii + 1)), (3, .int bi), (0, .ref h0), (1, .int ck), (2, .int dy)]) hx hb dX10_matching_118 hl (k := 1) rfl rfl (by decide) rfl (fun ls hl => ?_)
                    refine lv_goto (tgt := 38) hx hb dX10_matching_121 (by decide) ?_
                    exact ih bi (ii + 1) _ _ _ (up_nx (by decide) hm (Int32.le_iff_toInt_le.mpr hRC.1.2) c_20) (⟨q + 1, by rw [hq]; exact nI_1 q, by omega, (by exact hbi.trans (mtF_n (fun h8 => h8.1 (by rw [← c_25, hiq]))).symm)⟩) hP hD hS (lv_sub hl [1, 0, 2, 3, 4] rfl)
                  · have nc_25 := ne_i c_25
                    refine lv_aload_n hx hb dX10_matching_62 rfl (lv_at hl 2 rfl) ?_
                    refine lv_iload hx hb dX10_matching_63 (lv_at hl 1 rfl) ?_
                    refine lv_iload_n hx hb dX10_matching_65 rfl (lv_at hl 4 rfl) ?_
                    refine M_V ⟨hx, hb, hml, hown, hts⟩ (m_X10_hasSpanE l dC dI sa g h0 b (va_up i 0 x0_16) a ii dy _ hi30) (cwV 2 hts gX10_matching_X10_hasSpan rfl rfl rfl (by decide +kernel) ⟨Nat.le_of_ble_eq_true rfl, Nat.le_of_ble_eq_true rfl⟩) hP hD hK hS hA hev rfl rfl rfl rfl hl.1 rfl (Nat.le_of_ble_eq_true rfl) dX10_matching_66 ⟨(Nat.le_of_ble_eq_true rfl), (Nat.le_of_ble_eq_true rfl)⟩ (fun r u H locs hw hP hD hS => ?_)
                    have hw : ((r = some (.int 0) ∧ (¬ (¬ ((a 16) ii.toNatClampNeg) = -1 ∧ ((a 16) ii.toNatClampNeg) ≤ dy))) ∨ (r = some (.int 1) ∧ ((¬ ((a 16) ii.toNatClampNeg) = -1 ∧ ((a 16) ii.toNatClampNeg) ≤ dy)))) ∧ (True) := hw
                    obtain ⟨⟨rfl, hz2_27⟩ | ⟨rfl, hz2_27⟩, hw_26⟩ := hw
                    · have hP : va_P (dC, dI) vwCl (mw g h0 b (va_up i 0 x0_16) a) _ := hP
                      have hD : va_D _ (mw g h0 b (va_up i 0 x0_16) a) := hD
                      refine W.eq (g2 := F0 m 69 ls [.int 0]) rfl ?_
                      refine lv_if_ne (tgt := 75) hx hb dX10_matching_69 (by decide) (fun c_28 => absurd c_28 (by decide)) (fun _ => ?_)
                      refine lv_goto (tgt := 118) hx hb dX10_matching_72 (by decide) ?_
                      refine lv_iinc (v := (ii + 1)) (lv' := [(4, .int (ii + 1)), (3, .int bi), (0, .ref h0), (1, .int ck), (2, .int dy)]) hx hb dX10_matching_118 hl (k := 1) rfl rfl (by decide) rfl (fun ls hl => ?_)
                      refine lv_goto (tgt := 38) hx hb dX10_matching_121 (by decide) ?_
                      exact ih bi (ii + 1) _ _ _ (up_nx (by decide) hm (Int32.le_iff_toInt_le.mpr hRC.1.2) c_20) (⟨q + 1, by rw [hq]; exact nI_1 q, by omega, (by exact hbi.trans (mtF_n (fun h8 => hz2_27 (by rw [hiq]; exact h8.2.2.1))).symm)⟩) hP hD hS (lv_sub hl [1, 0, 2, 3, 4] rfl)
                    · have hP : va_P (dC, dI) vwCl (mw g h0 b (va_up i 0 x0_16) a) _ := hP
                      have hD : va_D _ (mw g h0 b (va_up i 0 x0_16) a) := hD
                      refine W.eq (g2 := F0 m 69 ls [.int 1]) rfl ?_
                      refine lv_if_ne (tgt := 75) hx hb dX10_matching_69 (by decide) (fun _ => ?_) (fun c_29 => absurd c_29 (by decide))
                      refine lv_aload_n hx hb dX10_matching_75 rfl (lv_at hl 2 rfl) ?_
                      refine lv_iload hx hb dX10_matching_76 (lv_at hl 1 rfl) ?_
                      refine lv_iload_n hx hb dX10_matching_78 rfl (lv_at hl 4 rfl) ?_
                      refine lv_iconst (v := 0) hx hb dX10_matching_79 (by decide) ?_
                      refine M_V ⟨hx, hb, hml, hown, hts⟩ (m_X10_fadedToE l dC dI sa g h0 b (va_up i 0 x0_16) a ii dy (0 : Int32) _ hi30 hiw) (cwV 3 hts gX10_matching_X10_fadedTo rfl rfl rfl (by decide +kernel) ⟨Nat.le_of_ble_eq_true rfl, Nat.le_of_ble_eq_true rfl⟩) hP hD hK hS hA hev rfl rfl rfl rfl hl.1 rfl (Nat.le_of_ble_eq_true rfl) dX10_matching_80 ⟨(Nat.le_of_ble_eq_true rfl), (Nat.le_of_ble_eq_true rfl)⟩ (fun r u H locs hw hP hD hS => ?_)
                      have hw : (∃ z : Int32, r = some (.int z) ∧ (z = (if (0 : Int32) = 0 then lsV (((a 15) ii.toNatClampNeg) / ((a 13) ii.toNatClampNeg)) ((a 16) ii.toNatClampNeg) dy else gsV (((a 15) ii.toNatClampNeg) / ((a 13) ii.toNatClampNeg)) ((a 16) ii.toNatClampNeg) dy))) ∧ (True) := hw
                      obtain ⟨⟨z_31, rfl, hz_z_31⟩, hw_30⟩ := hw
                      have hP : va_P (dC, dI) vwCl (mw g h0 b (va_up i 0 x0_16) a) _ := hP
                      have hD : va_D _ (mw g h0 b (va_up i 0 x0_16) a) := hD
                      refine W.eq (g2 := F0 m 83 ls [.int z_31]) rfl ?_
                      refine lv_aload_n hx hb dX10_matching_83 rfl (lv_at hl 2 rfl) ?_
                      refine lv_iload_n hx hb dX10_matching_84 rfl (lv_at hl 3 rfl) ?_
                      refine lv_iload_n hx hb dX10_matching_85 rfl (lv_at hl 4 rfl) ?_
                      refine lv_iconst (v := 1) hx hb dX10_matching_86 (by decide) ?_
                      refine M_V ⟨hx, hb, hml, hown, hts⟩ (m_X10_fadedToE l dC dI sa g h0 b (va_up i 0 x0_16) a ck dy (1 : Int32) _ hc30 hwt) (cwV 3 hts gX10_matching_X10_fadedTo rfl rfl rfl (by decide +kernel) ⟨Nat.le_of_ble_eq_true rfl, Nat.le_of_ble_eq_true rfl⟩) hP hD hK hS hA hev rfl rfl rfl rfl hl.1 rfl (Nat.le_of_ble_eq_true rfl) dX10_matching_87 ⟨(Nat.le_of_ble_eq_true rfl), (Nat.le_of_ble_eq_true rfl)⟩ (fun r u H locs hw hP hD hS => ?_)
                      have hw : (∃ z : Int32, r = some (.int z) ∧ (z = (if (1 : Int32) = 0 then lsV (((a 15) ck.toNatClampNeg) / ((a 13) ck.toNatClampNeg)) ((a 16) ck.toNatClampNeg) dy else gsV (((a 15) ck.toNatClampNeg) / ((a 13) ck.toNatClampNeg)) ((a 16) ck.toNatClampNeg) dy))) ∧ (True) := hw
                      obtain ⟨⟨z_33, rfl, hz_z_33⟩, hw_32⟩ := hw
                      have hP : va_P (dC, dI) vwCl (mw g h0 b (va_up i 0 x0_16) a) _ := hP
                      have hD : va_D _ (mw g h0 b (va_up i 0 x0_16) a) := hD
                      refine W.eq (g2 := F0 m 90 ls [.int z_33, .int z_31]) rfl ?_
                      refine lv_icmp_gt (tgt := 118) hx hb dX10_matching_90 (by decide) (fun c_34 => ?_) (fun c_34 => ?_)
                      · have nc_34 := lt_i c_34
                        refine lv_iinc (v := (ii + 1)) (lv' := [(4, .int (ii + 1)), (3, .int bi), (0, .ref h0), (1, .int ck), (2, .int dy)]) hx hb dX10_matching_118 hl (k := 1) rfl rfl (by decide) rfl (fun ls hl => ?_)
                        refine lv_goto (tgt := 38) hx hb dX10_matching_121 (by decide) ?_
                        exact ih bi (ii + 1) _ _ _ (up_nx (by decide) hm (Int32.le_iff_toInt_le.mpr hRC.1.2) c_20) (⟨q + 1, by rw [hq]; exact nI_1 q, by omega, (by have gz_31 : z_31 = lsA (i, a) q dy := (by rw [hz_z_31, hiq]; exact if_pos rfl); have gz_33 : z_33 = gsA (i, a) ck.toNatClampNeg dy := (by rw [hz_z_33]; exact if_neg (by decide)); exact hbi.trans (mtF_n (fun h8 => le_nlt h8.2.2.2.2 (by rw [← gz_31, ← gz_33]; exact c_34))).symm)⟩) hP hD hS (lv_sub hl [1, 0, 2, 3, 4] rfl)
                      · have nc_34 := nlt_i c_34
                        refine lv_aload_n hx hb dX10_matching_93 rfl (lv_at hl 2 rfl) ?_
                        refine lv_iload_n hx hb dX10_matching_94 rfl (lv_at hl 3 rfl) ?_
                        refine lv_iload_n hx hb dX10_matching_95 rfl (lv_at hl 4 rfl) ?_
                        refine lv_iconst (v := 0) hx hb dX10_matching_96 (by decide) ?_
                        refine M_V ⟨hx, hb, hml, hown, hts⟩ (m_X10_fadedToE l dC dI sa g h0 b (va_up i 0 x0_16) a ck dy (0 : Int32) _ hc30 hwt) (cwV 3 hts gX10_matching_X10_fadedTo rfl rfl rfl (by decide +kernel) ⟨Nat.le_of_ble_eq_true rfl, Nat.le_of_ble_eq_true rfl⟩) hP hD hK hS hA hev rfl rfl rfl rfl hl.1 rfl (Nat.le_of_ble_eq_true rfl) dX10_matching_97 ⟨(Nat.le_of_ble_eq_true rfl), (Nat.le_of_ble_eq_true rfl)⟩ (fun r u H locs hw hP hD hS => ?_)
                        have hw : (∃ z : Int32, r = some (.int z) ∧ (z = (if (0 : Int32) = 0 then lsV (((a 15) ck.toNatClampNeg) / ((a 13) ck.toNatClampNeg)) ((a 16) ck.toNatClampNeg) dy else gsV (((a 15) ck.toNatClampNeg) / ((a 13) ck.toNatClampNeg)) ((a 16) ck.toNatClampNeg) dy))) ∧ (True) := hw
                        obtain ⟨⟨z_36, rfl, hz_z_36⟩, hw_35⟩ := hw
                        have hP : va_P (dC, dI) vwCl (mw g h0 b (va_up i 0 x0_16) a) _ := hP
                        have hD : va_D _ (mw g h0 b (va_up i 0 x0_16) a) := hD
                        refine W.eq (g2 := F0 m 100 ls [.int z_36]) rfl ?_
                        refine lv_aload_n hx hb dX10_matching_100 rfl (lv_at hl 2 rfl) ?_
                        refine lv_iload hx hb dX10_matching_101 (lv_at hl 1 rfl) ?_
                        refine lv_iload_n hx hb dX10_matching_103 rfl (lv_at hl 4 rfl) ?_
                        refine lv_iconst (v := 1) hx hb dX10_matching_104 (by decide) ?_
                        refine M_V ⟨hx, hb, hml, hown, hts⟩ (m_X10_fadedToE l dC dI sa g h0 b (va_up i 0 x0_16) a ii dy (1 : Int32) _ hi30 hiw) (cwV 3 hts gX10_matching_X10_fadedTo rfl rfl rfl (by decide +kernel) ⟨Nat.le_of_ble_eq_true rfl, Nat.le_of_ble_eq_true rfl⟩) hP hD hK hS hA hev rfl rfl rfl rfl hl.1 rfl (Nat.le_of_ble_eq_true rfl) dX10_matching_105 ⟨(Nat.le_of_ble_eq_true rfl), (Nat.le_of_ble_eq_true rfl)⟩ (fun r u H locs hw hP hD hS => ?_)
                        have hw : (∃ z : Int32, r = some (.int z) ∧ (z = (if (1 : Int32) = 0 then lsV (((a 15) ii.toNatClampNeg) / ((a 13) ii.toNatClampNeg)) ((a 16) ii.toNatClampNeg) dy else gsV (((a 15) ii.toNatClampNeg) / ((a 13) ii.toNatClampNeg)) ((a 16) ii.toNatClampNeg) dy))) ∧ (True) := hw
                        obtain ⟨⟨z_38, rfl, hz_z_38⟩, hw_37⟩ := hw
                        have hP : va_P (dC, dI) vwCl (mw g h0 b (va_up i 0 x0_16) a) _ := hP
                        have hD : va_D _ (mw g h0 b (va_up i 0 x0_16) a) := hD
                        refine W.eq (g2 := F0 m 108 ls [.int z_38, .int z_36]) rfl ?_
                        refine lv_icmp_gt (tgt := 118) hx hb dX10_matching_108 (by decide) (fun c_39 => ?_) (fun c_39 => ?_)
                        · have nc_39 := lt_i c_39
                          refine lv_iinc (v := (ii + 1)) (lv' := [(4, .int (ii + 1)), (3, .int bi), (0, .ref h0), (1, .int ck), (2, .int dy)]) hx hb dX10_matching_118 hl (k := 1) rfl rfl (by decide) rfl (fun ls hl => ?_)
                          refine lv_goto (tgt := 38) hx hb dX10_matching_121 (by decide) ?_
                          exact ih bi (ii + 1) _ _ _ (up_nx (by decide) hm (Int32.le_iff_toInt_le.mpr hRC.1.2) c_20) (⟨q + 1, by rw [hq]; exact nI_1 q, by omega, (by have gz_31 : z_31 = lsA (i, a) q dy := (by rw [hz_z_31, hiq]; exact if_pos rfl); have gz_33 : z_33 = gsA (i, a) ck.toNatClampNeg dy := (by rw [hz_z_33]; exact if_neg (by decide)); have gz_36 : z_36 = lsA (i, a) ck.toNatClampNeg dy := (by rw [hz_z_36]; exact if_pos rfl); have gz_38 : z_38 = gsA (i, a) q dy := (by rw [hz_z_38, hiq]; exact if_neg (by decide)); exact hbi.trans (mtF_n (fun h8 => le_nlt h8.2.2.2.1 (by rw [← gz_36, ← gz_38]; exact c_39))).symm)⟩) hP hD hS (lv_sub hl [1, 0, 2, 3, 4] rfl)
                        · have nc_39 := nlt_i c_39
                          refine lv_iload_n hx hb dX10_matching_111 rfl (lv_at hl 0 rfl) ?_
                          refine lv_iconst (v := 1) hx hb dX10_matching_112 (by decide) ?_
                          refine lv_iload hx hb dX10_matching_113 (lv_at hl 1 rfl) ?_
                          refine lv_ishl hx hb dX10_matching_115 ?_
                          refine lv_topi (fun z_40 ez_40 => ?_)
                          refine lv_ior hx hb dX10_matching_116 ?_
                          refine lv_topi (fun z_41 ez_41 => ?_)
                          refine lv_istore_n (lv' := [(3, .int z_41), (4, .int ii), (0, .ref h0), (1, .int ck), (2, .int dy)]) hx hb dX10_matching_117 rfl hl (by decide) rfl (fun ls hl => ?_)
                          refine lv_iinc (v := (ii + 1)) (lv' := [(4, .int (ii + 1)), (3, .int z_41), (0, .ref h0), (1, .int ck), (2, .int dy)]) hx hb dX10_matching_118 hl (k := 1) rfl rfl (by decide) rfl (fun ls hl => ?_)
                          refine lv_goto (tgt := 38) hx hb dX10_matching_121 (by decide) ?_
                          exact ih z_41 (ii + 1) _ _ _ (up_nx (by decide) hm (Int32.le_iff_toInt_le.mpr hRC.1.2) c_20) (⟨q + 1, by rw [hq]; exact nI_1 q, by omega, (by have gz_31 : z_31 = lsA (i, a) q dy := (by rw [hz_z_31, hiq]; exact if_pos rfl); have gz_33 : z_33 = gsA (i, a) ck.toNatClampNeg dy := (by rw [hz_z_33]; exact if_neg (by decide)); have gz_36 : z_36 = lsA (i, a) ck.toNatClampNeg dy := (by rw [hz_z_36]; exact if_pos rfl); have gz_38 : z_38 = gsA (i, a) q dy := (by rw [hz_z_38, hiq]; exact if_neg (by decide)); exact (by rw [mtF_y ⟨fun h7 => c_25 (by rw [hq, h7]; exact (vi_nI hc30).symm), hz2_22, (by have h6 := hz2_27; rw [hiq] at h6; exact h6), (by rw [← gz_36, ← gz_38]; exact nlt_le c_39), (by rw [← gz_31, ← gz_33]; exact nlt_le c_34)⟩, ez_41, ez_40, hq, ← hbi]))⟩) hP hD hS (lv_sub hl [1, 0, 2, 3, 4] rfl)
          exact lp 31 (0 : Int32) (0 : Int32) _ _ _ (⟨0, nI_0.symm, by omega, by omega⟩) (⟨0, nI_0.symm, hRC.1.1, rfl⟩) hP hD hS (lv_sub hl [1, 0, 2, 3, 4] rfl)
