theorem upd_at {f : Nat → Int32} {k : Nat} {v : Int32} : upd f k v k = v := if_pos rfl
theorem upd_upd {f : Nat → Int32} {k : Nat} {v w : Int32} : upd (upd f k v) k w = upd f k w := by
  funext j
  by_cases h : j = k
  · rw [show upd (upd f k v) k w j = w from if_pos h, show upd f k w j = w from if_pos h]
  · rw [show upd (upd f k v) k w j = upd f k v j from if_neg h, show upd f k v j = f j from if_neg h, show upd f k w j = f j from if_neg h]
theorem upd_id {f : Nat → Int32} {k : Nat} : upd f k (f k) = f := by
  funext j
  by_cases h : j = k
  · rw [show upd f k (f k) j = f k from if_pos h, h]
  · exact if_neg h
theorem up_st {l A F : Nat → Int32} {q : Nat} {v : Int32} (h : l = fun k => if k < q then F k else A k) (hv : v = F q) : upd l q v = fun k => if k < q + 1 then F k else A k := by
  funext k
  by_cases e : k = q
  · rw [show upd l q v k = v from if_pos e, if_pos (by omega), e, hv]
  · rw [show upd l q v k = l k from if_neg e, h]
    show (if k < q then F k else A k) = _
    by_cases g : k < q
    · rw [if_pos g, if_pos (by omega)]
    · rw [if_neg g, if_neg (by omega)]

theorem inV_ge6 {v : Int32} (h : 6 ≤ v) : ¬ inV v := fun g => by
  rw [Int32.le_iff_toInt_le] at h
  have : (6 : Int32).toInt = 6 := by decide
  omega
theorem inV_of6 {v : Int32} (h0 : ¬ v < 0) (h : ¬ 6 ≤ v) : inV v := by
  rw [Int32.lt_iff_toInt_lt] at h0
  rw [Int32.le_iff_toInt_le] at h
  have : (6 : Int32).toInt = 6 := by decide
  have : (0 : Int32).toInt = 0 := by decide
  exact ⟨by omega, by omega⟩

noncomputable abbrev rm_X10_isVatE : Room := { frames := 1, cells := 0, slots := 0, locals := 22 }
set_option maxHeartbeats 4000000 in
set_option maxRecDepth 100000 in
theorem m_X10_isVatE (l : Launch) (dC : Nat → ClassId) (dI : Nat → Nat → Nat) (sa : Nat → Nat) (g : Nat → Nat) (h0 : Nat) (b : Nat → Nat) (i : Nat → Int32) (a : Nat → Nat → Int32) (vv : Int32) (sz : Nat) : CT l dC dI sa yX10_isVat wsX10_isVat rm_X10_isVatE [.ref h0, .int vv] (mw g h0 b i a) (tyM g) sz (fun (r : Option Value) (x0 : Int32) => ((r = some (.int 0) ∧ (¬ inV vv ∧ x0 = 1)) ∨ (r = some (.int 1) ∧ (inV vv ∧ x0 = 0))) ∧ (True)) (fun (x0 : Int32) => mw g h0 b (va_up i 0 x0) a) (fun _ => []) 0 0 := by
  refine CT.start (cc := cX10_isVat) (maxL := 2) (ret := (some .boolean)) (by decide) rfl (Nat.le_of_ble_eq_true rfl) ?_
  intro p e s m below meth c ls hst hP hK hD hev hS hl
  obtain ⟨hx, hb, hr, hml, hts, hown, hlocks, hin⟩ := hst
  have hown : s.vm.findClass RX10 = some m.cls := hown
  have hA : ∀ q : Nat, s.heap.size ≤ q → va_A (mw g h0 b i a) s.heap.size q := fun _ h => Or.inr h
  have hl : lv_has ls 2 [(0, .ref h0), (1, .int vv)] := hl
  refine lv_aload_n hx hb dX10_isVat_0 rfl (lv_at hl 0 rfl) ?_
  refine lv_iconst (v := 0) hx hb dX10_isVat_1 (by decide) ?_
  refine va_put (D := (dC, dI)) (ci := 10) (v := .int 0) (ty := .int) (C := RX10) (T := TX10) (N := 51) hx hb hts inw_X10_isVat_10 tyX10 tyX10_ok nmX10 hown hK hP hD hS 0 rfl rfl 0 (by decide) (hts (.fieldLink RX10 105 "VatHouseModel" "thrown" "I") (List.mem_of_getElem? (i := 1) (by exact rfl))) (fun _ h9 => h9) rfl (tyX10_ok 0 (by decide)) rfl rfl (Nat.le_of_ble_eq_true rfl) dX10_isVat_2 (fun H locs hP hD hS => ?_)
  have hP : va_P (dC, dI) vwCl (mw g h0 b (va_up i 0 (0 : Int32)) a) _ := hP
  have hD : va_D _ (mw g h0 b (va_up i 0 (0 : Int32)) a) := hD
  refine lv_aload_n hx hb dX10_isVat_5 rfl (lv_at hl 0 rfl) ?_
  refine lv_iload_n hx hb dX10_isVat_6 rfl (lv_at hl 1 rfl) ?_
  refine lv_if_lt (tgt := 20) hx hb dX10_isVat_7 (by decide) (fun c_1 => ?_) (fun c_1 => ?_)
  · have nc_1 := lt_i c_1
    have lc_1 : (0 : Int32).toInt = 0 := by decide
    refine lv_iconst (v := 0) hx hb dX10_isVat_20 (by decide) ?_
    refine lv_iconst (v := 1) hx hb dX10_isVat_21 (by decide) ?_
    refine M_V ⟨hx, hb, hml, hown, hts⟩ (m_X10_rightX l dC dI sa g h0 b (va_up i 0 (0 : Int32)) a (0 : Int32) (1 : Int32) _ (by decide) rfl) (cwV 2 hts gX10_isVat_X10_right rfl rfl rfl (by decide +kernel) ⟨Nat.le_of_ble_eq_true rfl, Nat.le_of_ble_eq_true rfl⟩) hP hD hK hS hA hev rfl rfl rfl rfl hl.1 rfl (Nat.le_of_ble_eq_true rfl) dX10_isVat_22 ⟨(Nat.le_of_ble_eq_true rfl), (Nat.le_of_ble_eq_true rfl)⟩ (fun r u H locs hw hP hD hS => ?_)
    obtain ⟨x0_2, rfl⟩ : ∃ z, z = u := ⟨_, rfl⟩
    have hw : ((r = some (.int 0) ∧ ((0 : Int32) = 0 ∧ x0_2 = (1 : Int32))) ∨ (r = some (.int 1) ∧ (¬ (0 : Int32) = 0 ∧ x0_2 = 0))) ∧ (True) := hw
    obtain ⟨⟨rfl, hz2_4⟩ | ⟨rfl, hz2_4⟩, hw_3⟩ := hw
    · have hP : va_P (dC, dI) vwCl (mw g h0 b (va_up i 0 x0_2) a) _ := hP
      have hD : va_D _ (mw g h0 b (va_up i 0 x0_2) a) := hD
      refine W.eq (g2 := F0 m 25 ls [.int 0]) rfl ?_
      exact M_z hx hb hr rfl hlocks (x0_2) hP hD hK hS ⟨Or.inl ⟨rfl, ⟨inV_lt c_1, hz2_4.2⟩⟩, trivial⟩ (Nat.le_of_ble_eq_true rfl) (Nat.le_of_ble_eq_true rfl) dX10_isVat_25
    · have hP : va_P (dC, dI) vwCl (mw g h0 b (va_up i 0 x0_2) a) _ := hP
      have hD : va_D _ (mw g h0 b (va_up i 0 x0_2) a) := hD
      refine W.eq (g2 := F0 m 25 ls [.int 1]) rfl ?_
      exact absurd rfl hz2_4.1
  · have nc_1 := nlt_i c_1
    have lc_1 : (0 : Int32).toInt = 0 := by decide
    refine lv_iload_n hx hb dX10_isVat_10 rfl (lv_at hl 1 rfl) ?_
    refine lv_bipush (v := 6) hx hb dX10_isVat_11 (by decide) ?_
    refine lv_icmp_ge (tgt := 20) hx hb dX10_isVat_13 (by decide) (fun c_5 => ?_) (fun c_5 => ?_)
    · have nc_5 := le_i c_5
      have lc_5 : (6 : Int32).toInt = 6 := by decide
      refine lv_iconst (v := 0) hx hb dX10_isVat_20 (by decide) ?_
      refine lv_iconst (v := 1) hx hb dX10_isVat_21 (by decide) ?_
      refine M_V ⟨hx, hb, hml, hown, hts⟩ (m_X10_rightX l dC dI sa g h0 b (va_up i 0 (0 : Int32)) a (0 : Int32) (1 : Int32) _ (by decide) rfl) (cwV 2 hts gX10_isVat_X10_right rfl rfl rfl (by decide +kernel) ⟨Nat.le_of_ble_eq_true rfl, Nat.le_of_ble_eq_true rfl⟩) hP hD hK hS hA hev rfl rfl rfl rfl hl.1 rfl (Nat.le_of_ble_eq_true rfl) dX10_isVat_22 ⟨(Nat.le_of_ble_eq_true rfl), (Nat.le_of_ble_eq_true rfl)⟩ (fun r u H locs hw hP hD hS => ?_)
      obtain ⟨x0_6, rfl⟩ : ∃ z, z = u := ⟨_, rfl⟩
      have hw : ((r = some (.int 0) ∧ ((0 : Int32) = 0 ∧ x0_6 = (1 : Int32))) ∨ (r = some (.int 1) ∧ (¬ (0 : Int32) = 0 ∧ x0_6 = 0))) ∧ (True) := hw
      obtain ⟨⟨rfl, hz2_8⟩ | ⟨rfl, hz2_8⟩, hw_7⟩ := hw
      · have hP : va_P (dC, dI) vwCl (mw g h0 b (va_up i 0 x0_6) a) _ := hP
        have hD : va_D _ (mw g h0 b (va_up i 0 x0_6) a) := hD
        refine W.eq (g2 := F0 m 25 ls [.int 0]) rfl ?_
        exact M_z hx hb hr rfl hlocks (x0_6) hP hD hK hS ⟨Or.inl ⟨rfl, ⟨inV_ge6 c_5, hz2_8.2⟩⟩, trivial⟩ (Nat.le_of_ble_eq_true rfl) (Nat.le_of_ble_eq_true rfl) dX10_isVat_25
      · have hP : va_P (dC, dI) vwCl (mw g h0 b (va_up i 0 x0_6) a) _ := hP
        have hD : va_D _ (mw g h0 b (va_up i 0 x0_6) a) := hD
        refine W.eq (g2 := F0 m 25 ls [.int 1]) rfl ?_
        exact absurd rfl hz2_8.1
    · have nc_5 := nle_i c_5
      have lc_5 : (6 : Int32).toInt = 6 := by decide
      refine lv_iconst (v := 1) hx hb dX10_isVat_16 (by decide) ?_
      refine lv_goto (tgt := 21) hx hb dX10_isVat_17 (by decide) ?_
      refine lv_iconst (v := 1) hx hb dX10_isVat_21 (by decide) ?_
      refine M_V ⟨hx, hb, hml, hown, hts⟩ (m_X10_rightX l dC dI sa g h0 b (va_up i 0 (0 : Int32)) a (1 : Int32) (1 : Int32) _ (by decide) rfl) (cwV 2 hts gX10_isVat_X10_right rfl rfl rfl (by decide +kernel) ⟨Nat.le_of_ble_eq_true rfl, Nat.le_of_ble_eq_true rfl⟩) hP hD hK hS hA hev rfl rfl rfl rfl hl.1 rfl (Nat.le_of_ble_eq_true rfl) dX10_isVat_22 ⟨(Nat.le_of_ble_eq_true rfl), (Nat.le_of_ble_eq_true rfl)⟩ (fun r u H locs hw hP hD hS => ?_)
      obtain ⟨x0_9, rfl⟩ : ∃ z, z = u := ⟨_, rfl⟩
      have hw : ((r = some (.int 0) ∧ ((1 : Int32) = 0 ∧ x0_9 = (1 : Int32))) ∨ (r = some (.int 1) ∧ (¬ (1 : Int32) = 0 ∧ x0_9 = 0))) ∧ (True) := hw
      obtain ⟨⟨rfl, hz2_11⟩ | ⟨rfl, hz2_11⟩, hw_10⟩ := hw
      · have hP : va_P (dC, dI) vwCl (mw g h0 b (va_up i 0 x0_9) a) _ := hP
        have hD : va_D _ (mw g h0 b (va_up i 0 x0_9) a) := hD
        refine W.eq (g2 := F0 m 25 ls [.int 0]) rfl ?_
        exact absurd hz2_11.1 (by decide)
      · have hP : va_P (dC, dI) vwCl (mw g h0 b (va_up i 0 x0_9) a) _ := hP
        have hD : va_D _ (mw g h0 b (va_up i 0 x0_9) a) := hD
        refine W.eq (g2 := F0 m 25 ls [.int 1]) rfl ?_
        exact M_z hx hb hr rfl hlocks (x0_9) hP hD hK hS ⟨Or.inr ⟨rfl, ⟨inV_of6 c_1 c_5, hz2_11.2⟩⟩, trivial⟩ (Nat.le_of_ble_eq_true rfl) (Nat.le_of_ble_eq_true rfl) dX10_isVat_25

noncomputable abbrev rm_X10_isClothE : Room := { frames := 1, cells := 0, slots := 0, locals := 22 }
set_option maxHeartbeats 4000000 in
set_option maxRecDepth 100000 in
theorem m_X10_isClothE (l : Launch) (dC : Nat → ClassId) (dI : Nat → Nat → Nat) (sa : Nat → Nat) (g : Nat → Nat) (h0 : Nat) (b : Nat → Nat) (i : Nat → Int32) (a : Nat → Nat → Int32) (kk : Int32) (sz : Nat) : CT l dC dI sa yX10_isCloth wsX10_isCloth rm_X10_isClothE [.ref h0, .int kk] (mw g h0 b i a) (tyM g) sz (fun (r : Option Value) (x0 : Int32) => ((r = some (.int 0) ∧ (¬ inC (i, a) kk ∧ x0 = 1)) ∨ (r = some (.int 1) ∧ (inC (i, a) kk ∧ x0 = 0))) ∧ (True)) (fun (x0 : Int32) => mw g h0 b (va_up i 0 x0) a) (fun _ => []) 0 0 := by
  refine CT.start (cc := cX10_isCloth) (maxL := 2) (ret := (some .boolean)) (by decide) rfl (Nat.le_of_ble_eq_true rfl) ?_
  intro p e s m below meth c ls hst hP hK hD hev hS hl
  obtain ⟨hx, hb, hr, hml, hts, hown, hlocks, hin⟩ := hst
  have hown : s.vm.findClass RX10 = some m.cls := hown
  have hA : ∀ q : Nat, s.heap.size ≤ q → va_A (mw g h0 b i a) s.heap.size q := fun _ h => Or.inr h
  have hl : lv_has ls 2 [(0, .ref h0), (1, .int kk)] := hl
  refine lv_aload_n hx hb dX10_isCloth_0 rfl (lv_at hl 0 rfl) ?_
  refine lv_iconst (v := 0) hx hb dX10_isCloth_1 (by decide) ?_
  refine va_put (D := (dC, dI)) (ci := 10) (v := .int 0) (ty := .int) (C := RX10) (T := TX10) (N := 51) hx hb hts inw_X10_isCloth_10 tyX10 tyX10_ok nmX10 hown hK hP hD hS 0 rfl rfl 0 (by decide) (hts (.fieldLink RX10 105 "VatHouseModel" "thrown" "I") (List.mem_of_getElem? (i := 1) (by exact rfl))) (fun _ h9 => h9) rfl (tyX10_ok 0 (by decide)) rfl rfl (Nat.le_of_ble_eq_true rfl) dX10_isCloth_2 (fun H locs hP hD hS => ?_)
  have hP : va_P (dC, dI) vwCl (mw g h0 b (va_up i 0 (0 : Int32)) a) _ := hP
  have hD : va_D _ (mw g h0 b (va_up i 0 (0 : Int32)) a) := hD
  refine lv_aload_n hx hb dX10_isCloth_5 rfl (lv_at hl 0 rfl) ?_
  refine lv_iload_n hx hb dX10_isCloth_6 rfl (lv_at hl 1 rfl) ?_
  refine lv_if_lt (tgt := 22) hx hb dX10_isCloth_7 (by decide) (fun c_1 => ?_) (fun c_1 => ?_)
  · have nc_1 := lt_i c_1
    have lc_1 : (0 : Int32).toInt = 0 := by decide
    refine lv_iconst (v := 0) hx hb dX10_isCloth_22 (by decide) ?_
    refine lv_iconst (v := 1) hx hb dX10_isCloth_23 (by decide) ?_
    refine M_V ⟨hx, hb, hml, hown, hts⟩ (m_X10_rightX l dC dI sa g h0 b (va_up i 0 (0 : Int32)) a (0 : Int32) (1 : Int32) _ (by decide) rfl) (cwV 2 hts gX10_isCloth_X10_right rfl rfl rfl (by decide +kernel) ⟨Nat.le_of_ble_eq_true rfl, Nat.le_of_ble_eq_true rfl⟩) hP hD hK hS hA hev rfl rfl rfl rfl hl.1 rfl (Nat.le_of_ble_eq_true rfl) dX10_isCloth_24 ⟨(Nat.le_of_ble_eq_true rfl), (Nat.le_of_ble_eq_true rfl)⟩ (fun r u H locs hw hP hD hS => ?_)
    obtain ⟨x0_2, rfl⟩ : ∃ z, z = u := ⟨_, rfl⟩
    have hw : ((r = some (.int 0) ∧ ((0 : Int32) = 0 ∧ x0_2 = (1 : Int32))) ∨ (r = some (.int 1) ∧ (¬ (0 : Int32) = 0 ∧ x0_2 = 0))) ∧ (True) := hw
    obtain ⟨⟨rfl, hz2_4⟩ | ⟨rfl, hz2_4⟩, hw_3⟩ := hw
    · have hP : va_P (dC, dI) vwCl (mw g h0 b (va_up i 0 x0_2) a) _ := hP
      have hD : va_D _ (mw g h0 b (va_up i 0 x0_2) a) := hD
      refine W.eq (g2 := F0 m 27 ls [.int 0]) rfl ?_
      exact M_z hx hb hr rfl hlocks (x0_2) hP hD hK hS ⟨Or.inl ⟨rfl, ⟨inC_lt c_1, hz2_4.2⟩⟩, trivial⟩ (Nat.le_of_ble_eq_true rfl) (Nat.le_of_ble_eq_true rfl) dX10_isCloth_27
    · have hP : va_P (dC, dI) vwCl (mw g h0 b (va_up i 0 x0_2) a) _ := hP
      have hD : va_D _ (mw g h0 b (va_up i 0 x0_2) a) := hD
      refine W.eq (g2 := F0 m 27 ls [.int 1]) rfl ?_
      exact absurd rfl hz2_4.1
  · have nc_1 := nlt_i c_1
    have lc_1 : (0 : Int32).toInt = 0 := by decide
    refine lv_iload_n hx hb dX10_isCloth_10 rfl (lv_at hl 1 rfl) ?_
    refine lv_aload_n hx hb dX10_isCloth_11 rfl (lv_at hl 0 rfl) ?_
    refine va_get (D := (dC, dI)) (ci := 10) (v := .int (i 12)) (C := RX10) (T := TX10) (N := 51) hx hb hts inw_X10_isCloth_10 hown hK hP 0 rfl rfl 12 (by decide) (hts (.fieldLink RX10 112 "VatHouseModel" "cloths" "I") (List.mem_of_getElem? (i := 2) (by exact rfl))) (fun _ h9 => h9) rfl dX10_isCloth_12 ?_
    refine lv_icmp_ge (tgt := 22) hx hb dX10_isCloth_15 (by decide) (fun c_5 => ?_) (fun c_5 => ?_)
    · have nc_5 := le_i c_5
      refine lv_iconst (v := 0) hx hb dX10_isCloth_22 (by decide) ?_
      refine lv_iconst (v := 1) hx hb dX10_isCloth_23 (by decide) ?_
      refine M_V ⟨hx, hb, hml, hown, hts⟩ (m_X10_rightX l dC dI sa g h0 b (va_up i 0 (0 : Int32)) a (0 : Int32) (1 : Int32) _ (by decide) rfl) (cwV 2 hts gX10_isCloth_X10_right rfl rfl rfl (by decide +kernel) ⟨Nat.le_of_ble_eq_true rfl, Nat.le_of_ble_eq_true rfl⟩) hP hD hK hS hA hev rfl rfl rfl rfl hl.1 rfl (Nat.le_of_ble_eq_true rfl) dX10_isCloth_24 ⟨(Nat.le_of_ble_eq_true rfl), (Nat.le_of_ble_eq_true rfl)⟩ (fun r u H locs hw hP hD hS => ?_)
      obtain ⟨x0_6, rfl⟩ : ∃ z, z = u := ⟨_, rfl⟩
      have hw : ((r = some (.int 0) ∧ ((0 : Int32) = 0 ∧ x0_6 = (1 : Int32))) ∨ (r = some (.int 1) ∧ (¬ (0 : Int32) = 0 ∧ x0_6 = 0))) ∧ (True) := hw
      obtain ⟨⟨rfl, hz2_8⟩ | ⟨rfl, hz2_8⟩, hw_7⟩ := hw
      · have hP : va_P (dC, dI) vwCl (mw g h0 b (va_up i 0 x0_6) a) _ := hP
        have hD : va_D _ (mw g h0 b (va_up i 0 x0_6) a) := hD
        refine W.eq (g2 := F0 m 27 ls [.int 0]) rfl ?_
        exact M_z hx hb hr rfl hlocks (x0_6) hP hD hK hS ⟨Or.inl ⟨rfl, ⟨inC_ge (s := (i, a)) c_5, hz2_8.2⟩⟩, trivial⟩ (Nat.le_of_ble_eq_true rfl) (Nat.le_of_ble_eq_true rfl) dX10_isCloth_27
      · have hP : va_P (dC, dI) vwCl (mw g h0 b (va_up i 0 x0_6) a) _ := hP
        have hD : va_D _ (mw g h0 b (va_up i 0 x0_6) a) := hD
        refine W.eq (g2 := F0 m 27 ls [.int 1]) rfl ?_
        exact absurd rfl hz2_8.1
    · have nc_5 := nle_i c_5
      refine lv_iconst (v := 1) hx hb dX10_isCloth_18 (by decide) ?_
      refine lv_goto (tgt := 23) hx hb dX10_isCloth_19 (by decide) ?_
      refine lv_iconst (v := 1) hx hb dX10_isCloth_23 (by decide) ?_
      refine M_V ⟨hx, hb, hml, hown, hts⟩ (m_X10_rightX l dC dI sa g h0 b (va_up i 0 (0 : Int32)) a (1 : Int32) (1 : Int32) _ (by decide) rfl) (cwV 2 hts gX10_isCloth_X10_right rfl rfl rfl (by decide +kernel) ⟨Nat.le_of_ble_eq_true rfl, Nat.le_of_ble_eq_true rfl⟩) hP hD hK hS hA hev rfl rfl rfl rfl hl.1 rfl (Nat.le_of_ble_eq_true rfl) dX10_isCloth_24 ⟨(Nat.le_of_ble_eq_true rfl), (Nat.le_of_ble_eq_true rfl)⟩ (fun r u H locs hw hP hD hS => ?_)
      obtain ⟨x0_9, rfl⟩ : ∃ z, z = u := ⟨_, rfl⟩
      have hw : ((r = some (.int 0) ∧ ((1 : Int32) = 0 ∧ x0_9 = (1 : Int32))) ∨ (r = some (.int 1) ∧ (¬ (1 : Int32) = 0 ∧ x0_9 = 0))) ∧ (True) := hw
      obtain ⟨⟨rfl, hz2_11⟩ | ⟨rfl, hz2_11⟩, hw_10⟩ := hw
      · have hP : va_P (dC, dI) vwCl (mw g h0 b (va_up i 0 x0_9) a) _ := hP
        have hD : va_D _ (mw g h0 b (va_up i 0 x0_9) a) := hD
        refine W.eq (g2 := F0 m 27 ls [.int 0]) rfl ?_
        exact absurd hz2_11.1 (by decide)
      · have hP : va_P (dC, dI) vwCl (mw g h0 b (va_up i 0 x0_9) a) _ := hP
        have hD : va_D _ (mw g h0 b (va_up i 0 x0_9) a) := hD
        refine W.eq (g2 := F0 m 27 ls [.int 1]) rfl ?_
        exact M_z hx hb hr rfl hlocks (x0_9) hP hD hK hS ⟨Or.inr ⟨rfl, ⟨inC_of (s := (i, a)) c_1 c_5, hz2_11.2⟩⟩, trivial⟩ (Nat.le_of_ble_eq_true rfl) (Nat.le_of_ble_eq_true rfl) dX10_isCloth_27

noncomputable abbrev rm_X10_isDryE : Room := { frames := 0, cells := 0, slots := 0, locals := 0 }
set_option maxHeartbeats 4000000 in
set_option maxRecDepth 100000 in
theorem m_X10_isDryE (l : Launch) (dC : Nat → ClassId) (dI : Nat → Nat → Nat) (sa : Nat → Nat) (g : Nat → Nat) (h0 : Nat) (b : Nat → Nat) (i : Nat → Int32) (a : Nat → Nat → Int32) (ck : Int32) (sz : Nat) (hc30 : vp_in ck 30) : CT l dC dI sa yX10_isDry wsX10_isDry rm_X10_isDryE [.ref h0, .int ck] (mw g h0 b i a) (tyM g) sz (fun (r : Option Value) (_ : Unit) => ((r = some (.int 0) ∧ (((a 16) ck.toNatClampNeg) = -1)) ∨ (r = some (.int 1) ∧ (¬ ((a 16) ck.toNatClampNeg) = -1))) ∧ (True)) (fun (_ : Unit) => mw g h0 b i a) (fun _ => []) 0 0 := by
  refine CT.start (cc := cX10_isDry) (maxL := 2) (ret := (some .boolean)) (by decide) rfl (Nat.le_of_ble_eq_true rfl) ?_
  intro p e s m below meth c ls hst hP hK hD hev hS hl
  obtain ⟨hx, hb, hr, hml, hts, hown, hlocks, hin⟩ := hst
  have hown : s.vm.findClass RX10 = some m.cls := hown
  have hA : ∀ q : Nat, s.heap.size ≤ q → va_A (mw g h0 b i a) s.heap.size q := fun _ h => Or.inr h
  have hl : lv_has ls 2 [(0, .ref h0), (1, .int ck)] := hl
  refine lv_aload_n hx hb dX10_isDry_0 rfl (lv_at hl 0 rfl) ?_
  refine va_get (D := (dC, dI)) (ci := 10) (v := .ref (b 16)) (C := RX10) (T := TX10) (N := 51) hx hb hts inw_X10_isDry_10 hown hK hP 0 rfl rfl 16 (by decide) (hts (.fieldLink RX10 44 "VatHouseModel" "day" "[I") (List.mem_of_getElem? (i := 1) (by exact rfl))) (fun _ h9 => h9) rfl dX10_isDry_1 ?_
  refine lv_iload_n hx hb dX10_isDry_4 rfl (lv_at hl 1 rfl) ?_
  refine va_iald hx hb hK hP 12 11 rfl rfl (by assumption) dX10_isDry_5 ?_
  refine lv_topi (fun z_1 ez_1 => ?_)
  have ez_1 : z_1 = (a 16) ck.toNatClampNeg := ez_1
  refine lv_iconst (v := (-1)) hx hb dX10_isDry_6 (by decide) ?_
  refine lv_icmp_eq (tgt := 14) hx hb dX10_isDry_7 (by decide) (fun c_2 => ?_) (fun c_2 => ?_)
  · have nc_2 := eq_i c_2
    have lc_2 : ((-1) : Int32).toInt = -1 := by decide
    refine lv_iconst (v := 0) hx hb dX10_isDry_14 (by decide) ?_
    exact M_z hx hb hr rfl hlocks () hP hD hK hS ⟨Or.inl ⟨rfl, (by rw [← ez_1]; exact c_2)⟩, trivial⟩ (Nat.le_of_ble_eq_true rfl) (Nat.le_of_ble_eq_true rfl) dX10_isDry_15
  · have nc_2 := ne_i c_2
    have lc_2 : ((-1) : Int32).toInt = -1 := by decide
    refine lv_iconst (v := 1) hx hb dX10_isDry_10 (by decide) ?_
    refine lv_goto (tgt := 15) hx hb dX10_isDry_11 (by decide) ?_
    exact M_z hx hb hr rfl hlocks () hP hD hK hS ⟨Or.inr ⟨rfl, (by rw [← ez_1]; exact c_2)⟩, trivial⟩ (Nat.le_of_ble_eq_true rfl) (Nat.le_of_ble_eq_true rfl) dX10_isDry_15

noncomputable abbrev rm_X10_shadeOfE : Room := { frames := 0, cells := 0, slots := 0, locals := 0 }
set_option maxHeartbeats 4000000 in
set_option maxRecDepth 100000 in
theorem m_X10_shadeOfE (l : Launch) (dC : Nat → ClassId) (dI : Nat → Nat → Nat) (sa : Nat → Nat) (g : Nat → Nat) (h0 : Nat) (b : Nat → Nat) (i : Nat → Int32) (a : Nat → Nat → Int32) (ck : Int32) (sz : Nat) (hc30 : vp_in ck 30) (hwt : 1 ≤ ((a 13) ck.toNatClampNeg).toInt ∧ ((a 13) ck.toNatClampNeg).toInt ≤ 50) : CT l dC dI sa yX10_shadeOf wsX10_shadeOf rm_X10_shadeOfE [.ref h0, .int ck] (mw g h0 b i a) (tyM g) sz (fun (r : Option Value) (_ : Unit) => (∃ z : Int32, r = some (.int z) ∧ (z = ((a 15) ck.toNatClampNeg) / ((a 13) ck.toNatClampNeg))) ∧ (True)) (fun (_ : Unit) => mw g h0 b i a) (fun _ => []) 0 0 := by
  refine CT.start (cc := cX10_shadeOf) (maxL := 2) (ret := (some .int)) (by decide) rfl (Nat.le_of_ble_eq_true rfl) ?_
  intro p e s m below meth c ls hst hP hK hD hev hS hl
  obtain ⟨hx, hb, hr, hml, hts, hown, hlocks, hin⟩ := hst
  have hown : s.vm.findClass RX10 = some m.cls := hown
  have hA : ∀ q : Nat, s.heap.size ≤ q → va_A (mw g h0 b i a) s.heap.size q := fun _ h => Or.inr h
  have hl : lv_has ls 2 [(0, .ref h0), (1, .int ck)] := hl
  refine lv_aload_n hx hb dX10_shadeOf_0 rfl (lv_at hl 0 rfl) ?_
  refine va_get (D := (dC, dI)) (ci := 10) (v := .ref (b 15)) (C := RX10) (T := TX10) (N := 51) hx hb hts inw_X10_shadeOf_10 hown hK hP 0 rfl rfl 15 (by decide) (hts (.fieldLink RX10 41 "VatHouseModel" "fast" "[I") (List.mem_of_getElem? (i := 1) (by exact rfl))) (fun _ h9 => h9) rfl dX10_shadeOf_1 ?_
  refine lv_iload_n hx hb dX10_shadeOf_4 rfl (lv_at hl 1 rfl) ?_
  refine va_iald hx hb hK hP 11 10 rfl rfl (by assumption) dX10_shadeOf_5 ?_
  refine lv_topi (fun z_1 ez_1 => ?_)
  have ez_1 : z_1 = (a 15) ck.toNatClampNeg := ez_1
  refine lv_aload_n hx hb dX10_shadeOf_6 rfl (lv_at hl 0 rfl) ?_
  refine va_get (D := (dC, dI)) (ci := 10) (v := .ref (b 13)) (C := RX10) (T := TX10) (N := 51) hx hb hts inw_X10_shadeOf_10 hown hK hP 0 rfl rfl 13 (by decide) (hts (.fieldLink RX10 35 "VatHouseModel" "weight" "[I") (List.mem_of_getElem? (i := 2) (by exact rfl))) (fun _ h9 => h9) rfl dX10_shadeOf_7 ?_
  refine lv_iload_n hx hb dX10_shadeOf_10 rfl (lv_at hl 1 rfl) ?_
  refine va_iald hx hb hK hP 9 8 rfl rfl (by assumption) dX10_shadeOf_11 ?_
  refine lv_topi (fun z_2 ez_2 => ?_)
  have ez_2 : z_2 = (a 13) ck.toNatClampNeg := ez_2
  refine lv_idiv hx hb dX10_shadeOf_12 (ne0_of (w := (a 13) ck.toNatClampNeg) (by assumption) hwt.1) ?_
  refine lv_topi (fun z_3 ez_3 => ?_)
  exact M_i hx hb hr hlocks () hP hD hK hS ⟨⟨_, rfl, (by simp only [ez_1, ez_2, ez_3, upd_at, upd_upd, upd_id, upd_upd, upd_id])⟩, trivial⟩ (Nat.le_of_ble_eq_true rfl) (Nat.le_of_ble_eq_true rfl) dX10_shadeOf_13

noncomputable abbrev rm_X10_feedsE : Room := { frames := 0, cells := 0, slots := 0, locals := 0 }
set_option maxHeartbeats 4000000 in
set_option maxRecDepth 100000 in
theorem m_X10_feedsE (l : Launch) (dC : Nat → ClassId) (dI : Nat → Nat → Nat) (sa : Nat → Nat) (g : Nat → Nat) (h0 : Nat) (b : Nat → Nat) (i : Nat → Int32) (a : Nat → Nat → Int32) (vv : Int32) (nn : Int32) (sz : Nat) (hv6 : vp_in vv 6) : CT l dC dI sa yX10_feeds wsX10_feeds rm_X10_feedsE [.ref h0, .int vv, .int nn] (mw g h0 b i a) (tyM g) sz (fun (r : Option Value) (u : (Nat → Int32) × (Nat → Int32)) => match u with | (y5, y7) => ((r = some (.int 0) ∧ (¬ 1000 < ((a 5) vv.toNatClampNeg) + nn)) ∨ (r = some (.int 1) ∧ (1000 < ((a 5) vv.toNatClampNeg) + nn))) ∧ (y5 = upd (a 5) vv.toNatClampNeg (tfF ((a 5) vv.toNatClampNeg) nn) ∧ y7 = upd (a 7) vv.toNatClampNeg (tfS ((a 5) vv.toNatClampNeg) ((a 7) vv.toNatClampNeg) nn))) (fun (u : (Nat → Int32) × (Nat → Int32)) => match u with | (y5, y7) => mw g h0 b i (va_up (va_up a 5 y5) 7 y7)) (fun _ => []) 0 0 := by
  refine CT.start (cc := cX10_feeds) (maxL := 3) (ret := (some .boolean)) (by decide) rfl (Nat.le_of_ble_eq_true rfl) ?_
  intro p e s m below meth c ls hst hP hK hD hev hS hl
  obtain ⟨hx, hb, hr, hml, hts, hown, hlocks, hin⟩ := hst
  have hown : s.vm.findClass RX10 = some m.cls := hown
  have hA : ∀ q : Nat, s.heap.size ≤ q → va_A (mw g h0 b i a) s.heap.size q := fun _ h => Or.inr h
  have hl : lv_has ls 3 [(0, .ref h0), (1, .int vv), (2, .int nn)] := hl
  refine lv_aload_n hx hb dX10_feeds_0 rfl (lv_at hl 0 rfl) ?_
  refine va_get (D := (dC, dI)) (ci := 10) (v := .ref (b 5)) (C := RX10) (T := TX10) (N := 51) hx hb hts inw_X10_feeds_10 hown hK hP 0 rfl rfl 5 (by decide) (hts (.fieldLink RX10 13 "VatHouseModel" "food" "[I") (List.mem_of_getElem? (i := 1) (by exact rfl))) (fun _ h9 => h9) rfl dX10_feeds_1 ?_
  refine lv_iload_n hx hb dX10_feeds_4 rfl (lv_at hl 1 rfl) ?_
  refine lv_dup2_11 hx hb dX10_feeds_5 rfl rfl ?_
  refine va_iald hx hb hK hP 2 1 rfl rfl (by assumption) dX10_feeds_6 ?_
  refine lv_topi (fun z_1 ez_1 => ?_)
  have ez_1 : z_1 = (a 5) vv.toNatClampNeg := ez_1
  refine lv_iload_n hx hb dX10_feeds_7 rfl (lv_at hl 2 rfl) ?_
  refine lv_iadd hx hb dX10_feeds_8 ?_
  refine lv_topi (fun z_2 ez_2 => ?_)
  refine va_iast hx hb hK hP hD hS 2 1 rfl rfl (by assumption) dX10_feeds_9 (fun H locs hP hD hS => ?_)
  have hP : va_P (dC, dI) vwCl (mw g h0 b i (va_up a 5 (upd (a 5) vv.toNatClampNeg z_2))) _ := hP
  have hD : va_D _ (mw g h0 b i (va_up a 5 (upd (a 5) vv.toNatClampNeg z_2))) := hD
  obtain ⟨f_3, ef_3⟩ : ∃ z, z = (upd (a 5) vv.toNatClampNeg z_2) := ⟨_, rfl⟩
  rw [← ef_3] at hP hD
  refine lv_aload_n hx hb dX10_feeds_10 rfl (lv_at hl 0 rfl) ?_
  refine va_get (D := (dC, dI)) (ci := 10) (v := .ref (b 5)) (C := RX10) (T := TX10) (N := 51) hx hb hts inw_X10_feeds_10 hown hK hP 0 rfl rfl 5 (by decide) (hts (.fieldLink RX10 13 "VatHouseModel" "food" "[I") (List.mem_of_getElem? (i := 1) (by exact rfl))) (fun _ h9 => h9) rfl dX10_feeds_11 ?_
  refine lv_iload_n hx hb dX10_feeds_14 rfl (lv_at hl 1 rfl) ?_
  refine va_iald hx hb hK hP 2 1 rfl rfl (by assumption) dX10_feeds_15 ?_
  refine lv_topi (fun z_4 ez_4 => ?_)
  have ez_4 : z_4 = f_3 vv.toNatClampNeg := ez_4
  refine lv_sipush (v := 1000) hx hb dX10_feeds_16 (by decide) ?_
  refine lv_icmp_gt (tgt := 24) hx hb dX10_feeds_19 (by decide) (fun c_5 => ?_) (fun c_5 => ?_)
  · have nc_5 := lt_i c_5
    have lc_5 : (1000 : Int32).toInt = 1000 := by decide
    refine lv_aload_n hx hb dX10_feeds_24 rfl (lv_at hl 0 rfl) ?_
    refine va_get (D := (dC, dI)) (ci := 10) (v := .ref (b 5)) (C := RX10) (T := TX10) (N := 51) hx hb hts inw_X10_feeds_10 hown hK hP 0 rfl rfl 5 (by decide) (hts (.fieldLink RX10 13 "VatHouseModel" "food" "[I") (List.mem_of_getElem? (i := 1) (by exact rfl))) (fun _ h9 => h9) rfl dX10_feeds_25 ?_
    refine lv_iload_n hx hb dX10_feeds_28 rfl (lv_at hl 1 rfl) ?_
    refine lv_sipush (v := 1000) hx hb dX10_feeds_29 (by decide) ?_
    refine va_iast hx hb hK hP hD hS 2 1 rfl rfl (by assumption) dX10_feeds_32 (fun H locs hP hD hS => ?_)
    have hP : va_P (dC, dI) vwCl (mw g h0 b i (va_up a 5 (upd f_3 vv.toNatClampNeg (1000 : Int32)))) _ := hP
    have hD : va_D _ (mw g h0 b i (va_up a 5 (upd f_3 vv.toNatClampNeg (1000 : Int32)))) := hD
    obtain ⟨f_6, ef_6⟩ : ∃ z, z = (upd f_3 vv.toNatClampNeg (1000 : Int32)) := ⟨_, rfl⟩
    rw [← ef_6] at hP hD
    refine lv_aload_n hx hb dX10_feeds_33 rfl (lv_at hl 0 rfl) ?_
    refine va_get (D := (dC, dI)) (ci := 10) (v := .ref (b 7)) (C := RX10) (T := TX10) (N := 51) hx hb hts inw_X10_feeds_10 hown hK hP 0 rfl rfl 7 (by decide) (hts (.fieldLink RX10 19 "VatHouseModel" "state" "[I") (List.mem_of_getElem? (i := 2) (by exact rfl))) (fun _ h9 => h9) rfl dX10_feeds_34 ?_
    refine lv_iload_n hx hb dX10_feeds_37 rfl (lv_at hl 1 rfl) ?_
    refine lv_iconst (v := 2) hx hb dX10_feeds_38 (by decide) ?_
    refine va_iast hx hb hK hP hD hS 4 3 rfl rfl (by assumption) dX10_feeds_39 (fun H locs hP hD hS => ?_)
    have hP : va_P (dC, dI) vwCl (mw g h0 b i (va_up (va_up a 5 f_6) 7 (upd (a 7) vv.toNatClampNeg (2 : Int32)))) _ := hP
    have hD : va_D _ (mw g h0 b i (va_up (va_up a 5 f_6) 7 (upd (a 7) vv.toNatClampNeg (2 : Int32)))) := hD
    obtain ⟨f_7, ef_7⟩ : ∃ z, z = (upd (a 7) vv.toNatClampNeg (2 : Int32)) := ⟨_, rfl⟩
    rw [← ef_7] at hP hD
    refine lv_iconst (v := 1) hx hb dX10_feeds_40 (by decide) ?_
    exact M_z hx hb hr rfl hlocks (f_6, f_7) hP hD hK hS ⟨Or.inr ⟨rfl, (by have h9 := c_5; simp only [ez_1, ez_2, ef_3, ez_4, ef_6, ef_7, upd_at] at h9; exact h9)⟩, ⟨(by have c_59 := c_5; (try simp only [ez_1, ez_2, ef_3, ez_4, ef_6, ef_7, upd_at, upd_upd, upd_id] at c_59); simp only [tfF, ez_1, ez_2, ef_3, ez_4, ef_6, ef_7, upd_at, upd_upd, upd_id, if_pos c_59, upd_upd, upd_id]), (by have c_59 := c_5; (try simp only [ez_1, ez_2, ef_3, ez_4, ef_6, ef_7, upd_at, upd_upd, upd_id] at c_59); simp only [tfS, ez_1, ez_2, ef_3, ez_4, ef_6, ef_7, upd_at, upd_upd, upd_id, if_pos c_59, upd_upd, upd_id])⟩⟩ (Nat.le_of_ble_eq_true rfl) (Nat.le_of_ble_eq_true rfl) dX10_feeds_41
  · have nc_5 := nlt_i c_5
    have lc_5 : (1000 : Int32).toInt = 1000 := by decide
    refine lv_iconst (v := 0) hx hb dX10_feeds_22 (by decide) ?_
    exact M_z hx hb hr rfl hlocks (f_3, (a 7)) hP hD hK hS ⟨Or.inl ⟨rfl, (by have h9 := c_5; simp only [ez_1, ez_2, ef_3, ez_4, upd_at] at h9; exact h9)⟩, ⟨(by have c_59 := c_5; (try simp only [ez_1, ez_2, ef_3, ez_4, upd_at, upd_upd, upd_id] at c_59); simp only [tfF, ez_1, ez_2, ef_3, ez_4, upd_at, upd_upd, upd_id, if_neg c_59, upd_upd, upd_id]), (by have c_59 := c_5; (try simp only [ez_1, ez_2, ef_3, ez_4, upd_at, upd_upd, upd_id] at c_59); simp only [tfS, ez_1, ez_2, ef_3, ez_4, upd_at, upd_upd, upd_id, if_neg c_59, upd_upd, upd_id])⟩⟩ (Nat.le_of_ble_eq_true rfl) (Nat.le_of_ble_eq_true rfl) dX10_feeds_23

noncomputable abbrev rm_X10_limesE : Room := { frames := 0, cells := 0, slots := 0, locals := 0 }
set_option maxHeartbeats 4000000 in
set_option maxRecDepth 100000 in
theorem m_X10_limesE (l : Launch) (dC : Nat → ClassId) (dI : Nat → Nat → Nat) (sa : Nat → Nat) (g : Nat → Nat) (h0 : Nat) (b : Nat → Nat) (i : Nat → Int32) (a : Nat → Nat → Int32) (vv : Int32) (sz : Nat) (hv6 : vp_in vv 6) : CT l dC dI sa yX10_limes wsX10_limes rm_X10_limesE [.ref h0, .int vv] (mw g h0 b i a) (tyM g) sz (fun (r : Option Value) (u : (Nat → Int32) × (Nat → Int32) × (Nat → Int32)) => match u with | (y5, y6, y7) => (r = none) ∧ (y5 = upd (a 5) vv.toNatClampNeg (((a 5) vv.toNatClampNeg) / 2) ∧ y6 = upd (a 6) vv.toNatClampNeg (liM ((a 7) vv.toNatClampNeg) ((a 6) vv.toNatClampNeg)) ∧ y7 = upd (a 7) vv.toNatClampNeg (liS ((a 7) vv.toNatClampNeg) ((a 5) vv.toNatClampNeg)))) (fun (u : (Nat → Int32) × (Nat → Int32) × (Nat → Int32)) => match u with | (y5, y6, y7) => mw g h0 b i (va_up (va_up (va_up a 5 y5) 6 y6) 7 y7)) (fun _ => []) 0 0 := by
  refine CT.start (cc := cX10_limes) (maxL := 2) (ret := none) (by decide) rfl (Nat.le_of_ble_eq_true rfl) ?_
  intro p e s m below meth c ls hst hP hK hD hev hS hl
  obtain ⟨hx, hb, hr, hml, hts, hown, hlocks, hin⟩ := hst
  have hown : s.vm.findClass RX10 = some m.cls := hown
  have hA : ∀ q : Nat, s.heap.size ≤ q → va_A (mw g h0 b i a) s.heap.size q := fun _ h => Or.inr h
  have hl : lv_has ls 2 [(0, .ref h0), (1, .int vv)] := hl
  refine lv_aload_n hx hb dX10_limes_0 rfl (lv_at hl 0 rfl) ?_
  refine va_get (D := (dC, dI)) (ci := 10) (v := .ref (b 7)) (C := RX10) (T := TX10) (N := 51) hx hb hts inw_X10_limes_10 hown hK hP 0 rfl rfl 7 (by decide) (hts (.fieldLink RX10 19 "VatHouseModel" "state" "[I") (List.mem_of_getElem? (i := 1) (by exact rfl))) (fun _ h9 => h9) rfl dX10_limes_1 ?_
  refine lv_iload_n hx hb dX10_limes_4 rfl (lv_at hl 1 rfl) ?_
  refine va_iald hx hb hK hP 4 3 rfl rfl (by assumption) dX10_limes_5 ?_
  refine lv_topi (fun z_1 ez_1 => ?_)
  have ez_1 : z_1 = (a 7) vv.toNatClampNeg := ez_1
  refine lv_iconst (v := 2) hx hb dX10_limes_6 (by decide) ?_
  refine lv_icmp_ne (tgt := 33) hx hb dX10_limes_7 (by decide) (fun c_2 => ?_) (fun c_2 => ?_)
  · have nc_2 := ne_i c_2
    have lc_2 : (2 : Int32).toInt = 2 := by decide
    refine lv_aload_n hx hb dX10_limes_33 rfl (lv_at hl 0 rfl) ?_
    refine va_get (D := (dC, dI)) (ci := 10) (v := .ref (b 5)) (C := RX10) (T := TX10) (N := 51) hx hb hts inw_X10_limes_10 hown hK hP 0 rfl rfl 5 (by decide) (hts (.fieldLink RX10 13 "VatHouseModel" "food" "[I") (List.mem_of_getElem? (i := 3) (by exact rfl))) (fun _ h9 => h9) rfl dX10_limes_34 ?_
    refine lv_iload_n hx hb dX10_limes_37 rfl (lv_at hl 1 rfl) ?_
    refine lv_dup2_11 hx hb dX10_limes_38 rfl rfl ?_
    refine va_iald hx hb hK hP 2 1 rfl rfl (by assumption) dX10_limes_39 ?_
    refine lv_topi (fun z_3 ez_3 => ?_)
    have ez_3 : z_3 = (a 5) vv.toNatClampNeg := ez_3
    refine lv_iconst (v := 2) hx hb dX10_limes_40 (by decide) ?_
    refine lv_idiv hx hb dX10_limes_41 (by decide) ?_
    refine lv_topi (fun z_4 ez_4 => ?_)
    refine va_iast hx hb hK hP hD hS 2 1 rfl rfl (by assumption) dX10_limes_42 (fun H locs hP hD hS => ?_)
    have hP : va_P (dC, dI) vwCl (mw g h0 b i (va_up a 5 (upd (a 5) vv.toNatClampNeg z_4))) _ := hP
    have hD : va_D _ (mw g h0 b i (va_up a 5 (upd (a 5) vv.toNatClampNeg z_4))) := hD
    obtain ⟨f_5, ef_5⟩ : ∃ z, z = (upd (a 5) vv.toNatClampNeg z_4) := ⟨_, rfl⟩
    rw [← ef_5] at hP hD
    exact M_v hx hb hr hlocks (f_5, (a 6), (a 7)) hP hD hK hS ⟨rfl, ⟨(by have c_29 := c_2; (try simp only [ez_1, ez_3, ez_4, ef_5, upd_at, upd_upd, upd_id] at c_29); simp only [ez_1, ez_3, ez_4, ef_5, upd_at, upd_upd, upd_id, if_neg c_29, upd_upd, upd_id]), (by have c_29 := c_2; (try simp only [ez_1, ez_3, ez_4, ef_5, upd_at, upd_upd, upd_id] at c_29); simp only [liM, ez_1, ez_3, ez_4, ef_5, upd_at, upd_upd, upd_id, if_neg c_29, upd_upd, upd_id]), (by have c_29 := c_2; (try simp only [ez_1, ez_3, ez_4, ef_5, upd_at, upd_upd, upd_id] at c_29); simp only [liS, ez_1, ez_3, ez_4, ef_5, upd_at, upd_upd, upd_id, if_neg c_29, upd_upd, upd_id])⟩⟩ (Nat.le_of_ble_eq_true rfl) (Nat.le_of_ble_eq_true rfl) dX10_limes_43
  · have nc_2 := eq_i c_2
    have lc_2 : (2 : Int32).toInt = 2 := by decide
    refine lv_aload_n hx hb dX10_limes_10 rfl (lv_at hl 0 rfl) ?_
    refine va_get (D := (dC, dI)) (ci := 10) (v := .ref (b 6)) (C := RX10) (T := TX10) (N := 51) hx hb hts inw_X10_limes_10 hown hK hP 0 rfl rfl 6 (by decide) (hts (.fieldLink RX10 16 "VatHouseModel" "minutes" "[I") (List.mem_of_getElem? (i := 2) (by exact rfl))) (fun _ h9 => h9) rfl dX10_limes_11 ?_
    refine lv_iload_n hx hb dX10_limes_14 rfl (lv_at hl 1 rfl) ?_
    refine lv_iconst (v := 0) hx hb dX10_limes_15 (by decide) ?_
    refine va_iast hx hb hK hP hD hS 3 2 rfl rfl (by assumption) dX10_limes_16 (fun H locs hP hD hS => ?_)
    have hP : va_P (dC, dI) vwCl (mw g h0 b i (va_up a 6 (upd (a 6) vv.toNatClampNeg (0 : Int32)))) _ := hP
    have hD : va_D _ (mw g h0 b i (va_up a 6 (upd (a 6) vv.toNatClampNeg (0 : Int32)))) := hD
    obtain ⟨f_6, ef_6⟩ : ∃ z, z = (upd (a 6) vv.toNatClampNeg (0 : Int32)) := ⟨_, rfl⟩
    rw [← ef_6] at hP hD
    refine lv_aload_n hx hb dX10_limes_17 rfl (lv_at hl 0 rfl) ?_
    refine va_get (D := (dC, dI)) (ci := 10) (v := .ref (b 5)) (C := RX10) (T := TX10) (N := 51) hx hb hts inw_X10_limes_10 hown hK hP 0 rfl rfl 5 (by decide) (hts (.fieldLink RX10 13 "VatHouseModel" "food" "[I") (List.mem_of_getElem? (i := 3) (by exact rfl))) (fun _ h9 => h9) rfl dX10_limes_18 ?_
    refine lv_iload_n hx hb dX10_limes_21 rfl (lv_at hl 1 rfl) ?_
    refine va_iald hx hb hK hP 2 1 rfl rfl (by assumption) dX10_limes_22 ?_
    refine lv_topi (fun z_7 ez_7 => ?_)
    have ez_7 : z_7 = (a 5) vv.toNatClampNeg := ez_7
    refine lv_if_le (tgt := 33) hx hb dX10_limes_23 (by decide) (fun c_8 => ?_) (fun c_8 => ?_)
    · have nc_8 := le_i c_8
      have lc_8 : (0 : Int32).toInt = 0 := by decide
      refine lv_aload_n hx hb dX10_limes_33 rfl (lv_at hl 0 rfl) ?_
      refine va_get (D := (dC, dI)) (ci := 10) (v := .ref (b 5)) (C := RX10) (T := TX10) (N := 51) hx hb hts inw_X10_limes_10 hown hK hP 0 rfl rfl 5 (by decide) (hts (.fieldLink RX10 13 "VatHouseModel" "food" "[I") (List.mem_of_getElem? (i := 3) (by exact rfl))) (fun _ h9 => h9) rfl dX10_limes_34 ?_
      refine lv_iload_n hx hb dX10_limes_37 rfl (lv_at hl 1 rfl) ?_
      refine lv_dup2_11 hx hb dX10_limes_38 rfl rfl ?_
      refine va_iald hx hb hK hP 2 1 rfl rfl (by assumption) dX10_limes_39 ?_
      refine lv_topi (fun z_9 ez_9 => ?_)
      have ez_9 : z_9 = (a 5) vv.toNatClampNeg := ez_9
      refine lv_iconst (v := 2) hx hb dX10_limes_40 (by decide) ?_
      refine lv_idiv hx hb dX10_limes_41 (by decide) ?_
      refine lv_topi (fun z_10 ez_10 => ?_)
      refine va_iast hx hb hK hP hD hS 2 1 rfl rfl (by assumption) dX10_limes_42 (fun H locs hP hD hS => ?_)
      have hP : va_P (dC, dI) vwCl (mw g h0 b i (va_up (va_up a 5 (upd (a 5) vv.toNatClampNeg z_10)) 6 f_6)) _ := hP
      have hD : va_D _ (mw g h0 b i (va_up (va_up a 5 (upd (a 5) vv.toNatClampNeg z_10)) 6 f_6)) := hD
      obtain ⟨f_11, ef_11⟩ : ∃ z, z = (upd (a 5) vv.toNatClampNeg z_10) := ⟨_, rfl⟩
      rw [← ef_11] at hP hD
      exact M_v hx hb hr hlocks (f_11, f_6, (a 7)) hP hD hK hS ⟨rfl, ⟨(by have c_29 := c_2; (try simp only [ez_1, ef_6, ez_7, ez_9, ez_10, ef_11, upd_at, upd_upd, upd_id] at c_29); have c_89 := c_8; (try simp only [ez_1, ef_6, ez_7, ez_9, ez_10, ef_11, upd_at, upd_upd, upd_id] at c_89); simp only [ez_1, ef_6, ez_7, ez_9, ez_10, ef_11, upd_at, upd_upd, upd_id, if_pos c_29, if_pos c_89, upd_upd, upd_id]), (by have c_29 := c_2; (try simp only [ez_1, ef_6, ez_7, ez_9, ez_10, ef_11, upd_at, upd_upd, upd_id] at c_29); have c_89 := c_8; (try simp only [ez_1, ef_6, ez_7, ez_9, ez_10, ef_11, upd_at, upd_upd, upd_id] at c_89); simp only [liM, ez_1, ef_6, ez_7, ez_9, ez_10, ef_11, upd_at, upd_upd, upd_id, if_pos c_29, if_pos c_89, upd_upd, upd_id]), (by have c_29 := c_2; (try simp only [ez_1, ef_6, ez_7, ez_9, ez_10, ef_11, upd_at, upd_upd, upd_id] at c_29); have c_89 := c_8; (try simp only [ez_1, ef_6, ez_7, ez_9, ez_10, ef_11, upd_at, upd_upd, upd_id] at c_89); simp only [liS, ez_1, ef_6, ez_7, ez_9, ez_10, ef_11, upd_at, upd_upd, upd_id, if_pos c_29, if_pos c_89, upd_upd, upd_id])⟩⟩ (Nat.le_of_ble_eq_true rfl) (Nat.le_of_ble_eq_true rfl) dX10_limes_43
    · have nc_8 := nle_i c_8
      have lc_8 : (0 : Int32).toInt = 0 := by decide
      refine lv_aload_n hx hb dX10_limes_26 rfl (lv_at hl 0 rfl) ?_
      refine va_get (D := (dC, dI)) (ci := 10) (v := .ref (b 7)) (C := RX10) (T := TX10) (N := 51) hx hb hts inw_X10_limes_10 hown hK hP 0 rfl rfl 7 (by decide) (hts (.fieldLink RX10 19 "VatHouseModel" "state" "[I") (List.mem_of_getElem? (i := 1) (by exact rfl))) (fun _ h9 => h9) rfl dX10_limes_27 ?_
      refine lv_iload_n hx hb dX10_limes_30 rfl (lv_at hl 1 rfl) ?_
      refine lv_iconst (v := 1) hx hb dX10_limes_31 (by decide) ?_
      refine va_iast hx hb hK hP hD hS 4 3 rfl rfl (by assumption) dX10_limes_32 (fun H locs hP hD hS => ?_)
      have hP : va_P (dC, dI) vwCl (mw g h0 b i (va_up (va_up a 6 f_6) 7 (upd (a 7) vv.toNatClampNeg (1 : Int32)))) _ := hP
      have hD : va_D _ (mw g h0 b i (va_up (va_up a 6 f_6) 7 (upd (a 7) vv.toNatClampNeg (1 : Int32)))) := hD
      obtain ⟨f_12, ef_12⟩ : ∃ z, z = (upd (a 7) vv.toNatClampNeg (1 : Int32)) := ⟨_, rfl⟩
      rw [← ef_12] at hP hD
      refine lv_aload_n hx hb dX10_limes_33 rfl (lv_at hl 0 rfl) ?_
      refine va_get (D := (dC, dI)) (ci := 10) (v := .ref (b 5)) (C := RX10) (T := TX10) (N := 51) hx hb hts inw_X10_limes_10 hown hK hP 0 rfl rfl 5 (by decide) (hts (.fieldLink RX10 13 "VatHouseModel" "food" "[I") (List.mem_of_getElem? (i := 3) (by exact rfl))) (fun _ h9 => h9) rfl dX10_limes_34 ?_
      refine lv_iload_n hx hb dX10_limes_37 rfl (lv_at hl 1 rfl) ?_
      refine lv_dup2_11 hx hb dX10_limes_38 rfl rfl ?_
      refine va_iald hx hb hK hP 2 1 rfl rfl (by assumption) dX10_limes_39 ?_
      refine lv_topi (fun z_13 ez_13 => ?_)
      have ez_13 : z_13 = (a 5) vv.toNatClampNeg := ez_13
      refine lv_iconst (v := 2) hx hb dX10_limes_40 (by decide) ?_
      refine lv_idiv hx hb dX10_limes_41 (by decide) ?_
      refine lv_topi (fun z_14 ez_14 => ?_)
      refine va_iast hx hb hK hP hD hS 2 1 rfl rfl (by assumption) dX10_limes_42 (fun H locs hP hD hS => ?_)
      have hP : va_P (dC, dI) vwCl (mw g h0 b i (va_up (va_up (va_up a 5 (upd (a 5) vv.toNatClampNeg z_14)) 6 f_6) 7 f_12)) _ := hP
      have hD : va_D _ (mw g h0 b i (va_up (va_up (va_up a 5 (upd (a 5) vv.toNatClampNeg z_14)) 6 f_6) 7 f_12)) := hD
      obtain ⟨f_15, ef_15⟩ : ∃ z, z = (upd (a 5) vv.toNatClampNeg z_14) := ⟨_, rfl⟩
      rw [← ef_15] at hP hD
      exact M_v hx hb hr hlocks (f_15, f_6, f_12) hP hD hK hS ⟨rfl, ⟨(by have c_29 := c_2; (try simp only [ez_1, ef_6, ez_7, ef_12, ez_13, ez_14, ef_15, upd_at, upd_upd, upd_id] at c_29); have c_89 := c_8; (try simp only [ez_1, ef_6, ez_7, ef_12, ez_13, ez_14, ef_15, upd_at, upd_upd, upd_id] at c_89); simp only [ez_1, ef_6, ez_7, ef_12, ez_13, ez_14, ef_15, upd_at, upd_upd, upd_id, if_pos c_29, if_neg c_89, upd_upd, upd_id]), (by have c_29 := c_2; (try simp only [ez_1, ef_6, ez_7, ef_12, ez_13, ez_14, ef_15, upd_at, upd_upd, upd_id] at c_29); have c_89 := c_8; (try simp only [ez_1, ef_6, ez_7, ef_12, ez_13, ez_14, ef_15, upd_at, upd_upd, upd_id] at c_89); simp only [liM, ez_1, ef_6, ez_7, ef_12, ez_13, ez_14, ef_15, upd_at, upd_upd, upd_id, if_pos c_29, if_neg c_89, upd_upd, upd_id]), (by have c_29 := c_2; (try simp only [ez_1, ef_6, ez_7, ef_12, ez_13, ez_14, ef_15, upd_at, upd_upd, upd_id] at c_29); have c_89 := c_8; (try simp only [ez_1, ef_6, ez_7, ef_12, ez_13, ez_14, ef_15, upd_at, upd_upd, upd_id] at c_89); simp only [liS, ez_1, ef_6, ez_7, ef_12, ez_13, ez_14, ef_15, upd_at, upd_upd, upd_id, if_pos c_29, if_neg c_89, upd_upd, upd_id])⟩⟩ (Nat.le_of_ble_eq_true rfl) (Nat.le_of_ble_eq_true rfl) dX10_limes_43

noncomputable abbrev rm_X10_movesE : Room := { frames := 0, cells := 0, slots := 0, locals := 0 }
set_option maxHeartbeats 4000000 in
set_option maxRecDepth 100000 in
theorem m_X10_movesE (l : Launch) (dC : Nat → ClassId) (dI : Nat → Nat → Nat) (sa : Nat → Nat) (g : Nat → Nat) (h0 : Nat) (b : Nat → Nat) (i : Nat → Int32) (a : Nat → Nat → Int32) (ck : Int32) (vv : Int32) (mm : Int32) (sz : Nat) (hc30 : vp_in ck 30) (hv6 : vp_in vv 6) (hwt : 1 ≤ ((a 13) ck.toNatClampNeg).toInt ∧ ((a 13) ck.toNatClampNeg).toInt ≤ 50) : CT l dC dI sa yX10_moves wsX10_moves rm_X10_movesE [.ref h0, .int ck, .int vv, .int mm] (mw g h0 b i a) (tyM g) sz (fun (r : Option Value) (_ : Unit) => (∃ z : Int32, r = some (.int z) ∧ (z = mvV ((a 4) vv.toNatClampNeg) ((a 7) vv.toNatClampNeg) ((a 13) ck.toNatClampNeg) ((a 14) ck.toNatClampNeg) ((a 15) ck.toNatClampNeg) mm)) ∧ (True)) (fun (_ : Unit) => mw g h0 b i a) (fun _ => []) 0 0 := by
  refine CT.start (cc := cX10_moves) (maxL := 6) (ret := (some .int)) (by decide) rfl (Nat.le_of_ble_eq_true rfl) ?_
  intro p e s m below meth c ls hst hP hK hD hev hS hl
  obtain ⟨hx, hb, hr, hml, hts, hown, hlocks, hin⟩ := hst
  have hown : s.vm.findClass RX10 = some m.cls := hown
  have hA : ∀ q : Nat, s.heap.size ≤ q → va_A (mw g h0 b i a) s.heap.size q := fun _ h => Or.inr h
  have hl : lv_has ls 6 [(0, .ref h0), (1, .int ck), (2, .int vv), (3, .int mm)] := hl
  refine lv_aload_n hx hb dX10_moves_0 rfl (lv_at hl 0 rfl) ?_
  refine va_get (D := (dC, dI)) (ci := 10) (v := .ref (b 4)) (C := RX10) (T := TX10) (N := 51) hx hb hts inw_X10_moves_10 hown hK hP 0 rfl rfl 4 (by decide) (hts (.fieldLink RX10 7 "VatHouseModel" "grains" "[I") (List.mem_of_getElem? (i := 1) (by exact rfl))) (fun _ h9 => h9) rfl dX10_moves_1 ?_
  refine lv_iload_n hx hb dX10_moves_4 rfl (lv_at hl 2 rfl) ?_
  refine va_iald hx hb hK hP 1 0 rfl rfl (by assumption) dX10_moves_5 ?_
  refine lv_topi (fun z_1 ez_1 => ?_)
  have ez_1 : z_1 = (a 4) vv.toNatClampNeg := ez_1
  refine lv_iload_n hx hb dX10_moves_6 rfl (lv_at hl 3 rfl) ?_
  refine lv_imul hx hb dX10_moves_7 ?_
  refine lv_topi (fun z_2 ez_2 => ?_)
  refine lv_bipush (v := 100) hx hb dX10_moves_8 (by decide) ?_
  refine lv_aload_n hx hb dX10_moves_10 rfl (lv_at hl 0 rfl) ?_
  refine va_get (D := (dC, dI)) (ci := 10) (v := .ref (b 13)) (C := RX10) (T := TX10) (N := 51) hx hb hts inw_X10_moves_10 hown hK hP 0 rfl rfl 13 (by decide) (hts (.fieldLink RX10 35 "VatHouseModel" "weight" "[I") (List.mem_of_getElem? (i := 2) (by exact rfl))) (fun _ h9 => h9) rfl dX10_moves_11 ?_
  refine lv_iload_n hx hb dX10_moves_14 rfl (lv_at hl 1 rfl) ?_
  refine va_iald hx hb hK hP 9 8 rfl rfl (by assumption) dX10_moves_15 ?_
  refine lv_topi (fun z_3 ez_3 => ?_)
  have ez_3 : z_3 = (a 13) ck.toNatClampNeg := ez_3
  refine lv_iadd hx hb dX10_moves_16 ?_
  refine lv_topi (fun z_4 ez_4 => ?_)
  refine lv_idiv hx hb dX10_moves_17 (by first | exact ne0_100 (w := (a 13) ck.toNatClampNeg) (by assumption) (by assumption) hwt.1 hwt.2) ?_
  refine lv_topi (fun z_5 ez_5 => ?_)
  refine lv_istore (lv' := [(4, .int z_5), (0, .ref h0), (1, .int ck), (2, .int vv), (3, .int mm)]) hx hb dX10_moves_18 hl (by decide) rfl (fun ls hl => ?_)
  refine lv_aload_n hx hb dX10_moves_20 rfl (lv_at hl 1 rfl) ?_
  refine va_get (D := (dC, dI)) (ci := 10) (v := .ref (b 7)) (C := RX10) (T := TX10) (N := 51) hx hb hts inw_X10_moves_10 hown hK hP 0 rfl rfl 7 (by decide) (hts (.fieldLink RX10 19 "VatHouseModel" "state" "[I") (List.mem_of_getElem? (i := 3) (by exact rfl))) (fun _ h9 => h9) rfl dX10_moves_21 ?_
  refine lv_iload_n hx hb dX10_moves_24 rfl (lv_at hl 3 rfl) ?_
  refine va_iald hx hb hK hP 4 3 rfl rfl (by assumption) dX10_moves_25 ?_
  refine lv_topi (fun z_6 ez_6 => ?_)
  have ez_6 : z_6 = (a 7) vv.toNatClampNeg := ez_6
  refine lv_iconst (v := 1) hx hb dX10_moves_26 (by decide) ?_
  refine lv_icmp_ne (tgt := 36) hx hb dX10_moves_27 (by decide) (fun c_7 => ?_) (fun c_7 => ?_)
  · have nc_7 := ne_i c_7
    have lc_7 : (1 : Int32).toInt = 1 := by decide
    refine lv_sipush (v := 200) hx hb dX10_moves_36 (by decide) ?_
    refine lv_aload_n hx hb dX10_moves_39 rfl (lv_at hl 1 rfl) ?_
    refine va_get (D := (dC, dI)) (ci := 10) (v := .ref (b 13)) (C := RX10) (T := TX10) (N := 51) hx hb hts inw_X10_moves_10 hown hK hP 0 rfl rfl 13 (by decide) (hts (.fieldLink RX10 35 "VatHouseModel" "weight" "[I") (List.mem_of_getElem? (i := 2) (by exact rfl))) (fun _ h9 => h9) rfl dX10_moves_40 ?_
    refine lv_iload_n hx hb dX10_moves_43 rfl (lv_at hl 2 rfl) ?_
    refine va_iald hx hb hK hP 9 8 rfl rfl (by assumption) dX10_moves_44 ?_
    refine lv_topi (fun z_8 ez_8 => ?_)
    have ez_8 : z_8 = (a 13) ck.toNatClampNeg := ez_8
    refine lv_imul hx hb dX10_moves_45 ?_
    refine lv_topi (fun z_9 ez_9 => ?_)
    refine lv_aload_n hx hb dX10_moves_46 rfl (lv_at hl 1 rfl) ?_
    refine va_get (D := (dC, dI)) (ci := 10) (v := .ref (b 14)) (C := RX10) (T := TX10) (N := 51) hx hb hts inw_X10_moves_10 hown hK hP 0 rfl rfl 14 (by decide) (hts (.fieldLink RX10 38 "VatHouseModel" "loose" "[I") (List.mem_of_getElem? (i := 4) (by exact rfl))) (fun _ h9 => h9) rfl dX10_moves_47 ?_
    refine lv_iload_n hx hb dX10_moves_50 rfl (lv_at hl 2 rfl) ?_
    refine va_iald hx hb hK hP 10 9 rfl rfl (by assumption) dX10_moves_51 ?_
    refine lv_topi (fun z_10 ez_10 => ?_)
    have ez_10 : z_10 = (a 14) ck.toNatClampNeg := ez_10
    refine lv_isub hx hb dX10_moves_52 ?_
    refine lv_topi (fun z_11 ez_11 => ?_)
    refine lv_aload_n hx hb dX10_moves_53 rfl (lv_at hl 1 rfl) ?_
    refine va_get (D := (dC, dI)) (ci := 10) (v := .ref (b 15)) (C := RX10) (T := TX10) (N := 51) hx hb hts inw_X10_moves_10 hown hK hP 0 rfl rfl 15 (by decide) (hts (.fieldLink RX10 41 "VatHouseModel" "fast" "[I") (List.mem_of_getElem? (i := 5) (by exact rfl))) (fun _ h9 => h9) rfl dX10_moves_54 ?_
    refine lv_iload_n hx hb dX10_moves_57 rfl (lv_at hl 2 rfl) ?_
    refine va_iald hx hb hK hP 11 10 rfl rfl (by assumption) dX10_moves_58 ?_
    refine lv_topi (fun z_12 ez_12 => ?_)
    have ez_12 : z_12 = (a 15) ck.toNatClampNeg := ez_12
    refine lv_isub hx hb dX10_moves_59 ?_
    refine lv_topi (fun z_13 ez_13 => ?_)
    refine lv_istore (lv' := [(5, .int z_13), (4, .int z_5), (0, .ref h0), (1, .int ck), (2, .int vv), (3, .int mm)]) hx hb dX10_moves_60 hl (by decide) rfl (fun ls hl => ?_)
    refine lv_iload hx hb dX10_moves_62 (lv_at hl 1 rfl) ?_
    refine lv_iload hx hb dX10_moves_64 (lv_at hl 0 rfl) ?_
    refine lv_icmp_ge (tgt := 74) hx hb dX10_moves_66 (by decide) (fun c_14 => ?_) (fun c_14 => ?_)
    · have nc_14 := le_i c_14
      refine lv_iload hx hb dX10_moves_74 (lv_at hl 0 rfl) ?_
      exact M_i hx hb hr hlocks () hP hD hK hS ⟨⟨_, rfl, (by have c_79 := c_7; (try simp only [ez_1, ez_2, ez_3, ez_4, ez_5, ez_6, ez_8, ez_9, ez_10, ez_11, ez_12, ez_13, upd_at, upd_upd, upd_id] at c_79); have c_149 := le_nlt c_14; (try simp only [ez_1, ez_2, ez_3, ez_4, ez_5, ez_6, ez_8, ez_9, ez_10, ez_11, ez_12, ez_13, upd_at, upd_upd, upd_id] at c_149); simp only [mvV, ez_1, ez_2, ez_3, ez_4, ez_5, ez_6, ez_8, ez_9, ez_10, ez_11, ez_12, ez_13, upd_at, upd_upd, upd_id, if_neg c_79, if_neg c_149, upd_upd, upd_id])⟩, trivial⟩ (Nat.le_of_ble_eq_true rfl) (Nat.le_of_ble_eq_true rfl) dX10_moves_76
    · have nc_14 := nle_i c_14
      refine lv_iload hx hb dX10_moves_69 (lv_at hl 1 rfl) ?_
      refine lv_goto (tgt := 76) hx hb dX10_moves_71 (by decide) ?_
      exact M_i hx hb hr hlocks () hP hD hK hS ⟨⟨_, rfl, (by have c_79 := c_7; (try simp only [ez_1, ez_2, ez_3, ez_4, ez_5, ez_6, ez_8, ez_9, ez_10, ez_11, ez_12, ez_13, upd_at, upd_upd, upd_id] at c_79); have c_149 := nle_lt c_14; (try simp only [ez_1, ez_2, ez_3, ez_4, ez_5, ez_6, ez_8, ez_9, ez_10, ez_11, ez_12, ez_13, upd_at, upd_upd, upd_id] at c_149); simp only [mvV, ez_1, ez_2, ez_3, ez_4, ez_5, ez_6, ez_8, ez_9, ez_10, ez_11, ez_12, ez_13, upd_at, upd_upd, upd_id, if_neg c_79, if_pos c_149, upd_upd, upd_id])⟩, trivial⟩ (Nat.le_of_ble_eq_true rfl) (Nat.le_of_ble_eq_true rfl) dX10_moves_76
  · have nc_7 := eq_i c_7
    have lc_7 : (1 : Int32).toInt = 1 := by decide
    refine lv_iload hx hb dX10_moves_30 (lv_at hl 0 rfl) ?_
    refine lv_iconst (v := 2) hx hb dX10_moves_32 (by decide) ?_
    refine lv_idiv hx hb dX10_moves_33 (by decide) ?_
    refine lv_topi (fun z_15 ez_15 => ?_)
    refine lv_istore (lv' := [(4, .int z_15), (0, .ref h0), (1, .int ck), (2, .int vv), (3, .int mm)]) hx hb dX10_moves_34 hl (by decide) rfl (fun ls hl => ?_)
    refine lv_sipush (v := 200) hx hb dX10_moves_36 (by decide) ?_
    refine lv_aload_n hx hb dX10_moves_39 rfl (lv_at hl 1 rfl) ?_
    refine va_get (D := (dC, dI)) (ci := 10) (v := .ref (b 13)) (C := RX10) (T := TX10) (N := 51) hx hb hts inw_X10_moves_10 hown hK hP 0 rfl rfl 13 (by decide) (hts (.fieldLink RX10 35 "VatHouseModel" "weight" "[I") (List.mem_of_getElem? (i := 2) (by exact rfl))) (fun _ h9 => h9) rfl dX10_moves_40 ?_
    refine lv_iload_n hx hb dX10_moves_43 rfl (lv_at hl 2 rfl) ?_
    refine va_iald hx hb hK hP 9 8 rfl rfl (by assumption) dX10_moves_44 ?_
    refine lv_topi (fun z_16 ez_16 => ?_)
    have ez_16 : z_16 = (a 13) ck.toNatClampNeg := ez_16
    refine lv_imul hx hb dX10_moves_45 ?_
    refine lv_topi (fun z_17 ez_17 => ?_)
    refine lv_aload_n hx hb dX10_moves_46 rfl (lv_at hl 1 rfl) ?_
    refine va_get (D := (dC, dI)) (ci := 10) (v := .ref (b 14)) (C := RX10) (T := TX10) (N := 51) hx hb hts inw_X10_moves_10 hown hK hP 0 rfl rfl 14 (by decide) (hts (.fieldLink RX10 38 "VatHouseModel" "loose" "[I") (List.mem_of_getElem? (i := 4) (by exact rfl))) (fun _ h9 => h9) rfl dX10_moves_47 ?_
    refine lv_iload_n hx hb dX10_moves_50 rfl (lv_at hl 2 rfl) ?_
    refine va_iald hx hb hK hP 10 9 rfl rfl (by assumption) dX10_moves_51 ?_
    refine lv_topi (fun z_18 ez_18 => ?_)
    have ez_18 : z_18 = (a 14) ck.toNatClampNeg := ez_18
    refine lv_isub hx hb dX10_moves_52 ?_
    refine lv_topi (fun z_19 ez_19 => ?_)
    refine lv_aload_n hx hb dX10_moves_53 rfl (lv_at hl 1 rfl) ?_
    refine va_get (D := (dC, dI)) (ci := 10) (v := .ref (b 15)) (C := RX10) (T := TX10) (N := 51) hx hb hts inw_X10_moves_10 hown hK hP 0 rfl rfl 15 (by decide) (hts (.fieldLink RX10 41 "VatHouseModel" "fast" "[I") (List.mem_of_getElem? (i := 5) (by exact rfl))) (fun _ h9 => h9) rfl dX10_moves_54 ?_
    refine lv_iload_n hx hb dX10_moves_57 rfl (lv_at hl 2 rfl) ?_
    refine va_iald hx hb hK hP 11 10 rfl rfl (by assumption) dX10_moves_58 ?_
    refine lv_topi (fun z_20 ez_20 => ?_)
    have ez_20 : z_20 = (a 15) ck.toNatClampNeg := ez_20
    refine lv_isub hx hb dX10_moves_59 ?_
    refine lv_topi (fun z_21 ez_21 => ?_)
    refine lv_istore (lv' := [(5, .int z_21), (4, .int z_15), (0, .ref h0), (1, .int ck), (2, .int vv), (3, .int mm)]) hx hb dX10_moves_60 hl (by decide) rfl (fun ls hl => ?_)
    refine lv_iload hx hb dX10_moves_62 (lv_at hl 1 rfl) ?_
    refine lv_iload hx hb dX10_moves_64 (lv_at hl 0 rfl) ?_
    refine lv_icmp_ge (tgt := 74) hx hb dX10_moves_66 (by decide) (fun c_22 => ?_) (fun c_22 => ?_)
    · have nc_22 := le_i c_22
      refine lv_iload hx hb dX10_moves_74 (lv_at hl 0 rfl) ?_
      exact M_i hx hb hr hlocks () hP hD hK hS ⟨⟨_, rfl, (by have c_79 := c_7; (try simp only [ez_1, ez_2, ez_3, ez_4, ez_5, ez_6, ez_15, ez_16, ez_17, ez_18, ez_19, ez_20, ez_21, upd_at, upd_upd, upd_id] at c_79); have c_229 := le_nlt c_22; (try simp only [ez_1, ez_2, ez_3, ez_4, ez_5, ez_6, ez_15, ez_16, ez_17, ez_18, ez_19, ez_20, ez_21, upd_at, upd_upd, upd_id] at c_229); simp only [mvV, ez_1, ez_2, ez_3, ez_4, ez_5, ez_6, ez_15, ez_16, ez_17, ez_18, ez_19, ez_20, ez_21, upd_at, upd_upd, upd_id, if_pos c_79, if_neg c_229, upd_upd, upd_id])⟩, trivial⟩ (Nat.le_of_ble_eq_true rfl) (Nat.le_of_ble_eq_true rfl) dX10_moves_76
    · have nc_22 := nle_i c_22
      refine lv_iload hx hb dX10_moves_69 (lv_at hl 1 rfl) ?_
      refine lv_goto (tgt := 76) hx hb dX10_moves_71 (by decide) ?_
      exact M_i hx hb hr hlocks () hP hD hK hS ⟨⟨_, rfl, (by have c_79 := c_7; (try simp only [ez_1, ez_2, ez_3, ez_4, ez_5, ez_6, ez_15, ez_16, ez_17, ez_18, ez_19, ez_20, ez_21, upd_at, upd_upd, upd_id] at c_79); have c_229 := nle_lt c_22; (try simp only [ez_1, ez_2, ez_3, ez_4, ez_5, ez_6, ez_15, ez_16, ez_17, ez_18, ez_19, ez_20, ez_21, upd_at, upd_upd, upd_id] at c_229); simp only [mvV, ez_1, ez_2, ez_3, ez_4, ez_5, ez_6, ez_15, ez_16, ez_17, ez_18, ez_19, ez_20, ez_21, upd_at, upd_upd, upd_id, if_pos c_79, if_pos c_229, upd_upd, upd_id])⟩, trivial⟩ (Nat.le_of_ble_eq_true rfl) (Nat.le_of_ble_eq_true rfl) dX10_moves_76



noncomputable abbrev rm_X10_airsE : Room := { frames := 0, cells := 0, slots := 0, locals := 0 }
set_option maxHeartbeats 4000000 in
set_option maxRecDepth 100000 in
theorem m_X10_airsE (l : Launch) (dC : Nat → ClassId) (dI : Nat → Nat → Nat) (sa : Nat → Nat) (g : Nat → Nat) (h0 : Nat) (b : Nat → Nat) (i : Nat → Int32) (a : Nat → Nat → Int32) (ck : Int32) (sz : Nat) (hc30 : vp_in ck 30) : CT l dC dI sa yX10_airs wsX10_airs rm_X10_airsE [.ref h0, .int ck] (mw g h0 b i a) (tyM g) sz (fun (r : Option Value) (u : Int32 × (Nat → Int32) × (Nat → Int32)) => match u with | (x2, y14, y15) => (∃ z : Int32, r = some (.int z) ∧ (z = ((a 14) ck.toNatClampNeg) / 8)) ∧ (x2 = (i 2) + ((a 14) ck.toNatClampNeg) / 8 ∧ y14 = upd (a 14) ck.toNatClampNeg (0) ∧ y15 = upd (a 15) ck.toNatClampNeg (((a 15) ck.toNatClampNeg) + (((a 14) ck.toNatClampNeg) - ((a 14) ck.toNatClampNeg) / 8)))) (fun (u : Int32 × (Nat → Int32) × (Nat → Int32)) => match u with | (x2, y14, y15) => mw g h0 b (va_up i 2 x2) (va_up (va_up a 14 y14) 15 y15)) (fun _ => []) 0 0 := by
  refine CT.start (cc := cX10_airs) (maxL := 3) (ret := (some .int)) (by decide) rfl (Nat.le_of_ble_eq_true rfl) ?_
  intro p e s m below meth c ls hst hP hK hD hev hS hl
  obtain ⟨hx, hb, hr, hml, hts, hown, hlocks, hin⟩ := hst
  have hown : s.vm.findClass RX10 = some m.cls := hown
  have hA : ∀ q : Nat, s.heap.size ≤ q → va_A (mw g h0 b i a) s.heap.size q := fun _ h => Or.inr h
  have hl : lv_has ls 3 [(0, .ref h0), (1, .int ck)] := hl
  refine lv_aload_n hx hb dX10_airs_0 rfl (lv_at hl 0 rfl) ?_
  refine va_get (D := (dC, dI)) (ci := 10) (v := .ref (b 14)) (C := RX10) (T := TX10) (N := 51) hx hb hts inw_X10_airs_10 hown hK hP 0 rfl rfl 14 (by decide) (hts (.fieldLink RX10 38 "VatHouseModel" "loose" "[I") (List.mem_of_getElem? (i := 1) (by exact rfl))) (fun _ h9 => h9) rfl dX10_airs_1 ?_
  refine lv_iload_n hx hb dX10_airs_4 rfl (lv_at hl 1 rfl) ?_
  refine va_iald hx hb hK hP 10 9 rfl rfl (by assumption) dX10_airs_5 ?_
  refine lv_topi (fun z_1 ez_1 => ?_)
  have ez_1 : z_1 = (a 14) ck.toNatClampNeg := ez_1
  refine lv_bipush (v := 8) hx hb dX10_airs_6 (by decide) ?_
  refine lv_idiv hx hb dX10_airs_8 (by decide) ?_
  refine lv_topi (fun z_2 ez_2 => ?_)
  refine lv_istore_n (lv' := [(2, .int z_2), (0, .ref h0), (1, .int ck)]) hx hb dX10_airs_9 rfl hl (by decide) rfl (fun ls hl => ?_)
  refine lv_aload_n hx hb dX10_airs_10 rfl (lv_at hl 1 rfl) ?_
  refine va_get (D := (dC, dI)) (ci := 10) (v := .ref (b 15)) (C := RX10) (T := TX10) (N := 51) hx hb hts inw_X10_airs_10 hown hK hP 0 rfl rfl 15 (by decide) (hts (.fieldLink RX10 41 "VatHouseModel" "fast" "[I") (List.mem_of_getElem? (i := 2) (by exact rfl))) (fun _ h9 => h9) rfl dX10_airs_11 ?_
  refine lv_iload_n hx hb dX10_airs_14 rfl (lv_at hl 2 rfl) ?_
  refine lv_dup2_11 hx hb dX10_airs_15 rfl rfl ?_
  refine va_iald hx hb hK hP 11 10 rfl rfl (by assumption) dX10_airs_16 ?_
  refine lv_topi (fun z_3 ez_3 => ?_)
  have ez_3 : z_3 = (a 15) ck.toNatClampNeg := ez_3
  refine lv_aload_n hx hb dX10_airs_17 rfl (lv_at hl 1 rfl) ?_
  refine va_get (D := (dC, dI)) (ci := 10) (v := .ref (b 14)) (C := RX10) (T := TX10) (N := 51) hx hb hts inw_X10_airs_10 hown hK hP 0 rfl rfl 14 (by decide) (hts (.fieldLink RX10 38 "VatHouseModel" "loose" "[I") (List.mem_of_getElem? (i := 1) (by exact rfl))) (fun _ h9 => h9) rfl dX10_airs_18 ?_
  refine lv_iload_n hx hb dX10_airs_21 rfl (lv_at hl 2 rfl) ?_
  refine va_iald hx hb hK hP 10 9 rfl rfl (by assumption) dX10_airs_22 ?_
  refine lv_topi (fun z_4 ez_4 => ?_)
  have ez_4 : z_4 = (a 14) ck.toNatClampNeg := ez_4
  refine lv_iload_n hx hb dX10_airs_23 rfl (lv_at hl 0 rfl) ?_
  refine lv_isub hx hb dX10_airs_24 ?_
  refine lv_topi (fun z_5 ez_5 => ?_)
  refine lv_iadd hx hb dX10_airs_25 ?_
  refine lv_topi (fun z_6 ez_6 => ?_)
  refine va_iast hx hb hK hP hD hS 11 10 rfl rfl (by assumption) dX10_airs_26 (fun H locs hP hD hS => ?_)
  have hP : va_P (dC, dI) vwCl (mw g h0 b i (va_up a 15 (upd (a 15) ck.toNatClampNeg z_6))) _ := hP
  have hD : va_D _ (mw g h0 b i (va_up a 15 (upd (a 15) ck.toNatClampNeg z_6))) := hD
  obtain ⟨f_7, ef_7⟩ : ∃ z, z = (upd (a 15) ck.toNatClampNeg z_6) := ⟨_, rfl⟩
  rw [← ef_7] at hP hD
  refine lv_aload_n hx hb dX10_airs_27 rfl (lv_at hl 1 rfl) ?_
  refine va_get (D := (dC, dI)) (ci := 10) (v := .ref (b 14)) (C := RX10) (T := TX10) (N := 51) hx hb hts inw_X10_airs_10 hown hK hP 0 rfl rfl 14 (by decide) (hts (.fieldLink RX10 38 "VatHouseModel" "loose" "[I") (List.mem_of_getElem? (i := 1) (by exact rfl))) (fun _ h9 => h9) rfl dX10_airs_28 ?_
  refine lv_iload_n hx hb dX10_airs_31 rfl (lv_at hl 2 rfl) ?_
  refine lv_iconst (v := 0) hx hb dX10_airs_32 (by decide) ?_
  refine va_iast hx hb hK hP hD hS 10 9 rfl rfl (by assumption) dX10_airs_33 (fun H locs hP hD hS => ?_)
  have hP : va_P (dC, dI) vwCl (mw g h0 b i (va_up (va_up a 14 (upd (a 14) ck.toNatClampNeg (0 : Int32))) 15 f_7)) _ := hP
  have hD : va_D _ (mw g h0 b i (va_up (va_up a 14 (upd (a 14) ck.toNatClampNeg (0 : Int32))) 15 f_7)) := hD
  obtain ⟨f_8, ef_8⟩ : ∃ z, z = (upd (a 14) ck.toNatClampNeg (0 : Int32)) := ⟨_, rfl⟩
  rw [← ef_8] at hP hD
  refine lv_aload_n hx hb dX10_airs_34 rfl (lv_at hl 1 rfl) ?_
  refine lv_dup hx hb dX10_airs_35 rfl ?_
  refine va_get (D := (dC, dI)) (ci := 10) (v := .int (i 2)) (C := RX10) (T := TX10) (N := 51) hx hb hts inw_X10_airs_10 hown hK hP 0 rfl rfl 2 (by decide) (hts (.fieldLink RX10 149 "VatHouseModel" "drain" "I") (List.mem_of_getElem? (i := 3) (by exact rfl))) (fun _ h9 => h9) rfl dX10_airs_36 ?_
  refine lv_iload_n hx hb dX10_airs_39 rfl (lv_at hl 0 rfl) ?_
  refine lv_iadd hx hb dX10_airs_40 ?_
  refine lv_topi (fun z_9 ez_9 => ?_)
  refine va_put (D := (dC, dI)) (ci := 10) (v := .int z_9) (ty := .int) (C := RX10) (T := TX10) (N := 51) hx hb hts inw_X10_airs_10 tyX10 tyX10_ok nmX10 hown hK hP hD hS 0 rfl rfl 2 (by decide) (hts (.fieldLink RX10 149 "VatHouseModel" "drain" "I") (List.mem_of_getElem? (i := 3) (by exact rfl))) (fun _ h9 => h9) rfl (tyX10_ok 2 (by decide)) rfl rfl (Nat.le_of_ble_eq_true rfl) dX10_airs_41 (fun H locs hP hD hS => ?_)
  have hP : va_P (dC, dI) vwCl (mw g h0 b (va_up i 2 z_9) (va_up (va_up a 14 f_8) 15 f_7)) _ := hP
  have hD : va_D _ (mw g h0 b (va_up i 2 z_9) (va_up (va_up a 14 f_8) 15 f_7)) := hD
  refine lv_iload_n hx hb dX10_airs_44 rfl (lv_at hl 0 rfl) ?_
  exact M_i hx hb hr hlocks (z_9, f_8, f_7) hP hD hK hS ⟨⟨_, rfl, (by simp only [ez_1, ez_2, ez_3, ez_4, ez_5, ez_6, ef_7, ef_8, ez_9, upd_at, upd_upd, upd_id, upd_upd, upd_id])⟩, ⟨(by simp only [ez_1, ez_2, ez_3, ez_4, ez_5, ez_6, ef_7, ef_8, ez_9, upd_at, upd_upd, upd_id, upd_upd, upd_id]), (by simp only [ez_1, ez_2, ez_3, ez_4, ez_5, ez_6, ef_7, ef_8, ez_9, upd_at, upd_upd, upd_id, upd_upd, upd_id]), (by simp only [ez_1, ez_2, ez_3, ez_4, ez_5, ez_6, ef_7, ef_8, ez_9, upd_at, upd_upd, upd_id, upd_upd, upd_id])⟩⟩ (Nat.le_of_ble_eq_true rfl) (Nat.le_of_ble_eq_true rfl) dX10_airs_45

noncomputable abbrev rm_X10_washesE : Room := { frames := 0, cells := 0, slots := 0, locals := 0 }
set_option maxHeartbeats 4000000 in
set_option maxRecDepth 100000 in
theorem m_X10_washesE (l : Launch) (dC : Nat → ClassId) (dI : Nat → Nat → Nat) (sa : Nat → Nat) (g : Nat → Nat) (h0 : Nat) (b : Nat → Nat) (i : Nat → Int32) (a : Nat → Nat → Int32) (ck : Int32) (sz : Nat) (hc30 : vp_in ck 30) : CT l dC dI sa yX10_washes wsX10_washes rm_X10_washesE [.ref h0, .int ck] (mw g h0 b i a) (tyM g) sz (fun (r : Option Value) (u : Int32 × (Nat → Int32) × (Nat → Int32)) => match u with | (x2, y14, y15) => (∃ z : Int32, r = some (.int z) ∧ (z = ((a 14) ck.toNatClampNeg) + ((a 15) ck.toNatClampNeg) / 20)) ∧ (x2 = (i 2) + (((a 14) ck.toNatClampNeg) + ((a 15) ck.toNatClampNeg) / 20) ∧ y14 = upd (a 14) ck.toNatClampNeg (0) ∧ y15 = upd (a 15) ck.toNatClampNeg (((a 15) ck.toNatClampNeg) - ((a 15) ck.toNatClampNeg) / 20))) (fun (u : Int32 × (Nat → Int32) × (Nat → Int32)) => match u with | (x2, y14, y15) => mw g h0 b (va_up i 2 x2) (va_up (va_up a 14 y14) 15 y15)) (fun _ => []) 0 0 := by
  refine CT.start (cc := cX10_washes) (maxL := 3) (ret := (some .int)) (by decide) rfl (Nat.le_of_ble_eq_true rfl) ?_
  intro p e s m below meth c ls hst hP hK hD hev hS hl
  obtain ⟨hx, hb, hr, hml, hts, hown, hlocks, hin⟩ := hst
  have hown : s.vm.findClass RX10 = some m.cls := hown
  have hA : ∀ q : Nat, s.heap.size ≤ q → va_A (mw g h0 b i a) s.heap.size q := fun _ h => Or.inr h
  have hl : lv_has ls 3 [(0, .ref h0), (1, .int ck)] := hl
  refine lv_aload_n hx hb dX10_washes_0 rfl (lv_at hl 0 rfl) ?_
  refine va_get (D := (dC, dI)) (ci := 10) (v := .ref (b 14)) (C := RX10) (T := TX10) (N := 51) hx hb hts inw_X10_washes_10 hown hK hP 0 rfl rfl 14 (by decide) (hts (.fieldLink RX10 38 "VatHouseModel" "loose" "[I") (List.mem_of_getElem? (i := 1) (by exact rfl))) (fun _ h9 => h9) rfl dX10_washes_1 ?_
  refine lv_iload_n hx hb dX10_washes_4 rfl (lv_at hl 1 rfl) ?_
  refine va_iald hx hb hK hP 10 9 rfl rfl (by assumption) dX10_washes_5 ?_
  refine lv_topi (fun z_1 ez_1 => ?_)
  have ez_1 : z_1 = (a 14) ck.toNatClampNeg := ez_1
  refine lv_aload_n hx hb dX10_washes_6 rfl (lv_at hl 0 rfl) ?_
  refine va_get (D := (dC, dI)) (ci := 10) (v := .ref (b 15)) (C := RX10) (T := TX10) (N := 51) hx hb hts inw_X10_washes_10 hown hK hP 0 rfl rfl 15 (by decide) (hts (.fieldLink RX10 41 "VatHouseModel" "fast" "[I") (List.mem_of_getElem? (i := 2) (by exact rfl))) (fun _ h9 => h9) rfl dX10_washes_7 ?_
  refine lv_iload_n hx hb dX10_washes_10 rfl (lv_at hl 1 rfl) ?_
  refine va_iald hx hb hK hP 11 10 rfl rfl (by assumption) dX10_washes_11 ?_
  refine lv_topi (fun z_2 ez_2 => ?_)
  have ez_2 : z_2 = (a 15) ck.toNatClampNeg := ez_2
  refine lv_bipush (v := 20) hx hb dX10_washes_12 (by decide) ?_
  refine lv_idiv hx hb dX10_washes_14 (by decide) ?_
  refine lv_topi (fun z_3 ez_3 => ?_)
  refine lv_iadd hx hb dX10_washes_15 ?_
  refine lv_topi (fun z_4 ez_4 => ?_)
  refine lv_istore_n (lv' := [(2, .int z_4), (0, .ref h0), (1, .int ck)]) hx hb dX10_washes_16 rfl hl (by decide) rfl (fun ls hl => ?_)
  refine lv_aload_n hx hb dX10_washes_17 rfl (lv_at hl 1 rfl) ?_
  refine va_get (D := (dC, dI)) (ci := 10) (v := .ref (b 15)) (C := RX10) (T := TX10) (N := 51) hx hb hts inw_X10_washes_10 hown hK hP 0 rfl rfl 15 (by decide) (hts (.fieldLink RX10 41 "VatHouseModel" "fast" "[I") (List.mem_of_getElem? (i := 2) (by exact rfl))) (fun _ h9 => h9) rfl dX10_washes_18 ?_
  refine lv_iload_n hx hb dX10_washes_21 rfl (lv_at hl 2 rfl) ?_
  refine lv_dup2_11 hx hb dX10_washes_22 rfl rfl ?_
  refine va_iald hx hb hK hP 11 10 rfl rfl (by assumption) dX10_washes_23 ?_
  refine lv_topi (fun z_5 ez_5 => ?_)
  have ez_5 : z_5 = (a 15) ck.toNatClampNeg := ez_5
  refine lv_aload_n hx hb dX10_washes_24 rfl (lv_at hl 1 rfl) ?_
  refine va_get (D := (dC, dI)) (ci := 10) (v := .ref (b 15)) (C := RX10) (T := TX10) (N := 51) hx hb hts inw_X10_washes_10 hown hK hP 0 rfl rfl 15 (by decide) (hts (.fieldLink RX10 41 "VatHouseModel" "fast" "[I") (List.mem_of_getElem? (i := 2) (by exact rfl))) (fun _ h9 => h9) rfl dX10_washes_25 ?_
  refine lv_iload_n hx hb dX10_washes_28 rfl (lv_at hl 2 rfl) ?_
  refine va_iald hx hb hK hP 11 10 rfl rfl (by assumption) dX10_washes_29 ?_
  refine lv_topi (fun z_6 ez_6 => ?_)
  have ez_6 : z_6 = (a 15) ck.toNatClampNeg := ez_6
  refine lv_bipush (v := 20) hx hb dX10_washes_30 (by decide) ?_
  refine lv_idiv hx hb dX10_washes_32 (by decide) ?_
  refine lv_topi (fun z_7 ez_7 => ?_)
  refine lv_isub hx hb dX10_washes_33 ?_
  refine lv_topi (fun z_8 ez_8 => ?_)
  refine va_iast hx hb hK hP hD hS 11 10 rfl rfl (by assumption) dX10_washes_34 (fun H locs hP hD hS => ?_)
  have hP : va_P (dC, dI) vwCl (mw g h0 b i (va_up a 15 (upd (a 15) ck.toNatClampNeg z_8))) _ := hP
  have hD : va_D _ (mw g h0 b i (va_up a 15 (upd (a 15) ck.toNatClampNeg z_8))) := hD
  obtain ⟨f_9, ef_9⟩ : ∃ z, z = (upd (a 15) ck.toNatClampNeg z_8) := ⟨_, rfl⟩
  rw [← ef_9] at hP hD
  refine lv_aload_n hx hb dX10_washes_35 rfl (lv_at hl 1 rfl) ?_
  refine va_get (D := (dC, dI)) (ci := 10) (v := .ref (b 14)) (C := RX10) (T := TX10) (N := 51) hx hb hts inw_X10_washes_10 hown hK hP 0 rfl rfl 14 (by decide) (hts (.fieldLink RX10 38 "VatHouseModel" "loose" "[I") (List.mem_of_getElem? (i := 1) (by exact rfl))) (fun _ h9 => h9) rfl dX10_washes_36 ?_
  refine lv_iload_n hx hb dX10_washes_39 rfl (lv_at hl 2 rfl) ?_
  refine lv_iconst (v := 0) hx hb dX10_washes_40 (by decide) ?_
  refine va_iast hx hb hK hP hD hS 10 9 rfl rfl (by assumption) dX10_washes_41 (fun H locs hP hD hS => ?_)
  have hP : va_P (dC, dI) vwCl (mw g h0 b i (va_up (va_up a 14 (upd (a 14) ck.toNatClampNeg (0 : Int32))) 15 f_9)) _ := hP
  have hD : va_D _ (mw g h0 b i (va_up (va_up a 14 (upd (a 14) ck.toNatClampNeg (0 : Int32))) 15 f_9)) := hD
  obtain ⟨f_10, ef_10⟩ : ∃ z, z = (upd (a 14) ck.toNatClampNeg (0 : Int32)) := ⟨_, rfl⟩
  rw [← ef_10] at hP hD
  refine lv_aload_n hx hb dX10_washes_42 rfl (lv_at hl 1 rfl) ?_
  refine lv_dup hx hb dX10_washes_43 rfl ?_
  refine va_get (D := (dC, dI)) (ci := 10) (v := .int (i 2)) (C := RX10) (T := TX10) (N := 51) hx hb hts inw_X10_washes_10 hown hK hP 0 rfl rfl 2 (by decide) (hts (.fieldLink RX10 149 "VatHouseModel" "drain" "I") (List.mem_of_getElem? (i := 3) (by exact rfl))) (fun _ h9 => h9) rfl dX10_washes_44 ?_
  refine lv_iload_n hx hb dX10_washes_47 rfl (lv_at hl 0 rfl) ?_
  refine lv_iadd hx hb dX10_washes_48 ?_
  refine lv_topi (fun z_11 ez_11 => ?_)
  refine va_put (D := (dC, dI)) (ci := 10) (v := .int z_11) (ty := .int) (C := RX10) (T := TX10) (N := 51) hx hb hts inw_X10_washes_10 tyX10 tyX10_ok nmX10 hown hK hP hD hS 0 rfl rfl 2 (by decide) (hts (.fieldLink RX10 149 "VatHouseModel" "drain" "I") (List.mem_of_getElem? (i := 3) (by exact rfl))) (fun _ h9 => h9) rfl (tyX10_ok 2 (by decide)) rfl rfl (Nat.le_of_ble_eq_true rfl) dX10_washes_49 (fun H locs hP hD hS => ?_)
  have hP : va_P (dC, dI) vwCl (mw g h0 b (va_up i 2 z_11) (va_up (va_up a 14 f_10) 15 f_9)) _ := hP
  have hD : va_D _ (mw g h0 b (va_up i 2 z_11) (va_up (va_up a 14 f_10) 15 f_9)) := hD
  refine lv_iload_n hx hb dX10_washes_52 rfl (lv_at hl 0 rfl) ?_
  exact M_i hx hb hr hlocks (z_11, f_10, f_9) hP hD hK hS ⟨⟨_, rfl, (by simp only [ez_1, ez_2, ez_3, ez_4, ez_5, ez_6, ez_7, ez_8, ef_9, ef_10, ez_11, upd_at, upd_upd, upd_id, upd_upd, upd_id])⟩, ⟨(by simp only [ez_1, ez_2, ez_3, ez_4, ez_5, ez_6, ez_7, ez_8, ef_9, ef_10, ez_11, upd_at, upd_upd, upd_id, upd_upd, upd_id]), (by simp only [ez_1, ez_2, ez_3, ez_4, ez_5, ez_6, ez_7, ez_8, ef_9, ef_10, ez_11, upd_at, upd_upd, upd_id, upd_upd, upd_id]), (by simp only [ez_1, ez_2, ez_3, ez_4, ez_5, ez_6, ez_7, ez_8, ef_9, ef_10, ez_11, upd_at, upd_upd, upd_id, upd_upd, upd_id])⟩⟩ (Nat.le_of_ble_eq_true rfl) (Nat.le_of_ble_eq_true rfl) dX10_washes_53


noncomputable def ho10 (d : Nat → Int32) : Nat → Int32 := fun k => if k < 6 then 0 else d k

