theorem upd_at {f : Nat → Int32} {k : Nat} {v : Int32} : upd f k v k = v := if_pos rfl
theorem upd_upd {f : Nat → Int32} {k : Nat} {v w : Int32} : upd (upd f k v) k w = upd f k w := by
  funext j
  by_cases h : j = k
  · rw [show upd (upd f k v) k w j = w from if_pos h, show upd f k w j = w from if_pos h]
  · rw [show upd (upd f k v) k w j = upd f k v j from if_neg h, show upd f k v j = f j from if_neg h, show upd f k w j = f j from if_neg h]
theorem upd_id {f : Nat → Int32} {k : Nat} : upd f k (f k) = f := by
  funext j
  by_cases h : j = k
  · rw [show upd f k (f k) j = f k from if_pos h, h]
  · exact if_neg h
theorem up_st {l A F : Nat → Int32} {q : Nat} {v : Int32} (h : l = fun k => if k < q then F k else A k) (hv : v = F q) : upd l q v = fun k => if k < q + 1 then F k else A k := by
  funext k
  by_cases e : k = q
  · rw [show upd l q v k = v from if_pos e, if_pos (by omega), e, hv]
  · rw [show upd l q v k = l k from if_neg e, h]
    show (if k < q then F k else A k) = _
    by_cases g : k < q
    · rw [if_pos g, if_pos (by omega)]
    · rw [if_neg g, if_neg (by omega)]
theorem up_s0 {l A F : Nat → Int32} {q : Nat} (h : l = fun k => if k < q then F k else A k) (hv : A q = F q) : l = fun k => if k < q + 1 then F k else A k := by
  have e : upd l q (A q) = l := by
    have e1 : l q = A q := by rw [h]; exact if_neg (Nat.lt_irrefl q)
    rw [← e1]
    exact upd_id
  rw [← e]
  exact up_st h hv

theorem inV_ge6 {v : Int32} (h : 6 ≤ v) : ¬ inV v := fun g => by
  rw [Int32.le_iff_toInt_le] at h
  have : (6 : Int32).toInt = 6 := by decide
  omega
theorem inV_of6 {v : Int32} (h0 : ¬ v < 0) (h : ¬ 6 ≤ v) : inV v := by
  rw [Int32.lt_iff_toInt_lt] at h0
  rw [Int32.le_iff_toInt_le] at h
  have : (6 : Int32).toInt = 6 := by decide
  have : (0 : Int32).toInt = 0 := by decide
  exact ⟨by omega, by omega⟩

noncomputable abbrev rm_X10_isVatE : Room := { frames := 1, cells := 0, slots := 0, locals := 22 }
set_option maxHeartbeats 4000000 in
set_option maxRecDepth 100000 in
theorem m_X10_isVatE (l : Launch) (dC : Nat → ClassId) (dI : Nat → Nat → Nat) (sa : Nat → Nat) (g : Nat → Nat) (h0 : Nat) (b : Nat → Nat) (i : Nat → Int32) (a : Nat → Nat → Int32) (vv : Int32) (sz : Nat) : CT l dC dI sa yX10_isVat wsX10_isVat rm_X10_isVatE [.ref h0, .int vv] (mw g h0 b i a) (tyM g) sz (fun (r : Option Value) (x0 : Int32) => ((r = some (.int 0) ∧ (¬ inV vv ∧ x0 = 1)) ∨ (r = some (.int 1) ∧ (inV vv ∧ x0 = 0))) ∧ (True)) (fun (x0 : Int32) => mw g h0 b (va_up i 0 x0) a) (fun _ => []) 0 0 := by
  refine CT.start (cc := cX10_isVat) (maxL := 2) (ret := (some .boolean)) (by decide) rfl (Nat.le_of_ble_eq_true rfl) ?_
  intro p e s m below meth c ls hst hP hK hD hev hS hl
  obtain ⟨hx, hb, hr, hml, hts, hown, hlocks, hin⟩ := hst
  have hown : s.vm.findClass RX10 = some m.cls := hown
  have hA : ∀ q : Nat, s.heap.size ≤ q → va_A (mw g h0 b i a) s.heap.size q := fun _ h => Or.inr h
  have hl : lv_has ls 2 [(0, .ref h0), (1, .int vv)] := hl
  refine lv_aload_n hx hb dX10_isVat_0 rfl (lv_at hl 0 rfl) ?_
  refine lv_iconst (v := 0) hx hb dX10_isVat_1 (by decide) ?_
  refine va_put (D := (dC, dI)) (ci := 10) (v := .int 0) (ty := .int) (C := RX10) (T := TX10) (N := 51) hx hb hts inw_X10_isVat_10 tyX10 tyX10_ok nmX10 hown hK hP hD hS 0 rfl rfl 0 (by decide) (hts (.fieldLink RX10 105 "VatHouseModel" "thrown" "I") (List.mem_of_getElem? (i := 1) (by exact rfl))) (fun _ h9 => h9) rfl (tyX10_ok 0 (by decide)) rfl rfl (Nat.le_of_ble_eq_true rfl) dX10_isVat_2 (fun H locs hP hD hS => ?_)
  have hP : va_P (dC, dI) vwCl (mw g h0 b (va_up i 0 (0 : Int32)) a) _ := hP
  have hD : va_D _ (mw g h0 b (va_up i 0 (0 : Int32)) a) := hD
  refine lv_aload_n hx hb dX10_isVat_5 rfl (lv_at hl 0 rfl) ?_
  refine lv_iload_n hx hb dX10_isVat_6 rfl (lv_at hl 1 rfl) ?_
  refine lv_if_lt (tgt := 20) hx hb dX10_isVat_7 (by decide) (fun c_1 => ?_) (fun c_1 => ?_)
  · have nc_1 := lt_i c_1
    have lc_1 : (0 : Int32).toInt = 0 := by decide
    refine lv_iconst (v := 0) hx hb dX10_isVat_20 (by decide) ?_
    refine lv_iconst (v := 1) hx hb dX10_isVat_21 (by decide) ?_
    refine M_V ⟨hx, hb, hml, hown, hts⟩ (m_X10_rightX l dC dI sa g h0 b (va_up i 0 (0 : Int32)) a (0 : Int32) (1 : Int32) _ (by decide) rfl) (cwV 2 hts gX10_isVat_X10_right rfl rfl rfl (by decide +kernel) ⟨Nat.le_of_ble_eq_true rfl, Nat.le_of_ble_eq_true rfl⟩) hP hD hK hS hA hev rfl rfl rfl rfl hl.1 rfl (Nat.le_of_ble_eq_true rfl) dX10_isVat_22 ⟨(Nat.le_of_ble_eq_true rfl), (Nat.le_of_ble_eq_true rfl)⟩ (fun r u H locs hw hP hD hS => ?_)
    obtain ⟨x0_2, rfl⟩ : ∃ z, z = u := ⟨_, rfl⟩
    have hw : ((r = some (.int 0) ∧ ((0 : Int32) = 0 ∧ x0_2 = (1 : Int32))) ∨ (r = some (.int 1) ∧ (¬ (0 : Int32) = 0 ∧ x0_2 = 0))) ∧ (True) := hw
    obtain ⟨⟨rfl, hz2_4⟩ | ⟨rfl, hz2_4⟩, hw_3⟩ := hw
    · have hP : va_P (dC, dI) vwCl (mw g h0 b (va_up i 0 x0_2) a) _ := hP
      have hD : va_D _ (mw g h0 b (va_up i 0 x0_2) a) := hD
      refine W.eq (g2 := F0 m 25 ls [.int 0]) rfl ?_
      exact M_z hx hb hr rfl hlocks (x0_2) hP hD hK hS ⟨Or.inl ⟨rfl, ⟨inV_lt c_1, hz2_4.2⟩⟩, trivial⟩ (Nat.le_of_ble_eq_true rfl) (Nat.le_of_ble_eq_true rfl) dX10_isVat_25
    · have hP : va_P (dC, dI) vwCl (mw g h0 b (va_up i 0 x0_2) a) _ := hP
      have hD : va_D _ (mw g h0 b (va_up i 0 x0_2) a) := hD
      refine W.eq (g2 := F0 m 25 ls [.int 1]) rfl ?_
      exact absurd rfl hz2_4.1
  · have nc_1 := nlt_i c_1
    have lc_1 : (0 : Int32).toInt = 0 := by decide
    refine lv_iload_n hx hb dX10_isVat_10 rfl (lv_at hl 1 rfl) ?_
    refine lv_bipush (v := 6) hx hb dX10_isVat_11 (by decide) ?_
    refine lv_icmp_ge (tgt := 20) hx hb dX10_isVat_13 (by decide) (fun c_5 => ?_) (fun c_5 => ?_)
    · have nc_5 := le_i c_5
      have lc_5 : (6 : Int32).toInt = 6 := by decide
      refine lv_iconst (v := 0) hx hb dX10_isVat_20 (by decide) ?_
      refine lv_iconst (v := 1) hx hb dX10_isVat_21 (by decide) ?_
      refine M_V ⟨hx, hb, hml, hown, hts⟩ (m_X10_rightX l dC dI sa g h0 b (va_up i 0 (0 : Int32)) a (0 : Int32) (1 : Int32) _ (by decide) rfl) (cwV 2 hts gX10_isVat_X10_right rfl rfl rfl (by decide +kernel) ⟨Nat.le_of_ble_eq_true rfl, Nat.le_of_ble_eq_true rfl⟩) hP hD hK hS hA hev rfl rfl rfl rfl hl.1 rfl (Nat.le_of_ble_eq_true rfl) dX10_isVat_22 ⟨(Nat.le_of_ble_eq_true rfl), (Nat.le_of_ble_eq_true rfl)⟩ (fun r u H locs hw hP hD hS => ?_)
      obtain ⟨x0_6, rfl⟩ : ∃ z, z = u := ⟨_, rfl⟩
      have hw : ((r = some (.int 0) ∧ ((0 : Int32) = 0 ∧ x0_6 = (1 : Int32))) ∨ (r = some (.int 1) ∧ (¬ (0 : Int32) = 0 ∧ x0_6 = 0))) ∧ (True) := hw
      obtain ⟨⟨rfl, hz2_8⟩ | ⟨rfl, hz2_8⟩, hw_7⟩ := hw
      · have hP : va_P (dC, dI) vwCl (mw g h0 b (va_up i 0 x0_6) a) _ := hP
        have hD : va_D _ (mw g h0 b (va_up i 0 x0_6) a) := hD
        refine W.eq (g2 := F0 m 25 ls [.int 0]) rfl ?_
        exact M_z hx hb hr rfl hlocks (x0_6) hP hD hK hS ⟨Or.inl ⟨rfl, ⟨inV_ge6 c_5, hz2_8.2⟩⟩, trivial⟩ (Nat.le_of_ble_eq_true rfl) (Nat.le_of_ble_eq_true rfl) dX10_isVat_25
      · have hP : va_P (dC, dI) vwCl (mw g h0 b (va_up i 0 x0_6) a) _ := hP
        have hD : va_D _ (mw g h0 b (va_up i 0 x0_6) a) := hD
        refine W.eq (g2 := F0 m 25 ls [.int 1]) rfl ?_
        exact absurd rfl hz2_8.1
    · have nc_5 := nle_i c_5
      have lc_5 : (6 : Int32).toInt = 6 := by decide
      refine lv_iconst (v := 1) hx hb dX10_isVat_16 (by decide) ?_
      refine lv_goto (tgt := 21) hx hb dX10_isVat_17 (by decide) ?_
      refine lv_iconst (v := 1) hx hb dX10_isVat_21 (by decide) ?_
      refine M_V ⟨hx, hb, hml, hown, hts⟩ (m_X10_rightX l dC dI sa g h0 b (va_up i 0 (0 : Int32)) a (1 : Int32) (1 : Int32) _ (by decide) rfl) (cwV 2 hts gX10_isVat_X10_right rfl rfl rfl (by decide +kernel) ⟨Nat.le_of_ble_eq_true rfl, Nat.le_of_ble_eq_true rfl⟩) hP hD hK hS hA hev rfl rfl rfl rfl hl.1 rfl (Nat.le_of_ble_eq_true rfl) dX10_isVat_22 ⟨(Nat.le_of_ble_eq_true rfl), (Nat.le_of_ble_eq_true rfl)⟩ (fun r u H locs hw hP hD hS => ?_)
      obtain ⟨x0_9, rfl⟩ : ∃ z, z = u := ⟨_, rfl⟩
      have hw : ((r = some (.int 0) ∧ ((1 : Int32) = 0 ∧ x0_9 = (1 : Int32))) ∨ (r = some (.int 1) ∧ (¬ (1 : Int32) = 0 ∧ x0_9 = 0))) ∧ (True) := hw
      obtain ⟨⟨rfl, hz2_11⟩ | ⟨rfl, hz2_11⟩, hw_10⟩ := hw
      · have hP : va_P (dC, dI) vwCl (mw g h0 b (va_up i 0 x0_9) a) _ := hP
        have hD : va_D _ (mw g h0 b (va_up i 0 x0_9) a) := hD
        refine W.eq (g2 := F0 m 25 ls [.int 0]) rfl ?_
        exact absurd hz2_11.1 (by decide)
      · have hP : va_P (dC, dI) vwCl (mw g h0 b (va_up i 0 x0_9) a) _ := hP
        have hD : va_D _ (mw g h0 b (va_up i 0 x0_9) a) := hD
        refine W.eq (g2 := F0 m 25 ls [.int 1]) rfl ?_
        exact M_z hx hb hr rfl hlocks (x0_9) hP hD hK hS ⟨Or.inr ⟨rfl, ⟨inV_of6 c_1 c_5, hz2_11.2⟩⟩, trivial⟩ (Nat.le_of_ble_eq_true rfl) (Nat.le_of_ble_eq_true rfl) dX10_isVat_25

noncomputable abbrev rm_X10_isClothE : Room := { frames := 1, cells := 0, slots := 0, locals := 22 }
set_option maxHeartbeats 4000000 in
set_option maxRecDepth 100000 in
theorem m_X10_isClothE (l : Launch) (dC : Nat → ClassId) (dI : Nat → Nat → Nat) (sa : Nat → Nat) (g : Nat → Nat) (h0 : Nat) (b : Nat → Nat) (i : Nat → Int32) (a : Nat → Nat → Int32) (kk : Int32) (sz : Nat) : CT l dC dI sa yX10_isCloth wsX10_isCloth rm_X10_isClothE [.ref h0, .int kk] (mw g h0 b i a) (tyM g) sz (fun (r : Option Value) (x0 : Int32) => ((r = some (.int 0) ∧ (¬ inC (i, a) kk ∧ x0 = 1)) ∨ (r = some (.int 1) ∧ (inC (i, a) kk ∧ x0 = 0))) ∧ (True)) (fun (x0 : Int32) => mw g h0 b (va_up i 0 x0) a) (fun _ => []) 0 0 := by
  refine CT.start (cc := cX10_isCloth) (maxL := 2) (ret := (some .boolean)) (by decide) rfl (Nat.le_of_ble_eq_true rfl) ?_
  intro p e s m below meth c ls hst hP hK hD hev hS hl
  obtain ⟨hx, hb, hr, hml, hts, hown, hlocks, hin⟩ := hst
  have hown : s.vm.findClass RX10 = some m.cls := hown
  have hA : ∀ q : Nat, s.heap.size ≤ q → va_A (mw g h0 b i a) s.heap.size q := fun _ h => Or.inr h
  have hl : lv_has ls 2 [(0, .ref h0), (1, .int kk)] := hl
  refine lv_aload_n hx hb dX10_isCloth_0 rfl (lv_at hl 0 rfl) ?_
  refine lv_iconst (v := 0) hx hb dX10_isCloth_1 (by decide) ?_
  refine va_put (D := (dC, dI)) (ci := 10) (v := .int 0) (ty := .int) (C := RX10) (T := TX10) (N := 51) hx hb hts inw_X10_isCloth_10 tyX10 tyX10_ok nmX10 hown hK hP hD hS 0 rfl rfl 0 (by decide) (hts (.fieldLink RX10 105 "VatHouseModel" "thrown" "I") (List.mem_of_getElem? (i := 1) (by exact rfl))) (fun _ h9 => h9) rfl (tyX10_ok 0 (by decide)) rfl rfl (Nat.le_of_ble_eq_true rfl) dX10_isCloth_2 (fun H locs hP hD hS => ?_)
  have hP : va_P (dC, dI) vwCl (mw g h0 b (va_up i 0 (0 : Int32)) a) _ := hP
  have hD : va_D _ (mw g h0 b (va_up i 0 (0 : Int32)) a) := hD
  refine lv_aload_n hx hb dX10_isCloth_5 rfl (lv_at hl 0 rfl) ?_
  refine lv_iload_n hx hb dX10_isCloth_6 rfl (lv_at hl 1 rfl) ?_
  refine lv_if_lt (tgt := 22) hx hb dX10_isCloth_7 (by decide) (fun c_1 => ?_) (fun c_1 => ?_)
  · have nc_1 := lt_i c_1
    have lc_1 : (0 : Int32).toInt = 0 := by decide
    refine lv_iconst (v := 0) hx hb dX10_isCloth_22 (by decide) ?_
    refine lv_iconst (v := 1) hx hb dX10_isCloth_23 (by decide) ?_
    refine M_V ⟨hx, hb, hml, hown, hts⟩ (m_X10_rightX l dC dI sa g h0 b (va_up i 0 (0 : Int32)) a (0 : Int32) (1 : Int32) _ (by decide) rfl) (cwV 2 hts gX10_isCloth_X10_right rfl rfl rfl (by decide +kernel) ⟨Nat.le_of_ble_eq_true rfl, Nat.le_of_ble_eq_true rfl⟩) hP hD hK hS hA hev rfl rfl rfl rfl hl.1 rfl (Nat.le_of_ble_eq_true rfl) dX10_isCloth_24 ⟨(Nat.le_of_ble_eq_true rfl), (Nat.le_of_ble_eq_true rfl)⟩ (fun r u H locs hw hP hD hS => ?_)
    obtain ⟨x0_2, rfl⟩ : ∃ z, z = u := ⟨_, rfl⟩
    have hw : ((r = some (.int 0) ∧ ((0 : Int32) = 0 ∧ x0_2 = (1 : Int32))) ∨ (r = some (.int 1) ∧ (¬ (0 : Int32) = 0 ∧ x0_2 = 0))) ∧ (True) := hw
    obtain ⟨⟨rfl, hz2_4⟩ | ⟨rfl, hz2_4⟩, hw_3⟩ := hw
    · have hP : va_P (dC, dI) vwCl (mw g h0 b (va_up i 0 x0_2) a) _ := hP
      have hD : va_D _ (mw g h0 b (va_up i 0 x0_2) a) := hD
      refine W.eq (g2 := F0 m 27 ls [.int 0]) rfl ?_
      exact M_z hx hb hr rfl hlocks (x0_2) hP hD hK hS ⟨Or.inl ⟨rfl, ⟨inC_lt c_1, hz2_4.2⟩⟩, trivial⟩ (Nat.le_of_ble_eq_true rfl) (Nat.le_of_ble_eq_true rfl) dX10_isCloth_27
    · have hP : va_P (dC, dI) vwCl (mw g h0 b (va_up i 0 x0_2) a) _ := hP
      have hD : va_D _ (mw g h0 b (va_up i 0 x0_2) a) := hD
      refine W.eq (g2 := F0 m 27 ls [.int 1]) rfl ?_
      exact absurd rfl hz2_4.1
  · have nc_1 := nlt_i c_1
    have lc_1 : (0 : Int32).toInt = 0 := by decide
    refine lv_iload_n hx hb dX10_isCloth_10 rfl (lv_at hl 1 rfl) ?_
    refine lv_aload_n hx hb dX10_isCloth_11 rfl (lv_at hl 0 rfl) ?_
    refine va_get (D := (dC, dI)) (ci := 10) (v := .int (i 12)) (C := RX10) (T := TX10) (N := 51) hx hb hts inw_X10_isCloth_10 hown hK hP 0 rfl rfl 12 (by decide) (hts (.fieldLink RX10 112 "VatHouseModel" "cloths" "I") (List.mem_of_getElem? (i := 2) (by exact rfl))) (fun _ h9 => h9) rfl dX10_isCloth_12 ?_
    refine lv_icmp_ge (tgt := 22) hx hb dX10_isCloth_15 (by decide) (fun c_5 => ?_) (fun c_5 => ?_)
    · have nc_5 := le_i c_5
      refine lv_iconst (v := 0) hx hb dX10_isCloth_22 (by decide) ?_
      refine lv_iconst (v := 1) hx hb dX10_isCloth_23 (by decide) ?_
      refine M_V ⟨hx, hb, hml, hown, hts⟩ (m_X10_rightX l dC dI sa g h0 b (va_up i 0 (0 : Int32)) a (0 : Int32) (1 : Int32) _ (by decide) rfl) (cwV 2 hts gX10_isCloth_X10_right rfl rfl rfl (by decide +kernel) ⟨Nat.le_of_ble_eq_true rfl, Nat.le_of_ble_eq_true rfl⟩) hP hD hK hS hA hev rfl rfl rfl rfl hl.1 rfl (Nat.le_of_ble_eq_true rfl) dX10_isCloth_24 ⟨(Nat.le_of_ble_eq_true rfl), (Nat.le_of_ble_eq_true rfl)⟩ (fun r u H locs hw hP hD hS => ?_)
      obtain ⟨x0_6, rfl⟩ : ∃ z, z = u := ⟨_, rfl⟩
      have hw : ((r = some (.int 0) ∧ ((0 : Int32) = 0 ∧ x0_6 = (1 : Int32))) ∨ (r = some (.int 1) ∧ (¬ (0 : Int32) = 0 ∧ x0_6 = 0))) ∧ (True) := hw
      obtain ⟨⟨rfl, hz2_8⟩ | ⟨rfl, hz2_8⟩, hw_7⟩ := hw
      · have hP : va_P (dC, dI) vwCl (mw g h0 b (va_up i 0 x0_6) a) _ := hP
        have hD : va_D _ (mw g h0 b (va_up i 0 x0_6) a) := hD
        refine W.eq (g2 := F0 m 27 ls [.int 0]) rfl ?_
        exact M_z hx hb hr rfl hlocks (x0_6) hP hD hK hS ⟨Or.inl ⟨rfl, ⟨inC_ge (s := (i, a)) c_5, hz2_8.2⟩⟩, trivial⟩ (Nat.le_of_ble_eq_true rfl) (Nat.le_of_ble_eq_true rfl) dX10_isCloth_27
      · have hP : va_P (dC, dI) vwCl (mw g h0 b (va_up i 0 x0_6) a) _ := hP
        have hD : va_D _ (mw g h0 b (va_up i 0 x0_6) a) := hD
        refine W.eq (g2 := F0 m 27 ls [.int 1]) rfl ?_
        exact absurd rfl hz2_8.1
    · have nc_5 := nle_i c_5
      refine lv_iconst (v := 1) hx hb dX10_isCloth_18 (by decide) ?_
      refine lv_goto (tgt := 23) hx hb dX10_isCloth_19 (by decide) ?_
      refine lv_iconst (v := 1) hx hb dX10_isCloth_23 (by decide) ?_
      refine M_V ⟨hx, hb, hml, hown, hts⟩ (m_X10_rightX l dC dI sa g h0 b (va_up i 0 (0 : Int32)) a (1 : Int32) (1 : Int32) _ (by decide) rfl) (cwV 2 hts gX10_isCloth_X10_right rfl rfl rfl (by decide +kernel) ⟨Nat.le_of_ble_eq_true rfl, Nat.le_of_ble_eq_true rfl⟩) hP hD hK hS hA hev rfl rfl rfl rfl hl.1 rfl (Nat.le_of_ble_eq_true rfl) dX10_isCloth_24 ⟨(Nat.le_of_ble_eq_true rfl), (Nat.le_of_ble_eq_true rfl)⟩ (fun r u H locs hw hP hD hS => ?_)
      obtain ⟨x0_9, rfl⟩ : ∃ z, z = u := ⟨_, rfl⟩
      have hw : ((r = some (.int 0) ∧ ((1 : Int32) = 0 ∧ x0_9 = (1 : Int32))) ∨ (r = some (.int 1) ∧ (¬ (1 : Int32) = 0 ∧ x0_9 = 0))) ∧ (True) := hw
      obtain ⟨⟨rfl, hz2_11⟩ | ⟨rfl, hz2_11⟩, hw_10⟩ := hw
      · have hP : va_P (dC, dI) vwCl (mw g h0 b (va_up i 0 x0_9) a) _ := hP
        have hD : va_D _ (mw g h0 b (va_up i 0 x0_9) a) := hD
        refine W.eq (g2 := F0 m 27 ls [.int 0]) rfl ?_
        exact absurd hz2_11.1 (by decide)
      · have hP : va_P (dC, dI) vwCl (mw g h0 b (va_up i 0 x0_9) a) _ := hP
        have hD : va_D _ (mw g h0 b (va_up i 0 x0_9) a) := hD
        refine W.eq (g2 := F0 m 27 ls [.int 1]) rfl ?_
        exact M_z hx hb hr rfl hlocks (x0_9) hP hD hK hS ⟨Or.inr ⟨rfl, ⟨inC_of (s := (i, a)) c_1 c_5, hz2_11.2⟩⟩, trivial⟩ (Nat.le_of_ble_eq_true rfl) (Nat.le_of_ble_eq_true rfl) dX10_isCloth_27

noncomputable abbrev rm_X10_isDryE : Room := { frames := 0, cells := 0, slots := 0, locals := 0 }
set_option maxHeartbeats 4000000 in
set_option maxRecDepth 100000 in
theorem m_X10_isDryE (l : Launch) (dC : Nat → ClassId) (dI : Nat → Nat → Nat) (sa : Nat → Nat) (g : Nat → Nat) (h0 : Nat) (b : Nat → Nat) (i : Nat → Int32) (a : Nat → Nat → Int32) (ck : Int32) (sz : Nat) (hc30 : vp_in ck 30) : CT l dC dI sa yX10_isDry wsX10_isDry rm_X10_isDryE [.ref h0, .int ck] (mw g h0 b i a) (tyM g) sz (fun (r : Option Value) (_ : Unit) => ((r = some (.int 0) ∧ (((a 16) ck.toNatClampNeg) = -1)) ∨ (r = some (.int 1) ∧ (¬ ((a 16) ck.toNatClampNeg) = -1))) ∧ (True)) (fun (_ : Unit) => mw g h0 b i a) (fun _ => []) 0 0 := by
  refine CT.start (cc := cX10_isDry) (maxL := 2) (ret := (some .boolean)) (by decide) rfl (Nat.le_of_ble_eq_true rfl) ?_
  intro p e s m below meth c ls hst hP hK hD hev hS hl
  obtain ⟨hx, hb, hr, hml, hts, hown, hlocks, hin⟩ := hst
  have hown : s.vm.findClass RX10 = some m.cls := hown
  have hA : ∀ q : Nat, s.heap.size ≤ q → va_A (mw g h0 b i a) s.heap.size q := fun _ h => Or.inr h
  have hl : lv_has ls 2 [(0, .ref h0), (1, .int ck)] := hl
  refine lv_aload_n hx hb dX10_isDry_0 rfl (lv_at hl 0 rfl) ?_
  refine va_get (D := (dC, dI)) (ci := 10) (v := .ref (b 16)) (C := RX10) (T := TX10) (N := 51) hx hb hts inw_X10_isDry_10 hown hK hP 0 rfl rfl 16 (by decide) (hts (.fieldLink RX10 44 "VatHouseModel" "day" "[I") (List.mem_of_getElem? (i := 1) (by exact rfl))) (fun _ h9 => h9) rfl dX10_isDry_1 ?_
  refine lv_iload_n hx hb dX10_isDry_4 rfl (lv_at hl 1 rfl) ?_
  refine va_iald hx hb hK hP 12 11 rfl rfl (by assumption) dX10_isDry_5 ?_
  refine lv_topi (fun z_1 ez_1 => ?_)
  have ez_1 : z_1 = (a 16) ck.toNatClampNeg := ez_1
  refine lv_iconst (v := (-1)) hx hb dX10_isDry_6 (by decide) ?_
  refine lv_icmp_eq (tgt := 14) hx hb dX10_isDry_7 (by decide) (fun c_2 => ?_) (fun c_2 => ?_)
  · have nc_2 := eq_i c_2
    have lc_2 : ((-1) : Int32).toInt = -1 := by decide
    refine lv_iconst (v := 0) hx hb dX10_isDry_14 (by decide) ?_
    exact M_z hx hb hr rfl hlocks () hP hD hK hS ⟨Or.inl ⟨rfl, (by rw [← ez_1]; exact c_2)⟩, trivial⟩ (Nat.le_of_ble_eq_true rfl) (Nat.le_of_ble_eq_true rfl) dX10_isDry_15
  · have nc_2 := ne_i c_2
    have lc_2 : ((-1) : Int32).toInt = -1 := by decide
    refine lv_iconst (v := 1) hx hb dX10_isDry_10 (by decide) ?_
    refine lv_goto (tgt := 15) hx hb dX10_isDry_11 (by decide) ?_
    exact M_z hx hb hr rfl hlocks () hP hD hK hS ⟨Or.inr ⟨rfl, (by rw [← ez_1]; exact c_2)⟩, trivial⟩ (Nat.le_of_ble_eq_true rfl) (Nat.le_of_ble_eq_true rfl) dX10_isDry_15

noncomputable abbrev rm_X10_shadeOfE : Room := { frames := 0, cells := 0, slots := 0, locals := 0 }
set_option maxHeartbeats 4000000 in
set_option maxRecDepth 100000 in
theorem m_X10_shadeOfE (l : Launch) (dC : Nat → ClassId) (dI : Nat → Nat → Nat) (sa : Nat → Nat) (g : Nat → Nat) (h0 : Nat) (b : Nat → Nat) (i : Nat → Int32) (a : Nat → Nat → Int32) (ck : Int32) (sz : Nat) (hc30 : vp_in ck 30) (hwt : 1 ≤ ((a 13) ck.toNatClampNeg).toInt ∧ ((a 13) ck.toNatClampNeg).toInt ≤ 50) : CT l dC dI sa yX10_shadeOf wsX10_shadeOf rm_X10_shadeOfE [.ref h0, .int ck] (mw g h0 b i a) (tyM g) sz (fun (r : Option Value) (_ : Unit) => (∃ z : Int32, r = some (.int z) ∧ (z = ((a 15) ck.toNatClampNeg) / ((a 13) ck.toNatClampNeg))) ∧ (True)) (fun (_ : Unit) => mw g h0 b i a) (fun _ => []) 0 0 := by
  refine CT.start (cc := cX10_shadeOf) (maxL := 2) (ret := (some .int)) (by decide) rfl (Nat.le_of_ble_eq_true rfl) ?_
  intro p e s m below meth c ls hst hP hK hD hev hS hl
  obtain ⟨hx, hb, hr, hml, hts, hown, hlocks, hin⟩ := hst
  have hown : s.vm.findClass RX10 = some m.cls := hown
  have hA : ∀ q : Nat, s.heap.size ≤ q → va_A (mw g h0 b i a) s.heap.size q := fun _ h => Or.inr h
  have hl : lv_has ls 2 [(0, .ref h0), (1, .int ck)] := hl
  refine lv_aload_n hx hb dX10_shadeOf_0 rfl (lv_at hl 0 rfl) ?_
  refine va_get (D := (dC, dI)) (ci := 10) (v := .ref (b 15)) (C := RX10) (T := TX10) (N := 51) hx hb hts inw_X10_shadeOf_10 hown hK hP 0 rfl rfl 15 (by decide) (hts (.fieldLink RX10 41 "VatHouseModel" "fast" "[I") (List.mem_of_getElem? (i := 1) (by exact rfl))) (fun _ h9 => h9) rfl dX10_shadeOf_1 ?_
  refine lv_iload_n hx hb dX10_shadeOf_4 rfl (lv_at hl 1 rfl) ?_
  refine va_iald hx hb hK hP 11 10 rfl rfl (by assumption) dX10_shadeOf_5 ?_
  refine lv_topi (fun z_1 ez_1 => ?_)
  have ez_1 : z_1 = (a 15) ck.toNatClampNeg := ez_1
  refine lv_aload_n hx hb dX10_shadeOf_6 rfl (lv_at hl 0 rfl) ?_
  refine va_get (D := (dC, dI)) (ci := 10) (v := .ref (b 13)) (C := RX10) (T := TX10) (N := 51) hx hb hts inw_X10_shadeOf_10 hown hK hP 0 rfl rfl 13 (by decide) (hts (.fieldLink RX10 35 "VatHouseModel" "weight" "[I") (List.mem_of_getElem? (i := 2) (by exact rfl))) (fun _ h9 => h9) rfl dX10_shadeOf_7 ?_
  refine lv_iload_n hx hb dX10_shadeOf_10 rfl (lv_at hl 1 rfl) ?_
  refine va_iald hx hb hK hP 9 8 rfl rfl (by assumption) dX10_shadeOf_11 ?_
  refine lv_topi (fun z_2 ez_2 => ?_)
  have ez_2 : z_2 = (a 13) ck.toNatClampNeg := ez_2
  refine lv_idiv hx hb dX10_shadeOf_12 (ne0_of (w := (a 13) ck.toNatClampNeg) (by assumption) hwt.1) ?_
  refine lv_topi (fun z_3 ez_3 => ?_)
  exact M_i hx hb hr hlocks () hP hD hK hS ⟨⟨_, rfl, (by simp only [ez_1, ez_2, ez_3, upd_at, upd_upd, upd_id, upd_upd, upd_id])⟩, trivial⟩ (Nat.le_of_ble_eq_true rfl) (Nat.le_of_ble_eq_true rfl) dX10_shadeOf_13

noncomputable abbrev rm_X10_feedsE : Room := { frames := 0, cells := 0, slots := 0, locals := 0 }
set_option maxHeartbeats 4000000 in
set_option maxRecDepth 100000 in
theorem m_X10_feedsE (l : Launch) (dC : Nat → ClassId) (dI : Nat → Nat → Nat) (sa : Nat → Nat) (g : Nat → Nat) (h0 : Nat) (b : Nat → Nat) (i : Nat → Int32) (a : Nat → Nat → Int32) (vv : Int32) (nn : Int32) (sz : Nat) (hv6 : vp_in vv 6) : CT l dC dI sa yX10_feeds wsX10_feeds rm_X10_feedsE [.ref h0, .int vv, .int nn] (mw g h0 b i a) (tyM g) sz (fun (r : Option Value) (u : (Nat → Int32) × (Nat → Int32)) => match u with | (y5, y7) => ((r = some (.int 0) ∧ (¬ 1000 < ((a 5) vv.toNatClampNeg) + nn)) ∨ (r = some (.int 1) ∧ (1000 < ((a 5) vv.toNatClampNeg) + nn))) ∧ (y5 = upd (a 5) vv.toNatClampNeg (tfF ((a 5) vv.toNatClampNeg) nn) ∧ y7 = upd (a 7) vv.toNatClampNeg (tfS ((a 5) vv.toNatClampNeg) ((a 7) vv.toNatClampNeg) nn))) (fun (u : (Nat → Int32) × (Nat → Int32)) => match u with | (y5, y7) => mw g h0 b i (va_up (va_up a 5 y5) 7 y7)) (fun _ => []) 0 0 := by
  refine CT.start (cc := cX10_feeds) (maxL := 3) (ret := (some .boolean)) (by decide) rfl (Nat.le_of_ble_eq_true rfl) ?_
  intro p e s m below meth c ls hst hP hK hD hev hS hl
  obtain ⟨hx, hb, hr, hml, hts, hown, hlocks, hin⟩ := hst
  have hown : s.vm.findClass RX10 = some m.cls := hown
  have hA : ∀ q : Nat, s.heap.size ≤ q → va_A (mw g h0 b i a) s.heap.size q := fun _ h => Or.inr h
  have hl : lv_has ls 3 [(0, .ref h0), (1, .int vv), (2, .int nn)] := hl
  refine lv_aload_n hx hb dX10_feeds_0 rfl (lv_at hl 0 rfl) ?_
  refine va_get (D := (dC, dI)) (ci := 10) (v := .ref (b 5)) (C := RX10) (T := TX10) (N := 51) hx hb hts inw_X10_feeds_10 hown hK hP 0 rfl rfl 5 (by decide) (hts (.fieldLink RX10 13 "VatHouseModel" "food" "[I") (List.mem_of_getElem? (i := 1) (by exact rfl))) (fun _ h9 => h9) rfl dX10_feeds_1 ?_
  refine lv_iload_n hx hb dX10_feeds_4 rfl (lv_at hl 1 rfl) ?_
  refine lv_dup2_11 hx hb dX10_feeds_5 rfl rfl ?_
  refine va_iald hx hb hK hP 2 1 rfl rfl (by assumption) dX10_feeds_6 ?_
  refine lv_topi (fun z_1 ez_1 => ?_)
  have ez_1 : z_1 = (a 5) vv.toNatClampNeg := ez_1
  refine lv_iload_n hx hb dX10_feeds_7 rfl (lv_at hl 2 rfl) ?_
  refine lv_iadd hx hb dX10_feeds_8 ?_
  refine lv_topi (fun z_2 ez_2 => ?_)
  refine va_iast hx hb hK hP hD hS 2 1 rfl rfl (by assumption) dX10_feeds_9 (fun H locs hP hD hS => ?_)
  have hP : va_P (dC, dI) vwCl (mw g h0 b i (va_up a 5 (upd (a 5) vv.toNatClampNeg z_2))) _ := hP
  have hD : va_D _ (mw g h0 b i (va_up a 5 (upd (a 5) vv.toNatClampNeg z_2))) := hD
  obtain ⟨f_3, ef_3⟩ : ∃ z, z = (upd (a 5) vv.toNatClampNeg z_2) := ⟨_, rfl⟩
  rw [← ef_3] at hP hD
  refine lv_aload_n hx hb dX10_feeds_10 rfl (lv_at hl 0 rfl) ?_
  refine va_get (D := (dC, dI)) (ci := 10) (v := .ref (b 5)) (C := RX10) (T := TX10) (N := 51) hx hb hts inw_X10_feeds_10 hown hK hP 0 rfl rfl 5 (by decide) (hts (.fieldLink RX10 13 "VatHouseModel" "food" "[I") (List.mem_of_getElem? (i := 1) (by exact rfl))) (fun _ h9 => h9) rfl dX10_feeds_11 ?_
  refine lv_iload_n hx hb dX10_feeds_14 rfl (lv_at hl 1 rfl) ?_
  refine va_iald hx hb hK hP 2 1 rfl rfl (by assumption) dX10_feeds_15 ?_
  refine lv_topi (fun z_4 ez_4 => ?_)
  have ez_4 : z_4 = f_3 vv.toNatClampNeg := ez_4
  refine lv_sipush (v := 1000) hx hb dX10_feeds_16 (by decide) ?_
  refine lv_icmp_gt (tgt := 24) hx hb dX10_feeds_19 (by decide) (fun c_5 => ?_) (fun c_5 => ?_)
  · have nc_5 := lt_i c_5
    have lc_5 : (1000 : Int32).toInt = 1000 := by decide
    refine lv_aload_n hx hb dX10_feeds_24 rfl (lv_at hl 0 rfl) ?_
    refine va_get (D := (dC, dI)) (ci := 10) (v := .ref (b 5)) (C := RX10) (T := TX10) (N := 51) hx hb hts inw_X10_feeds_10 hown hK hP 0 rfl rfl 5 (by decide) (hts (.fieldLink RX10 13 "VatHouseModel" "food" "[I") (List.mem_of_getElem? (i := 1) (by exact rfl))) (fun _ h9 => h9) rfl dX10_feeds_25 ?_
    refine lv_iload_n hx hb dX10_feeds_28 rfl (lv_at hl 1 rfl) ?_
    refine lv_sipush (v := 1000) hx hb dX10_feeds_29 (by decide) ?_
    refine va_iast hx hb hK hP hD hS 2 1 rfl rfl (by assumption) dX10_feeds_32 (fun H locs hP hD hS => ?_)
    have hP : va_P (dC, dI) vwCl (mw g h0 b i (va_up a 5 (upd f_3 vv.toNatClampNeg (1000 : Int32)))) _ := hP
    have hD : va_D _ (mw g h0 b i (va_up a 5 (upd f_3 vv.toNatClampNeg (1000 : Int32)))) := hD
    obtain ⟨f_6, ef_6⟩ : ∃ z, z = (upd f_3 vv.toNatClampNeg (1000 : Int32)) := ⟨_, rfl⟩
    rw [← ef_6] at hP hD
    refine lv_aload_n hx hb dX10_feeds_33 rfl (lv_at hl 0 rfl) ?_
    refine va_get (D := (dC, dI)) (ci := 10) (v := .ref (b 7)) (C := RX10) (T := TX10) (N := 51) hx hb hts inw_X10_feeds_10 hown hK hP 0 rfl rfl 7 (by decide) (hts (.fieldLink RX10 19 "VatHouseModel" "state" "[I") (List.mem_of_getElem? (i := 2) (by exact rfl))) (fun _ h9 => h9) rfl dX10_feeds_34 ?_
    refine lv_iload_n hx hb dX10_feeds_37 rfl (lv_at hl 1 rfl) ?_
    refine lv_iconst (v := 2) hx hb dX10_feeds_38 (by decide) ?_
    refine va_iast hx hb hK hP hD hS 4 3 rfl rfl (by assumption) dX10_feeds_39 (fun H locs hP hD hS => ?_)
    have hP : va_P (dC, dI) vwCl (mw g h0 b i (va_up (va_up a 5 f_6) 7 (upd (a 7) vv.toNatClampNeg (2 : Int32)))) _ := hP
    have hD : va_D _ (mw g h0 b i (va_up (va_up a 5 f_6) 7 (upd (a 7) vv.toNatClampNeg (2 : Int32)))) := hD
    obtain ⟨f_7, ef_7⟩ : ∃ z, z = (upd (a 7) vv.toNatClampNeg (2 : Int32)) := ⟨_, rfl⟩
    rw [← ef_7] at hP hD
    refine lv_iconst (v := 1) hx hb dX10_feeds_40 (by decide) ?_
    exact M_z hx hb hr rfl hlocks (f_6, f_7) hP hD hK hS ⟨Or.inr ⟨rfl, (by have h9 := c_5; simp only [ez_1, ez_2, ef_3, ez_4, ef_6, ef_7, upd_at] at h9; exact h9)⟩, ⟨(by have c_59 := c_5; (try simp only [ez_1, ez_2, ef_3, ez_4, ef_6, ef_7, upd_at, upd_upd, upd_id] at c_59); simp only [tfF, ez_1, ez_2, ef_3, ez_4, ef_6, ef_7, upd_at, upd_upd, upd_id, if_pos c_59, upd_upd, upd_id]), (by have c_59 := c_5; (try simp only [ez_1, ez_2, ef_3, ez_4, ef_6, ef_7, upd_at, upd_upd, upd_id] at c_59); simp only [tfS, ez_1, ez_2, ef_3, ez_4, ef_6, ef_7, upd_at, upd_upd, upd_id, if_pos c_59, upd_upd, upd_id])⟩⟩ (Nat.le_of_ble_eq_true rfl) (Nat.le_of_ble_eq_true rfl) dX10_feeds_41
  · have nc_5 := nlt_i c_5
    have lc_5 : (1000 : Int32).toInt = 1000 := by decide
    refine lv_iconst (v := 0) hx hb dX10_feeds_22 (by decide) ?_
    exact M_z hx hb hr rfl hlocks (f_3, (a 7)) hP hD hK hS ⟨Or.inl ⟨rfl, (by have h9 := c_5; simp only [ez_1, ez_2, ef_3, ez_4, upd_at] at h9; exact h9)⟩, ⟨(by have c_59 := c_5; (try simp only [ez_1, ez_2, ef_3, ez_4, upd_at, upd_upd, upd_id] at c_59); simp only [tfF, ez_1, ez_2, ef_3, ez_4, upd_at, upd_upd, upd_id, if_neg c_59, upd_upd, upd_id]), (by have c_59 := c_5; (try simp only [ez_1, ez_2, ef_3, ez_4, upd_at, upd_upd, upd_id] at c_59); simp only [tfS, ez_1, ez_2, ef_3, ez_4, upd_at, upd_upd, upd_id, if_neg c_59, upd_upd, upd_id])⟩⟩ (Nat.le_of_ble_eq_true rfl) (Nat.le_of_ble_eq_true rfl) dX10_feeds_23

noncomputable abbrev rm_X10_limesE : Room := { frames := 0, cells := 0, slots := 0, locals := 0 }
set_option maxHeartbeats 4000000 in
set_option maxRecDepth 100000 in
theorem m_X10_limesE (l : Launch) (dC : Nat → ClassId) (dI : Nat → Nat → Nat) (sa : Nat → Nat) (g : Nat → Nat) (h0 : Nat) (b : Nat → Nat) (i : Nat → Int32) (a : Nat → Nat → Int32) (vv : Int32) (sz : Nat) (hv6 : vp_in vv 6) : CT l dC dI sa yX10_limes wsX10_limes rm_X10_limesE [.ref h0, .int vv] (mw g h0 b i a) (tyM g) sz (fun (r : Option Value) (u : (Nat → Int32) × (Nat → Int32) × (Nat → Int32)) => match u with | (y5, y6, y7) => (r = none) ∧ (y5 = upd (a 5) vv.toNatClampNeg (((a 5) vv.toNatClampNeg) / 2) ∧ y6 = upd (a 6) vv.toNatClampNeg (liM ((a 7) vv.toNatClampNeg) ((a 6) vv.toNatClampNeg)) ∧ y7 = upd (a 7) vv.toNatClampNeg (liS ((a 7) vv.toNatClampNeg) ((a 5) vv.toNatClampNeg)))) (fun (u : (Nat → Int32) × (Nat → Int32) × (Nat → Int32)) => match u with | (y5, y6, y7) => mw g h0 b i (va_up (va_up (va_up a 5 y5) 6 y6) 7 y7)) (fun _ => []) 0 0 := by
  refine CT.start (cc := cX10_limes) (maxL := 2) (ret := none) (by decide) rfl (Nat.le_of_ble_eq_true rfl) ?_
  intro p e s m below meth c ls hst hP hK hD hev hS hl
  obtain ⟨hx, hb, hr, hml, hts, hown, hlocks, hin⟩ := hst
  have hown : s.vm.findClass RX10 = some m.cls := hown
  have hA : ∀ q : Nat, s.heap.size ≤ q → va_A (mw g h0 b i a) s.heap.size q := fun _ h => Or.inr h
  have hl : lv_has ls 2 [(0, .ref h0), (1, .int vv)] := hl
  refine lv_aload_n hx hb dX10_limes_0 rfl (lv_at hl 0 rfl) ?_
  refine va_get (D := (dC, dI)) (ci := 10) (v := .ref (b 7)) (C := RX10) (T := TX10) (N := 51) hx hb hts inw_X10_limes_10 hown hK hP 0 rfl rfl 7 (by decide) (hts (.fieldLink RX10 19 "VatHouseModel" "state" "[I") (List.mem_of_getElem? (i := 1) (by exact rfl))) (fun _ h9 => h9) rfl dX10_limes_1 ?_
  refine lv_iload_n hx hb dX10_limes_4 rfl (lv_at hl 1 rfl) ?_
  refine va_iald hx hb hK hP 4 3 rfl rfl (by assumption) dX10_limes_5 ?_
  refine lv_topi (fun z_1 ez_1 => ?_)
  have ez_1 : z_1 = (a 7) vv.toNatClampNeg := ez_1
  refine lv_iconst (v := 2) hx hb dX10_limes_6 (by decide) ?_
  refine lv_icmp_ne (tgt := 33) hx hb dX10_limes_7 (by decide) (fun c_2 => ?_) (fun c_2 => ?_)
  · have nc_2 := ne_i c_2
    have lc_2 : (2 : Int32).toInt = 2 := by decide
    refine lv_aload_n hx hb dX10_limes_33 rfl (lv_at hl 0 rfl) ?_
    refine va_get (D := (dC, dI)) (ci := 10) (v := .ref (b 5)) (C := RX10) (T := TX10) (N := 51) hx hb hts inw_X10_limes_10 hown hK hP 0 rfl rfl 5 (by decide) (hts (.fieldLink RX10 13 "VatHouseModel" "food" "[I") (List.mem_of_getElem? (i := 3) (by exact rfl))) (fun _ h9 => h9) rfl dX10_limes_34 ?_
    refine lv_iload_n hx hb dX10_limes_37 rfl (lv_at hl 1 rfl) ?_
    refine lv_dup2_11 hx hb dX10_limes_38 rfl rfl ?_
    refine va_iald hx hb hK hP 2 1 rfl rfl (by assumption) dX10_limes_39 ?_
    refine lv_topi (fun z_3 ez_3 => ?_)
    have ez_3 : z_3 = (a 5) vv.toNatClampNeg := ez_3
    refine lv_iconst (v := 2) hx hb dX10_limes_40 (by decide) ?_
    refine lv_idiv hx hb dX10_limes_41 (by decide) ?_
    refine lv_topi (fun z_4 ez_4 => ?_)
    refine va_iast hx hb hK hP hD hS 2 1 rfl rfl (by assumption) dX10_limes_42 (fun H locs hP hD hS => ?_)
    have hP : va_P (dC, dI) vwCl (mw g h0 b i (va_up a 5 (upd (a 5) vv.toNatClampNeg z_4))) _ := hP
    have hD : va_D _ (mw g h0 b i (va_up a 5 (upd (a 5) vv.toNatClampNeg z_4))) := hD
    obtain ⟨f_5, ef_5⟩ : ∃ z, z = (upd (a 5) vv.toNatClampNeg z_4) := ⟨_, rfl⟩
    rw [← ef_5] at hP hD
    exact M_v hx hb hr hlocks (f_5, (a 6), (a 7)) hP hD hK hS ⟨rfl, ⟨(by have c_29 := c_2; (try simp only [ez_1, ez_3, ez_4, ef_5, upd_at, upd_upd, upd_id] at c_29); simp only [ez_1, ez_3, ez_4, ef_5, upd_at, upd_upd, upd_id, if_neg c_29, upd_upd, upd_id]), (by have c_29 := c_2; (try simp only [ez_1, ez_3, ez_4, ef_5, upd_at, upd_upd, upd_id] at c_29); simp only [liM, ez_1, ez_3, ez_4, ef_5, upd_at, upd_upd, upd_id, if_neg c_29, upd_upd, upd_id]), (by have c_29 := c_2; (try simp only [ez_1, ez_3, ez_4, ef_5, upd_at, upd_upd, upd_id] at c_29); simp only [liS, ez_1, ez_3, ez_4, ef_5, upd_at, upd_upd, upd_id, if_neg c_29, upd_upd, upd_id])⟩⟩ (Nat.le_of_ble_eq_true rfl) (Nat.le_of_ble_eq_true rfl) dX10_limes_43
  · have nc_2 := eq_i c_2
    have lc_2 : (2 : Int32).toInt = 2 := by decide
    refine lv_aload_n hx hb dX10_limes_10 rfl (lv_at hl 0 rfl) ?_
    refine va_get (D := (dC, dI)) (ci := 10) (v := .ref (b 6)) (C := RX10) (T := TX10) (N := 51) hx hb hts inw_X10_limes_10 hown hK hP 0 rfl rfl 6 (by decide) (hts (.fieldLink RX10 16 "VatHouseModel" "minutes" "[I") (List.mem_of_getElem? (i := 2) (by exact rfl))) (fun _ h9 => h9) rfl dX10_limes_11 ?_
    refine lv_iload_n hx hb dX10_limes_14 rfl (lv_at hl 1 rfl) ?_
    refine lv_iconst (v := 0) hx hb dX10_limes_15 (by decide) ?_
    refine va_iast hx hb hK hP hD hS 3 2 rfl rfl (by assumption) dX10_limes_16 (fun H locs hP hD hS => ?_)
    have hP : va_P (dC, dI) vwCl (mw g h0 b i (va_up a 6 (upd (a 6) vv.toNatClampNeg (0 : Int32)))) _ := hP
    have hD : va_D _ (mw g h0 b i (va_up a 6 (upd (a 6) vv.toNatClampNeg (0 : Int32)))) := hD
    obtain ⟨f_6, ef_6⟩ : ∃ z, z = (upd (a 6) vv.toNatClampNeg (0 : Int32)) := ⟨_, rfl⟩
    rw [← ef_6] at hP hD
    refine lv_aload_n hx hb dX10_limes_17 rfl (lv_at hl 0 rfl) ?_
    refine va_get (D := (dC, dI)) (ci := 10) (v := .ref (b 5)) (C := RX10) (T := TX10) (N := 51) hx hb hts inw_X10_limes_10 hown hK hP 0 rfl rfl 5 (by decide) (hts (.fieldLink RX10 13 "VatHouseModel" "food" "[I") (List.mem_of_getElem? (i := 3) (by exact rfl))) (fun _ h9 => h9) rfl dX10_limes_18 ?_
    refine lv_iload_n hx hb dX10_limes_21 rfl (lv_at hl 1 rfl) ?_
    refine va_iald hx hb hK hP 2 1 rfl rfl (by assumption) dX10_limes_22 ?_
    refine lv_topi (fun z_7 ez_7 => ?_)
    have ez_7 : z_7 = (a 5) vv.toNatClampNeg := ez_7
    refine lv_if_le (tgt := 33) hx hb dX10_limes_23 (by decide) (fun c_8 => ?_) (fun c_8 => ?_)
    · have nc_8 := le_i c_8
      have lc_8 : (0 : Int32).toInt = 0 := by decide
      refine lv_aload_n hx hb dX10_limes_33 rfl (lv_at hl 0 rfl) ?_
      refine va_get (D := (dC, dI)) (ci := 10) (v := .ref (b 5)) (C := RX10) (T := TX10) (N := 51) hx hb hts inw_X10_limes_10 hown hK hP 0 rfl rfl 5 (by decide) (hts (.fieldLink RX10 13 "VatHouseModel" "food" "[I") (List.mem_of_getElem? (i := 3) (by exact rfl))) (fun _ h9 => h9) rfl dX10_limes_34 ?_
      refine lv_iload_n hx hb dX10_limes_37 rfl (lv_at hl 1 rfl) ?_
      refine lv_dup2_11 hx hb dX10_limes_38 rfl rfl ?_
      refine va_iald hx hb hK hP 2 1 rfl rfl (by assumption) dX10_limes_39 ?_
      refine lv_topi (fun z_9 ez_9 => ?_)
      have ez_9 : z_9 = (a 5) vv.toNatClampNeg := ez_9
      refine lv_iconst (v := 2) hx hb dX10_limes_40 (by decide) ?_
      refine lv_idiv hx hb dX10_limes_41 (by decide) ?_
      refine lv_topi (fun z_10 ez_10 => ?_)
      refine va_iast hx hb hK hP hD hS 2 1 rfl rfl (by assumption) dX10_limes_42 (fun H locs hP hD hS => ?_)
      have hP : va_P (dC, dI) vwCl (mw g h0 b i (va_up (va_up a 5 (upd (a 5) vv.toNatClampNeg z_10)) 6 f_6)) _ := hP
      have hD : va_D _ (mw g h0 b i (va_up (va_up a 5 (upd (a 5) vv.toNatClampNeg z_10)) 6 f_6)) := hD
      obtain ⟨f_11, ef_11⟩ : ∃ z, z = (upd (a 5) vv.toNatClampNeg z_10) := ⟨_, rfl⟩
      rw [← ef_11] at hP hD
      exact M_v hx hb hr hlocks (f_11, f_6, (a 7)) hP hD hK hS ⟨rfl, ⟨(by have c_29 := c_2; (try simp only [ez_1, ef_6, ez_7, ez_9, ez_10, ef_11, upd_at, upd_upd, upd_id] at c_29); have c_89 := c_8; (try simp only [ez_1, ef_6, ez_7, ez_9, ez_10, ef_11, upd_at, upd_upd, upd_id] at c_89); simp only [ez_1, ef_6, ez_7, ez_9, ez_10, ef_11, upd_at, upd_upd, upd_id, if_pos c_29, if_pos c_89, upd_upd, upd_id]), (by have c_29 := c_2; (try simp only [ez_1, ef_6, ez_7, ez_9, ez_10, ef_11, upd_at, upd_upd, upd_id] at c_29); have c_89 := c_8; (try simp only [ez_1, ef_6, ez_7, ez_9, ez_10, ef_11, upd_at, upd_upd, upd_id] at c_89); simp only [liM, ez_1, ef_6, ez_7, ez_9, ez_10, ef_11, upd_at, upd_upd, upd_id, if_pos c_29, if_pos c_89, upd_upd, upd_id]), (by have c_29 := c_2; (try simp only [ez_1, ef_6, ez_7, ez_9, ez_10, ef_11, upd_at, upd_upd, upd_id] at c_29); have c_89 := c_8; (try simp only [ez_1, ef_6, ez_7, ez_9, ez_10, ef_11, upd_at, upd_upd, upd_id] at c_89); simp only [liS, ez_1, ef_6, ez_7, ez_9, ez_10, ef_11, upd_at, upd_upd, upd_id, if_pos c_29, if_pos c_89, upd_upd, upd_id])⟩⟩ (Nat.le_of_ble_eq_true rfl) (Nat.le_of_ble_eq_true rfl) dX10_limes_43
    · have nc_8 := nle_i c_8
      have lc_8 : (0 : Int32).toInt = 0 := by decide
      refine lv_aload_n hx hb dX10_limes_26 rfl (lv_at hl 0 rfl) ?_
      refine va_get (D := (dC, dI)) (ci := 10) (v := .ref (b 7)) (C := RX10) (T := TX10) (N := 51) hx hb hts inw_X10_limes_10 hown hK hP 0 rfl rfl 7 (by decide) (hts (.fieldLink RX10 19 "VatHouseModel" "state" "[I") (List.mem_of_getElem? (i := 1) (by exact rfl))) (fun _ h9 => h9) rfl dX10_limes_27 ?_
      refine lv_iload_n hx hb dX10_limes_30 rfl (lv_at hl 1 rfl) ?_
      refine lv_iconst (v := 1) hx hb dX10_limes_31 (by decide) ?_
      refine va_iast hx hb hK hP hD hS 4 3 rfl rfl (by assumption) dX10_limes_32 (fun H locs hP hD hS => ?_)
      have hP : va_P (dC, dI) vwCl (mw g h0 b i (va_up (va_up a 6 f_6) 7 (upd (a 7) vv.toNatClampNeg (1 : Int32)))) _ := hP
      have hD : va_D _ (mw g h0 b i (va_up (va_up a 6 f_6) 7 (upd (a 7) vv.toNatClampNeg (1 : Int32)))) := hD
      obtain ⟨f_12, ef_12⟩ : ∃ z, z = (upd (a 7) vv.toNatClampNeg (1 : Int32)) := ⟨_, rfl⟩
      rw [← ef_12] at hP hD
      refine lv_aload_n hx hb dX10_limes_33 rfl (lv_at hl 0 rfl) ?_
      refine va_get (D := (dC, dI)) (ci := 10) (v := .ref (b 5)) (C := RX10) (T := TX10) (N := 51) hx hb hts inw_X10_limes_10 hown hK hP 0 rfl rfl 5 (by decide) (hts (.fieldLink RX10 13 "VatHouseModel" "food" "[I") (List.mem_of_getElem? (i := 3) (by exact rfl))) (fun _ h9 => h9) rfl dX10_limes_34 ?_
      refine lv_iload_n hx hb dX10_limes_37 rfl (lv_at hl 1 rfl) ?_
      refine lv_dup2_11 hx hb dX10_limes_38 rfl rfl ?_
      refine va_iald hx hb hK hP 2 1 rfl rfl (by assumption) dX10_limes_39 ?_
      refine lv_topi (fun z_13 ez_13 => ?_)
      have ez_13 : z_13 = (a 5) vv.toNatClampNeg := ez_13
      refine lv_iconst (v := 2) hx hb dX10_limes_40 (by decide) ?_
      refine lv_idiv hx hb dX10_limes_41 (by decide) ?_
      refine lv_topi (fun z_14 ez_14 => ?_)
      refine va_iast hx hb hK hP hD hS 2 1 rfl rfl (by assumption) dX10_limes_42 (fun H locs hP hD hS => ?_)
      have hP : va_P (dC, dI) vwCl (mw g h0 b i (va_up (va_up (va_up a 5 (upd (a 5) vv.toNatClampNeg z_14)) 6 f_6) 7 f_12)) _ := hP
      have hD : va_D _ (mw g h0 b i (va_up (va_up (va_up a 5 (upd (a 5) vv.toNatClampNeg z_14)) 6 f_6) 7 f_12)) := hD
      obtain ⟨f_15, ef_15⟩ : ∃ z, z = (upd (a 5) vv.toNatClampNeg z_14) := ⟨_, rfl⟩
      rw [← ef_15] at hP hD
      exact M_v hx hb hr hlocks (f_15, f_6, f_12) hP hD hK hS ⟨rfl, ⟨(by have c_29 := c_2; (try simp only [ez_1, ef_6, ez_7, ef_12, ez_13, ez_14, ef_15, upd_at, upd_upd, upd_id] at c_29); have c_89 := c_8; (try simp only [ez_1, ef_6, ez_7, ef_12, ez_13, ez_14, ef_15, upd_at, upd_upd, upd_id] at c_89); simp only [ez_1, ef_6, ez_7, ef_12, ez_13, ez_14, ef_15, upd_at, upd_upd, upd_id, if_pos c_29, if_neg c_89, upd_upd, upd_id]), (by have c_29 := c_2; (try simp only [ez_1, ef_6, ez_7, ef_12, ez_13, ez_14, ef_15, upd_at, upd_upd, upd_id] at c_29); have c_89 := c_8; (try simp only [ez_1, ef_6, ez_7, ef_12, ez_13, ez_14, ef_15, upd_at, upd_upd, upd_id] at c_89); simp only [liM, ez_1, ef_6, ez_7, ef_12, ez_13, ez_14, ef_15, upd_at, upd_upd, upd_id, if_pos c_29, if_neg c_89, upd_upd, upd_id]), (by have c_29 := c_2; (try simp only [ez_1, ef_6, ez_7, ef_12, ez_13, ez_14, ef_15, upd_at, upd_upd, upd_id] at c_29); have c_89 := c_8; (try simp only [ez_1, ef_6, ez_7, ef_12, ez_13, ez_14, ef_15, upd_at, upd_upd, upd_id] at c_89); simp only [liS, ez_1, ef_6, ez_7, ef_12, ez_13, ez_14, ef_15, upd_at, upd_upd, upd_id, if_pos c_29, if_neg c_89, upd_upd, upd_id])⟩⟩ (Nat.le_of_ble_eq_true rfl) (Nat.le_of_ble_eq_true rfl) dX10_limes_43

noncomputable abbrev rm_X10_movesE : Room := { frames := 0, cells := 0, slots := 0, locals := 0 }
set_option maxHeartbeats 4000000 in
set_option maxRecDepth 100000 in
theorem m_X10_movesE (l : Launch) (dC : Nat → ClassId) (dI : Nat → Nat → Nat) (sa : Nat → Nat) (g : Nat → Nat) (h0 : Nat) (b : Nat → Nat) (i : Nat → Int32) (a : Nat → Nat → Int32) (ck : Int32) (vv : Int32) (mm : Int32) (sz : Nat) (hc30 : vp_in ck 30) (hv6 : vp_in vv 6) (hwt : 1 ≤ ((a 13) ck.toNatClampNeg).toInt ∧ ((a 13) ck.toNatClampNeg).toInt ≤ 50) : CT l dC dI sa yX10_moves wsX10_moves rm_X10_movesE [.ref h0, .int ck, .int vv, .int mm] (mw g h0 b i a) (tyM g) sz (fun (r : Option Value) (_ : Unit) => (∃ z : Int32, r = some (.int z) ∧ (z = mvV ((a 4) vv.toNatClampNeg) ((a 7) vv.toNatClampNeg) ((a 13) ck.toNatClampNeg) ((a 14) ck.toNatClampNeg) ((a 15) ck.toNatClampNeg) mm)) ∧ (True)) (fun (_ : Unit) => mw g h0 b i a) (fun _ => []) 0 0 := by
  refine CT.start (cc := cX10_moves) (maxL := 6) (ret := (some .int)) (by decide) rfl (Nat.le_of_ble_eq_true rfl) ?_
  intro p e s m below meth c ls hst hP hK hD hev hS hl
  obtain ⟨hx, hb, hr, hml, hts, hown, hlocks, hin⟩ := hst
  have hown : s.vm.findClass RX10 = some m.cls := hown
  have hA : ∀ q : Nat, s.heap.size ≤ q → va_A (mw g h0 b i a) s.heap.size q := fun _ h => Or.inr h
  have hl : lv_has ls 6 [(0, .ref h0), (1, .int ck), (2, .int vv), (3, .int mm)] := hl
  refine lv_aload_n hx hb dX10_moves_0 rfl (lv_at hl 0 rfl) ?_
  refine va_get (D := (dC, dI)) (ci := 10) (v := .ref (b 4)) (C := RX10) (T := TX10) (N := 51) hx hb hts inw_X10_moves_10 hown hK hP 0 rfl rfl 4 (by decide) (hts (.fieldLink RX10 7 "VatHouseModel" "grains" "[I") (List.mem_of_getElem? (i := 1) (by exact rfl))) (fun _ h9 => h9) rfl dX10_moves_1 ?_
  refine lv_iload_n hx hb dX10_moves_4 rfl (lv_at hl 2 rfl) ?_
  refine va_iald hx hb hK hP 1 0 rfl rfl (by assumption) dX10_moves_5 ?_
  refine lv_topi (fun z_1 ez_1 => ?_)
  have ez_1 : z_1 = (a 4) vv.toNatClampNeg := ez_1
  refine lv_iload_n hx hb dX10_moves_6 rfl (lv_at hl 3 rfl) ?_
  refine lv_imul hx hb dX10_moves_7 ?_
  refine lv_topi (fun z_2 ez_2 => ?_)
  refine lv_bipush (v := 100) hx hb dX10_moves_8 (by decide) ?_
  refine lv_aload_n hx hb dX10_moves_10 rfl (lv_at hl 0 rfl) ?_
  refine va_get (D := (dC, dI)) (ci := 10) (v := .ref (b 13)) (C := RX10) (T := TX10) (N := 51) hx hb hts inw_X10_moves_10 hown hK hP 0 rfl rfl 13 (by decide) (hts (.fieldLink RX10 35 "VatHouseModel" "weight" "[I") (List.mem_of_getElem? (i := 2) (by exact rfl))) (fun _ h9 => h9) rfl dX10_moves_11 ?_
  refine lv_iload_n hx hb dX10_moves_14 rfl (lv_at hl 1 rfl) ?_
  refine va_iald hx hb hK hP 9 8 rfl rfl (by assumption) dX10_moves_15 ?_
  refine lv_topi (fun z_3 ez_3 => ?_)
  have ez_3 : z_3 = (a 13) ck.toNatClampNeg := ez_3
  refine lv_iadd hx hb dX10_moves_16 ?_
  refine lv_topi (fun z_4 ez_4 => ?_)
  refine lv_idiv hx hb dX10_moves_17 (by first | exact ne0_100 (w := (a 13) ck.toNatClampNeg) (by assumption) (by assumption) hwt.1 hwt.2) ?_
  refine lv_topi (fun z_5 ez_5 => ?_)
  refine lv_istore (lv' := [(4, .int z_5), (0, .ref h0), (1, .int ck), (2, .int vv), (3, .int mm)]) hx hb dX10_moves_18 hl (by decide) rfl (fun ls hl => ?_)
  refine lv_aload_n hx hb dX10_moves_20 rfl (lv_at hl 1 rfl) ?_
  refine va_get (D := (dC, dI)) (ci := 10) (v := .ref (b 7)) (C := RX10) (T := TX10) (N := 51) hx hb hts inw_X10_moves_10 hown hK hP 0 rfl rfl 7 (by decide) (hts (.fieldLink RX10 19 "VatHouseModel" "state" "[I") (List.mem_of_getElem? (i := 3) (by exact rfl))) (fun _ h9 => h9) rfl dX10_moves_21 ?_
  refine lv_iload_n hx hb dX10_moves_24 rfl (lv_at hl 3 rfl) ?_
  refine va_iald hx hb hK hP 4 3 rfl rfl (by assumption) dX10_moves_25 ?_
  refine lv_topi (fun z_6 ez_6 => ?_)
  have ez_6 : z_6 = (a 7) vv.toNatClampNeg := ez_6
  refine lv_iconst (v := 1) hx hb dX10_moves_26 (by decide) ?_
  refine lv_icmp_ne (tgt := 36) hx hb dX10_moves_27 (by decide) (fun c_7 => ?_) (fun c_7 => ?_)
  · have nc_7 := ne_i c_7
    have lc_7 : (1 : Int32).toInt = 1 := by decide
    refine lv_sipush (v := 200) hx hb dX10_moves_36 (by decide) ?_
    refine lv_aload_n hx hb dX10_moves_39 rfl (lv_at hl 1 rfl) ?_
    refine va_get (D := (dC, dI)) (ci := 10) (v := .ref (b 13)) (C := RX10) (T := TX10) (N := 51) hx hb hts inw_X10_moves_10 hown hK hP 0 rfl rfl 13 (by decide) (hts (.fieldLink RX10 35 "VatHouseModel" "weight" "[I") (List.mem_of_getElem? (i := 2) (by exact rfl))) (fun _ h9 => h9) rfl dX10_moves_40 ?_
    refine lv_iload_n hx hb dX10_moves_43 rfl (lv_at hl 2 rfl) ?_
    refine va_iald hx hb hK hP 9 8 rfl rfl (by assumption) dX10_moves_44 ?_
    refine lv_topi (fun z_8 ez_8 => ?_)
    have ez_8 : z_8 = (a 13) ck.toNatClampNeg := ez_8
    refine lv_imul hx hb dX10_moves_45 ?_
    refine lv_topi (fun z_9 ez_9 => ?_)
    refine lv_aload_n hx hb dX10_moves_46 rfl (lv_at hl 1 rfl) ?_
    refine va_get (D := (dC, dI)) (ci := 10) (v := .ref (b 14)) (C := RX10) (T := TX10) (N := 51) hx hb hts inw_X10_moves_10 hown hK hP 0 rfl rfl 14 (by decide) (hts (.fieldLink RX10 38 "VatHouseModel" "loose" "[I") (List.mem_of_getElem? (i := 4) (by exact rfl))) (fun _ h9 => h9) rfl dX10_moves_47 ?_
    refine lv_iload_n hx hb dX10_moves_50 rfl (lv_at hl 2 rfl) ?_
    refine va_iald hx hb hK hP 10 9 rfl rfl (by assumption) dX10_moves_51 ?_
    refine lv_topi (fun z_10 ez_10 => ?_)
    have ez_10 : z_10 = (a 14) ck.toNatClampNeg := ez_10
    refine lv_isub hx hb dX10_moves_52 ?_
    refine lv_topi (fun z_11 ez_11 => ?_)
    refine lv_aload_n hx hb dX10_moves_53 rfl (lv_at hl 1 rfl) ?_
    refine va_get (D := (dC, dI)) (ci := 10) (v := .ref (b 15)) (C := RX10) (T := TX10) (N := 51) hx hb hts inw_X10_moves_10 hown hK hP 0 rfl rfl 15 (by decide) (hts (.fieldLink RX10 41 "VatHouseModel" "fast" "[I") (List.mem_of_getElem? (i := 5) (by exact rfl))) (fun _ h9 => h9) rfl dX10_moves_54 ?_
    refine lv_iload_n hx hb dX10_moves_57 rfl (lv_at hl 2 rfl) ?_
    refine va_iald hx hb hK hP 11 10 rfl rfl (by assumption) dX10_moves_58 ?_
    refine lv_topi (fun z_12 ez_12 => ?_)
    have ez_12 : z_12 = (a 15) ck.toNatClampNeg := ez_12
    refine lv_isub hx hb dX10_moves_59 ?_
    refine lv_topi (fun z_13 ez_13 => ?_)
    refine lv_istore (lv' := [(5, .int z_13), (4, .int z_5), (0, .ref h0), (1, .int ck), (2, .int vv), (3, .int mm)]) hx hb dX10_moves_60 hl (by decide) rfl (fun ls hl => ?_)
    refine lv_iload hx hb dX10_moves_62 (lv_at hl 1 rfl) ?_
    refine lv_iload hx hb dX10_moves_64 (lv_at hl 0 rfl) ?_
    refine lv_icmp_ge (tgt := 74) hx hb dX10_moves_66 (by decide) (fun c_14 => ?_) (fun c_14 => ?_)
    · have nc_14 := le_i c_14
      refine lv_iload hx hb dX10_moves_74 (lv_at hl 0 rfl) ?_
      exact M_i hx hb hr hlocks () hP hD hK hS ⟨⟨_, rfl, (by have c_79 := c_7; (try simp only [ez_1, ez_2, ez_3, ez_4, ez_5, ez_6, ez_8, ez_9, ez_10, ez_11, ez_12, ez_13, upd_at, upd_upd, upd_id] at c_79); have c_149 := le_nlt c_14; (try simp only [ez_1, ez_2, ez_3, ez_4, ez_5, ez_6, ez_8, ez_9, ez_10, ez_11, ez_12, ez_13, upd_at, upd_upd, upd_id] at c_149); simp only [mvV, ez_1, ez_2, ez_3, ez_4, ez_5, ez_6, ez_8, ez_9, ez_10, ez_11, ez_12, ez_13, upd_at, upd_upd, upd_id, if_neg c_79, if_neg c_149, upd_upd, upd_id])⟩, trivial⟩ (Nat.le_of_ble_eq_true rfl) (Nat.le_of_ble_eq_true rfl) dX10_moves_76
    · have nc_14 := nle_i c_14
      refine lv_iload hx hb dX10_moves_69 (lv_at hl 1 rfl) ?_
      refine lv_goto (tgt := 76) hx hb dX10_moves_71 (by decide) ?_
      exact M_i hx hb hr hlocks () hP hD hK hS ⟨⟨_, rfl, (by have c_79 := c_7; (try simp only [ez_1, ez_2, ez_3, ez_4, ez_5, ez_6, ez_8, ez_9, ez_10, ez_11, ez_12, ez_13, upd_at, upd_upd, upd_id] at c_79); have c_149 := nle_lt c_14; (try simp only [ez_1, ez_2, ez_3, ez_4, ez_5, ez_6, ez_8, ez_9, ez_10, ez_11, ez_12, ez_13, upd_at, upd_upd, upd_id] at c_149); simp only [mvV, ez_1, ez_2, ez_3, ez_4, ez_5, ez_6, ez_8, ez_9, ez_10, ez_11, ez_12, ez_13, upd_at, upd_upd, upd_id, if_neg c_79, if_pos c_149, upd_upd, upd_id])⟩, trivial⟩ (Nat.le_of_ble_eq_true rfl) (Nat.le_of_ble_eq_true rfl) dX10_moves_76
  · have nc_7 := eq_i c_7
    have lc_7 : (1 : Int32).toInt = 1 := by decide
    refine lv_iload hx hb dX10_moves_30 (lv_at hl 0 rfl) ?_
    refine lv_iconst (v := 2) hx hb dX10_moves_32 (by decide) ?_
    refine lv_idiv hx hb dX10_moves_33 (by decide) ?_
    refine lv_topi (fun z_15 ez_15 => ?_)
    refine lv_istore (lv' := [(4, .int z_15), (0, .ref h0), (1, .int ck), (2, .int vv), (3, .int mm)]) hx hb dX10_moves_34 hl (by decide) rfl (fun ls hl => ?_)
    refine lv_sipush (v := 200) hx hb dX10_moves_36 (by decide) ?_
    refine lv_aload_n hx hb dX10_moves_39 rfl (lv_at hl 1 rfl) ?_
    refine va_get (D := (dC, dI)) (ci := 10) (v := .ref (b 13)) (C := RX10) (T := TX10) (N := 51) hx hb hts inw_X10_moves_10 hown hK hP 0 rfl rfl 13 (by decide) (hts (.fieldLink RX10 35 "VatHouseModel" "weight" "[I") (List.mem_of_getElem? (i := 2) (by exact rfl))) (fun _ h9 => h9) rfl dX10_moves_40 ?_
    refine lv_iload_n hx hb dX10_moves_43 rfl (lv_at hl 2 rfl) ?_
    refine va_iald hx hb hK hP 9 8 rfl rfl (by assumption) dX10_moves_44 ?_
    refine lv_topi (fun z_16 ez_16 => ?_)
    have ez_16 : z_16 = (a 13) ck.toNatClampNeg := ez_16
    refine lv_imul hx hb dX10_moves_45 ?_
    refine lv_topi (fun z_17 ez_17 => ?_)
    refine lv_aload_n hx hb dX10_moves_46 rfl (lv_at hl 1 rfl) ?_
    refine va_get (D := (dC, dI)) (ci := 10) (v := .ref (b 14)) (C := RX10) (T := TX10) (N := 51) hx hb hts inw_X10_moves_10 hown hK hP 0 rfl rfl 14 (by decide) (hts (.fieldLink RX10 38 "VatHouseModel" "loose" "[I") (List.mem_of_getElem? (i := 4) (by exact rfl))) (fun _ h9 => h9) rfl dX10_moves_47 ?_
    refine lv_iload_n hx hb dX10_moves_50 rfl (lv_at hl 2 rfl) ?_
    refine va_iald hx hb hK hP 10 9 rfl rfl (by assumption) dX10_moves_51 ?_
    refine lv_topi (fun z_18 ez_18 => ?_)
    have ez_18 : z_18 = (a 14) ck.toNatClampNeg := ez_18
    refine lv_isub hx hb dX10_moves_52 ?_
    refine lv_topi (fun z_19 ez_19 => ?_)
    refine lv_aload_n hx hb dX10_moves_53 rfl (lv_at hl 1 rfl) ?_
    refine va_get (D := (dC, dI)) (ci := 10) (v := .ref (b 15)) (C := RX10) (T := TX10) (N := 51) hx hb hts inw_X10_moves_10 hown hK hP 0 rfl rfl 15 (by decide) (hts (.fieldLink RX10 41 "VatHouseModel" "fast" "[I") (List.mem_of_getElem? (i := 5) (by exact rfl))) (fun _ h9 => h9) rfl dX10_moves_54 ?_
    refine lv_iload_n hx hb dX10_moves_57 rfl (lv_at hl 2 rfl) ?_
    refine va_iald hx hb hK hP 11 10 rfl rfl (by assumption) dX10_moves_58 ?_
    refine lv_topi (fun z_20 ez_20 => ?_)
    have ez_20 : z_20 = (a 15) ck.toNatClampNeg := ez_20
    refine lv_isub hx hb dX10_moves_59 ?_
    refine lv_topi (fun z_21 ez_21 => ?_)
    refine lv_istore (lv' := [(5, .int z_21), (4, .int z_15), (0, .ref h0), (1, .int ck), (2, .int vv), (3, .int mm)]) hx hb dX10_moves_60 hl (by decide) rfl (fun ls hl => ?_)
    refine lv_iload hx hb dX10_moves_62 (lv_at hl 1 rfl) ?_
    refine lv_iload hx hb dX10_moves_64 (lv_at hl 0 rfl) ?_
    refine lv_icmp_ge (tgt := 74) hx hb dX10_moves_66 (by decide) (fun c_22 => ?_) (fun c_22 => ?_)
    · have nc_22 := le_i c_22
      refine lv_iload hx hb dX10_moves_74 (lv_at hl 0 rfl) ?_
      exact M_i hx hb hr hlocks () hP hD hK hS ⟨⟨_, rfl, (by have c_79 := c_7; (try simp only [ez_1, ez_2, ez_3, ez_4, ez_5, ez_6, ez_15, ez_16, ez_17, ez_18, ez_19, ez_20, ez_21, upd_at, upd_upd, upd_id] at c_79); have c_229 := le_nlt c_22; (try simp only [ez_1, ez_2, ez_3, ez_4, ez_5, ez_6, ez_15, ez_16, ez_17, ez_18, ez_19, ez_20, ez_21, upd_at, upd_upd, upd_id] at c_229); simp only [mvV, ez_1, ez_2, ez_3, ez_4, ez_5, ez_6, ez_15, ez_16, ez_17, ez_18, ez_19, ez_20, ez_21, upd_at, upd_upd, upd_id, if_pos c_79, if_neg c_229, upd_upd, upd_id])⟩, trivial⟩ (Nat.le_of_ble_eq_true rfl) (Nat.le_of_ble_eq_true rfl) dX10_moves_76
    · have nc_22 := nle_i c_22
      refine lv_iload hx hb dX10_moves_69 (lv_at hl 1 rfl) ?_
      refine lv_goto (tgt := 76) hx hb dX10_moves_71 (by decide) ?_
      exact M_i hx hb hr hlocks () hP hD hK hS ⟨⟨_, rfl, (by have c_79 := c_7; (try simp only [ez_1, ez_2, ez_3, ez_4, ez_5, ez_6, ez_15, ez_16, ez_17, ez_18, ez_19, ez_20, ez_21, upd_at, upd_upd, upd_id] at c_79); have c_229 := nle_lt c_22; (try simp only [ez_1, ez_2, ez_3, ez_4, ez_5, ez_6, ez_15, ez_16, ez_17, ez_18, ez_19, ez_20, ez_21, upd_at, upd_upd, upd_id] at c_229); simp only [mvV, ez_1, ez_2, ez_3, ez_4, ez_5, ez_6, ez_15, ez_16, ez_17, ez_18, ez_19, ez_20, ez_21, upd_at, upd_upd, upd_id, if_pos c_79, if_pos c_229, upd_upd, upd_id])⟩, trivial⟩ (Nat.le_of_ble_eq_true rfl) (Nat.le_of_ble_eq_true rfl) dX10_moves_76

theorem nar_1 : vp_nar .boolean 1 = 1 := by decide
theorem nar_0 : vp_nar .boolean 0 = 0 := by decide
theorem nar_01 {x : Int32} (h : x = 0 ∨ x = 1) : vp_nar .boolean x = x := by rcases h with rfl | rfl <;> decide

noncomputable abbrev rm_X10_dipsE : Room := { frames := 1, cells := 0, slots := 0, locals := 25 }
set_option maxHeartbeats 4000000 in
set_option maxRecDepth 100000 in
theorem m_X10_dipsE (l : Launch) (dC : Nat → ClassId) (dI : Nat → Nat → Nat) (sa : Nat → Nat) (g : Nat → Nat) (h0 : Nat) (b : Nat → Nat) (i : Nat → Int32) (a : Nat → Nat → Int32) (ck : Int32) (vv : Int32) (mm : Int32) (sz : Nat) (hc30 : vp_in ck 30) (hv6 : vp_in vv 6) (hwt : 1 ≤ ((a 13) ck.toNatClampNeg).toInt ∧ ((a 13) ck.toNatClampNeg).toInt ≤ 50) : CT l dC dI sa yX10_dips wsX10_dips rm_X10_dipsE [.ref h0, .int ck, .int vv, .int mm] (mw g h0 b i a) (tyM g) sz (fun (r : Option Value) (u : (Nat → Int32) × (Nat → Int32) × (Nat → Int32) × (Nat → Int32) × (Nat → Int32) × (Nat → Int32) × (Nat → Int32) × (Nat → Int32) × (Nat → Int32) × (Nat → Int32)) => match u with | (y4, y5, y6, y7, y8, y9, y10, y14, y17, y18) => (∃ z : Int32, r = some (.int z) ∧ (z = mvV ((a 4) vv.toNatClampNeg) ((a 7) vv.toNatClampNeg) ((a 13) ck.toNatClampNeg) ((a 14) ck.toNatClampNeg) ((a 15) ck.toNatClampNeg) mm)) ∧ (y4 = upd (a 4) vv.toNatClampNeg (((a 4) vv.toNatClampNeg) - (mvV ((a 4) vv.toNatClampNeg) ((a 7) vv.toNatClampNeg) ((a 13) ck.toNatClampNeg) ((a 14) ck.toNatClampNeg) ((a 15) ck.toNatClampNeg) mm)) ∧ y5 = upd (a 5) vv.toNatClampNeg (skF ((a 5) vv.toNatClampNeg) mm) ∧ y6 = upd (a 6) vv.toNatClampNeg (((a 6) vv.toNatClampNeg) + mm) ∧ y7 = upd (a 7) vv.toNatClampNeg (skS ((a 6) vv.toNatClampNeg) ((a 5) vv.toNatClampNeg) ((a 7) vv.toNatClampNeg) mm) ∧ y8 = upd (a 8) vv.toNatClampNeg (((a 8) vv.toNatClampNeg) + 1) ∧ y9 = upd (a 9) vv.toNatClampNeg (((a 9) vv.toNatClampNeg) ||| (1 <<< (ck &&& 31))) ∧ y10 = upd (a 10) vv.toNatClampNeg (1) ∧ y14 = upd (a 14) ck.toNatClampNeg (((a 14) ck.toNatClampNeg) + (mvV ((a 4) vv.toNatClampNeg) ((a 7) vv.toNatClampNeg) ((a 13) ck.toNatClampNeg) ((a 14) ck.toNatClampNeg) ((a 15) ck.toNatClampNeg) mm)) ∧ y17 = upd (a 17) ck.toNatClampNeg (((a 17) ck.toNatClampNeg) ||| (1 <<< (vv &&& 31))) ∧ y18 = upd (a 18) ck.toNatClampNeg (((a 18) ck.toNatClampNeg) + 1))) (fun (u : (Nat → Int32) × (Nat → Int32) × (Nat → Int32) × (Nat → Int32) × (Nat → Int32) × (Nat → Int32) × (Nat → Int32) × (Nat → Int32) × (Nat → Int32) × (Nat → Int32)) => match u with | (y4, y5, y6, y7, y8, y9, y10, y14, y17, y18) => mw g h0 b i (va_up (va_up (va_up (va_up (va_up (va_up (va_up (va_up (va_up (va_up a 4 y4) 5 y5) 6 y6) 7 y7) 8 y8) 9 y9) 10 y10) 14 y14) 17 y17) 18 y18)) (fun _ => []) 0 0 := by
  refine CT.start (cc := cX10_dips) (maxL := 5) (ret := (some .int)) (by decide) rfl (Nat.le_of_ble_eq_true rfl) ?_
  intro p e s m below meth c ls hst hP hK hD hev hS hl
  obtain ⟨hx, hb, hr, hml, hts, hown, hlocks, hin⟩ := hst
  have hown : s.vm.findClass RX10 = some m.cls := hown
  have hA : ∀ q : Nat, s.heap.size ≤ q → va_A (mw g h0 b i a) s.heap.size q := fun _ h => Or.inr h
  have hl : lv_has ls 5 [(0, .ref h0), (1, .int ck), (2, .int vv), (3, .int mm)] := hl
  refine lv_aload_n hx hb dX10_dips_0 rfl (lv_at hl 0 rfl) ?_
  refine lv_iload_n hx hb dX10_dips_1 rfl (lv_at hl 1 rfl) ?_
  refine lv_iload_n hx hb dX10_dips_2 rfl (lv_at hl 2 rfl) ?_
  refine lv_iload_n hx hb dX10_dips_3 rfl (lv_at hl 3 rfl) ?_
  refine M_V ⟨hx, hb, hml, hown, hts⟩ (m_X10_movesE l dC dI sa g h0 b i a ck vv mm _ hc30 hv6 hwt) (cwV 3 hts gX10_dips_X10_moves rfl rfl rfl (by decide +kernel) ⟨Nat.le_of_ble_eq_true rfl, Nat.le_of_ble_eq_true rfl⟩) hP hD hK hS hA hev rfl rfl rfl rfl hl.1 rfl (Nat.le_of_ble_eq_true rfl) dX10_dips_4 ⟨(Nat.le_of_ble_eq_true rfl), (Nat.le_of_ble_eq_true rfl)⟩ (fun r u H locs hw hP hD hS => ?_)
  have hw : (∃ z : Int32, r = some (.int z) ∧ (z = mvV ((a 4) vv.toNatClampNeg) ((a 7) vv.toNatClampNeg) ((a 13) ck.toNatClampNeg) ((a 14) ck.toNatClampNeg) ((a 15) ck.toNatClampNeg) mm)) ∧ (True) := hw
  obtain ⟨⟨z_2, rfl, hz_z_2⟩, hw_1⟩ := hw
  have hP : va_P (dC, dI) vwCl (mw g h0 b i a) _ := hP
  have hD : va_D _ (mw g h0 b i a) := hD
  refine W.eq (g2 := F0 m 7 ls [.int z_2]) rfl ?_
  have ez_2 := hz_z_2
  refine lv_istore (lv' := [(4, .int z_2), (0, .ref h0), (1, .int ck), (2, .int vv), (3, .int mm)]) hx hb dX10_dips_7 hl (by decide) rfl (fun ls hl => ?_)
  refine lv_aload_n hx hb dX10_dips_9 rfl (lv_at hl 1 rfl) ?_
  refine va_get (D := (dC, dI)) (ci := 10) (v := .ref (b 4)) (C := RX10) (T := TX10) (N := 51) hx hb hts inw_X10_dips_10 hown hK hP 0 rfl rfl 4 (by decide) (hts (.fieldLink RX10 7 "VatHouseModel" "grains" "[I") (List.mem_of_getElem? (i := 1) (by exact rfl))) (fun _ h9 => h9) rfl dX10_dips_10 ?_
  refine lv_iload_n hx hb dX10_dips_13 rfl (lv_at hl 3 rfl) ?_
  refine lv_dup2_11 hx hb dX10_dips_14 rfl rfl ?_
  refine va_iald hx hb hK hP 1 0 rfl rfl (by assumption) dX10_dips_15 ?_
  refine lv_topi (fun z_3 ez_3 => ?_)
  have ez_3 : z_3 = (a 4) vv.toNatClampNeg := ez_3
  refine lv_iload hx hb dX10_dips_16 (lv_at hl 0 rfl) ?_
  refine lv_isub hx hb dX10_dips_18 ?_
  refine lv_topi (fun z_4 ez_4 => ?_)
  refine va_iast hx hb hK hP hD hS 1 0 rfl rfl (by assumption) dX10_dips_19 (fun H locs hP hD hS => ?_)
  have hP : va_P (dC, dI) vwCl (mw g h0 b i (va_up a 4 (upd (a 4) vv.toNatClampNeg z_4))) _ := hP
  have hD : va_D _ (mw g h0 b i (va_up a 4 (upd (a 4) vv.toNatClampNeg z_4))) := hD
  obtain ⟨f_5, ef_5⟩ : ∃ z, z = (upd (a 4) vv.toNatClampNeg z_4) := ⟨_, rfl⟩
  rw [← ef_5] at hP hD
  refine lv_aload_n hx hb dX10_dips_20 rfl (lv_at hl 1 rfl) ?_
  refine va_get (D := (dC, dI)) (ci := 10) (v := .ref (b 14)) (C := RX10) (T := TX10) (N := 51) hx hb hts inw_X10_dips_10 hown hK hP 0 rfl rfl 14 (by decide) (hts (.fieldLink RX10 38 "VatHouseModel" "loose" "[I") (List.mem_of_getElem? (i := 2) (by exact rfl))) (fun _ h9 => h9) rfl dX10_dips_21 ?_
  refine lv_iload_n hx hb dX10_dips_24 rfl (lv_at hl 2 rfl) ?_
  refine lv_dup2_11 hx hb dX10_dips_25 rfl rfl ?_
  refine va_iald hx hb hK hP 10 9 rfl rfl (by assumption) dX10_dips_26 ?_
  refine lv_topi (fun z_6 ez_6 => ?_)
  have ez_6 : z_6 = (a 14) ck.toNatClampNeg := ez_6
  refine lv_iload hx hb dX10_dips_27 (lv_at hl 0 rfl) ?_
  refine lv_iadd hx hb dX10_dips_29 ?_
  refine lv_topi (fun z_7 ez_7 => ?_)
  refine va_iast hx hb hK hP hD hS 10 9 rfl rfl (by assumption) dX10_dips_30 (fun H locs hP hD hS => ?_)
  have hP : va_P (dC, dI) vwCl (mw g h0 b i (va_up (va_up a 4 f_5) 14 (upd (a 14) ck.toNatClampNeg z_7))) _ := hP
  have hD : va_D _ (mw g h0 b i (va_up (va_up a 4 f_5) 14 (upd (a 14) ck.toNatClampNeg z_7))) := hD
  obtain ⟨f_8, ef_8⟩ : ∃ z, z = (upd (a 14) ck.toNatClampNeg z_7) := ⟨_, rfl⟩
  rw [← ef_8] at hP hD
  refine lv_aload_n hx hb dX10_dips_31 rfl (lv_at hl 1 rfl) ?_
  refine va_get (D := (dC, dI)) (ci := 10) (v := .ref (b 6)) (C := RX10) (T := TX10) (N := 51) hx hb hts inw_X10_dips_10 hown hK hP 0 rfl rfl 6 (by decide) (hts (.fieldLink RX10 16 "VatHouseModel" "minutes" "[I") (List.mem_of_getElem? (i := 3) (by exact rfl))) (fun _ h9 => h9) rfl dX10_dips_32 ?_
  refine lv_iload_n hx hb dX10_dips_35 rfl (lv_at hl 3 rfl) ?_
  refine lv_dup2_11 hx hb dX10_dips_36 rfl rfl ?_
  refine va_iald hx hb hK hP 3 2 rfl rfl (by assumption) dX10_dips_37 ?_
  refine lv_topi (fun z_9 ez_9 => ?_)
  have ez_9 : z_9 = (a 6) vv.toNatClampNeg := ez_9
  refine lv_iload_n hx hb dX10_dips_38 rfl (lv_at hl 4 rfl) ?_
  refine lv_iadd hx hb dX10_dips_39 ?_
  refine lv_topi (fun z_10 ez_10 => ?_)
  refine va_iast hx hb hK hP hD hS 3 2 rfl rfl (by assumption) dX10_dips_40 (fun H locs hP hD hS => ?_)
  have hP : va_P (dC, dI) vwCl (mw g h0 b i (va_up (va_up (va_up a 4 f_5) 6 (upd (a 6) vv.toNatClampNeg z_10)) 14 f_8)) _ := hP
  have hD : va_D _ (mw g h0 b i (va_up (va_up (va_up a 4 f_5) 6 (upd (a 6) vv.toNatClampNeg z_10)) 14 f_8)) := hD
  obtain ⟨f_11, ef_11⟩ : ∃ z, z = (upd (a 6) vv.toNatClampNeg z_10) := ⟨_, rfl⟩
  rw [← ef_11] at hP hD
  refine lv_aload_n hx hb dX10_dips_41 rfl (lv_at hl 1 rfl) ?_
  refine va_get (D := (dC, dI)) (ci := 10) (v := .ref (b 6)) (C := RX10) (T := TX10) (N := 51) hx hb hts inw_X10_dips_10 hown hK hP 0 rfl rfl 6 (by decide) (hts (.fieldLink RX10 16 "VatHouseModel" "minutes" "[I") (List.mem_of_getElem? (i := 3) (by exact rfl))) (fun _ h9 => h9) rfl dX10_dips_42 ?_
  refine lv_iload_n hx hb dX10_dips_45 rfl (lv_at hl 3 rfl) ?_
  refine va_iald hx hb hK hP 3 2 rfl rfl (by assumption) dX10_dips_46 ?_
  refine lv_topi (fun z_12 ez_12 => ?_)
  have ez_12 : z_12 = f_11 vv.toNatClampNeg := ez_12
  refine lv_bipush (v := 60) hx hb dX10_dips_47 (by decide) ?_
  refine lv_icmp_le (tgt := 59) hx hb dX10_dips_49 (by decide) (fun c_13 => ?_) (fun c_13 => ?_)
  · have nc_13 := le_i c_13
    have lc_13 : (60 : Int32).toInt = 60 := by decide
    refine lv_aload_n hx hb dX10_dips_59 rfl (lv_at hl 1 rfl) ?_
    refine va_get (D := (dC, dI)) (ci := 10) (v := .ref (b 5)) (C := RX10) (T := TX10) (N := 51) hx hb hts inw_X10_dips_10 hown hK hP 0 rfl rfl 5 (by decide) (hts (.fieldLink RX10 13 "VatHouseModel" "food" "[I") (List.mem_of_getElem? (i := 5) (by exact rfl))) (fun _ h9 => h9) rfl dX10_dips_60 ?_
    refine lv_iload_n hx hb dX10_dips_63 rfl (lv_at hl 3 rfl) ?_
    refine lv_dup2_11 hx hb dX10_dips_64 rfl rfl ?_
    refine va_iald hx hb hK hP 2 1 rfl rfl (by assumption) dX10_dips_65 ?_
    refine lv_topi (fun z_14 ez_14 => ?_)
    have ez_14 : z_14 = (a 5) vv.toNatClampNeg := ez_14
    refine lv_iload_n hx hb dX10_dips_66 rfl (lv_at hl 4 rfl) ?_
    refine lv_isub hx hb dX10_dips_67 ?_
    refine lv_topi (fun z_15 ez_15 => ?_)
    refine va_iast hx hb hK hP hD hS 2 1 rfl rfl (by assumption) dX10_dips_68 (fun H locs hP hD hS => ?_)
    have hP : va_P (dC, dI) vwCl (mw g h0 b i (va_up (va_up (va_up (va_up a 4 f_5) 5 (upd (a 5) vv.toNatClampNeg z_15)) 6 f_11) 14 f_8)) _ := hP
    have hD : va_D _ (mw g h0 b i (va_up (va_up (va_up (va_up a 4 f_5) 5 (upd (a 5) vv.toNatClampNeg z_15)) 6 f_11) 14 f_8)) := hD
    obtain ⟨f_16, ef_16⟩ : ∃ z, z = (upd (a 5) vv.toNatClampNeg z_15) := ⟨_, rfl⟩
    rw [← ef_16] at hP hD
    refine lv_aload_n hx hb dX10_dips_69 rfl (lv_at hl 1 rfl) ?_
    refine va_get (D := (dC, dI)) (ci := 10) (v := .ref (b 5)) (C := RX10) (T := TX10) (N := 51) hx hb hts inw_X10_dips_10 hown hK hP 0 rfl rfl 5 (by decide) (hts (.fieldLink RX10 13 "VatHouseModel" "food" "[I") (List.mem_of_getElem? (i := 5) (by exact rfl))) (fun _ h9 => h9) rfl dX10_dips_70 ?_
    refine lv_iload_n hx hb dX10_dips_73 rfl (lv_at hl 3 rfl) ?_
    refine va_iald hx hb hK hP 2 1 rfl rfl (by assumption) dX10_dips_74 ?_
    refine lv_topi (fun z_17 ez_17 => ?_)
    have ez_17 : z_17 = f_16 vv.toNatClampNeg := ez_17
    refine lv_iconst (v := 1) hx hb dX10_dips_75 (by decide) ?_
    refine lv_icmp_ge (tgt := 93) hx hb dX10_dips_76 (by decide) (fun c_18 => ?_) (fun c_18 => ?_)
    · have nc_18 := le_i c_18
      have lc_18 : (1 : Int32).toInt = 1 := by decide
      refine lv_aload_n hx hb dX10_dips_93 rfl (lv_at hl 1 rfl) ?_
      refine va_get (D := (dC, dI)) (ci := 10) (v := .ref (b 10)) (C := RX10) (T := TX10) (N := 51) hx hb hts inw_X10_dips_10 hown hK hP 0 rfl rfl 10 (by decide) (hts (.fieldLink RX10 28 "VatHouseModel" "isDipped" "[Z") (List.mem_of_getElem? (i := 6) (by exact rfl))) (fun _ h9 => h9) rfl dX10_dips_94 ?_
      refine lv_iload_n hx hb dX10_dips_97 rfl (lv_at hl 3 rfl) ?_
      refine lv_iconst (v := 1) hx hb dX10_dips_98 (by decide) ?_
      refine va_zast hx hb hK hP hD hS 7 6 rfl rfl (by assumption) dX10_dips_99 (fun H locs hP hD hS => ?_)
      have hP : va_P (dC, dI) vwCl (mw g h0 b i (va_up (va_up (va_up (va_up (va_up a 4 f_5) 5 f_16) 6 f_11) 10 (upd (a 10) vv.toNatClampNeg (vp_nar .boolean (1 : Int32)))) 14 f_8)) _ := hP
      have hD : va_D _ (mw g h0 b i (va_up (va_up (va_up (va_up (va_up a 4 f_5) 5 f_16) 6 f_11) 10 (upd (a 10) vv.toNatClampNeg (vp_nar .boolean (1 : Int32)))) 14 f_8)) := hD
      obtain ⟨f_19, ef_19⟩ : ∃ z, z = (upd (a 10) vv.toNatClampNeg (vp_nar .boolean (1 : Int32))) := ⟨_, rfl⟩
      rw [← ef_19] at hP hD
      refine lv_aload_n hx hb dX10_dips_100 rfl (lv_at hl 1 rfl) ?_
      refine va_get (D := (dC, dI)) (ci := 10) (v := .ref (b 8)) (C := RX10) (T := TX10) (N := 51) hx hb hts inw_X10_dips_10 hown hK hP 0 rfl rfl 8 (by decide) (hts (.fieldLink RX10 22 "VatHouseModel" "dips" "[I") (List.mem_of_getElem? (i := 7) (by exact rfl))) (fun _ h9 => h9) rfl dX10_dips_101 ?_
      refine lv_iload_n hx hb dX10_dips_104 rfl (lv_at hl 3 rfl) ?_
      refine lv_dup2_11 hx hb dX10_dips_105 rfl rfl ?_
      refine va_iald hx hb hK hP 5 4 rfl rfl (by assumption) dX10_dips_106 ?_
      refine lv_topi (fun z_20 ez_20 => ?_)
      have ez_20 : z_20 = (a 8) vv.toNatClampNeg := ez_20
      refine lv_iconst (v := 1) hx hb dX10_dips_107 (by decide) ?_
      refine lv_iadd hx hb dX10_dips_108 ?_
      refine lv_topi (fun z_21 ez_21 => ?_)
      refine va_iast hx hb hK hP hD hS 5 4 rfl rfl (by assumption) dX10_dips_109 (fun H locs hP hD hS => ?_)
      have hP : va_P (dC, dI) vwCl (mw g h0 b i (va_up (va_up (va_up (va_up (va_up (va_up a 4 f_5) 5 f_16) 6 f_11) 8 (upd (a 8) vv.toNatClampNeg z_21)) 10 f_19) 14 f_8)) _ := hP
      have hD : va_D _ (mw g h0 b i (va_up (va_up (va_up (va_up (va_up (va_up a 4 f_5) 5 f_16) 6 f_11) 8 (upd (a 8) vv.toNatClampNeg z_21)) 10 f_19) 14 f_8)) := hD
      obtain ⟨f_22, ef_22⟩ : ∃ z, z = (upd (a 8) vv.toNatClampNeg z_21) := ⟨_, rfl⟩
      rw [← ef_22] at hP hD
      refine lv_aload_n hx hb dX10_dips_110 rfl (lv_at hl 1 rfl) ?_
      refine va_get (D := (dC, dI)) (ci := 10) (v := .ref (b 9)) (C := RX10) (T := TX10) (N := 51) hx hb hts inw_X10_dips_10 hown hK hP 0 rfl rfl 9 (by decide) (hts (.fieldLink RX10 25 "VatHouseModel" "dyed" "[I") (List.mem_of_getElem? (i := 8) (by exact rfl))) (fun _ h9 => h9) rfl dX10_dips_111 ?_
      refine lv_iload_n hx hb dX10_dips_114 rfl (lv_at hl 3 rfl) ?_
      refine lv_dup2_11 hx hb dX10_dips_115 rfl rfl ?_
      refine va_iald hx hb hK hP 6 5 rfl rfl (by assumption) dX10_dips_116 ?_
      refine lv_topi (fun z_23 ez_23 => ?_)
      have ez_23 : z_23 = (a 9) vv.toNatClampNeg := ez_23
      refine lv_iconst (v := 1) hx hb dX10_dips_117 (by decide) ?_
      refine lv_iload_n hx hb dX10_dips_118 rfl (lv_at hl 2 rfl) ?_
      refine lv_ishl hx hb dX10_dips_119 ?_
      refine lv_topi (fun z_24 ez_24 => ?_)
      refine lv_ior hx hb dX10_dips_120 ?_
      refine lv_topi (fun z_25 ez_25 => ?_)
      refine va_iast hx hb hK hP hD hS 6 5 rfl rfl (by assumption) dX10_dips_121 (fun H locs hP hD hS => ?_)
      have hP : va_P (dC, dI) vwCl (mw g h0 b i (va_up (va_up (va_up (va_up (va_up (va_up (va_up a 4 f_5) 5 f_16) 6 f_11) 8 f_22) 9 (upd (a 9) vv.toNatClampNeg z_25)) 10 f_19) 14 f_8)) _ := hP
      have hD : va_D _ (mw g h0 b i (va_up (va_up (va_up (va_up (va_up (va_up (va_up a 4 f_5) 5 f_16) 6 f_11) 8 f_22) 9 (upd (a 9) vv.toNatClampNeg z_25)) 10 f_19) 14 f_8)) := hD
      obtain ⟨f_26, ef_26⟩ : ∃ z, z = (upd (a 9) vv.toNatClampNeg z_25) := ⟨_, rfl⟩
      rw [← ef_26] at hP hD
      refine lv_aload_n hx hb dX10_dips_122 rfl (lv_at hl 1 rfl) ?_
      refine va_get (D := (dC, dI)) (ci := 10) (v := .ref (b 17)) (C := RX10) (T := TX10) (N := 51) hx hb hts inw_X10_dips_10 hown hK hP 0 rfl rfl 17 (by decide) (hts (.fieldLink RX10 47 "VatHouseModel" "vats" "[I") (List.mem_of_getElem? (i := 9) (by exact rfl))) (fun _ h9 => h9) rfl dX10_dips_123 ?_
      refine lv_iload_n hx hb dX10_dips_126 rfl (lv_at hl 2 rfl) ?_
      refine lv_dup2_11 hx hb dX10_dips_127 rfl rfl ?_
      refine va_iald hx hb hK hP 13 12 rfl rfl (by assumption) dX10_dips_128 ?_
      refine lv_topi (fun z_27 ez_27 => ?_)
      have ez_27 : z_27 = (a 17) ck.toNatClampNeg := ez_27
      refine lv_iconst (v := 1) hx hb dX10_dips_129 (by decide) ?_
      refine lv_iload_n hx hb dX10_dips_130 rfl (lv_at hl 3 rfl) ?_
      refine lv_ishl hx hb dX10_dips_131 ?_
      refine lv_topi (fun z_28 ez_28 => ?_)
      refine lv_ior hx hb dX10_dips_132 ?_
      refine lv_topi (fun z_29 ez_29 => ?_)
      refine va_iast hx hb hK hP hD hS 13 12 rfl rfl (by assumption) dX10_dips_133 (fun H locs hP hD hS => ?_)
      have hP : va_P (dC, dI) vwCl (mw g h0 b i (va_up (va_up (va_up (va_up (va_up (va_up (va_up (va_up a 4 f_5) 5 f_16) 6 f_11) 8 f_22) 9 f_26) 10 f_19) 14 f_8) 17 (upd (a 17) ck.toNatClampNeg z_29))) _ := hP
      have hD : va_D _ (mw g h0 b i (va_up (va_up (va_up (va_up (va_up (va_up (va_up (va_up a 4 f_5) 5 f_16) 6 f_11) 8 f_22) 9 f_26) 10 f_19) 14 f_8) 17 (upd (a 17) ck.toNatClampNeg z_29))) := hD
      obtain ⟨f_30, ef_30⟩ : ∃ z, z = (upd (a 17) ck.toNatClampNeg z_29) := ⟨_, rfl⟩
      rw [← ef_30] at hP hD
      refine lv_aload_n hx hb dX10_dips_134 rfl (lv_at hl 1 rfl) ?_
      refine va_get (D := (dC, dI)) (ci := 10) (v := .ref (b 18)) (C := RX10) (T := TX10) (N := 51) hx hb hts inw_X10_dips_10 hown hK hP 0 rfl rfl 18 (by decide) (hts (.fieldLink RX10 50 "VatHouseModel" "often" "[I") (List.mem_of_getElem? (i := 10) (by exact rfl))) (fun _ h9 => h9) rfl dX10_dips_135 ?_
      refine lv_iload_n hx hb dX10_dips_138 rfl (lv_at hl 2 rfl) ?_
      refine lv_dup2_11 hx hb dX10_dips_139 rfl rfl ?_
      refine va_iald hx hb hK hP 14 13 rfl rfl (by assumption) dX10_dips_140 ?_
      refine lv_topi (fun z_31 ez_31 => ?_)
      have ez_31 : z_31 = (a 18) ck.toNatClampNeg := ez_31
      refine lv_iconst (v := 1) hx hb dX10_dips_141 (by decide) ?_
      refine lv_iadd hx hb dX10_dips_142 ?_
      refine lv_topi (fun z_32 ez_32 => ?_)
      refine va_iast hx hb hK hP hD hS 14 13 rfl rfl (by assumption) dX10_dips_143 (fun H locs hP hD hS => ?_)
      have hP : va_P (dC, dI) vwCl (mw g h0 b i (va_up (va_up (va_up (va_up (va_up (va_up (va_up (va_up (va_up a 4 f_5) 5 f_16) 6 f_11) 8 f_22) 9 f_26) 10 f_19) 14 f_8) 17 f_30) 18 (upd (a 18) ck.toNatClampNeg z_32))) _ := hP
      have hD : va_D _ (mw g h0 b i (va_up (va_up (va_up (va_up (va_up (va_up (va_up (va_up (va_up a 4 f_5) 5 f_16) 6 f_11) 8 f_22) 9 f_26) 10 f_19) 14 f_8) 17 f_30) 18 (upd (a 18) ck.toNatClampNeg z_32))) := hD
      obtain ⟨f_33, ef_33⟩ : ∃ z, z = (upd (a 18) ck.toNatClampNeg z_32) := ⟨_, rfl⟩
      rw [← ef_33] at hP hD
      refine lv_iload hx hb dX10_dips_144 (lv_at hl 0 rfl) ?_
      exact M_i hx hb hr hlocks (f_5, f_16, f_11, (a 7), f_22, f_26, f_19, f_8, f_30, f_33) hP hD hK hS ⟨⟨_, rfl, ez_2⟩, ⟨(by have c_139 := c_13; (try simp only [ez_2, ez_3, ez_4, ef_5, ez_6, ez_7, ef_8, ez_9, ez_10, ef_11, ez_12, ez_14, ez_15, ef_16, ez_17, ef_19, ez_20, ez_21, ef_22, ez_23, ez_24, ez_25, ef_26, ez_27, ez_28, ez_29, ef_30, ez_31, ez_32, ef_33, upd_at, upd_upd, upd_id] at c_139); have c_189 := c_18; (try simp only [ez_2, ez_3, ez_4, ef_5, ez_6, ez_7, ef_8, ez_9, ez_10, ef_11, ez_12, ez_14, ez_15, ef_16, ez_17, ef_19, ez_20, ez_21, ef_22, ez_23, ez_24, ez_25, ef_26, ez_27, ez_28, ez_29, ef_30, ez_31, ez_32, ef_33, upd_at, upd_upd, upd_id] at c_189); simp only [ez_2, ez_3, ez_4, ef_5, ez_6, ez_7, ef_8, ez_9, ez_10, ef_11, ez_12, ez_14, ez_15, ef_16, ez_17, ef_19, ez_20, ez_21, ef_22, ez_23, ez_24, ez_25, ef_26, ez_27, ez_28, ez_29, ef_30, ez_31, ez_32, ef_33, upd_at, upd_upd, upd_id, if_pos c_139, if_pos c_189, upd_upd, upd_id]), (by have c_139 := c_13; (try simp only [ez_2, ez_3, ez_4, ef_5, ez_6, ez_7, ef_8, ez_9, ez_10, ef_11, ez_12, ez_14, ez_15, ef_16, ez_17, ef_19, ez_20, ez_21, ef_22, ez_23, ez_24, ez_25, ef_26, ez_27, ez_28, ez_29, ef_30, ez_31, ez_32, ef_33, upd_at, upd_upd, upd_id] at c_139); have c_189 := c_18; (try simp only [ez_2, ez_3, ez_4, ef_5, ez_6, ez_7, ef_8, ez_9, ez_10, ef_11, ez_12, ez_14, ez_15, ef_16, ez_17, ef_19, ez_20, ez_21, ef_22, ez_23, ez_24, ez_25, ef_26, ez_27, ez_28, ez_29, ef_30, ez_31, ez_32, ef_33, upd_at, upd_upd, upd_id] at c_189); simp only [skF, ez_2, ez_3, ez_4, ef_5, ez_6, ez_7, ef_8, ez_9, ez_10, ef_11, ez_12, ez_14, ez_15, ef_16, ez_17, ef_19, ez_20, ez_21, ef_22, ez_23, ez_24, ez_25, ef_26, ez_27, ez_28, ez_29, ef_30, ez_31, ez_32, ef_33, upd_at, upd_upd, upd_id, if_pos c_139, if_pos c_189, upd_upd, upd_id]), (by have c_139 := c_13; (try simp only [ez_2, ez_3, ez_4, ef_5, ez_6, ez_7, ef_8, ez_9, ez_10, ef_11, ez_12, ez_14, ez_15, ef_16, ez_17, ef_19, ez_20, ez_21, ef_22, ez_23, ez_24, ez_25, ef_26, ez_27, ez_28, ez_29, ef_30, ez_31, ez_32, ef_33, upd_at, upd_upd, upd_id] at c_139); have c_189 := c_18; (try simp only [ez_2, ez_3, ez_4, ef_5, ez_6, ez_7, ef_8, ez_9, ez_10, ef_11, ez_12, ez_14, ez_15, ef_16, ez_17, ef_19, ez_20, ez_21, ef_22, ez_23, ez_24, ez_25, ef_26, ez_27, ez_28, ez_29, ef_30, ez_31, ez_32, ef_33, upd_at, upd_upd, upd_id] at c_189); simp only [ez_2, ez_3, ez_4, ef_5, ez_6, ez_7, ef_8, ez_9, ez_10, ef_11, ez_12, ez_14, ez_15, ef_16, ez_17, ef_19, ez_20, ez_21, ef_22, ez_23, ez_24, ez_25, ef_26, ez_27, ez_28, ez_29, ef_30, ez_31, ez_32, ef_33, upd_at, upd_upd, upd_id, if_pos c_139, if_pos c_189, upd_upd, upd_id]), (by have c_139 := c_13; (try simp only [ez_2, ez_3, ez_4, ef_5, ez_6, ez_7, ef_8, ez_9, ez_10, ef_11, ez_12, ez_14, ez_15, ef_16, ez_17, ef_19, ez_20, ez_21, ef_22, ez_23, ez_24, ez_25, ef_26, ez_27, ez_28, ez_29, ef_30, ez_31, ez_32, ef_33, upd_at, upd_upd, upd_id] at c_139); have c_189 := c_18; (try simp only [ez_2, ez_3, ez_4, ef_5, ez_6, ez_7, ef_8, ez_9, ez_10, ef_11, ez_12, ez_14, ez_15, ef_16, ez_17, ef_19, ez_20, ez_21, ef_22, ez_23, ez_24, ez_25, ef_26, ez_27, ez_28, ez_29, ef_30, ez_31, ez_32, ef_33, upd_at, upd_upd, upd_id] at c_189); simp only [skS, ez_2, ez_3, ez_4, ef_5, ez_6, ez_7, ef_8, ez_9, ez_10, ef_11, ez_12, ez_14, ez_15, ef_16, ez_17, ef_19, ez_20, ez_21, ef_22, ez_23, ez_24, ez_25, ef_26, ez_27, ez_28, ez_29, ef_30, ez_31, ez_32, ef_33, upd_at, upd_upd, upd_id, if_pos c_139, if_pos c_189, upd_upd, upd_id]), (by have c_139 := c_13; (try simp only [ez_2, ez_3, ez_4, ef_5, ez_6, ez_7, ef_8, ez_9, ez_10, ef_11, ez_12, ez_14, ez_15, ef_16, ez_17, ef_19, ez_20, ez_21, ef_22, ez_23, ez_24, ez_25, ef_26, ez_27, ez_28, ez_29, ef_30, ez_31, ez_32, ef_33, upd_at, upd_upd, upd_id] at c_139); have c_189 := c_18; (try simp only [ez_2, ez_3, ez_4, ef_5, ez_6, ez_7, ef_8, ez_9, ez_10, ef_11, ez_12, ez_14, ez_15, ef_16, ez_17, ef_19, ez_20, ez_21, ef_22, ez_23, ez_24, ez_25, ef_26, ez_27, ez_28, ez_29, ef_30, ez_31, ez_32, ef_33, upd_at, upd_upd, upd_id] at c_189); simp only [ez_2, ez_3, ez_4, ef_5, ez_6, ez_7, ef_8, ez_9, ez_10, ef_11, ez_12, ez_14, ez_15, ef_16, ez_17, ef_19, ez_20, ez_21, ef_22, ez_23, ez_24, ez_25, ef_26, ez_27, ez_28, ez_29, ef_30, ez_31, ez_32, ef_33, upd_at, upd_upd, upd_id, if_pos c_139, if_pos c_189, upd_upd, upd_id]), (by have c_139 := c_13; (try simp only [ez_2, ez_3, ez_4, ef_5, ez_6, ez_7, ef_8, ez_9, ez_10, ef_11, ez_12, ez_14, ez_15, ef_16, ez_17, ef_19, ez_20, ez_21, ef_22, ez_23, ez_24, ez_25, ef_26, ez_27, ez_28, ez_29, ef_30, ez_31, ez_32, ef_33, upd_at, upd_upd, upd_id] at c_139); have c_189 := c_18; (try simp only [ez_2, ez_3, ez_4, ef_5, ez_6, ez_7, ef_8, ez_9, ez_10, ef_11, ez_12, ez_14, ez_15, ef_16, ez_17, ef_19, ez_20, ez_21, ef_22, ez_23, ez_24, ez_25, ef_26, ez_27, ez_28, ez_29, ef_30, ez_31, ez_32, ef_33, upd_at, upd_upd, upd_id] at c_189); simp only [ez_2, ez_3, ez_4, ef_5, ez_6, ez_7, ef_8, ez_9, ez_10, ef_11, ez_12, ez_14, ez_15, ef_16, ez_17, ef_19, ez_20, ez_21, ef_22, ez_23, ez_24, ez_25, ef_26, ez_27, ez_28, ez_29, ef_30, ez_31, ez_32, ef_33, upd_at, upd_upd, upd_id, if_pos c_139, if_pos c_189, upd_upd, upd_id]), (by have c_139 := c_13; (try simp only [ez_2, ez_3, ez_4, ef_5, ez_6, ez_7, ef_8, ez_9, ez_10, ef_11, ez_12, ez_14, ez_15, ef_16, ez_17, ef_19, ez_20, ez_21, ef_22, ez_23, ez_24, ez_25, ef_26, ez_27, ez_28, ez_29, ef_30, ez_31, ez_32, ef_33, upd_at, upd_upd, upd_id] at c_139); have c_189 := c_18; (try simp only [ez_2, ez_3, ez_4, ef_5, ez_6, ez_7, ef_8, ez_9, ez_10, ef_11, ez_12, ez_14, ez_15, ef_16, ez_17, ef_19, ez_20, ez_21, ef_22, ez_23, ez_24, ez_25, ef_26, ez_27, ez_28, ez_29, ef_30, ez_31, ez_32, ef_33, upd_at, upd_upd, upd_id] at c_189); simp only [nar_1, ez_2, ez_3, ez_4, ef_5, ez_6, ez_7, ef_8, ez_9, ez_10, ef_11, ez_12, ez_14, ez_15, ef_16, ez_17, ef_19, ez_20, ez_21, ef_22, ez_23, ez_24, ez_25, ef_26, ez_27, ez_28, ez_29, ef_30, ez_31, ez_32, ef_33, upd_at, upd_upd, upd_id, if_pos c_139, if_pos c_189, upd_upd, upd_id]), (by have c_139 := c_13; (try simp only [ez_2, ez_3, ez_4, ef_5, ez_6, ez_7, ef_8, ez_9, ez_10, ef_11, ez_12, ez_14, ez_15, ef_16, ez_17, ef_19, ez_20, ez_21, ef_22, ez_23, ez_24, ez_25, ef_26, ez_27, ez_28, ez_29, ef_30, ez_31, ez_32, ef_33, upd_at, upd_upd, upd_id] at c_139); have c_189 := c_18; (try simp only [ez_2, ez_3, ez_4, ef_5, ez_6, ez_7, ef_8, ez_9, ez_10, ef_11, ez_12, ez_14, ez_15, ef_16, ez_17, ef_19, ez_20, ez_21, ef_22, ez_23, ez_24, ez_25, ef_26, ez_27, ez_28, ez_29, ef_30, ez_31, ez_32, ef_33, upd_at, upd_upd, upd_id] at c_189); simp only [ez_2, ez_3, ez_4, ef_5, ez_6, ez_7, ef_8, ez_9, ez_10, ef_11, ez_12, ez_14, ez_15, ef_16, ez_17, ef_19, ez_20, ez_21, ef_22, ez_23, ez_24, ez_25, ef_26, ez_27, ez_28, ez_29, ef_30, ez_31, ez_32, ef_33, upd_at, upd_upd, upd_id, if_pos c_139, if_pos c_189, upd_upd, upd_id]), (by have c_139 := c_13; (try simp only [ez_2, ez_3, ez_4, ef_5, ez_6, ez_7, ef_8, ez_9, ez_10, ef_11, ez_12, ez_14, ez_15, ef_16, ez_17, ef_19, ez_20, ez_21, ef_22, ez_23, ez_24, ez_25, ef_26, ez_27, ez_28, ez_29, ef_30, ez_31, ez_32, ef_33, upd_at, upd_upd, upd_id] at c_139); have c_189 := c_18; (try simp only [ez_2, ez_3, ez_4, ef_5, ez_6, ez_7, ef_8, ez_9, ez_10, ef_11, ez_12, ez_14, ez_15, ef_16, ez_17, ef_19, ez_20, ez_21, ef_22, ez_23, ez_24, ez_25, ef_26, ez_27, ez_28, ez_29, ef_30, ez_31, ez_32, ef_33, upd_at, upd_upd, upd_id] at c_189); simp only [ez_2, ez_3, ez_4, ef_5, ez_6, ez_7, ef_8, ez_9, ez_10, ef_11, ez_12, ez_14, ez_15, ef_16, ez_17, ef_19, ez_20, ez_21, ef_22, ez_23, ez_24, ez_25, ef_26, ez_27, ez_28, ez_29, ef_30, ez_31, ez_32, ef_33, upd_at, upd_upd, upd_id, if_pos c_139, if_pos c_189, upd_upd, upd_id]), (by have c_139 := c_13; (try simp only [ez_2, ez_3, ez_4, ef_5, ez_6, ez_7, ef_8, ez_9, ez_10, ef_11, ez_12, ez_14, ez_15, ef_16, ez_17, ef_19, ez_20, ez_21, ef_22, ez_23, ez_24, ez_25, ef_26, ez_27, ez_28, ez_29, ef_30, ez_31, ez_32, ef_33, upd_at, upd_upd, upd_id] at c_139); have c_189 := c_18; (try simp only [ez_2, ez_3, ez_4, ef_5, ez_6, ez_7, ef_8, ez_9, ez_10, ef_11, ez_12, ez_14, ez_15, ef_16, ez_17, ef_19, ez_20, ez_21, ef_22, ez_23, ez_24, ez_25, ef_26, ez_27, ez_28, ez_29, ef_30, ez_31, ez_32, ef_33, upd_at, upd_upd, upd_id] at c_189); simp only [ez_2, ez_3, ez_4, ef_5, ez_6, ez_7, ef_8, ez_9, ez_10, ef_11, ez_12, ez_14, ez_15, ef_16, ez_17, ef_19, ez_20, ez_21, ef_22, ez_23, ez_24, ez_25, ef_26, ez_27, ez_28, ez_29, ef_30, ez_31, ez_32, ef_33, upd_at, upd_upd, upd_id, if_pos c_139, if_pos c_189, upd_upd, upd_id])⟩⟩ (Nat.le_of_ble_eq_true rfl) (Nat.le_of_ble_eq_true rfl) dX10_dips_146
    · have nc_18 := nle_i c_18
      have lc_18 : (1 : Int32).toInt = 1 := by decide
      refine lv_aload_n hx hb dX10_dips_79 rfl (lv_at hl 1 rfl) ?_
      refine va_get (D := (dC, dI)) (ci := 10) (v := .ref (b 5)) (C := RX10) (T := TX10) (N := 51) hx hb hts inw_X10_dips_10 hown hK hP 0 rfl rfl 5 (by decide) (hts (.fieldLink RX10 13 "VatHouseModel" "food" "[I") (List.mem_of_getElem? (i := 5) (by exact rfl))) (fun _ h9 => h9) rfl dX10_dips_80 ?_
      refine lv_iload_n hx hb dX10_dips_83 rfl (lv_at hl 3 rfl) ?_
      refine lv_iconst (v := 0) hx hb dX10_dips_84 (by decide) ?_
      refine va_iast hx hb hK hP hD hS 2 1 rfl rfl (by assumption) dX10_dips_85 (fun H locs hP hD hS => ?_)
      have hP : va_P (dC, dI) vwCl (mw g h0 b i (va_up (va_up (va_up (va_up a 4 f_5) 5 (upd f_16 vv.toNatClampNeg (0 : Int32))) 6 f_11) 14 f_8)) _ := hP
      have hD : va_D _ (mw g h0 b i (va_up (va_up (va_up (va_up a 4 f_5) 5 (upd f_16 vv.toNatClampNeg (0 : Int32))) 6 f_11) 14 f_8)) := hD
      obtain ⟨f_34, ef_34⟩ : ∃ z, z = (upd f_16 vv.toNatClampNeg (0 : Int32)) := ⟨_, rfl⟩
      rw [← ef_34] at hP hD
      refine lv_aload_n hx hb dX10_dips_86 rfl (lv_at hl 1 rfl) ?_
      refine va_get (D := (dC, dI)) (ci := 10) (v := .ref (b 7)) (C := RX10) (T := TX10) (N := 51) hx hb hts inw_X10_dips_10 hown hK hP 0 rfl rfl 7 (by decide) (hts (.fieldLink RX10 19 "VatHouseModel" "state" "[I") (List.mem_of_getElem? (i := 4) (by exact rfl))) (fun _ h9 => h9) rfl dX10_dips_87 ?_
      refine lv_iload_n hx hb dX10_dips_90 rfl (lv_at hl 3 rfl) ?_
      refine lv_iconst (v := 2) hx hb dX10_dips_91 (by decide) ?_
      refine va_iast hx hb hK hP hD hS 4 3 rfl rfl (by assumption) dX10_dips_92 (fun H locs hP hD hS => ?_)
      have hP : va_P (dC, dI) vwCl (mw g h0 b i (va_up (va_up (va_up (va_up (va_up a 4 f_5) 5 f_34) 6 f_11) 7 (upd (a 7) vv.toNatClampNeg (2 : Int32))) 14 f_8)) _ := hP
      have hD : va_D _ (mw g h0 b i (va_up (va_up (va_up (va_up (va_up a 4 f_5) 5 f_34) 6 f_11) 7 (upd (a 7) vv.toNatClampNeg (2 : Int32))) 14 f_8)) := hD
      obtain ⟨f_35, ef_35⟩ : ∃ z, z = (upd (a 7) vv.toNatClampNeg (2 : Int32)) := ⟨_, rfl⟩
      rw [← ef_35] at hP hD
      refine lv_aload_n hx hb dX10_dips_93 rfl (lv_at hl 1 rfl) ?_
      refine va_get (D := (dC, dI)) (ci := 10) (v := .ref (b 10)) (C := RX10) (T := TX10) (N := 51) hx hb hts inw_X10_dips_10 hown hK hP 0 rfl rfl 10 (by decide) (hts (.fieldLink RX10 28 "VatHouseModel" "isDipped" "[Z") (List.mem_of_getElem? (i := 6) (by exact rfl))) (fun _ h9 => h9) rfl dX10_dips_94 ?_
      refine lv_iload_n hx hb dX10_dips_97 rfl (lv_at hl 3 rfl) ?_
      refine lv_iconst (v := 1) hx hb dX10_dips_98 (by decide) ?_
      refine va_zast hx hb hK hP hD hS 7 6 rfl rfl (by assumption) dX10_dips_99 (fun H locs hP hD hS => ?_)
      have hP : va_P (dC, dI) vwCl (mw g h0 b i (va_up (va_up (va_up (va_up (va_up (va_up a 4 f_5) 5 f_34) 6 f_11) 7 f_35) 10 (upd (a 10) vv.toNatClampNeg (vp_nar .boolean (1 : Int32)))) 14 f_8)) _ := hP
      have hD : va_D _ (mw g h0 b i (va_up (va_up (va_up (va_up (va_up (va_up a 4 f_5) 5 f_34) 6 f_11) 7 f_35) 10 (upd (a 10) vv.toNatClampNeg (vp_nar .boolean (1 : Int32)))) 14 f_8)) := hD
      obtain ⟨f_36, ef_36⟩ : ∃ z, z = (upd (a 10) vv.toNatClampNeg (vp_nar .boolean (1 : Int32))) := ⟨_, rfl⟩
      rw [← ef_36] at hP hD
      refine lv_aload_n hx hb dX10_dips_100 rfl (lv_at hl 1 rfl) ?_
      refine va_get (D := (dC, dI)) (ci := 10) (v := .ref (b 8)) (C := RX10) (T := TX10) (N := 51) hx hb hts inw_X10_dips_10 hown hK hP 0 rfl rfl 8 (by decide) (hts (.fieldLink RX10 22 "VatHouseModel" "dips" "[I") (List.mem_of_getElem? (i := 7) (by exact rfl))) (fun _ h9 => h9) rfl dX10_dips_101 ?_
      refine lv_iload_n hx hb dX10_dips_104 rfl (lv_at hl 3 rfl) ?_
      refine lv_dup2_11 hx hb dX10_dips_105 rfl rfl ?_
      refine va_iald hx hb hK hP 5 4 rfl rfl (by assumption) dX10_dips_106 ?_
      refine lv_topi (fun z_37 ez_37 => ?_)
      have ez_37 : z_37 = (a 8) vv.toNatClampNeg := ez_37
      refine lv_iconst (v := 1) hx hb dX10_dips_107 (by decide) ?_
      refine lv_iadd hx hb dX10_dips_108 ?_
      refine lv_topi (fun z_38 ez_38 => ?_)
      refine va_iast hx hb hK hP hD hS 5 4 rfl rfl (by assumption) dX10_dips_109 (fun H locs hP hD hS => ?_)
      have hP : va_P (dC, dI) vwCl (mw g h0 b i (va_up (va_up (va_up (va_up (va_up (va_up (va_up a 4 f_5) 5 f_34) 6 f_11) 7 f_35) 8 (upd (a 8) vv.toNatClampNeg z_38)) 10 f_36) 14 f_8)) _ := hP
      have hD : va_D _ (mw g h0 b i (va_up (va_up (va_up (va_up (va_up (va_up (va_up a 4 f_5) 5 f_34) 6 f_11) 7 f_35) 8 (upd (a 8) vv.toNatClampNeg z_38)) 10 f_36) 14 f_8)) := hD
      obtain ⟨f_39, ef_39⟩ : ∃ z, z = (upd (a 8) vv.toNatClampNeg z_38) := ⟨_, rfl⟩
      rw [← ef_39] at hP hD
      refine lv_aload_n hx hb dX10_dips_110 rfl (lv_at hl 1 rfl) ?_
      refine va_get (D := (dC, dI)) (ci := 10) (v := .ref (b 9)) (C := RX10) (T := TX10) (N := 51) hx hb hts inw_X10_dips_10 hown hK hP 0 rfl rfl 9 (by decide) (hts (.fieldLink RX10 25 "VatHouseModel" "dyed" "[I") (List.mem_of_getElem? (i := 8) (by exact rfl))) (fun _ h9 => h9) rfl dX10_dips_111 ?_
      refine lv_iload_n hx hb dX10_dips_114 rfl (lv_at hl 3 rfl) ?_
      refine lv_dup2_11 hx hb dX10_dips_115 rfl rfl ?_
      refine va_iald hx hb hK hP 6 5 rfl rfl (by assumption) dX10_dips_116 ?_
      refine lv_topi (fun z_40 ez_40 => ?_)
      have ez_40 : z_40 = (a 9) vv.toNatClampNeg := ez_40
      refine lv_iconst (v := 1) hx hb dX10_dips_117 (by decide) ?_
      refine lv_iload_n hx hb dX10_dips_118 rfl (lv_at hl 2 rfl) ?_
      refine lv_ishl hx hb dX10_dips_119 ?_
      refine lv_topi (fun z_41 ez_41 => ?_)
      refine lv_ior hx hb dX10_dips_120 ?_
      refine lv_topi (fun z_42 ez_42 => ?_)
      refine va_iast hx hb hK hP hD hS 6 5 rfl rfl (by assumption) dX10_dips_121 (fun H locs hP hD hS => ?_)
      have hP : va_P (dC, dI) vwCl (mw g h0 b i (va_up (va_up (va_up (va_up (va_up (va_up (va_up (va_up a 4 f_5) 5 f_34) 6 f_11) 7 f_35) 8 f_39) 9 (upd (a 9) vv.toNatClampNeg z_42)) 10 f_36) 14 f_8)) _ := hP
      have hD : va_D _ (mw g h0 b i (va_up (va_up (va_up (va_up (va_up (va_up (va_up (va_up a 4 f_5) 5 f_34) 6 f_11) 7 f_35) 8 f_39) 9 (upd (a 9) vv.toNatClampNeg z_42)) 10 f_36) 14 f_8)) := hD
      obtain ⟨f_43, ef_43⟩ : ∃ z, z = (upd (a 9) vv.toNatClampNeg z_42) := ⟨_, rfl⟩
      rw [← ef_43] at hP hD
      refine lv_aload_n hx hb dX10_dips_122 rfl (lv_at hl 1 rfl) ?_
      refine va_get (D := (dC, dI)) (ci := 10) (v := .ref (b 17)) (C := RX10) (T := TX10) (N := 51) hx hb hts inw_X10_dips_10 hown hK hP 0 rfl rfl 17 (by decide) (hts (.fieldLink RX10 47 "VatHouseModel" "vats" "[I") (List.mem_of_getElem? (i := 9) (by exact rfl))) (fun _ h9 => h9) rfl dX10_dips_123 ?_
      refine lv_iload_n hx hb dX10_dips_126 rfl (lv_at hl 2 rfl) ?_
      refine lv_dup2_11 hx hb dX10_dips_127 rfl rfl ?_
      refine va_iald hx hb hK hP 13 12 rfl rfl (by assumption) dX10_dips_128 ?_
      refine lv_topi (fun z_44 ez_44 => ?_)
      have ez_44 : z_44 = (a 17) ck.toNatClampNeg := ez_44
      refine lv_iconst (v := 1) hx hb dX10_dips_129 (by decide) ?_
      refine lv_iload_n hx hb dX10_dips_130 rfl (lv_at hl 3 rfl) ?_
      refine lv_ishl hx hb dX10_dips_131 ?_
      refine lv_topi (fun z_45 ez_45 => ?_)
      refine lv_ior hx hb dX10_dips_132 ?_
      refine lv_topi (fun z_46 ez_46 => ?_)
      refine va_iast hx hb hK hP hD hS 13 12 rfl rfl (by assumption) dX10_dips_133 (fun H locs hP hD hS => ?_)
      have hP : va_P (dC, dI) vwCl (mw g h0 b i (va_up (va_up (va_up (va_up (va_up (va_up (va_up (va_up (va_up a 4 f_5) 5 f_34) 6 f_11) 7 f_35) 8 f_39) 9 f_43) 10 f_36) 14 f_8) 17 (upd (a 17) ck.toNatClampNeg z_46))) _ := hP
      have hD : va_D _ (mw g h0 b i (va_up (va_up (va_up (va_up (va_up (va_up (va_up (va_up (va_up a 4 f_5) 5 f_34) 6 f_11) 7 f_35) 8 f_39) 9 f_43) 10 f_36) 14 f_8) 17 (upd (a 17) ck.toNatClampNeg z_46))) := hD
      obtain ⟨f_47, ef_47⟩ : ∃ z, z = (upd (a 17) ck.toNatClampNeg z_46) := ⟨_, rfl⟩
      rw [← ef_47] at hP hD
      refine lv_aload_n hx hb dX10_dips_134 rfl (lv_at hl 1 rfl) ?_
      refine va_get (D := (dC, dI)) (ci := 10) (v := .ref (b 18)) (C := RX10) (T := TX10) (N := 51) hx hb hts inw_X10_dips_10 hown hK hP 0 rfl rfl 18 (by decide) (hts (.fieldLink RX10 50 "VatHouseModel" "often" "[I") (List.mem_of_getElem? (i := 10) (by exact rfl))) (fun _ h9 => h9) rfl dX10_dips_135 ?_
      refine lv_iload_n hx hb dX10_dips_138 rfl (lv_at hl 2 rfl) ?_
      refine lv_dup2_11 hx hb dX10_dips_139 rfl rfl ?_
      refine va_iald hx hb hK hP 14 13 rfl rfl (by assumption) dX10_dips_140 ?_
      refine lv_topi (fun z_48 ez_48 => ?_)
      have ez_48 : z_48 = (a 18) ck.toNatClampNeg := ez_48
      refine lv_iconst (v := 1) hx hb dX10_dips_141 (by decide) ?_
      refine lv_iadd hx hb dX10_dips_142 ?_
      refine lv_topi (fun z_49 ez_49 => ?_)
      refine va_iast hx hb hK hP hD hS 14 13 rfl rfl (by assumption) dX10_dips_143 (fun H locs hP hD hS => ?_)
      have hP : va_P (dC, dI) vwCl (mw g h0 b i (va_up (va_up (va_up (va_up (va_up (va_up (va_up (va_up (va_up (va_up a 4 f_5) 5 f_34) 6 f_11) 7 f_35) 8 f_39) 9 f_43) 10 f_36) 14 f_8) 17 f_47) 18 (upd (a 18) ck.toNatClampNeg z_49))) _ := hP
      have hD : va_D _ (mw g h0 b i (va_up (va_up (va_up (va_up (va_up (va_up (va_up (va_up (va_up (va_up a 4 f_5) 5 f_34) 6 f_11) 7 f_35) 8 f_39) 9 f_43) 10 f_36) 14 f_8) 17 f_47) 18 (upd (a 18) ck.toNatClampNeg z_49))) := hD
      obtain ⟨f_50, ef_50⟩ : ∃ z, z = (upd (a 18) ck.toNatClampNeg z_49) := ⟨_, rfl⟩
      rw [← ef_50] at hP hD
      refine lv_iload hx hb dX10_dips_144 (lv_at hl 0 rfl) ?_
      exact M_i hx hb hr hlocks (f_5, f_34, f_11, f_35, f_39, f_43, f_36, f_8, f_47, f_50) hP hD hK hS ⟨⟨_, rfl, ez_2⟩, ⟨(by have c_139 := c_13; (try simp only [ez_2, ez_3, ez_4, ef_5, ez_6, ez_7, ef_8, ez_9, ez_10, ef_11, ez_12, ez_14, ez_15, ef_16, ez_17, ef_34, ef_35, ef_36, ez_37, ez_38, ef_39, ez_40, ez_41, ez_42, ef_43, ez_44, ez_45, ez_46, ef_47, ez_48, ez_49, ef_50, upd_at, upd_upd, upd_id] at c_139); have c_189 := c_18; (try simp only [ez_2, ez_3, ez_4, ef_5, ez_6, ez_7, ef_8, ez_9, ez_10, ef_11, ez_12, ez_14, ez_15, ef_16, ez_17, ef_34, ef_35, ef_36, ez_37, ez_38, ef_39, ez_40, ez_41, ez_42, ef_43, ez_44, ez_45, ez_46, ef_47, ez_48, ez_49, ef_50, upd_at, upd_upd, upd_id] at c_189); simp only [ez_2, ez_3, ez_4, ef_5, ez_6, ez_7, ef_8, ez_9, ez_10, ef_11, ez_12, ez_14, ez_15, ef_16, ez_17, ef_34, ef_35, ef_36, ez_37, ez_38, ef_39, ez_40, ez_41, ez_42, ef_43, ez_44, ez_45, ez_46, ef_47, ez_48, ez_49, ef_50, upd_at, upd_upd, upd_id, if_pos c_139, if_neg c_189, upd_upd, upd_id]), (by have c_139 := c_13; (try simp only [ez_2, ez_3, ez_4, ef_5, ez_6, ez_7, ef_8, ez_9, ez_10, ef_11, ez_12, ez_14, ez_15, ef_16, ez_17, ef_34, ef_35, ef_36, ez_37, ez_38, ef_39, ez_40, ez_41, ez_42, ef_43, ez_44, ez_45, ez_46, ef_47, ez_48, ez_49, ef_50, upd_at, upd_upd, upd_id] at c_139); have c_189 := c_18; (try simp only [ez_2, ez_3, ez_4, ef_5, ez_6, ez_7, ef_8, ez_9, ez_10, ef_11, ez_12, ez_14, ez_15, ef_16, ez_17, ef_34, ef_35, ef_36, ez_37, ez_38, ef_39, ez_40, ez_41, ez_42, ef_43, ez_44, ez_45, ez_46, ef_47, ez_48, ez_49, ef_50, upd_at, upd_upd, upd_id] at c_189); simp only [skF, ez_2, ez_3, ez_4, ef_5, ez_6, ez_7, ef_8, ez_9, ez_10, ef_11, ez_12, ez_14, ez_15, ef_16, ez_17, ef_34, ef_35, ef_36, ez_37, ez_38, ef_39, ez_40, ez_41, ez_42, ef_43, ez_44, ez_45, ez_46, ef_47, ez_48, ez_49, ef_50, upd_at, upd_upd, upd_id, if_pos c_139, if_neg c_189, upd_upd, upd_id]), (by have c_139 := c_13; (try simp only [ez_2, ez_3, ez_4, ef_5, ez_6, ez_7, ef_8, ez_9, ez_10, ef_11, ez_12, ez_14, ez_15, ef_16, ez_17, ef_34, ef_35, ef_36, ez_37, ez_38, ef_39, ez_40, ez_41, ez_42, ef_43, ez_44, ez_45, ez_46, ef_47, ez_48, ez_49, ef_50, upd_at, upd_upd, upd_id] at c_139); have c_189 := c_18; (try simp only [ez_2, ez_3, ez_4, ef_5, ez_6, ez_7, ef_8, ez_9, ez_10, ef_11, ez_12, ez_14, ez_15, ef_16, ez_17, ef_34, ef_35, ef_36, ez_37, ez_38, ef_39, ez_40, ez_41, ez_42, ef_43, ez_44, ez_45, ez_46, ef_47, ez_48, ez_49, ef_50, upd_at, upd_upd, upd_id] at c_189); simp only [ez_2, ez_3, ez_4, ef_5, ez_6, ez_7, ef_8, ez_9, ez_10, ef_11, ez_12, ez_14, ez_15, ef_16, ez_17, ef_34, ef_35, ef_36, ez_37, ez_38, ef_39, ez_40, ez_41, ez_42, ef_43, ez_44, ez_45, ez_46, ef_47, ez_48, ez_49, ef_50, upd_at, upd_upd, upd_id, if_pos c_139, if_neg c_189, upd_upd, upd_id]), (by have c_139 := c_13; (try simp only [ez_2, ez_3, ez_4, ef_5, ez_6, ez_7, ef_8, ez_9, ez_10, ef_11, ez_12, ez_14, ez_15, ef_16, ez_17, ef_34, ef_35, ef_36, ez_37, ez_38, ef_39, ez_40, ez_41, ez_42, ef_43, ez_44, ez_45, ez_46, ef_47, ez_48, ez_49, ef_50, upd_at, upd_upd, upd_id] at c_139); have c_189 := c_18; (try simp only [ez_2, ez_3, ez_4, ef_5, ez_6, ez_7, ef_8, ez_9, ez_10, ef_11, ez_12, ez_14, ez_15, ef_16, ez_17, ef_34, ef_35, ef_36, ez_37, ez_38, ef_39, ez_40, ez_41, ez_42, ef_43, ez_44, ez_45, ez_46, ef_47, ez_48, ez_49, ef_50, upd_at, upd_upd, upd_id] at c_189); simp only [skS, ez_2, ez_3, ez_4, ef_5, ez_6, ez_7, ef_8, ez_9, ez_10, ef_11, ez_12, ez_14, ez_15, ef_16, ez_17, ef_34, ef_35, ef_36, ez_37, ez_38, ef_39, ez_40, ez_41, ez_42, ef_43, ez_44, ez_45, ez_46, ef_47, ez_48, ez_49, ef_50, upd_at, upd_upd, upd_id, if_pos c_139, if_neg c_189, upd_upd, upd_id]), (by have c_139 := c_13; (try simp only [ez_2, ez_3, ez_4, ef_5, ez_6, ez_7, ef_8, ez_9, ez_10, ef_11, ez_12, ez_14, ez_15, ef_16, ez_17, ef_34, ef_35, ef_36, ez_37, ez_38, ef_39, ez_40, ez_41, ez_42, ef_43, ez_44, ez_45, ez_46, ef_47, ez_48, ez_49, ef_50, upd_at, upd_upd, upd_id] at c_139); have c_189 := c_18; (try simp only [ez_2, ez_3, ez_4, ef_5, ez_6, ez_7, ef_8, ez_9, ez_10, ef_11, ez_12, ez_14, ez_15, ef_16, ez_17, ef_34, ef_35, ef_36, ez_37, ez_38, ef_39, ez_40, ez_41, ez_42, ef_43, ez_44, ez_45, ez_46, ef_47, ez_48, ez_49, ef_50, upd_at, upd_upd, upd_id] at c_189); simp only [ez_2, ez_3, ez_4, ef_5, ez_6, ez_7, ef_8, ez_9, ez_10, ef_11, ez_12, ez_14, ez_15, ef_16, ez_17, ef_34, ef_35, ef_36, ez_37, ez_38, ef_39, ez_40, ez_41, ez_42, ef_43, ez_44, ez_45, ez_46, ef_47, ez_48, ez_49, ef_50, upd_at, upd_upd, upd_id, if_pos c_139, if_neg c_189, upd_upd, upd_id]), (by have c_139 := c_13; (try simp only [ez_2, ez_3, ez_4, ef_5, ez_6, ez_7, ef_8, ez_9, ez_10, ef_11, ez_12, ez_14, ez_15, ef_16, ez_17, ef_34, ef_35, ef_36, ez_37, ez_38, ef_39, ez_40, ez_41, ez_42, ef_43, ez_44, ez_45, ez_46, ef_47, ez_48, ez_49, ef_50, upd_at, upd_upd, upd_id] at c_139); have c_189 := c_18; (try simp only [ez_2, ez_3, ez_4, ef_5, ez_6, ez_7, ef_8, ez_9, ez_10, ef_11, ez_12, ez_14, ez_15, ef_16, ez_17, ef_34, ef_35, ef_36, ez_37, ez_38, ef_39, ez_40, ez_41, ez_42, ef_43, ez_44, ez_45, ez_46, ef_47, ez_48, ez_49, ef_50, upd_at, upd_upd, upd_id] at c_189); simp only [ez_2, ez_3, ez_4, ef_5, ez_6, ez_7, ef_8, ez_9, ez_10, ef_11, ez_12, ez_14, ez_15, ef_16, ez_17, ef_34, ef_35, ef_36, ez_37, ez_38, ef_39, ez_40, ez_41, ez_42, ef_43, ez_44, ez_45, ez_46, ef_47, ez_48, ez_49, ef_50, upd_at, upd_upd, upd_id, if_pos c_139, if_neg c_189, upd_upd, upd_id]), (by have c_139 := c_13; (try simp only [ez_2, ez_3, ez_4, ef_5, ez_6, ez_7, ef_8, ez_9, ez_10, ef_11, ez_12, ez_14, ez_15, ef_16, ez_17, ef_34, ef_35, ef_36, ez_37, ez_38, ef_39, ez_40, ez_41, ez_42, ef_43, ez_44, ez_45, ez_46, ef_47, ez_48, ez_49, ef_50, upd_at, upd_upd, upd_id] at c_139); have c_189 := c_18; (try simp only [ez_2, ez_3, ez_4, ef_5, ez_6, ez_7, ef_8, ez_9, ez_10, ef_11, ez_12, ez_14, ez_15, ef_16, ez_17, ef_34, ef_35, ef_36, ez_37, ez_38, ef_39, ez_40, ez_41, ez_42, ef_43, ez_44, ez_45, ez_46, ef_47, ez_48, ez_49, ef_50, upd_at, upd_upd, upd_id] at c_189); simp only [nar_1, ez_2, ez_3, ez_4, ef_5, ez_6, ez_7, ef_8, ez_9, ez_10, ef_11, ez_12, ez_14, ez_15, ef_16, ez_17, ef_34, ef_35, ef_36, ez_37, ez_38, ef_39, ez_40, ez_41, ez_42, ef_43, ez_44, ez_45, ez_46, ef_47, ez_48, ez_49, ef_50, upd_at, upd_upd, upd_id, if_pos c_139, if_neg c_189, upd_upd, upd_id]), (by have c_139 := c_13; (try simp only [ez_2, ez_3, ez_4, ef_5, ez_6, ez_7, ef_8, ez_9, ez_10, ef_11, ez_12, ez_14, ez_15, ef_16, ez_17, ef_34, ef_35, ef_36, ez_37, ez_38, ef_39, ez_40, ez_41, ez_42, ef_43, ez_44, ez_45, ez_46, ef_47, ez_48, ez_49, ef_50, upd_at, upd_upd, upd_id] at c_139); have c_189 := c_18; (try simp only [ez_2, ez_3, ez_4, ef_5, ez_6, ez_7, ef_8, ez_9, ez_10, ef_11, ez_12, ez_14, ez_15, ef_16, ez_17, ef_34, ef_35, ef_36, ez_37, ez_38, ef_39, ez_40, ez_41, ez_42, ef_43, ez_44, ez_45, ez_46, ef_47, ez_48, ez_49, ef_50, upd_at, upd_upd, upd_id] at c_189); simp only [ez_2, ez_3, ez_4, ef_5, ez_6, ez_7, ef_8, ez_9, ez_10, ef_11, ez_12, ez_14, ez_15, ef_16, ez_17, ef_34, ef_35, ef_36, ez_37, ez_38, ef_39, ez_40, ez_41, ez_42, ef_43, ez_44, ez_45, ez_46, ef_47, ez_48, ez_49, ef_50, upd_at, upd_upd, upd_id, if_pos c_139, if_neg c_189, upd_upd, upd_id]), (by have c_139 := c_13; (try simp only [ez_2, ez_3, ez_4, ef_5, ez_6, ez_7, ef_8, ez_9, ez_10, ef_11, ez_12, ez_14, ez_15, ef_16, ez_17, ef_34, ef_35, ef_36, ez_37, ez_38, ef_39, ez_40, ez_41, ez_42, ef_43, ez_44, ez_45, ez_46, ef_47, ez_48, ez_49, ef_50, upd_at, upd_upd, upd_id] at c_139); have c_189 := c_18; (try simp only [ez_2, ez_3, ez_4, ef_5, ez_6, ez_7, ef_8, ez_9, ez_10, ef_11, ez_12, ez_14, ez_15, ef_16, ez_17, ef_34, ef_35, ef_36, ez_37, ez_38, ef_39, ez_40, ez_41, ez_42, ef_43, ez_44, ez_45, ez_46, ef_47, ez_48, ez_49, ef_50, upd_at, upd_upd, upd_id] at c_189); simp only [ez_2, ez_3, ez_4, ef_5, ez_6, ez_7, ef_8, ez_9, ez_10, ef_11, ez_12, ez_14, ez_15, ef_16, ez_17, ef_34, ef_35, ef_36, ez_37, ez_38, ef_39, ez_40, ez_41, ez_42, ef_43, ez_44, ez_45, ez_46, ef_47, ez_48, ez_49, ef_50, upd_at, upd_upd, upd_id, if_pos c_139, if_neg c_189, upd_upd, upd_id]), (by have c_139 := c_13; (try simp only [ez_2, ez_3, ez_4, ef_5, ez_6, ez_7, ef_8, ez_9, ez_10, ef_11, ez_12, ez_14, ez_15, ef_16, ez_17, ef_34, ef_35, ef_36, ez_37, ez_38, ef_39, ez_40, ez_41, ez_42, ef_43, ez_44, ez_45, ez_46, ef_47, ez_48, ez_49, ef_50, upd_at, upd_upd, upd_id] at c_139); have c_189 := c_18; (try simp only [ez_2, ez_3, ez_4, ef_5, ez_6, ez_7, ef_8, ez_9, ez_10, ef_11, ez_12, ez_14, ez_15, ef_16, ez_17, ef_34, ef_35, ef_36, ez_37, ez_38, ef_39, ez_40, ez_41, ez_42, ef_43, ez_44, ez_45, ez_46, ef_47, ez_48, ez_49, ef_50, upd_at, upd_upd, upd_id] at c_189); simp only [ez_2, ez_3, ez_4, ef_5, ez_6, ez_7, ef_8, ez_9, ez_10, ef_11, ez_12, ez_14, ez_15, ef_16, ez_17, ef_34, ef_35, ef_36, ez_37, ez_38, ef_39, ez_40, ez_41, ez_42, ef_43, ez_44, ez_45, ez_46, ef_47, ez_48, ez_49, ef_50, upd_at, upd_upd, upd_id, if_pos c_139, if_neg c_189, upd_upd, upd_id])⟩⟩ (Nat.le_of_ble_eq_true rfl) (Nat.le_of_ble_eq_true rfl) dX10_dips_146
  · have nc_13 := nle_i c_13
    have lc_13 : (60 : Int32).toInt = 60 := by decide
    refine lv_aload_n hx hb dX10_dips_52 rfl (lv_at hl 1 rfl) ?_
    refine va_get (D := (dC, dI)) (ci := 10) (v := .ref (b 7)) (C := RX10) (T := TX10) (N := 51) hx hb hts inw_X10_dips_10 hown hK hP 0 rfl rfl 7 (by decide) (hts (.fieldLink RX10 19 "VatHouseModel" "state" "[I") (List.mem_of_getElem? (i := 4) (by exact rfl))) (fun _ h9 => h9) rfl dX10_dips_53 ?_
    refine lv_iload_n hx hb dX10_dips_56 rfl (lv_at hl 3 rfl) ?_
    refine lv_iconst (v := 1) hx hb dX10_dips_57 (by decide) ?_
    refine va_iast hx hb hK hP hD hS 4 3 rfl rfl (by assumption) dX10_dips_58 (fun H locs hP hD hS => ?_)
    have hP : va_P (dC, dI) vwCl (mw g h0 b i (va_up (va_up (va_up (va_up a 4 f_5) 6 f_11) 7 (upd (a 7) vv.toNatClampNeg (1 : Int32))) 14 f_8)) _ := hP
    have hD : va_D _ (mw g h0 b i (va_up (va_up (va_up (va_up a 4 f_5) 6 f_11) 7 (upd (a 7) vv.toNatClampNeg (1 : Int32))) 14 f_8)) := hD
    obtain ⟨f_51, ef_51⟩ : ∃ z, z = (upd (a 7) vv.toNatClampNeg (1 : Int32)) := ⟨_, rfl⟩
    rw [← ef_51] at hP hD
    refine lv_aload_n hx hb dX10_dips_59 rfl (lv_at hl 1 rfl) ?_
    refine va_get (D := (dC, dI)) (ci := 10) (v := .ref (b 5)) (C := RX10) (T := TX10) (N := 51) hx hb hts inw_X10_dips_10 hown hK hP 0 rfl rfl 5 (by decide) (hts (.fieldLink RX10 13 "VatHouseModel" "food" "[I") (List.mem_of_getElem? (i := 5) (by exact rfl))) (fun _ h9 => h9) rfl dX10_dips_60 ?_
    refine lv_iload_n hx hb dX10_dips_63 rfl (lv_at hl 3 rfl) ?_
    refine lv_dup2_11 hx hb dX10_dips_64 rfl rfl ?_
    refine va_iald hx hb hK hP 2 1 rfl rfl (by assumption) dX10_dips_65 ?_
    refine lv_topi (fun z_52 ez_52 => ?_)
    have ez_52 : z_52 = (a 5) vv.toNatClampNeg := ez_52
    refine lv_iload_n hx hb dX10_dips_66 rfl (lv_at hl 4 rfl) ?_
    refine lv_isub hx hb dX10_dips_67 ?_
    refine lv_topi (fun z_53 ez_53 => ?_)
    refine va_iast hx hb hK hP hD hS 2 1 rfl rfl (by assumption) dX10_dips_68 (fun H locs hP hD hS => ?_)
    have hP : va_P (dC, dI) vwCl (mw g h0 b i (va_up (va_up (va_up (va_up (va_up a 4 f_5) 5 (upd (a 5) vv.toNatClampNeg z_53)) 6 f_11) 7 f_51) 14 f_8)) _ := hP
    have hD : va_D _ (mw g h0 b i (va_up (va_up (va_up (va_up (va_up a 4 f_5) 5 (upd (a 5) vv.toNatClampNeg z_53)) 6 f_11) 7 f_51) 14 f_8)) := hD
    obtain ⟨f_54, ef_54⟩ : ∃ z, z = (upd (a 5) vv.toNatClampNeg z_53) := ⟨_, rfl⟩
    rw [← ef_54] at hP hD
    refine lv_aload_n hx hb dX10_dips_69 rfl (lv_at hl 1 rfl) ?_
    refine va_get (D := (dC, dI)) (ci := 10) (v := .ref (b 5)) (C := RX10) (T := TX10) (N := 51) hx hb hts inw_X10_dips_10 hown hK hP 0 rfl rfl 5 (by decide) (hts (.fieldLink RX10 13 "VatHouseModel" "food" "[I") (List.mem_of_getElem? (i := 5) (by exact rfl))) (fun _ h9 => h9) rfl dX10_dips_70 ?_
    refine lv_iload_n hx hb dX10_dips_73 rfl (lv_at hl 3 rfl) ?_
    refine va_iald hx hb hK hP 2 1 rfl rfl (by assumption) dX10_dips_74 ?_
    refine lv_topi (fun z_55 ez_55 => ?_)
    have ez_55 : z_55 = f_54 vv.toNatClampNeg := ez_55
    refine lv_iconst (v := 1) hx hb dX10_dips_75 (by decide) ?_
    refine lv_icmp_ge (tgt := 93) hx hb dX10_dips_76 (by decide) (fun c_56 => ?_) (fun c_56 => ?_)
    · have nc_56 := le_i c_56
      have lc_56 : (1 : Int32).toInt = 1 := by decide
      refine lv_aload_n hx hb dX10_dips_93 rfl (lv_at hl 1 rfl) ?_
      refine va_get (D := (dC, dI)) (ci := 10) (v := .ref (b 10)) (C := RX10) (T := TX10) (N := 51) hx hb hts inw_X10_dips_10 hown hK hP 0 rfl rfl 10 (by decide) (hts (.fieldLink RX10 28 "VatHouseModel" "isDipped" "[Z") (List.mem_of_getElem? (i := 6) (by exact rfl))) (fun _ h9 => h9) rfl dX10_dips_94 ?_
      refine lv_iload_n hx hb dX10_dips_97 rfl (lv_at hl 3 rfl) ?_
      refine lv_iconst (v := 1) hx hb dX10_dips_98 (by decide) ?_
      refine va_zast hx hb hK hP hD hS 7 6 rfl rfl (by assumption) dX10_dips_99 (fun H locs hP hD hS => ?_)
      have hP : va_P (dC, dI) vwCl (mw g h0 b i (va_up (va_up (va_up (va_up (va_up (va_up a 4 f_5) 5 f_54) 6 f_11) 7 f_51) 10 (upd (a 10) vv.toNatClampNeg (vp_nar .boolean (1 : Int32)))) 14 f_8)) _ := hP
      have hD : va_D _ (mw g h0 b i (va_up (va_up (va_up (va_up (va_up (va_up a 4 f_5) 5 f_54) 6 f_11) 7 f_51) 10 (upd (a 10) vv.toNatClampNeg (vp_nar .boolean (1 : Int32)))) 14 f_8)) := hD
      obtain ⟨f_57, ef_57⟩ : ∃ z, z = (upd (a 10) vv.toNatClampNeg (vp_nar .boolean (1 : Int32))) := ⟨_, rfl⟩
      rw [← ef_57] at hP hD
      refine lv_aload_n hx hb dX10_dips_100 rfl (lv_at hl 1 rfl) ?_
      refine va_get (D := (dC, dI)) (ci := 10) (v := .ref (b 8)) (C := RX10) (T := TX10) (N := 51) hx hb hts inw_X10_dips_10 hown hK hP 0 rfl rfl 8 (by decide) (hts (.fieldLink RX10 22 "VatHouseModel" "dips" "[I") (List.mem_of_getElem? (i := 7) (by exact rfl))) (fun _ h9 => h9) rfl dX10_dips_101 ?_
      refine lv_iload_n hx hb dX10_dips_104 rfl (lv_at hl 3 rfl) ?_
      refine lv_dup2_11 hx hb dX10_dips_105 rfl rfl ?_
      refine va_iald hx hb hK hP 5 4 rfl rfl (by assumption) dX10_dips_106 ?_
      refine lv_topi (fun z_58 ez_58 => ?_)
      have ez_58 : z_58 = (a 8) vv.toNatClampNeg := ez_58
      refine lv_iconst (v := 1) hx hb dX10_dips_107 (by decide) ?_
      refine lv_iadd hx hb dX10_dips_108 ?_
      refine lv_topi (fun z_59 ez_59 => ?_)
      refine va_iast hx hb hK hP hD hS 5 4 rfl rfl (by assumption) dX10_dips_109 (fun H locs hP hD hS => ?_)
      have hP : va_P (dC, dI) vwCl (mw g h0 b i (va_up (va_up (va_up (va_up (va_up (va_up (va_up a 4 f_5) 5 f_54) 6 f_11) 7 f_51) 8 (upd (a 8) vv.toNatClampNeg z_59)) 10 f_57) 14 f_8)) _ := hP
      have hD : va_D _ (mw g h0 b i (va_up (va_up (va_up (va_up (va_up (va_up (va_up a 4 f_5) 5 f_54) 6 f_11) 7 f_51) 8 (upd (a 8) vv.toNatClampNeg z_59)) 10 f_57) 14 f_8)) := hD
      obtain ⟨f_60, ef_60⟩ : ∃ z, z = (upd (a 8) vv.toNatClampNeg z_59) := ⟨_, rfl⟩
      rw [← ef_60] at hP hD
      refine lv_aload_n hx hb dX10_dips_110 rfl (lv_at hl 1 rfl) ?_
      refine va_get (D := (dC, dI)) (ci := 10) (v := .ref (b 9)) (C := RX10) (T := TX10) (N := 51) hx hb hts inw_X10_dips_10 hown hK hP 0 rfl rfl 9 (by decide) (hts (.fieldLink RX10 25 "VatHouseModel" "dyed" "[I") (List.mem_of_getElem? (i := 8) (by exact rfl))) (fun _ h9 => h9) rfl dX10_dips_111 ?_
      refine lv_iload_n hx hb dX10_dips_114 rfl (lv_at hl 3 rfl) ?_
      refine lv_dup2_11 hx hb dX10_dips_115 rfl rfl ?_
      refine va_iald hx hb hK hP 6 5 rfl rfl (by assumption) dX10_dips_116 ?_
      refine lv_topi (fun z_61 ez_61 => ?_)
      have ez_61 : z_61 = (a 9) vv.toNatClampNeg := ez_61
      refine lv_iconst (v := 1) hx hb dX10_dips_117 (by decide) ?_
      refine lv_iload_n hx hb dX10_dips_118 rfl (lv_at hl 2 rfl) ?_
      refine lv_ishl hx hb dX10_dips_119 ?_
      refine lv_topi (fun z_62 ez_62 => ?_)
      refine lv_ior hx hb dX10_dips_120 ?_
      refine lv_topi (fun z_63 ez_63 => ?_)
      refine va_iast hx hb hK hP hD hS 6 5 rfl rfl (by assumption) dX10_dips_121 (fun H locs hP hD hS => ?_)
      have hP : va_P (dC, dI) vwCl (mw g h0 b i (va_up (va_up (va_up (va_up (va_up (va_up (va_up (va_up a 4 f_5) 5 f_54) 6 f_11) 7 f_51) 8 f_60) 9 (upd (a 9) vv.toNatClampNeg z_63)) 10 f_57) 14 f_8)) _ := hP
      have hD : va_D _ (mw g h0 b i (va_up (va_up (va_up (va_up (va_up (va_up (va_up (va_up a 4 f_5) 5 f_54) 6 f_11) 7 f_51) 8 f_60) 9 (upd (a 9) vv.toNatClampNeg z_63)) 10 f_57) 14 f_8)) := hD
      obtain ⟨f_64, ef_64⟩ : ∃ z, z = (upd (a 9) vv.toNatClampNeg z_63) := ⟨_, rfl⟩
      rw [← ef_64] at hP hD
      refine lv_aload_n hx hb dX10_dips_122 rfl (lv_at hl 1 rfl) ?_
      refine va_get (D := (dC, dI)) (ci := 10) (v := .ref (b 17)) (C := RX10) (T := TX10) (N := 51) hx hb hts inw_X10_dips_10 hown hK hP 0 rfl rfl 17 (by decide) (hts (.fieldLink RX10 47 "VatHouseModel" "vats" "[I") (List.mem_of_getElem? (i := 9) (by exact rfl))) (fun _ h9 => h9) rfl dX10_dips_123 ?_
      refine lv_iload_n hx hb dX10_dips_126 rfl (lv_at hl 2 rfl) ?_
      refine lv_dup2_11 hx hb dX10_dips_127 rfl rfl ?_
      refine va_iald hx hb hK hP 13 12 rfl rfl (by assumption) dX10_dips_128 ?_
      refine lv_topi (fun z_65 ez_65 => ?_)
      have ez_65 : z_65 = (a 17) ck.toNatClampNeg := ez_65
      refine lv_iconst (v := 1) hx hb dX10_dips_129 (by decide) ?_
      refine lv_iload_n hx hb dX10_dips_130 rfl (lv_at hl 3 rfl) ?_
      refine lv_ishl hx hb dX10_dips_131 ?_
      refine lv_topi (fun z_66 ez_66 => ?_)
      refine lv_ior hx hb dX10_dips_132 ?_
      refine lv_topi (fun z_67 ez_67 => ?_)
      refine va_iast hx hb hK hP hD hS 13 12 rfl rfl (by assumption) dX10_dips_133 (fun H locs hP hD hS => ?_)
      have hP : va_P (dC, dI) vwCl (mw g h0 b i (va_up (va_up (va_up (va_up (va_up (va_up (va_up (va_up (va_up a 4 f_5) 5 f_54) 6 f_11) 7 f_51) 8 f_60) 9 f_64) 10 f_57) 14 f_8) 17 (upd (a 17) ck.toNatClampNeg z_67))) _ := hP
      have hD : va_D _ (mw g h0 b i (va_up (va_up (va_up (va_up (va_up (va_up (va_up (va_up (va_up a 4 f_5) 5 f_54) 6 f_11) 7 f_51) 8 f_60) 9 f_64) 10 f_57) 14 f_8) 17 (upd (a 17) ck.toNatClampNeg z_67))) := hD
      obtain ⟨f_68, ef_68⟩ : ∃ z, z = (upd (a 17) ck.toNatClampNeg z_67) := ⟨_, rfl⟩
      rw [← ef_68] at hP hD
      refine lv_aload_n hx hb dX10_dips_134 rfl (lv_at hl 1 rfl) ?_
      refine va_get (D := (dC, dI)) (ci := 10) (v := .ref (b 18)) (C := RX10) (T := TX10) (N := 51) hx hb hts inw_X10_dips_10 hown hK hP 0 rfl rfl 18 (by decide) (hts (.fieldLink RX10 50 "VatHouseModel" "often" "[I") (List.mem_of_getElem? (i := 10) (by exact rfl))) (fun _ h9 => h9) rfl dX10_dips_135 ?_
      refine lv_iload_n hx hb dX10_dips_138 rfl (lv_at hl 2 rfl) ?_
      refine lv_dup2_11 hx hb dX10_dips_139 rfl rfl ?_
      refine va_iald hx hb hK hP 14 13 rfl rfl (by assumption) dX10_dips_140 ?_
      refine lv_topi (fun z_69 ez_69 => ?_)
      have ez_69 : z_69 = (a 18) ck.toNatClampNeg := ez_69
      refine lv_iconst (v := 1) hx hb dX10_dips_141 (by decide) ?_
      refine lv_iadd hx hb dX10_dips_142 ?_
      refine lv_topi (fun z_70 ez_70 => ?_)
      refine va_iast hx hb hK hP hD hS 14 13 rfl rfl (by assumption) dX10_dips_143 (fun H locs hP hD hS => ?_)
      have hP : va_P (dC, dI) vwCl (mw g h0 b i (va_up (va_up (va_up (va_up (va_up (va_up (va_up (va_up (va_up (va_up a 4 f_5) 5 f_54) 6 f_11) 7 f_51) 8 f_60) 9 f_64) 10 f_57) 14 f_8) 17 f_68) 18 (upd (a 18) ck.toNatClampNeg z_70))) _ := hP
      have hD : va_D _ (mw g h0 b i (va_up (va_up (va_up (va_up (va_up (va_up (va_up (va_up (va_up (va_up a 4 f_5) 5 f_54) 6 f_11) 7 f_51) 8 f_60) 9 f_64) 10 f_57) 14 f_8) 17 f_68) 18 (upd (a 18) ck.toNatClampNeg z_70))) := hD
      obtain ⟨f_71, ef_71⟩ : ∃ z, z = (upd (a 18) ck.toNatClampNeg z_70) := ⟨_, rfl⟩
      rw [← ef_71] at hP hD
      refine lv_iload hx hb dX10_dips_144 (lv_at hl 0 rfl) ?_
      exact M_i hx hb hr hlocks (f_5, f_54, f_11, f_51, f_60, f_64, f_57, f_8, f_68, f_71) hP hD hK hS ⟨⟨_, rfl, ez_2⟩, ⟨(by have c_139 := c_13; (try simp only [ez_2, ez_3, ez_4, ef_5, ez_6, ez_7, ef_8, ez_9, ez_10, ef_11, ez_12, ef_51, ez_52, ez_53, ef_54, ez_55, ef_57, ez_58, ez_59, ef_60, ez_61, ez_62, ez_63, ef_64, ez_65, ez_66, ez_67, ef_68, ez_69, ez_70, ef_71, upd_at, upd_upd, upd_id] at c_139); have c_569 := c_56; (try simp only [ez_2, ez_3, ez_4, ef_5, ez_6, ez_7, ef_8, ez_9, ez_10, ef_11, ez_12, ef_51, ez_52, ez_53, ef_54, ez_55, ef_57, ez_58, ez_59, ef_60, ez_61, ez_62, ez_63, ef_64, ez_65, ez_66, ez_67, ef_68, ez_69, ez_70, ef_71, upd_at, upd_upd, upd_id] at c_569); simp only [ez_2, ez_3, ez_4, ef_5, ez_6, ez_7, ef_8, ez_9, ez_10, ef_11, ez_12, ef_51, ez_52, ez_53, ef_54, ez_55, ef_57, ez_58, ez_59, ef_60, ez_61, ez_62, ez_63, ef_64, ez_65, ez_66, ez_67, ef_68, ez_69, ez_70, ef_71, upd_at, upd_upd, upd_id, if_neg c_139, if_pos c_569, upd_upd, upd_id]), (by have c_139 := c_13; (try simp only [ez_2, ez_3, ez_4, ef_5, ez_6, ez_7, ef_8, ez_9, ez_10, ef_11, ez_12, ef_51, ez_52, ez_53, ef_54, ez_55, ef_57, ez_58, ez_59, ef_60, ez_61, ez_62, ez_63, ef_64, ez_65, ez_66, ez_67, ef_68, ez_69, ez_70, ef_71, upd_at, upd_upd, upd_id] at c_139); have c_569 := c_56; (try simp only [ez_2, ez_3, ez_4, ef_5, ez_6, ez_7, ef_8, ez_9, ez_10, ef_11, ez_12, ef_51, ez_52, ez_53, ef_54, ez_55, ef_57, ez_58, ez_59, ef_60, ez_61, ez_62, ez_63, ef_64, ez_65, ez_66, ez_67, ef_68, ez_69, ez_70, ef_71, upd_at, upd_upd, upd_id] at c_569); simp only [skF, ez_2, ez_3, ez_4, ef_5, ez_6, ez_7, ef_8, ez_9, ez_10, ef_11, ez_12, ef_51, ez_52, ez_53, ef_54, ez_55, ef_57, ez_58, ez_59, ef_60, ez_61, ez_62, ez_63, ef_64, ez_65, ez_66, ez_67, ef_68, ez_69, ez_70, ef_71, upd_at, upd_upd, upd_id, if_neg c_139, if_pos c_569, upd_upd, upd_id]), (by have c_139 := c_13; (try simp only [ez_2, ez_3, ez_4, ef_5, ez_6, ez_7, ef_8, ez_9, ez_10, ef_11, ez_12, ef_51, ez_52, ez_53, ef_54, ez_55, ef_57, ez_58, ez_59, ef_60, ez_61, ez_62, ez_63, ef_64, ez_65, ez_66, ez_67, ef_68, ez_69, ez_70, ef_71, upd_at, upd_upd, upd_id] at c_139); have c_569 := c_56; (try simp only [ez_2, ez_3, ez_4, ef_5, ez_6, ez_7, ef_8, ez_9, ez_10, ef_11, ez_12, ef_51, ez_52, ez_53, ef_54, ez_55, ef_57, ez_58, ez_59, ef_60, ez_61, ez_62, ez_63, ef_64, ez_65, ez_66, ez_67, ef_68, ez_69, ez_70, ef_71, upd_at, upd_upd, upd_id] at c_569); simp only [ez_2, ez_3, ez_4, ef_5, ez_6, ez_7, ef_8, ez_9, ez_10, ef_11, ez_12, ef_51, ez_52, ez_53, ef_54, ez_55, ef_57, ez_58, ez_59, ef_60, ez_61, ez_62, ez_63, ef_64, ez_65, ez_66, ez_67, ef_68, ez_69, ez_70, ef_71, upd_at, upd_upd, upd_id, if_neg c_139, if_pos c_569, upd_upd, upd_id]), (by have c_139 := c_13; (try simp only [ez_2, ez_3, ez_4, ef_5, ez_6, ez_7, ef_8, ez_9, ez_10, ef_11, ez_12, ef_51, ez_52, ez_53, ef_54, ez_55, ef_57, ez_58, ez_59, ef_60, ez_61, ez_62, ez_63, ef_64, ez_65, ez_66, ez_67, ef_68, ez_69, ez_70, ef_71, upd_at, upd_upd, upd_id] at c_139); have c_569 := c_56; (try simp only [ez_2, ez_3, ez_4, ef_5, ez_6, ez_7, ef_8, ez_9, ez_10, ef_11, ez_12, ef_51, ez_52, ez_53, ef_54, ez_55, ef_57, ez_58, ez_59, ef_60, ez_61, ez_62, ez_63, ef_64, ez_65, ez_66, ez_67, ef_68, ez_69, ez_70, ef_71, upd_at, upd_upd, upd_id] at c_569); simp only [skS, ez_2, ez_3, ez_4, ef_5, ez_6, ez_7, ef_8, ez_9, ez_10, ef_11, ez_12, ef_51, ez_52, ez_53, ef_54, ez_55, ef_57, ez_58, ez_59, ef_60, ez_61, ez_62, ez_63, ef_64, ez_65, ez_66, ez_67, ef_68, ez_69, ez_70, ef_71, upd_at, upd_upd, upd_id, if_neg c_139, if_pos c_569, upd_upd, upd_id]), (by have c_139 := c_13; (try simp only [ez_2, ez_3, ez_4, ef_5, ez_6, ez_7, ef_8, ez_9, ez_10, ef_11, ez_12, ef_51, ez_52, ez_53, ef_54, ez_55, ef_57, ez_58, ez_59, ef_60, ez_61, ez_62, ez_63, ef_64, ez_65, ez_66, ez_67, ef_68, ez_69, ez_70, ef_71, upd_at, upd_upd, upd_id] at c_139); have c_569 := c_56; (try simp only [ez_2, ez_3, ez_4, ef_5, ez_6, ez_7, ef_8, ez_9, ez_10, ef_11, ez_12, ef_51, ez_52, ez_53, ef_54, ez_55, ef_57, ez_58, ez_59, ef_60, ez_61, ez_62, ez_63, ef_64, ez_65, ez_66, ez_67, ef_68, ez_69, ez_70, ef_71, upd_at, upd_upd, upd_id] at c_569); simp only [ez_2, ez_3, ez_4, ef_5, ez_6, ez_7, ef_8, ez_9, ez_10, ef_11, ez_12, ef_51, ez_52, ez_53, ef_54, ez_55, ef_57, ez_58, ez_59, ef_60, ez_61, ez_62, ez_63, ef_64, ez_65, ez_66, ez_67, ef_68, ez_69, ez_70, ef_71, upd_at, upd_upd, upd_id, if_neg c_139, if_pos c_569, upd_upd, upd_id]), (by have c_139 := c_13; (try simp only [ez_2, ez_3, ez_4, ef_5, ez_6, ez_7, ef_8, ez_9, ez_10, ef_11, ez_12, ef_51, ez_52, ez_53, ef_54, ez_55, ef_57, ez_58, ez_59, ef_60, ez_61, ez_62, ez_63, ef_64, ez_65, ez_66, ez_67, ef_68, ez_69, ez_70, ef_71, upd_at, upd_upd, upd_id] at c_139); have c_569 := c_56; (try simp only [ez_2, ez_3, ez_4, ef_5, ez_6, ez_7, ef_8, ez_9, ez_10, ef_11, ez_12, ef_51, ez_52, ez_53, ef_54, ez_55, ef_57, ez_58, ez_59, ef_60, ez_61, ez_62, ez_63, ef_64, ez_65, ez_66, ez_67, ef_68, ez_69, ez_70, ef_71, upd_at, upd_upd, upd_id] at c_569); simp only [ez_2, ez_3, ez_4, ef_5, ez_6, ez_7, ef_8, ez_9, ez_10, ef_11, ez_12, ef_51, ez_52, ez_53, ef_54, ez_55, ef_57, ez_58, ez_59, ef_60, ez_61, ez_62, ez_63, ef_64, ez_65, ez_66, ez_67, ef_68, ez_69, ez_70, ef_71, upd_at, upd_upd, upd_id, if_neg c_139, if_pos c_569, upd_upd, upd_id]), (by have c_139 := c_13; (try simp only [ez_2, ez_3, ez_4, ef_5, ez_6, ez_7, ef_8, ez_9, ez_10, ef_11, ez_12, ef_51, ez_52, ez_53, ef_54, ez_55, ef_57, ez_58, ez_59, ef_60, ez_61, ez_62, ez_63, ef_64, ez_65, ez_66, ez_67, ef_68, ez_69, ez_70, ef_71, upd_at, upd_upd, upd_id] at c_139); have c_569 := c_56; (try simp only [ez_2, ez_3, ez_4, ef_5, ez_6, ez_7, ef_8, ez_9, ez_10, ef_11, ez_12, ef_51, ez_52, ez_53, ef_54, ez_55, ef_57, ez_58, ez_59, ef_60, ez_61, ez_62, ez_63, ef_64, ez_65, ez_66, ez_67, ef_68, ez_69, ez_70, ef_71, upd_at, upd_upd, upd_id] at c_569); simp only [nar_1, ez_2, ez_3, ez_4, ef_5, ez_6, ez_7, ef_8, ez_9, ez_10, ef_11, ez_12, ef_51, ez_52, ez_53, ef_54, ez_55, ef_57, ez_58, ez_59, ef_60, ez_61, ez_62, ez_63, ef_64, ez_65, ez_66, ez_67, ef_68, ez_69, ez_70, ef_71, upd_at, upd_upd, upd_id, if_neg c_139, if_pos c_569, upd_upd, upd_id]), (by have c_139 := c_13; (try simp only [ez_2, ez_3, ez_4, ef_5, ez_6, ez_7, ef_8, ez_9, ez_10, ef_11, ez_12, ef_51, ez_52, ez_53, ef_54, ez_55, ef_57, ez_58, ez_59, ef_60, ez_61, ez_62, ez_63, ef_64, ez_65, ez_66, ez_67, ef_68, ez_69, ez_70, ef_71, upd_at, upd_upd, upd_id] at c_139); have c_569 := c_56; (try simp only [ez_2, ez_3, ez_4, ef_5, ez_6, ez_7, ef_8, ez_9, ez_10, ef_11, ez_12, ef_51, ez_52, ez_53, ef_54, ez_55, ef_57, ez_58, ez_59, ef_60, ez_61, ez_62, ez_63, ef_64, ez_65, ez_66, ez_67, ef_68, ez_69, ez_70, ef_71, upd_at, upd_upd, upd_id] at c_569); simp only [ez_2, ez_3, ez_4, ef_5, ez_6, ez_7, ef_8, ez_9, ez_10, ef_11, ez_12, ef_51, ez_52, ez_53, ef_54, ez_55, ef_57, ez_58, ez_59, ef_60, ez_61, ez_62, ez_63, ef_64, ez_65, ez_66, ez_67, ef_68, ez_69, ez_70, ef_71, upd_at, upd_upd, upd_id, if_neg c_139, if_pos c_569, upd_upd, upd_id]), (by have c_139 := c_13; (try simp only [ez_2, ez_3, ez_4, ef_5, ez_6, ez_7, ef_8, ez_9, ez_10, ef_11, ez_12, ef_51, ez_52, ez_53, ef_54, ez_55, ef_57, ez_58, ez_59, ef_60, ez_61, ez_62, ez_63, ef_64, ez_65, ez_66, ez_67, ef_68, ez_69, ez_70, ef_71, upd_at, upd_upd, upd_id] at c_139); have c_569 := c_56; (try simp only [ez_2, ez_3, ez_4, ef_5, ez_6, ez_7, ef_8, ez_9, ez_10, ef_11, ez_12, ef_51, ez_52, ez_53, ef_54, ez_55, ef_57, ez_58, ez_59, ef_60, ez_61, ez_62, ez_63, ef_64, ez_65, ez_66, ez_67, ef_68, ez_69, ez_70, ef_71, upd_at, upd_upd, upd_id] at c_569); simp only [ez_2, ez_3, ez_4, ef_5, ez_6, ez_7, ef_8, ez_9, ez_10, ef_11, ez_12, ef_51, ez_52, ez_53, ef_54, ez_55, ef_57, ez_58, ez_59, ef_60, ez_61, ez_62, ez_63, ef_64, ez_65, ez_66, ez_67, ef_68, ez_69, ez_70, ef_71, upd_at, upd_upd, upd_id, if_neg c_139, if_pos c_569, upd_upd, upd_id]), (by have c_139 := c_13; (try simp only [ez_2, ez_3, ez_4, ef_5, ez_6, ez_7, ef_8, ez_9, ez_10, ef_11, ez_12, ef_51, ez_52, ez_53, ef_54, ez_55, ef_57, ez_58, ez_59, ef_60, ez_61, ez_62, ez_63, ef_64, ez_65, ez_66, ez_67, ef_68, ez_69, ez_70, ef_71, upd_at, upd_upd, upd_id] at c_139); have c_569 := c_56; (try simp only [ez_2, ez_3, ez_4, ef_5, ez_6, ez_7, ef_8, ez_9, ez_10, ef_11, ez_12, ef_51, ez_52, ez_53, ef_54, ez_55, ef_57, ez_58, ez_59, ef_60, ez_61, ez_62, ez_63, ef_64, ez_65, ez_66, ez_67, ef_68, ez_69, ez_70, ef_71, upd_at, upd_upd, upd_id] at c_569); simp only [ez_2, ez_3, ez_4, ef_5, ez_6, ez_7, ef_8, ez_9, ez_10, ef_11, ez_12, ef_51, ez_52, ez_53, ef_54, ez_55, ef_57, ez_58, ez_59, ef_60, ez_61, ez_62, ez_63, ef_64, ez_65, ez_66, ez_67, ef_68, ez_69, ez_70, ef_71, upd_at, upd_upd, upd_id, if_neg c_139, if_pos c_569, upd_upd, upd_id])⟩⟩ (Nat.le_of_ble_eq_true rfl) (Nat.le_of_ble_eq_true rfl) dX10_dips_146
    · have nc_56 := nle_i c_56
      have lc_56 : (1 : Int32).toInt = 1 := by decide
      refine lv_aload_n hx hb dX10_dips_79 rfl (lv_at hl 1 rfl) ?_
      refine va_get (D := (dC, dI)) (ci := 10) (v := .ref (b 5)) (C := RX10) (T := TX10) (N := 51) hx hb hts inw_X10_dips_10 hown hK hP 0 rfl rfl 5 (by decide) (hts (.fieldLink RX10 13 "VatHouseModel" "food" "[I") (List.mem_of_getElem? (i := 5) (by exact rfl))) (fun _ h9 => h9) rfl dX10_dips_80 ?_
      refine lv_iload_n hx hb dX10_dips_83 rfl (lv_at hl 3 rfl) ?_
      refine lv_iconst (v := 0) hx hb dX10_dips_84 (by decide) ?_
      refine va_iast hx hb hK hP hD hS 2 1 rfl rfl (by assumption) dX10_dips_85 (fun H locs hP hD hS => ?_)
      have hP : va_P (dC, dI) vwCl (mw g h0 b i (va_up (va_up (va_up (va_up (va_up a 4 f_5) 5 (upd f_54 vv.toNatClampNeg (0 : Int32))) 6 f_11) 7 f_51) 14 f_8)) _ := hP
      have hD : va_D _ (mw g h0 b i (va_up (va_up (va_up (va_up (va_up a 4 f_5) 5 (upd f_54 vv.toNatClampNeg (0 : Int32))) 6 f_11) 7 f_51) 14 f_8)) := hD
      obtain ⟨f_72, ef_72⟩ : ∃ z, z = (upd f_54 vv.toNatClampNeg (0 : Int32)) := ⟨_, rfl⟩
      rw [← ef_72] at hP hD
      refine lv_aload_n hx hb dX10_dips_86 rfl (lv_at hl 1 rfl) ?_
      refine va_get (D := (dC, dI)) (ci := 10) (v := .ref (b 7)) (C := RX10) (T := TX10) (N := 51) hx hb hts inw_X10_dips_10 hown hK hP 0 rfl rfl 7 (by decide) (hts (.fieldLink RX10 19 "VatHouseModel" "state" "[I") (List.mem_of_getElem? (i := 4) (by exact rfl))) (fun _ h9 => h9) rfl dX10_dips_87 ?_
      refine lv_iload_n hx hb dX10_dips_90 rfl (lv_at hl 3 rfl) ?_
      refine lv_iconst (v := 2) hx hb dX10_dips_91 (by decide) ?_
      refine va_iast hx hb hK hP hD hS 4 3 rfl rfl (by assumption) dX10_dips_92 (fun H locs hP hD hS => ?_)
      have hP : va_P (dC, dI) vwCl (mw g h0 b i (va_up (va_up (va_up (va_up (va_up a 4 f_5) 5 f_72) 6 f_11) 7 (upd f_51 vv.toNatClampNeg (2 : Int32))) 14 f_8)) _ := hP
      have hD : va_D _ (mw g h0 b i (va_up (va_up (va_up (va_up (va_up a 4 f_5) 5 f_72) 6 f_11) 7 (upd f_51 vv.toNatClampNeg (2 : Int32))) 14 f_8)) := hD
      obtain ⟨f_73, ef_73⟩ : ∃ z, z = (upd f_51 vv.toNatClampNeg (2 : Int32)) := ⟨_, rfl⟩
      rw [← ef_73] at hP hD
      refine lv_aload_n hx hb dX10_dips_93 rfl (lv_at hl 1 rfl) ?_
      refine va_get (D := (dC, dI)) (ci := 10) (v := .ref (b 10)) (C := RX10) (T := TX10) (N := 51) hx hb hts inw_X10_dips_10 hown hK hP 0 rfl rfl 10 (by decide) (hts (.fieldLink RX10 28 "VatHouseModel" "isDipped" "[Z") (List.mem_of_getElem? (i := 6) (by exact rfl))) (fun _ h9 => h9) rfl dX10_dips_94 ?_
      refine lv_iload_n hx hb dX10_dips_97 rfl (lv_at hl 3 rfl) ?_
      refine lv_iconst (v := 1) hx hb dX10_dips_98 (by decide) ?_
      refine va_zast hx hb hK hP hD hS 7 6 rfl rfl (by assumption) dX10_dips_99 (fun H locs hP hD hS => ?_)
      have hP : va_P (dC, dI) vwCl (mw g h0 b i (va_up (va_up (va_up (va_up (va_up (va_up a 4 f_5) 5 f_72) 6 f_11) 7 f_73) 10 (upd (a 10) vv.toNatClampNeg (vp_nar .boolean (1 : Int32)))) 14 f_8)) _ := hP
      have hD : va_D _ (mw g h0 b i (va_up (va_up (va_up (va_up (va_up (va_up a 4 f_5) 5 f_72) 6 f_11) 7 f_73) 10 (upd (a 10) vv.toNatClampNeg (vp_nar .boolean (1 : Int32)))) 14 f_8)) := hD
      obtain ⟨f_74, ef_74⟩ : ∃ z, z = (upd (a 10) vv.toNatClampNeg (vp_nar .boolean (1 : Int32))) := ⟨_, rfl⟩
      rw [← ef_74] at hP hD
      refine lv_aload_n hx hb dX10_dips_100 rfl (lv_at hl 1 rfl) ?_
      refine va_get (D := (dC, dI)) (ci := 10) (v := .ref (b 8)) (C := RX10) (T := TX10) (N := 51) hx hb hts inw_X10_dips_10 hown hK hP 0 rfl rfl 8 (by decide) (hts (.fieldLink RX10 22 "VatHouseModel" "dips" "[I") (List.mem_of_getElem? (i := 7) (by exact rfl))) (fun _ h9 => h9) rfl dX10_dips_101 ?_
      refine lv_iload_n hx hb dX10_dips_104 rfl (lv_at hl 3 rfl) ?_
      refine lv_dup2_11 hx hb dX10_dips_105 rfl rfl ?_
      refine va_iald hx hb hK hP 5 4 rfl rfl (by assumption) dX10_dips_106 ?_
      refine lv_topi (fun z_75 ez_75 => ?_)
      have ez_75 : z_75 = (a 8) vv.toNatClampNeg := ez_75
      refine lv_iconst (v := 1) hx hb dX10_dips_107 (by decide) ?_
      refine lv_iadd hx hb dX10_dips_108 ?_
      refine lv_topi (fun z_76 ez_76 => ?_)
      refine va_iast hx hb hK hP hD hS 5 4 rfl rfl (by assumption) dX10_dips_109 (fun H locs hP hD hS => ?_)
      have hP : va_P (dC, dI) vwCl (mw g h0 b i (va_up (va_up (va_up (va_up (va_up (va_up (va_up a 4 f_5) 5 f_72) 6 f_11) 7 f_73) 8 (upd (a 8) vv.toNatClampNeg z_76)) 10 f_74) 14 f_8)) _ := hP
      have hD : va_D _ (mw g h0 b i (va_up (va_up (va_up (va_up (va_up (va_up (va_up a 4 f_5) 5 f_72) 6 f_11) 7 f_73) 8 (upd (a 8) vv.toNatClampNeg z_76)) 10 f_74) 14 f_8)) := hD
      obtain ⟨f_77, ef_77⟩ : ∃ z, z = (upd (a 8) vv.toNatClampNeg z_76) := ⟨_, rfl⟩
      rw [← ef_77] at hP hD
      refine lv_aload_n hx hb dX10_dips_110 rfl (lv_at hl 1 rfl) ?_
      refine va_get (D := (dC, dI)) (ci := 10) (v := .ref (b 9)) (C := RX10) (T := TX10) (N := 51) hx hb hts inw_X10_dips_10 hown hK hP 0 rfl rfl 9 (by decide) (hts (.fieldLink RX10 25 "VatHouseModel" "dyed" "[I") (List.mem_of_getElem? (i := 8) (by exact rfl))) (fun _ h9 => h9) rfl dX10_dips_111 ?_
      refine lv_iload_n hx hb dX10_dips_114 rfl (lv_at hl 3 rfl) ?_
      refine lv_dup2_11 hx hb dX10_dips_115 rfl rfl ?_
      refine va_iald hx hb hK hP 6 5 rfl rfl (by assumption) dX10_dips_116 ?_
      refine lv_topi (fun z_78 ez_78 => ?_)
      have ez_78 : z_78 = (a 9) vv.toNatClampNeg := ez_78
      refine lv_iconst (v := 1) hx hb dX10_dips_117 (by decide) ?_
      refine lv_iload_n hx hb dX10_dips_118 rfl (lv_at hl 2 rfl) ?_
      refine lv_ishl hx hb dX10_dips_119 ?_
      refine lv_topi (fun z_79 ez_79 => ?_)
      refine lv_ior hx hb dX10_dips_120 ?_
      refine lv_topi (fun z_80 ez_80 => ?_)
      refine va_iast hx hb hK hP hD hS 6 5 rfl rfl (by assumption) dX10_dips_121 (fun H locs hP hD hS => ?_)
      have hP : va_P (dC, dI) vwCl (mw g h0 b i (va_up (va_up (va_up (va_up (va_up (va_up (va_up (va_up a 4 f_5) 5 f_72) 6 f_11) 7 f_73) 8 f_77) 9 (upd (a 9) vv.toNatClampNeg z_80)) 10 f_74) 14 f_8)) _ := hP
      have hD : va_D _ (mw g h0 b i (va_up (va_up (va_up (va_up (va_up (va_up (va_up (va_up a 4 f_5) 5 f_72) 6 f_11) 7 f_73) 8 f_77) 9 (upd (a 9) vv.toNatClampNeg z_80)) 10 f_74) 14 f_8)) := hD
      obtain ⟨f_81, ef_81⟩ : ∃ z, z = (upd (a 9) vv.toNatClampNeg z_80) := ⟨_, rfl⟩
      rw [← ef_81] at hP hD
      refine lv_aload_n hx hb dX10_dips_122 rfl (lv_at hl 1 rfl) ?_
      refine va_get (D := (dC, dI)) (ci := 10) (v := .ref (b 17)) (C := RX10) (T := TX10) (N := 51) hx hb hts inw_X10_dips_10 hown hK hP 0 rfl rfl 17 (by decide) (hts (.fieldLink RX10 47 "VatHouseModel" "vats" "[I") (List.mem_of_getElem? (i := 9) (by exact rfl))) (fun _ h9 => h9) rfl dX10_dips_123 ?_
      refine lv_iload_n hx hb dX10_dips_126 rfl (lv_at hl 2 rfl) ?_
      refine lv_dup2_11 hx hb dX10_dips_127 rfl rfl ?_
      refine va_iald hx hb hK hP 13 12 rfl rfl (by assumption) dX10_dips_128 ?_
      refine lv_topi (fun z_82 ez_82 => ?_)
      have ez_82 : z_82 = (a 17) ck.toNatClampNeg := ez_82
      refine lv_iconst (v := 1) hx hb dX10_dips_129 (by decide) ?_
      refine lv_iload_n hx hb dX10_dips_130 rfl (lv_at hl 3 rfl) ?_
      refine lv_ishl hx hb dX10_dips_131 ?_
      refine lv_topi (fun z_83 ez_83 => ?_)
      refine lv_ior hx hb dX10_dips_132 ?_
      refine lv_topi (fun z_84 ez_84 => ?_)
      refine va_iast hx hb hK hP hD hS 13 12 rfl rfl (by assumption) dX10_dips_133 (fun H locs hP hD hS => ?_)
      have hP : va_P (dC, dI) vwCl (mw g h0 b i (va_up (va_up (va_up (va_up (va_up (va_up (va_up (va_up (va_up a 4 f_5) 5 f_72) 6 f_11) 7 f_73) 8 f_77) 9 f_81) 10 f_74) 14 f_8) 17 (upd (a 17) ck.toNatClampNeg z_84))) _ := hP
      have hD : va_D _ (mw g h0 b i (va_up (va_up (va_up (va_up (va_up (va_up (va_up (va_up (va_up a 4 f_5) 5 f_72) 6 f_11) 7 f_73) 8 f_77) 9 f_81) 10 f_74) 14 f_8) 17 (upd (a 17) ck.toNatClampNeg z_84))) := hD
      obtain ⟨f_85, ef_85⟩ : ∃ z, z = (upd (a 17) ck.toNatClampNeg z_84) := ⟨_, rfl⟩
      rw [← ef_85] at hP hD
      refine lv_aload_n hx hb dX10_dips_134 rfl (lv_at hl 1 rfl) ?_
      refine va_get (D := (dC, dI)) (ci := 10) (v := .ref (b 18)) (C := RX10) (T := TX10) (N := 51) hx hb hts inw_X10_dips_10 hown hK hP 0 rfl rfl 18 (by decide) (hts (.fieldLink RX10 50 "VatHouseModel" "often" "[I") (List.mem_of_getElem? (i := 10) (by exact rfl))) (fun _ h9 => h9) rfl dX10_dips_135 ?_
      refine lv_iload_n hx hb dX10_dips_138 rfl (lv_at hl 2 rfl) ?_
      refine lv_dup2_11 hx hb dX10_dips_139 rfl rfl ?_
      refine va_iald hx hb hK hP 14 13 rfl rfl (by assumption) dX10_dips_140 ?_
      refine lv_topi (fun z_86 ez_86 => ?_)
      have ez_86 : z_86 = (a 18) ck.toNatClampNeg := ez_86
      refine lv_iconst (v := 1) hx hb dX10_dips_141 (by decide) ?_
      refine lv_iadd hx hb dX10_dips_142 ?_
      refine lv_topi (fun z_87 ez_87 => ?_)
      refine va_iast hx hb hK hP hD hS 14 13 rfl rfl (by assumption) dX10_dips_143 (fun H locs hP hD hS => ?_)
      have hP : va_P (dC, dI) vwCl (mw g h0 b i (va_up (va_up (va_up (va_up (va_up (va_up (va_up (va_up (va_up (va_up a 4 f_5) 5 f_72) 6 f_11) 7 f_73) 8 f_77) 9 f_81) 10 f_74) 14 f_8) 17 f_85) 18 (upd (a 18) ck.toNatClampNeg z_87))) _ := hP
      have hD : va_D _ (mw g h0 b i (va_up (va_up (va_up (va_up (va_up (va_up (va_up (va_up (va_up (va_up a 4 f_5) 5 f_72) 6 f_11) 7 f_73) 8 f_77) 9 f_81) 10 f_74) 14 f_8) 17 f_85) 18 (upd (a 18) ck.toNatClampNeg z_87))) := hD
      obtain ⟨f_88, ef_88⟩ : ∃ z, z = (upd (a 18) ck.toNatClampNeg z_87) := ⟨_, rfl⟩
      rw [← ef_88] at hP hD
      refine lv_iload hx hb dX10_dips_144 (lv_at hl 0 rfl) ?_
      exact M_i hx hb hr hlocks (f_5, f_72, f_11, f_73, f_77, f_81, f_74, f_8, f_85, f_88) hP hD hK hS ⟨⟨_, rfl, ez_2⟩, ⟨(by have c_139 := c_13; (try simp only [ez_2, ez_3, ez_4, ef_5, ez_6, ez_7, ef_8, ez_9, ez_10, ef_11, ez_12, ef_51, ez_52, ez_53, ef_54, ez_55, ef_72, ef_73, ef_74, ez_75, ez_76, ef_77, ez_78, ez_79, ez_80, ef_81, ez_82, ez_83, ez_84, ef_85, ez_86, ez_87, ef_88, upd_at, upd_upd, upd_id] at c_139); have c_569 := c_56; (try simp only [ez_2, ez_3, ez_4, ef_5, ez_6, ez_7, ef_8, ez_9, ez_10, ef_11, ez_12, ef_51, ez_52, ez_53, ef_54, ez_55, ef_72, ef_73, ef_74, ez_75, ez_76, ef_77, ez_78, ez_79, ez_80, ef_81, ez_82, ez_83, ez_84, ef_85, ez_86, ez_87, ef_88, upd_at, upd_upd, upd_id] at c_569); simp only [ez_2, ez_3, ez_4, ef_5, ez_6, ez_7, ef_8, ez_9, ez_10, ef_11, ez_12, ef_51, ez_52, ez_53, ef_54, ez_55, ef_72, ef_73, ef_74, ez_75, ez_76, ef_77, ez_78, ez_79, ez_80, ef_81, ez_82, ez_83, ez_84, ef_85, ez_86, ez_87, ef_88, upd_at, upd_upd, upd_id, if_neg c_139, if_neg c_569, upd_upd, upd_id]), (by have c_139 := c_13; (try simp only [ez_2, ez_3, ez_4, ef_5, ez_6, ez_7, ef_8, ez_9, ez_10, ef_11, ez_12, ef_51, ez_52, ez_53, ef_54, ez_55, ef_72, ef_73, ef_74, ez_75, ez_76, ef_77, ez_78, ez_79, ez_80, ef_81, ez_82, ez_83, ez_84, ef_85, ez_86, ez_87, ef_88, upd_at, upd_upd, upd_id] at c_139); have c_569 := c_56; (try simp only [ez_2, ez_3, ez_4, ef_5, ez_6, ez_7, ef_8, ez_9, ez_10, ef_11, ez_12, ef_51, ez_52, ez_53, ef_54, ez_55, ef_72, ef_73, ef_74, ez_75, ez_76, ef_77, ez_78, ez_79, ez_80, ef_81, ez_82, ez_83, ez_84, ef_85, ez_86, ez_87, ef_88, upd_at, upd_upd, upd_id] at c_569); simp only [skF, ez_2, ez_3, ez_4, ef_5, ez_6, ez_7, ef_8, ez_9, ez_10, ef_11, ez_12, ef_51, ez_52, ez_53, ef_54, ez_55, ef_72, ef_73, ef_74, ez_75, ez_76, ef_77, ez_78, ez_79, ez_80, ef_81, ez_82, ez_83, ez_84, ef_85, ez_86, ez_87, ef_88, upd_at, upd_upd, upd_id, if_neg c_139, if_neg c_569, upd_upd, upd_id]), (by have c_139 := c_13; (try simp only [ez_2, ez_3, ez_4, ef_5, ez_6, ez_7, ef_8, ez_9, ez_10, ef_11, ez_12, ef_51, ez_52, ez_53, ef_54, ez_55, ef_72, ef_73, ef_74, ez_75, ez_76, ef_77, ez_78, ez_79, ez_80, ef_81, ez_82, ez_83, ez_84, ef_85, ez_86, ez_87, ef_88, upd_at, upd_upd, upd_id] at c_139); have c_569 := c_56; (try simp only [ez_2, ez_3, ez_4, ef_5, ez_6, ez_7, ef_8, ez_9, ez_10, ef_11, ez_12, ef_51, ez_52, ez_53, ef_54, ez_55, ef_72, ef_73, ef_74, ez_75, ez_76, ef_77, ez_78, ez_79, ez_80, ef_81, ez_82, ez_83, ez_84, ef_85, ez_86, ez_87, ef_88, upd_at, upd_upd, upd_id] at c_569); simp only [ez_2, ez_3, ez_4, ef_5, ez_6, ez_7, ef_8, ez_9, ez_10, ef_11, ez_12, ef_51, ez_52, ez_53, ef_54, ez_55, ef_72, ef_73, ef_74, ez_75, ez_76, ef_77, ez_78, ez_79, ez_80, ef_81, ez_82, ez_83, ez_84, ef_85, ez_86, ez_87, ef_88, upd_at, upd_upd, upd_id, if_neg c_139, if_neg c_569, upd_upd, upd_id]), (by have c_139 := c_13; (try simp only [ez_2, ez_3, ez_4, ef_5, ez_6, ez_7, ef_8, ez_9, ez_10, ef_11, ez_12, ef_51, ez_52, ez_53, ef_54, ez_55, ef_72, ef_73, ef_74, ez_75, ez_76, ef_77, ez_78, ez_79, ez_80, ef_81, ez_82, ez_83, ez_84, ef_85, ez_86, ez_87, ef_88, upd_at, upd_upd, upd_id] at c_139); have c_569 := c_56; (try simp only [ez_2, ez_3, ez_4, ef_5, ez_6, ez_7, ef_8, ez_9, ez_10, ef_11, ez_12, ef_51, ez_52, ez_53, ef_54, ez_55, ef_72, ef_73, ef_74, ez_75, ez_76, ef_77, ez_78, ez_79, ez_80, ef_81, ez_82, ez_83, ez_84, ef_85, ez_86, ez_87, ef_88, upd_at, upd_upd, upd_id] at c_569); simp only [skS, ez_2, ez_3, ez_4, ef_5, ez_6, ez_7, ef_8, ez_9, ez_10, ef_11, ez_12, ef_51, ez_52, ez_53, ef_54, ez_55, ef_72, ef_73, ef_74, ez_75, ez_76, ef_77, ez_78, ez_79, ez_80, ef_81, ez_82, ez_83, ez_84, ef_85, ez_86, ez_87, ef_88, upd_at, upd_upd, upd_id, if_neg c_139, if_neg c_569, upd_upd, upd_id]), (by have c_139 := c_13; (try simp only [ez_2, ez_3, ez_4, ef_5, ez_6, ez_7, ef_8, ez_9, ez_10, ef_11, ez_12, ef_51, ez_52, ez_53, ef_54, ez_55, ef_72, ef_73, ef_74, ez_75, ez_76, ef_77, ez_78, ez_79, ez_80, ef_81, ez_82, ez_83, ez_84, ef_85, ez_86, ez_87, ef_88, upd_at, upd_upd, upd_id] at c_139); have c_569 := c_56; (try simp only [ez_2, ez_3, ez_4, ef_5, ez_6, ez_7, ef_8, ez_9, ez_10, ef_11, ez_12, ef_51, ez_52, ez_53, ef_54, ez_55, ef_72, ef_73, ef_74, ez_75, ez_76, ef_77, ez_78, ez_79, ez_80, ef_81, ez_82, ez_83, ez_84, ef_85, ez_86, ez_87, ef_88, upd_at, upd_upd, upd_id] at c_569); simp only [ez_2, ez_3, ez_4, ef_5, ez_6, ez_7, ef_8, ez_9, ez_10, ef_11, ez_12, ef_51, ez_52, ez_53, ef_54, ez_55, ef_72, ef_73, ef_74, ez_75, ez_76, ef_77, ez_78, ez_79, ez_80, ef_81, ez_82, ez_83, ez_84, ef_85, ez_86, ez_87, ef_88, upd_at, upd_upd, upd_id, if_neg c_139, if_neg c_569, upd_upd, upd_id]), (by have c_139 := c_13; (try simp only [ez_2, ez_3, ez_4, ef_5, ez_6, ez_7, ef_8, ez_9, ez_10, ef_11, ez_12, ef_51, ez_52, ez_53, ef_54, ez_55, ef_72, ef_73, ef_74, ez_75, ez_76, ef_77, ez_78, ez_79, ez_80, ef_81, ez_82, ez_83, ez_84, ef_85, ez_86, ez_87, ef_88, upd_at, upd_upd, upd_id] at c_139); have c_569 := c_56; (try simp only [ez_2, ez_3, ez_4, ef_5, ez_6, ez_7, ef_8, ez_9, ez_10, ef_11, ez_12, ef_51, ez_52, ez_53, ef_54, ez_55, ef_72, ef_73, ef_74, ez_75, ez_76, ef_77, ez_78, ez_79, ez_80, ef_81, ez_82, ez_83, ez_84, ef_85, ez_86, ez_87, ef_88, upd_at, upd_upd, upd_id] at c_569); simp only [ez_2, ez_3, ez_4, ef_5, ez_6, ez_7, ef_8, ez_9, ez_10, ef_11, ez_12, ef_51, ez_52, ez_53, ef_54, ez_55, ef_72, ef_73, ef_74, ez_75, ez_76, ef_77, ez_78, ez_79, ez_80, ef_81, ez_82, ez_83, ez_84, ef_85, ez_86, ez_87, ef_88, upd_at, upd_upd, upd_id, if_neg c_139, if_neg c_569, upd_upd, upd_id]), (by have c_139 := c_13; (try simp only [ez_2, ez_3, ez_4, ef_5, ez_6, ez_7, ef_8, ez_9, ez_10, ef_11, ez_12, ef_51, ez_52, ez_53, ef_54, ez_55, ef_72, ef_73, ef_74, ez_75, ez_76, ef_77, ez_78, ez_79, ez_80, ef_81, ez_82, ez_83, ez_84, ef_85, ez_86, ez_87, ef_88, upd_at, upd_upd, upd_id] at c_139); have c_569 := c_56; (try simp only [ez_2, ez_3, ez_4, ef_5, ez_6, ez_7, ef_8, ez_9, ez_10, ef_11, ez_12, ef_51, ez_52, ez_53, ef_54, ez_55, ef_72, ef_73, ef_74, ez_75, ez_76, ef_77, ez_78, ez_79, ez_80, ef_81, ez_82, ez_83, ez_84, ef_85, ez_86, ez_87, ef_88, upd_at, upd_upd, upd_id] at c_569); simp only [nar_1, ez_2, ez_3, ez_4, ef_5, ez_6, ez_7, ef_8, ez_9, ez_10, ef_11, ez_12, ef_51, ez_52, ez_53, ef_54, ez_55, ef_72, ef_73, ef_74, ez_75, ez_76, ef_77, ez_78, ez_79, ez_80, ef_81, ez_82, ez_83, ez_84, ef_85, ez_86, ez_87, ef_88, upd_at, upd_upd, upd_id, if_neg c_139, if_neg c_569, upd_upd, upd_id]), (by have c_139 := c_13; (try simp only [ez_2, ez_3, ez_4, ef_5, ez_6, ez_7, ef_8, ez_9, ez_10, ef_11, ez_12, ef_51, ez_52, ez_53, ef_54, ez_55, ef_72, ef_73, ef_74, ez_75, ez_76, ef_77, ez_78, ez_79, ez_80, ef_81, ez_82, ez_83, ez_84, ef_85, ez_86, ez_87, ef_88, upd_at, upd_upd, upd_id] at c_139); have c_569 := c_56; (try simp only [ez_2, ez_3, ez_4, ef_5, ez_6, ez_7, ef_8, ez_9, ez_10, ef_11, ez_12, ef_51, ez_52, ez_53, ef_54, ez_55, ef_72, ef_73, ef_74, ez_75, ez_76, ef_77, ez_78, ez_79, ez_80, ef_81, ez_82, ez_83, ez_84, ef_85, ez_86, ez_87, ef_88, upd_at, upd_upd, upd_id] at c_569); simp only [ez_2, ez_3, ez_4, ef_5, ez_6, ez_7, ef_8, ez_9, ez_10, ef_11, ez_12, ef_51, ez_52, ez_53, ef_54, ez_55, ef_72, ef_73, ef_74, ez_75, ez_76, ef_77, ez_78, ez_79, ez_80, ef_81, ez_82, ez_83, ez_84, ef_85, ez_86, ez_87, ef_88, upd_at, upd_upd, upd_id, if_neg c_139, if_neg c_569, upd_upd, upd_id]), (by have c_139 := c_13; (try simp only [ez_2, ez_3, ez_4, ef_5, ez_6, ez_7, ef_8, ez_9, ez_10, ef_11, ez_12, ef_51, ez_52, ez_53, ef_54, ez_55, ef_72, ef_73, ef_74, ez_75, ez_76, ef_77, ez_78, ez_79, ez_80, ef_81, ez_82, ez_83, ez_84, ef_85, ez_86, ez_87, ef_88, upd_at, upd_upd, upd_id] at c_139); have c_569 := c_56; (try simp only [ez_2, ez_3, ez_4, ef_5, ez_6, ez_7, ef_8, ez_9, ez_10, ef_11, ez_12, ef_51, ez_52, ez_53, ef_54, ez_55, ef_72, ef_73, ef_74, ez_75, ez_76, ef_77, ez_78, ez_79, ez_80, ef_81, ez_82, ez_83, ez_84, ef_85, ez_86, ez_87, ef_88, upd_at, upd_upd, upd_id] at c_569); simp only [ez_2, ez_3, ez_4, ef_5, ez_6, ez_7, ef_8, ez_9, ez_10, ef_11, ez_12, ef_51, ez_52, ez_53, ef_54, ez_55, ef_72, ef_73, ef_74, ez_75, ez_76, ef_77, ez_78, ez_79, ez_80, ef_81, ez_82, ez_83, ez_84, ef_85, ez_86, ez_87, ef_88, upd_at, upd_upd, upd_id, if_neg c_139, if_neg c_569, upd_upd, upd_id]), (by have c_139 := c_13; (try simp only [ez_2, ez_3, ez_4, ef_5, ez_6, ez_7, ef_8, ez_9, ez_10, ef_11, ez_12, ef_51, ez_52, ez_53, ef_54, ez_55, ef_72, ef_73, ef_74, ez_75, ez_76, ef_77, ez_78, ez_79, ez_80, ef_81, ez_82, ez_83, ez_84, ef_85, ez_86, ez_87, ef_88, upd_at, upd_upd, upd_id] at c_139); have c_569 := c_56; (try simp only [ez_2, ez_3, ez_4, ef_5, ez_6, ez_7, ef_8, ez_9, ez_10, ef_11, ez_12, ef_51, ez_52, ez_53, ef_54, ez_55, ef_72, ef_73, ef_74, ez_75, ez_76, ef_77, ez_78, ez_79, ez_80, ef_81, ez_82, ez_83, ez_84, ef_85, ez_86, ez_87, ef_88, upd_at, upd_upd, upd_id] at c_569); simp only [ez_2, ez_3, ez_4, ef_5, ez_6, ez_7, ef_8, ez_9, ez_10, ef_11, ez_12, ef_51, ez_52, ez_53, ef_54, ez_55, ef_72, ef_73, ef_74, ez_75, ez_76, ef_77, ez_78, ez_79, ez_80, ef_81, ez_82, ez_83, ez_84, ef_85, ez_86, ez_87, ef_88, upd_at, upd_upd, upd_id, if_neg c_139, if_neg c_569, upd_upd, upd_id])⟩⟩ (Nat.le_of_ble_eq_true rfl) (Nat.le_of_ble_eq_true rfl) dX10_dips_146

noncomputable abbrev rm_X10_airsE : Room := { frames := 0, cells := 0, slots := 0, locals := 0 }
set_option maxHeartbeats 4000000 in
set_option maxRecDepth 100000 in
theorem m_X10_airsE (l : Launch) (dC : Nat → ClassId) (dI : Nat → Nat → Nat) (sa : Nat → Nat) (g : Nat → Nat) (h0 : Nat) (b : Nat → Nat) (i : Nat → Int32) (a : Nat → Nat → Int32) (ck : Int32) (sz : Nat) (hc30 : vp_in ck 30) : CT l dC dI sa yX10_airs wsX10_airs rm_X10_airsE [.ref h0, .int ck] (mw g h0 b i a) (tyM g) sz (fun (r : Option Value) (u : Int32 × (Nat → Int32) × (Nat → Int32)) => match u with | (x2, y14, y15) => (∃ z : Int32, r = some (.int z) ∧ (z = ((a 14) ck.toNatClampNeg) / 8)) ∧ (x2 = (i 2) + ((a 14) ck.toNatClampNeg) / 8 ∧ y14 = upd (a 14) ck.toNatClampNeg (0) ∧ y15 = upd (a 15) ck.toNatClampNeg (((a 15) ck.toNatClampNeg) + (((a 14) ck.toNatClampNeg) - ((a 14) ck.toNatClampNeg) / 8)))) (fun (u : Int32 × (Nat → Int32) × (Nat → Int32)) => match u with | (x2, y14, y15) => mw g h0 b (va_up i 2 x2) (va_up (va_up a 14 y14) 15 y15)) (fun _ => []) 0 0 := by
  refine CT.start (cc := cX10_airs) (maxL := 3) (ret := (some .int)) (by decide) rfl (Nat.le_of_ble_eq_true rfl) ?_
  intro p e s m below meth c ls hst hP hK hD hev hS hl
  obtain ⟨hx, hb, hr, hml, hts, hown, hlocks, hin⟩ := hst
  have hown : s.vm.findClass RX10 = some m.cls := hown
  have hA : ∀ q : Nat, s.heap.size ≤ q → va_A (mw g h0 b i a) s.heap.size q := fun _ h => Or.inr h
  have hl : lv_has ls 3 [(0, .ref h0), (1, .int ck)] := hl
  refine lv_aload_n hx hb dX10_airs_0 rfl (lv_at hl 0 rfl) ?_
  refine va_get (D := (dC, dI)) (ci := 10) (v := .ref (b 14)) (C := RX10) (T := TX10) (N := 51) hx hb hts inw_X10_airs_10 hown hK hP 0 rfl rfl 14 (by decide) (hts (.fieldLink RX10 38 "VatHouseModel" "loose" "[I") (List.mem_of_getElem? (i := 1) (by exact rfl))) (fun _ h9 => h9) rfl dX10_airs_1 ?_
  refine lv_iload_n hx hb dX10_airs_4 rfl (lv_at hl 1 rfl) ?_
  refine va_iald hx hb hK hP 10 9 rfl rfl (by assumption) dX10_airs_5 ?_
  refine lv_topi (fun z_1 ez_1 => ?_)
  have ez_1 : z_1 = (a 14) ck.toNatClampNeg := ez_1
  refine lv_bipush (v := 8) hx hb dX10_airs_6 (by decide) ?_
  refine lv_idiv hx hb dX10_airs_8 (by decide) ?_
  refine lv_topi (fun z_2 ez_2 => ?_)
  refine lv_istore_n (lv' := [(2, .int z_2), (0, .ref h0), (1, .int ck)]) hx hb dX10_airs_9 rfl hl (by decide) rfl (fun ls hl => ?_)
  refine lv_aload_n hx hb dX10_airs_10 rfl (lv_at hl 1 rfl) ?_
  refine va_get (D := (dC, dI)) (ci := 10) (v := .ref (b 15)) (C := RX10) (T := TX10) (N := 51) hx hb hts inw_X10_airs_10 hown hK hP 0 rfl rfl 15 (by decide) (hts (.fieldLink RX10 41 "VatHouseModel" "fast" "[I") (List.mem_of_getElem? (i := 2) (by exact rfl))) (fun _ h9 => h9) rfl dX10_airs_11 ?_
  refine lv_iload_n hx hb dX10_airs_14 rfl (lv_at hl 2 rfl) ?_
  refine lv_dup2_11 hx hb dX10_airs_15 rfl rfl ?_
  refine va_iald hx hb hK hP 11 10 rfl rfl (by assumption) dX10_airs_16 ?_
  refine lv_topi (fun z_3 ez_3 => ?_)
  have ez_3 : z_3 = (a 15) ck.toNatClampNeg := ez_3
  refine lv_aload_n hx hb dX10_airs_17 rfl (lv_at hl 1 rfl) ?_
  refine va_get (D := (dC, dI)) (ci := 10) (v := .ref (b 14)) (C := RX10) (T := TX10) (N := 51) hx hb hts inw_X10_airs_10 hown hK hP 0 rfl rfl 14 (by decide) (hts (.fieldLink RX10 38 "VatHouseModel" "loose" "[I") (List.mem_of_getElem? (i := 1) (by exact rfl))) (fun _ h9 => h9) rfl dX10_airs_18 ?_
  refine lv_iload_n hx hb dX10_airs_21 rfl (lv_at hl 2 rfl) ?_
  refine va_iald hx hb hK hP 10 9 rfl rfl (by assumption) dX10_airs_22 ?_
  refine lv_topi (fun z_4 ez_4 => ?_)
  have ez_4 : z_4 = (a 14) ck.toNatClampNeg := ez_4
  refine lv_iload_n hx hb dX10_airs_23 rfl (lv_at hl 0 rfl) ?_
  refine lv_isub hx hb dX10_airs_24 ?_
  refine lv_topi (fun z_5 ez_5 => ?_)
  refine lv_iadd hx hb dX10_airs_25 ?_
  refine lv_topi (fun z_6 ez_6 => ?_)
  refine va_iast hx hb hK hP hD hS 11 10 rfl rfl (by assumption) dX10_airs_26 (fun H locs hP hD hS => ?_)
  have hP : va_P (dC, dI) vwCl (mw g h0 b i (va_up a 15 (upd (a 15) ck.toNatClampNeg z_6))) _ := hP
  have hD : va_D _ (mw g h0 b i (va_up a 15 (upd (a 15) ck.toNatClampNeg z_6))) := hD
  obtain ⟨f_7, ef_7⟩ : ∃ z, z = (upd (a 15) ck.toNatClampNeg z_6) := ⟨_, rfl⟩
  rw [← ef_7] at hP hD
  refine lv_aload_n hx hb dX10_airs_27 rfl (lv_at hl 1 rfl) ?_
  refine va_get (D := (dC, dI)) (ci := 10) (v := .ref (b 14)) (C := RX10) (T := TX10) (N := 51) hx hb hts inw_X10_airs_10 hown hK hP 0 rfl rfl 14 (by decide) (hts (.fieldLink RX10 38 "VatHouseModel" "loose" "[I") (List.mem_of_getElem? (i := 1) (by exact rfl))) (fun _ h9 => h9) rfl dX10_airs_28 ?_
  refine lv_iload_n hx hb dX10_airs_31 rfl (lv_at hl 2 rfl) ?_
  refine lv_iconst (v := 0) hx hb dX10_airs_32 (by decide) ?_
  refine va_iast hx hb hK hP hD hS 10 9 rfl rfl (by assumption) dX10_airs_33 (fun H locs hP hD hS => ?_)
  have hP : va_P (dC, dI) vwCl (mw g h0 b i (va_up (va_up a 14 (upd (a 14) ck.toNatClampNeg (0 : Int32))) 15 f_7)) _ := hP
  have hD : va_D _ (mw g h0 b i (va_up (va_up a 14 (upd (a 14) ck.toNatClampNeg (0 : Int32))) 15 f_7)) := hD
  obtain ⟨f_8, ef_8⟩ : ∃ z, z = (upd (a 14) ck.toNatClampNeg (0 : Int32)) := ⟨_, rfl⟩
  rw [← ef_8] at hP hD
  refine lv_aload_n hx hb dX10_airs_34 rfl (lv_at hl 1 rfl) ?_
  refine lv_dup hx hb dX10_airs_35 rfl ?_
  refine va_get (D := (dC, dI)) (ci := 10) (v := .int (i 2)) (C := RX10) (T := TX10) (N := 51) hx hb hts inw_X10_airs_10 hown hK hP 0 rfl rfl 2 (by decide) (hts (.fieldLink RX10 149 "VatHouseModel" "drain" "I") (List.mem_of_getElem? (i := 3) (by exact rfl))) (fun _ h9 => h9) rfl dX10_airs_36 ?_
  refine lv_iload_n hx hb dX10_airs_39 rfl (lv_at hl 0 rfl) ?_
  refine lv_iadd hx hb dX10_airs_40 ?_
  refine lv_topi (fun z_9 ez_9 => ?_)
  refine va_put (D := (dC, dI)) (ci := 10) (v := .int z_9) (ty := .int) (C := RX10) (T := TX10) (N := 51) hx hb hts inw_X10_airs_10 tyX10 tyX10_ok nmX10 hown hK hP hD hS 0 rfl rfl 2 (by decide) (hts (.fieldLink RX10 149 "VatHouseModel" "drain" "I") (List.mem_of_getElem? (i := 3) (by exact rfl))) (fun _ h9 => h9) rfl (tyX10_ok 2 (by decide)) rfl rfl (Nat.le_of_ble_eq_true rfl) dX10_airs_41 (fun H locs hP hD hS => ?_)
  have hP : va_P (dC, dI) vwCl (mw g h0 b (va_up i 2 z_9) (va_up (va_up a 14 f_8) 15 f_7)) _ := hP
  have hD : va_D _ (mw g h0 b (va_up i 2 z_9) (va_up (va_up a 14 f_8) 15 f_7)) := hD
  refine lv_iload_n hx hb dX10_airs_44 rfl (lv_at hl 0 rfl) ?_
  exact M_i hx hb hr hlocks (z_9, f_8, f_7) hP hD hK hS ⟨⟨_, rfl, (by simp only [ez_1, ez_2, ez_3, ez_4, ez_5, ez_6, ef_7, ef_8, ez_9, upd_at, upd_upd, upd_id, upd_upd, upd_id])⟩, ⟨(by simp only [ez_1, ez_2, ez_3, ez_4, ez_5, ez_6, ef_7, ef_8, ez_9, upd_at, upd_upd, upd_id, upd_upd, upd_id]), (by simp only [ez_1, ez_2, ez_3, ez_4, ez_5, ez_6, ef_7, ef_8, ez_9, upd_at, upd_upd, upd_id, upd_upd, upd_id]), (by simp only [ez_1, ez_2, ez_3, ez_4, ez_5, ez_6, ef_7, ef_8, ez_9, upd_at, upd_upd, upd_id, upd_upd, upd_id])⟩⟩ (Nat.le_of_ble_eq_true rfl) (Nat.le_of_ble_eq_true rfl) dX10_airs_45

noncomputable abbrev rm_X10_washesE : Room := { frames := 0, cells := 0, slots := 0, locals := 0 }
set_option maxHeartbeats 4000000 in
set_option maxRecDepth 100000 in
theorem m_X10_washesE (l : Launch) (dC : Nat → ClassId) (dI : Nat → Nat → Nat) (sa : Nat → Nat) (g : Nat → Nat) (h0 : Nat) (b : Nat → Nat) (i : Nat → Int32) (a : Nat → Nat → Int32) (ck : Int32) (sz : Nat) (hc30 : vp_in ck 30) : CT l dC dI sa yX10_washes wsX10_washes rm_X10_washesE [.ref h0, .int ck] (mw g h0 b i a) (tyM g) sz (fun (r : Option Value) (u : Int32 × (Nat → Int32) × (Nat → Int32)) => match u with | (x2, y14, y15) => (∃ z : Int32, r = some (.int z) ∧ (z = ((a 14) ck.toNatClampNeg) + ((a 15) ck.toNatClampNeg) / 20)) ∧ (x2 = (i 2) + (((a 14) ck.toNatClampNeg) + ((a 15) ck.toNatClampNeg) / 20) ∧ y14 = upd (a 14) ck.toNatClampNeg (0) ∧ y15 = upd (a 15) ck.toNatClampNeg (((a 15) ck.toNatClampNeg) - ((a 15) ck.toNatClampNeg) / 20))) (fun (u : Int32 × (Nat → Int32) × (Nat → Int32)) => match u with | (x2, y14, y15) => mw g h0 b (va_up i 2 x2) (va_up (va_up a 14 y14) 15 y15)) (fun _ => []) 0 0 := by
  refine CT.start (cc := cX10_washes) (maxL := 3) (ret := (some .int)) (by decide) rfl (Nat.le_of_ble_eq_true rfl) ?_
  intro p e s m below meth c ls hst hP hK hD hev hS hl
  obtain ⟨hx, hb, hr, hml, hts, hown, hlocks, hin⟩ := hst
  have hown : s.vm.findClass RX10 = some m.cls := hown
  have hA : ∀ q : Nat, s.heap.size ≤ q → va_A (mw g h0 b i a) s.heap.size q := fun _ h => Or.inr h
  have hl : lv_has ls 3 [(0, .ref h0), (1, .int ck)] := hl
  refine lv_aload_n hx hb dX10_washes_0 rfl (lv_at hl 0 rfl) ?_
  refine va_get (D := (dC, dI)) (ci := 10) (v := .ref (b 14)) (C := RX10) (T := TX10) (N := 51) hx hb hts inw_X10_washes_10 hown hK hP 0 rfl rfl 14 (by decide) (hts (.fieldLink RX10 38 "VatHouseModel" "loose" "[I") (List.mem_of_getElem? (i := 1) (by exact rfl))) (fun _ h9 => h9) rfl dX10_washes_1 ?_
  refine lv_iload_n hx hb dX10_washes_4 rfl (lv_at hl 1 rfl) ?_
  refine va_iald hx hb hK hP 10 9 rfl rfl (by assumption) dX10_washes_5 ?_
  refine lv_topi (fun z_1 ez_1 => ?_)
  have ez_1 : z_1 = (a 14) ck.toNatClampNeg := ez_1
  refine lv_aload_n hx hb dX10_washes_6 rfl (lv_at hl 0 rfl) ?_
  refine va_get (D := (dC, dI)) (ci := 10) (v := .ref (b 15)) (C := RX10) (T := TX10) (N := 51) hx hb hts inw_X10_washes_10 hown hK hP 0 rfl rfl 15 (by decide) (hts (.fieldLink RX10 41 "VatHouseModel" "fast" "[I") (List.mem_of_getElem? (i := 2) (by exact rfl))) (fun _ h9 => h9) rfl dX10_washes_7 ?_
  refine lv_iload_n hx hb dX10_washes_10 rfl (lv_at hl 1 rfl) ?_
  refine va_iald hx hb hK hP 11 10 rfl rfl (by assumption) dX10_washes_11 ?_
  refine lv_topi (fun z_2 ez_2 => ?_)
  have ez_2 : z_2 = (a 15) ck.toNatClampNeg := ez_2
  refine lv_bipush (v := 20) hx hb dX10_washes_12 (by decide) ?_
  refine lv_idiv hx hb dX10_washes_14 (by decide) ?_
  refine lv_topi (fun z_3 ez_3 => ?_)
  refine lv_iadd hx hb dX10_washes_15 ?_
  refine lv_topi (fun z_4 ez_4 => ?_)
  refine lv_istore_n (lv' := [(2, .int z_4), (0, .ref h0), (1, .int ck)]) hx hb dX10_washes_16 rfl hl (by decide) rfl (fun ls hl => ?_)
  refine lv_aload_n hx hb dX10_washes_17 rfl (lv_at hl 1 rfl) ?_
  refine va_get (D := (dC, dI)) (ci := 10) (v := .ref (b 15)) (C := RX10) (T := TX10) (N := 51) hx hb hts inw_X10_washes_10 hown hK hP 0 rfl rfl 15 (by decide) (hts (.fieldLink RX10 41 "VatHouseModel" "fast" "[I") (List.mem_of_getElem? (i := 2) (by exact rfl))) (fun _ h9 => h9) rfl dX10_washes_18 ?_
  refine lv_iload_n hx hb dX10_washes_21 rfl (lv_at hl 2 rfl) ?_
  refine lv_dup2_11 hx hb dX10_washes_22 rfl rfl ?_
  refine va_iald hx hb hK hP 11 10 rfl rfl (by assumption) dX10_washes_23 ?_
  refine lv_topi (fun z_5 ez_5 => ?_)
  have ez_5 : z_5 = (a 15) ck.toNatClampNeg := ez_5
  refine lv_aload_n hx hb dX10_washes_24 rfl (lv_at hl 1 rfl) ?_
  refine va_get (D := (dC, dI)) (ci := 10) (v := .ref (b 15)) (C := RX10) (T := TX10) (N := 51) hx hb hts inw_X10_washes_10 hown hK hP 0 rfl rfl 15 (by decide) (hts (.fieldLink RX10 41 "VatHouseModel" "fast" "[I") (List.mem_of_getElem? (i := 2) (by exact rfl))) (fun _ h9 => h9) rfl dX10_washes_25 ?_
  refine lv_iload_n hx hb dX10_washes_28 rfl (lv_at hl 2 rfl) ?_
  refine va_iald hx hb hK hP 11 10 rfl rfl (by assumption) dX10_washes_29 ?_
  refine lv_topi (fun z_6 ez_6 => ?_)
  have ez_6 : z_6 = (a 15) ck.toNatClampNeg := ez_6
  refine lv_bipush (v := 20) hx hb dX10_washes_30 (by decide) ?_
  refine lv_idiv hx hb dX10_washes_32 (by decide) ?_
  refine lv_topi (fun z_7 ez_7 => ?_)
  refine lv_isub hx hb dX10_washes_33 ?_
  refine lv_topi (fun z_8 ez_8 => ?_)
  refine va_iast hx hb hK hP hD hS 11 10 rfl rfl (by assumption) dX10_washes_34 (fun H locs hP hD hS => ?_)
  have hP : va_P (dC, dI) vwCl (mw g h0 b i (va_up a 15 (upd (a 15) ck.toNatClampNeg z_8))) _ := hP
  have hD : va_D _ (mw g h0 b i (va_up a 15 (upd (a 15) ck.toNatClampNeg z_8))) := hD
  obtain ⟨f_9, ef_9⟩ : ∃ z, z = (upd (a 15) ck.toNatClampNeg z_8) := ⟨_, rfl⟩
  rw [← ef_9] at hP hD
  refine lv_aload_n hx hb dX10_washes_35 rfl (lv_at hl 1 rfl) ?_
  refine va_get (D := (dC, dI)) (ci := 10) (v := .ref (b 14)) (C := RX10) (T := TX10) (N := 51) hx hb hts inw_X10_washes_10 hown hK hP 0 rfl rfl 14 (by decide) (hts (.fieldLink RX10 38 "VatHouseModel" "loose" "[I") (List.mem_of_getElem? (i := 1) (by exact rfl))) (fun _ h9 => h9) rfl dX10_washes_36 ?_
  refine lv_iload_n hx hb dX10_washes_39 rfl (lv_at hl 2 rfl) ?_
  refine lv_iconst (v := 0) hx hb dX10_washes_40 (by decide) ?_
  refine va_iast hx hb hK hP hD hS 10 9 rfl rfl (by assumption) dX10_washes_41 (fun H locs hP hD hS => ?_)
  have hP : va_P (dC, dI) vwCl (mw g h0 b i (va_up (va_up a 14 (upd (a 14) ck.toNatClampNeg (0 : Int32))) 15 f_9)) _ := hP
  have hD : va_D _ (mw g h0 b i (va_up (va_up a 14 (upd (a 14) ck.toNatClampNeg (0 : Int32))) 15 f_9)) := hD
  obtain ⟨f_10, ef_10⟩ : ∃ z, z = (upd (a 14) ck.toNatClampNeg (0 : Int32)) := ⟨_, rfl⟩
  rw [← ef_10] at hP hD
  refine lv_aload_n hx hb dX10_washes_42 rfl (lv_at hl 1 rfl) ?_
  refine lv_dup hx hb dX10_washes_43 rfl ?_
  refine va_get (D := (dC, dI)) (ci := 10) (v := .int (i 2)) (C := RX10) (T := TX10) (N := 51) hx hb hts inw_X10_washes_10 hown hK hP 0 rfl rfl 2 (by decide) (hts (.fieldLink RX10 149 "VatHouseModel" "drain" "I") (List.mem_of_getElem? (i := 3) (by exact rfl))) (fun _ h9 => h9) rfl dX10_washes_44 ?_
  refine lv_iload_n hx hb dX10_washes_47 rfl (lv_at hl 0 rfl) ?_
  refine lv_iadd hx hb dX10_washes_48 ?_
  refine lv_topi (fun z_11 ez_11 => ?_)
  refine va_put (D := (dC, dI)) (ci := 10) (v := .int z_11) (ty := .int) (C := RX10) (T := TX10) (N := 51) hx hb hts inw_X10_washes_10 tyX10 tyX10_ok nmX10 hown hK hP hD hS 0 rfl rfl 2 (by decide) (hts (.fieldLink RX10 149 "VatHouseModel" "drain" "I") (List.mem_of_getElem? (i := 3) (by exact rfl))) (fun _ h9 => h9) rfl (tyX10_ok 2 (by decide)) rfl rfl (Nat.le_of_ble_eq_true rfl) dX10_washes_49 (fun H locs hP hD hS => ?_)
  have hP : va_P (dC, dI) vwCl (mw g h0 b (va_up i 2 z_11) (va_up (va_up a 14 f_10) 15 f_9)) _ := hP
  have hD : va_D _ (mw g h0 b (va_up i 2 z_11) (va_up (va_up a 14 f_10) 15 f_9)) := hD
  refine lv_iload_n hx hb dX10_washes_52 rfl (lv_at hl 0 rfl) ?_
  exact M_i hx hb hr hlocks (z_11, f_10, f_9) hP hD hK hS ⟨⟨_, rfl, (by simp only [ez_1, ez_2, ez_3, ez_4, ez_5, ez_6, ez_7, ez_8, ef_9, ef_10, ez_11, upd_at, upd_upd, upd_id, upd_upd, upd_id])⟩, ⟨(by simp only [ez_1, ez_2, ez_3, ez_4, ez_5, ez_6, ez_7, ez_8, ef_9, ef_10, ez_11, upd_at, upd_upd, upd_id, upd_upd, upd_id]), (by simp only [ez_1, ez_2, ez_3, ez_4, ez_5, ez_6, ez_7, ez_8, ef_9, ef_10, ez_11, upd_at, upd_upd, upd_id, upd_upd, upd_id]), (by simp only [ez_1, ez_2, ez_3, ez_4, ez_5, ez_6, ez_7, ez_8, ef_9, ef_10, ez_11, upd_at, upd_upd, upd_id, upd_upd, upd_id])⟩⟩ (Nat.le_of_ble_eq_true rfl) (Nat.le_of_ble_eq_true rfl) dX10_washes_53

noncomputable abbrev rm_X10_countsE : Room := { frames := 0, cells := 0, slots := 0, locals := 0 }
set_option maxHeartbeats 4000000 in
set_option maxRecDepth 100000 in
theorem m_X10_countsE (l : Launch) (dC : Nat → ClassId) (dI : Nat → Nat → Nat) (sa : Nat → Nat) (g : Nat → Nat) (h0 : Nat) (b : Nat → Nat) (i : Nat → Int32) (a : Nat → Nat → Int32) (sz : Nat) : CT l dC dI sa yX10_counts wsX10_counts rm_X10_countsE [.ref h0] (mw g h0 b i a) (tyM g) sz (fun (r : Option Value) (x40 : Int32) => ((r = some (.int 0) ∧ ((i 40) = (i 39) ∧ x40 = (i 40))) ∨ (r = some (.int 1) ∧ (¬ (i 40) = (i 39) ∧ x40 = (i 40) + 1))) ∧ (True)) (fun (x40 : Int32) => mw g h0 b (va_up i 40 x40) a) (fun _ => []) 0 0 := by
  refine CT.start (cc := cX10_counts) (maxL := 1) (ret := (some .boolean)) (by decide) rfl (Nat.le_of_ble_eq_true rfl) ?_
  intro p e s m below meth c ls hst hP hK hD hev hS hl
  obtain ⟨hx, hb, hr, hml, hts, hown, hlocks, hin⟩ := hst
  have hown : s.vm.findClass RX10 = some m.cls := hown
  have hA : ∀ q : Nat, s.heap.size ≤ q → va_A (mw g h0 b i a) s.heap.size q := fun _ h => Or.inr h
  have hl : lv_has ls 1 [(0, .ref h0)] := hl
  refine lv_aload_n hx hb dX10_counts_0 rfl (lv_at hl 0 rfl) ?_
  refine va_get (D := (dC, dI)) (ci := 10) (v := .int (i 40)) (C := RX10) (T := TX10) (N := 51) hx hb hts inw_X10_counts_10 hown hK hP 0 rfl rfl 40 (by decide) (hts (.fieldLink RX10 287 "VatHouseModel" "counted" "I") (List.mem_of_getElem? (i := 1) (by exact rfl))) (fun _ h9 => h9) rfl dX10_counts_1 ?_
  refine lv_aload_n hx hb dX10_counts_4 rfl (lv_at hl 0 rfl) ?_
  refine va_get (D := (dC, dI)) (ci := 10) (v := .int (i 39)) (C := RX10) (T := TX10) (N := 51) hx hb hts inw_X10_counts_10 hown hK hP 0 rfl rfl 39 (by decide) (hts (.fieldLink RX10 290 "VatHouseModel" "limit" "I") (List.mem_of_getElem? (i := 2) (by exact rfl))) (fun _ h9 => h9) rfl dX10_counts_5 ?_
  refine lv_icmp_ne (tgt := 13) hx hb dX10_counts_8 (by decide) (fun c_1 => ?_) (fun c_1 => ?_)
  · have nc_1 := ne_i c_1
    refine lv_aload_n hx hb dX10_counts_13 rfl (lv_at hl 0 rfl) ?_
    refine lv_dup hx hb dX10_counts_14 rfl ?_
    refine va_get (D := (dC, dI)) (ci := 10) (v := .int (i 40)) (C := RX10) (T := TX10) (N := 51) hx hb hts inw_X10_counts_10 hown hK hP 0 rfl rfl 40 (by decide) (hts (.fieldLink RX10 287 "VatHouseModel" "counted" "I") (List.mem_of_getElem? (i := 1) (by exact rfl))) (fun _ h9 => h9) rfl dX10_counts_15 ?_
    refine lv_iconst (v := 1) hx hb dX10_counts_18 (by decide) ?_
    refine lv_iadd hx hb dX10_counts_19 ?_
    refine lv_topi (fun z_2 ez_2 => ?_)
    refine va_put (D := (dC, dI)) (ci := 10) (v := .int z_2) (ty := .int) (C := RX10) (T := TX10) (N := 51) hx hb hts inw_X10_counts_10 tyX10 tyX10_ok nmX10 hown hK hP hD hS 0 rfl rfl 40 (by decide) (hts (.fieldLink RX10 287 "VatHouseModel" "counted" "I") (List.mem_of_getElem? (i := 1) (by exact rfl))) (fun _ h9 => h9) rfl (tyX10_ok 40 (by decide)) rfl rfl (Nat.le_of_ble_eq_true rfl) dX10_counts_20 (fun H locs hP hD hS => ?_)
    have hP : va_P (dC, dI) vwCl (mw g h0 b (va_up i 40 z_2) a) _ := hP
    have hD : va_D _ (mw g h0 b (va_up i 40 z_2) a) := hD
    refine lv_iconst (v := 1) hx hb dX10_counts_23 (by decide) ?_
    exact M_z hx hb hr rfl hlocks (z_2) hP hD hK hS ⟨Or.inr ⟨rfl, ⟨c_1, ez_2⟩⟩, trivial⟩ (Nat.le_of_ble_eq_true rfl) (Nat.le_of_ble_eq_true rfl) dX10_counts_24
  · have nc_1 := eq_i c_1
    refine lv_iconst (v := 0) hx hb dX10_counts_11 (by decide) ?_
    exact M_z hx hb hr rfl hlocks ((i 40)) hP hD hK hS ⟨Or.inl ⟨rfl, ⟨c_1, rfl⟩⟩, trivial⟩ (Nat.le_of_ble_eq_true rfl) (Nat.le_of_ble_eq_true rfl) dX10_counts_12

noncomputable def ho5 (f : Nat → Int32) : Nat → Int32 := fun k => if k < 6 then hoF (f k) else f k
noncomputable def ho6 (f m st d w : Nat → Int32) : Nat → Int32 := fun k => if k < 6 then hoM (f k) (st k) (m k) (d k) (w k) else m k
noncomputable def ho7 (f st d w : Nat → Int32) : Nat → Int32 := fun k => if k < 6 then hoS (f k) (st k) (d k) (w k) else st k
noncomputable def ho10 (d : Nat → Int32) : Nat → Int32 := fun k => if k < 6 then 0 else d k
noncomputable def ho11 (d w : Nat → Int32) : Nat → Int32 := fun k => if k < 6 then d k else w k

noncomputable abbrev rm_X10_hourE : Room := { frames := 0, cells := 0, slots := 0, locals := 0 }
set_option maxHeartbeats 4000000 in
set_option maxRecDepth 100000 in
theorem m_X10_hourE (l : Launch) (dC : Nat → ClassId) (dI : Nat → Nat → Nat) (sa : Nat → Nat) (g : Nat → Nat) (h0 : Nat) (b : Nat → Nat) (i : Nat → Int32) (a : Nat → Nat → Int32) (sz : Nat) (h01 : ∀ k : Nat, k < 6 → (a 10) k = 0 ∨ (a 10) k = 1) : CT l dC dI sa yX10_hour wsX10_hour rm_X10_hourE [.ref h0] (mw g h0 b i a) (tyM g) sz (fun (r : Option Value) (u : Int32 × (Nat → Int32) × (Nat → Int32) × (Nat → Int32) × (Nat → Int32) × (Nat → Int32)) => match u with | (x1, y5, y6, y7, y10, y11) => (r = none) ∧ (x1 = (i 1) + 1 ∧ y5 = ho5 (a 5) ∧ y6 = ho6 (a 5) (a 6) (a 7) (a 10) (a 11) ∧ y7 = ho7 (a 5) (a 7) (a 10) (a 11) ∧ y10 = ho10 (a 10) ∧ y11 = ho11 (a 10) (a 11))) (fun (u : Int32 × (Nat → Int32) × (Nat → Int32) × (Nat → Int32) × (Nat → Int32) × (Nat → Int32)) => match u with | (x1, y5, y6, y7, y10, y11) => mw g h0 b (va_up i 1 x1) (va_up (va_up (va_up (va_up (va_up a 5 y5) 6 y6) 7 y7) 10 y10) 11 y11)) (fun _ => []) 0 0 := by
  refine CT.start (cc := cX10_hour) (maxL := 2) (ret := none) (by decide) rfl (Nat.le_of_ble_eq_true rfl) ?_
  intro p e s m below meth c ls hst hP hK hD hev hS hl
  obtain ⟨hx, hb, hr, hml, hts, hown, hlocks, hin⟩ := hst
  have hown : s.vm.findClass RX10 = some m.cls := hown
  have hA : ∀ q : Nat, s.heap.size ≤ q → va_A (mw g h0 b i a) s.heap.size q := fun _ h => Or.inr h
  have hl : lv_has ls 2 [(0, .ref h0)] := hl
  refine lv_aload_n hx hb dX10_hour_0 rfl (lv_at hl 0 rfl) ?_
  refine lv_dup hx hb dX10_hour_1 rfl ?_
  refine va_get (D := (dC, dI)) (ci := 10) (v := .int (i 1)) (C := RX10) (T := TX10) (N := 51) hx hb hts inw_X10_hour_10 hown hK hP 0 rfl rfl 1 (by decide) (hts (.fieldLink RX10 131 "VatHouseModel" "hours" "I") (List.mem_of_getElem? (i := 1) (by exact rfl))) (fun _ h9 => h9) rfl dX10_hour_2 ?_
  refine lv_iconst (v := 1) hx hb dX10_hour_5 (by decide) ?_
  refine lv_iadd hx hb dX10_hour_6 ?_
  refine lv_topi (fun z_1 ez_1 => ?_)
  refine va_put (D := (dC, dI)) (ci := 10) (v := .int z_1) (ty := .int) (C := RX10) (T := TX10) (N := 51) hx hb hts inw_X10_hour_10 tyX10 tyX10_ok nmX10 hown hK hP hD hS 0 rfl rfl 1 (by decide) (hts (.fieldLink RX10 131 "VatHouseModel" "hours" "I") (List.mem_of_getElem? (i := 1) (by exact rfl))) (fun _ h9 => h9) rfl (tyX10_ok 1 (by decide)) rfl rfl (Nat.le_of_ble_eq_true rfl) dX10_hour_7 (fun H locs hP hD hS => ?_)
  have hP : va_P (dC, dI) vwCl (mw g h0 b (va_up i 1 z_1) a) _ := hP
  have hD : va_D _ (mw g h0 b (va_up i 1 z_1) a) := hD
  refine lv_iconst (v := 0) hx hb dX10_hour_10 (by decide) ?_
  refine lv_istore_n (lv' := [(1, .int 0), (0, .ref h0)]) hx hb dX10_hour_11 rfl hl (by decide) rfl (fun ls hl => ?_)
  have lp : ∀ (n : Nat) (ii : Int32) (l5 : Nat → Int32) (l6 : Nat → Int32) (l7 : Nat → Int32) (l10 : Nat → Int32) (l11 : Nat → Int32) (H : Heap) (locs : List Loc) (ls : Array Slot), (∃ q : Nat, ii = nI q ∧ q ≤ 6 ∧ 6 < q + n) → (∃ q : Nat, ii = nI q ∧ q ≤ 6 ∧ l5 = (ho1 (i, a) q).2 5 ∧ l6 = (ho1 (i, a) q).2 6 ∧ l7 = (ho1 (i, a) q).2 7 ∧ l10 = (ho1 (i, a) q).2 10 ∧ l11 = (ho1 (i, a) q).2 11) → va_P (dC, dI) vwCl (mw g h0 b (va_up i 1 z_1) (va_up (va_up (va_up (va_up (va_up a 5 l5) 6 l6) 7 l7) 10 l10) 11 l11)) H → va_D (va_A (mw g h0 b i a) s.heap.size) (mw g h0 b (va_up i 1 z_1) (va_up (va_up (va_up (va_up (va_up a 5 l5) 6 l6) 7 l7) 10 l10) 11 l11)) → va_S (va_A (mw g h0 b i a) s.heap.size) s.heap H locs → lv_has ls 2 [(1, .int ii), (0, .ref h0)] → W p l e rm_X10_hourE s m [.ref h0].toArray below meth c H locs 0 0 (MQ below (Qg (fun (r : Option Value) (u : Int32 × (Nat → Int32) × (Nat → Int32) × (Nat → Int32) × (Nat → Int32) × (Nat → Int32)) => match u with | (x1, y5, y6, y7, y10, y11) => (r = none) ∧ (x1 = (i 1) + 1 ∧ y5 = ho5 (a 5) ∧ y6 = ho6 (a 5) (a 6) (a 7) (a 10) (a 11) ∧ y7 = ho7 (a 5) (a 7) (a 10) (a 11) ∧ y10 = ho10 (a 10) ∧ y11 = ho11 (a 10) (a 11))) (fun u t => QW dC dI (va_A (mw g h0 b i a) s.heap.size) ((fun (u : Int32 × (Nat → Int32) × (Nat → Int32) × (Nat → Int32) × (Nat → Int32) × (Nat → Int32)) => match u with | (x1, y5, y6, y7, y10, y11) => mw g h0 b (va_up i 1 x1) (va_up (va_up (va_up (va_up (va_up a 5 y5) 6 y6) 7 y7) 10 y10) 11 y11)) u) [] t) (va_A (mw g h0 b i a) s.heap.size)) [.ref h0].toArray s 0 0 (va_A (mw g h0 b i a) s.heap.size)) (F0 m 12 ls []) := by
    intro n
    induction n with
    | zero => intro ii l5 l6 l7 l10 l11 H locs ls hm hL hP hD hS hl; exact absurd hm (by rintro ⟨q, -, h1, h2⟩; omega)
    | succ n ih =>
      intro ii l5 l6 l7 l10 l11 H locs ls hm hL hP hD hS hl
      refine lv_iload_n hx hb dX10_hour_12 rfl (lv_at hl 0 rfl) ?_
      obtain ⟨q, hq, hq6, hl5, hl6, hl7, hl10, hl11⟩ := hL
      have hiq : ii.toNatClampNeg = q := by rw [hq]; exact nI_clamp (by omega)
      have h5q : l5 q = a 5 q := by rw [hl5]; exact if_neg (Nat.lt_irrefl q)
      have h6q : l6 q = a 6 q := by rw [hl6]; exact if_neg (Nat.lt_irrefl q)
      have h7q : l7 q = a 7 q := by rw [hl7]; exact if_neg (Nat.lt_irrefl q)
      have h10q : l10 q = a 10 q := by rw [hl10]; exact if_neg (Nat.lt_irrefl q)
      have h11q : l11 q = a 11 q := by rw [hl11]; exact if_neg (Nat.lt_irrefl q)
      refine lv_bipush (v := 6) hx hb dX10_hour_13 (by decide) ?_
      refine lv_icmp_ge (tgt := 129) hx hb dX10_hour_15 (by decide) (fun c_2 => ?_) (fun c_2 => ?_)
      · have nc_2 := le_i c_2
        have lc_2 : (6 : Int32).toInt = 6 := by decide
        exact M_v hx hb hr hlocks (z_1, l5, l6, l7, l10, l11) hP hD hK hS ⟨rfl, (by obtain rfl : q = 6 := up_ge hq hq6 (by decide) c_2; exact ⟨ez_1, hl5, hl6, hl7, hl10, hl11⟩)⟩ (Nat.le_of_ble_eq_true rfl) (Nat.le_of_ble_eq_true rfl) dX10_hour_129
      · have nc_2 := nle_i c_2
        have lc_2 : (6 : Int32).toInt = 6 := by decide
        have hqlt : q < 6 := up_lt (by decide) hq hq6 (by decide) c_2
        refine lv_aload_n hx hb dX10_hour_18 rfl (lv_at hl 1 rfl) ?_
        refine va_get (D := (dC, dI)) (ci := 10) (v := .ref (b 5)) (C := RX10) (T := TX10) (N := 51) hx hb hts inw_X10_hour_10 hown hK hP 0 rfl rfl 5 (by decide) (hts (.fieldLink RX10 13 "VatHouseModel" "food" "[I") (List.mem_of_getElem? (i := 2) (by exact rfl))) (fun _ h9 => h9) rfl dX10_hour_19 ?_
        refine lv_iload_n hx hb dX10_hour_22 rfl (lv_at hl 0 rfl) ?_
        refine lv_aload_n hx hb dX10_hour_23 rfl (lv_at hl 1 rfl) ?_
        refine va_get (D := (dC, dI)) (ci := 10) (v := .ref (b 5)) (C := RX10) (T := TX10) (N := 51) hx hb hts inw_X10_hour_10 hown hK hP 0 rfl rfl 5 (by decide) (hts (.fieldLink RX10 13 "VatHouseModel" "food" "[I") (List.mem_of_getElem? (i := 2) (by exact rfl))) (fun _ h9 => h9) rfl dX10_hour_24 ?_
        refine lv_iload_n hx hb dX10_hour_27 rfl (lv_at hl 0 rfl) ?_
        refine va_iald hx hb hK hP 2 1 rfl rfl (by rw [hq]; exact vp_in_nI hqlt (by decide)) dX10_hour_28 ?_
        refine lv_topi (fun z_3 ez_3 => ?_)
        have ez_3 : z_3 = l5 ii.toNatClampNeg := ez_3
        refine lv_iconst (v := 5) hx hb dX10_hour_29 (by decide) ?_
        refine lv_icmp_le (tgt := 44) hx hb dX10_hour_30 (by decide) (fun c_4 => ?_) (fun c_4 => ?_)
        · have nc_4 := le_i c_4
          have lc_4 : (5 : Int32).toInt = 5 := by decide
          refine lv_iconst (v := 0) hx hb dX10_hour_44 (by decide) ?_
          refine va_iast hx hb hK hP hD hS 2 1 rfl rfl (by rw [hq]; exact vp_in_nI hqlt (by decide)) dX10_hour_45 (fun H locs hP hD hS => ?_)
          have hP : va_P (dC, dI) vwCl (mw g h0 b (va_up i 1 z_1) (va_up (va_up (va_up (va_up (va_up a 5 (upd l5 ii.toNatClampNeg (0 : Int32))) 6 l6) 7 l7) 10 l10) 11 l11)) _ := hP
          have hD : va_D _ (mw g h0 b (va_up i 1 z_1) (va_up (va_up (va_up (va_up (va_up a 5 (upd l5 ii.toNatClampNeg (0 : Int32))) 6 l6) 7 l7) 10 l10) 11 l11)) := hD
          obtain ⟨f_5, ef_5⟩ : ∃ z, z = (upd l5 ii.toNatClampNeg (0 : Int32)) := ⟨_, rfl⟩
          rw [← ef_5] at hP hD
          refine lv_aload_n hx hb dX10_hour_46 rfl (lv_at hl 1 rfl) ?_
          refine va_get (D := (dC, dI)) (ci := 10) (v := .ref (b 5)) (C := RX10) (T := TX10) (N := 51) hx hb hts inw_X10_hour_10 hown hK hP 0 rfl rfl 5 (by decide) (hts (.fieldLink RX10 13 "VatHouseModel" "food" "[I") (List.mem_of_getElem? (i := 2) (by exact rfl))) (fun _ h9 => h9) rfl dX10_hour_47 ?_
          refine lv_iload_n hx hb dX10_hour_50 rfl (lv_at hl 0 rfl) ?_
          refine va_iald hx hb hK hP 2 1 rfl rfl (by rw [hq]; exact vp_in_nI hqlt (by decide)) dX10_hour_51 ?_
          refine lv_topi (fun z_6 ez_6 => ?_)
          have ez_6 : z_6 = f_5 ii.toNatClampNeg := ez_6
          refine lv_if_ne (tgt := 62) hx hb dX10_hour_52 (by decide) (fun c_7 => ?_) (fun c_7 => ?_)
          · have nc_7 := ne_i c_7
            have lc_7 : (0 : Int32).toInt = 0 := by decide
            refine lv_aload_n hx hb dX10_hour_62 rfl (lv_at hl 1 rfl) ?_
            refine va_get (D := (dC, dI)) (ci := 10) (v := .ref (b 7)) (C := RX10) (T := TX10) (N := 51) hx hb hts inw_X10_hour_10 hown hK hP 0 rfl rfl 7 (by decide) (hts (.fieldLink RX10 19 "VatHouseModel" "state" "[I") (List.mem_of_getElem? (i := 3) (by exact rfl))) (fun _ h9 => h9) rfl dX10_hour_63 ?_
            refine lv_iload_n hx hb dX10_hour_66 rfl (lv_at hl 0 rfl) ?_
            refine va_iald hx hb hK hP 4 3 rfl rfl (by rw [hq]; exact vp_in_nI hqlt (by decide)) dX10_hour_67 ?_
            refine lv_topi (fun z_8 ez_8 => ?_)
            have ez_8 : z_8 = l7 ii.toNatClampNeg := ez_8
            refine lv_iconst (v := 2) hx hb dX10_hour_68 (by decide) ?_
            refine lv_icmp_eq (tgt := 104) hx hb dX10_hour_69 (by decide) (fun c_9 => ?_) (fun c_9 => ?_)
            · have nc_9 := eq_i c_9
              have lc_9 : (2 : Int32).toInt = 2 := by decide
              refine lv_aload_n hx hb dX10_hour_104 rfl (lv_at hl 1 rfl) ?_
              refine va_get (D := (dC, dI)) (ci := 10) (v := .ref (b 11)) (C := RX10) (T := TX10) (N := 51) hx hb hts inw_X10_hour_10 hown hK hP 0 rfl rfl 11 (by decide) (hts (.fieldLink RX10 32 "VatHouseModel" "wasDipped" "[Z") (List.mem_of_getElem? (i := 5) (by exact rfl))) (fun _ h9 => h9) rfl dX10_hour_105 ?_
              refine lv_iload_n hx hb dX10_hour_108 rfl (lv_at hl 0 rfl) ?_
              refine lv_aload_n hx hb dX10_hour_109 rfl (lv_at hl 1 rfl) ?_
              refine va_get (D := (dC, dI)) (ci := 10) (v := .ref (b 10)) (C := RX10) (T := TX10) (N := 51) hx hb hts inw_X10_hour_10 hown hK hP 0 rfl rfl 10 (by decide) (hts (.fieldLink RX10 28 "VatHouseModel" "isDipped" "[Z") (List.mem_of_getElem? (i := 4) (by exact rfl))) (fun _ h9 => h9) rfl dX10_hour_110 ?_
              refine lv_iload_n hx hb dX10_hour_113 rfl (lv_at hl 0 rfl) ?_
              refine va_zald hx hb hK hP 7 6 rfl rfl (by rw [hq]; exact vp_in_nI hqlt (by decide)) dX10_hour_114 ?_
              refine lv_topi (fun z_10 ez_10 => ?_)
              have ez_10 : z_10 = l10 ii.toNatClampNeg := ez_10
              refine va_zast hx hb hK hP hD hS 8 7 rfl rfl (by rw [hq]; exact vp_in_nI hqlt (by decide)) dX10_hour_115 (fun H locs hP hD hS => ?_)
              have hP : va_P (dC, dI) vwCl (mw g h0 b (va_up i 1 z_1) (va_up (va_up (va_up (va_up (va_up a 5 f_5) 6 l6) 7 l7) 10 l10) 11 (upd l11 ii.toNatClampNeg (vp_nar .boolean z_10)))) _ := hP
              have hD : va_D _ (mw g h0 b (va_up i 1 z_1) (va_up (va_up (va_up (va_up (va_up a 5 f_5) 6 l6) 7 l7) 10 l10) 11 (upd l11 ii.toNatClampNeg (vp_nar .boolean z_10)))) := hD
              obtain ⟨f_11, ef_11⟩ : ∃ z, z = (upd l11 ii.toNatClampNeg (vp_nar .boolean z_10)) := ⟨_, rfl⟩
              rw [← ef_11] at hP hD
              refine lv_aload_n hx hb dX10_hour_116 rfl (lv_at hl 1 rfl) ?_
              refine va_get (D := (dC, dI)) (ci := 10) (v := .ref (b 10)) (C := RX10) (T := TX10) (N := 51) hx hb hts inw_X10_hour_10 hown hK hP 0 rfl rfl 10 (by decide) (hts (.fieldLink RX10 28 "VatHouseModel" "isDipped" "[Z") (List.mem_of_getElem? (i := 4) (by exact rfl))) (fun _ h9 => h9) rfl dX10_hour_117 ?_
              refine lv_iload_n hx hb dX10_hour_120 rfl (lv_at hl 0 rfl) ?_
              refine lv_iconst (v := 0) hx hb dX10_hour_121 (by decide) ?_
              refine va_zast hx hb hK hP hD hS 7 6 rfl rfl (by rw [hq]; exact vp_in_nI hqlt (by decide)) dX10_hour_122 (fun H locs hP hD hS => ?_)
              have hP : va_P (dC, dI) vwCl (mw g h0 b (va_up i 1 z_1) (va_up (va_up (va_up (va_up (va_up a 5 f_5) 6 l6) 7 l7) 10 (upd l10 ii.toNatClampNeg (vp_nar .boolean (0 : Int32)))) 11 f_11)) _ := hP
              have hD : va_D _ (mw g h0 b (va_up i 1 z_1) (va_up (va_up (va_up (va_up (va_up a 5 f_5) 6 l6) 7 l7) 10 (upd l10 ii.toNatClampNeg (vp_nar .boolean (0 : Int32)))) 11 f_11)) := hD
              obtain ⟨f_12, ef_12⟩ : ∃ z, z = (upd l10 ii.toNatClampNeg (vp_nar .boolean (0 : Int32))) := ⟨_, rfl⟩
              rw [← ef_12] at hP hD
              refine lv_iinc (v := (ii + 1)) (lv' := [(1, .int (ii + 1)), (0, .ref h0)]) hx hb dX10_hour_123 hl (k := 0) rfl rfl (by decide) rfl (fun ls hl => ?_)
              refine lv_goto (tgt := 12) hx hb dX10_hour_126 (by decide) ?_
              exact ih (ii + 1) f_5 l6 l7 f_12 f_11 _ _ _ (up_nx (by decide) hm (by decide) c_2) (⟨q + 1, by rw [hq]; exact nI_1 q, by omega, (by rw [ef_5, hiq]; exact up_st hl5 (by have c_29 := c_2; (try simp only [ez_3, ef_5, ez_6, ez_8, ez_10, ef_11, ef_12, hiq, h5q, h6q, h7q, h10q, h11q, upd_at, upd_upd, upd_id] at c_29); have c_49 := c_4; (try simp only [ez_3, ef_5, ez_6, ez_8, ez_10, ef_11, ef_12, hiq, h5q, h6q, h7q, h10q, h11q, upd_at, upd_upd, upd_id] at c_49); have c_79 := c_7; (try simp only [ez_3, ef_5, ez_6, ez_8, ez_10, ef_11, ef_12, hiq, h5q, h6q, h7q, h10q, h11q, upd_at, upd_upd, upd_id] at c_79); have c_99 := c_9; (try simp only [ez_3, ef_5, ez_6, ez_8, ez_10, ef_11, ef_12, hiq, h5q, h6q, h7q, h10q, h11q, upd_at, upd_upd, upd_id] at c_99); simp only [hoF, ez_3, ef_5, ez_6, ez_8, ez_10, ef_11, ef_12, hiq, h5q, h6q, h7q, h10q, h11q, upd_at, upd_upd, upd_id, if_neg c_29, if_pos c_49, if_neg c_79, if_pos c_99, upd_upd, upd_id])), (up_s0 hl6 (by have c_29 := c_2; (try simp only [ez_3, ef_5, ez_6, ez_8, ez_10, ef_11, ef_12, hiq, h5q, h6q, h7q, h10q, h11q, upd_at, upd_upd, upd_id] at c_29); have c_49 := c_4; (try simp only [ez_3, ef_5, ez_6, ez_8, ez_10, ef_11, ef_12, hiq, h5q, h6q, h7q, h10q, h11q, upd_at, upd_upd, upd_id] at c_49); have c_79 := c_7; (try simp only [ez_3, ef_5, ez_6, ez_8, ez_10, ef_11, ef_12, hiq, h5q, h6q, h7q, h10q, h11q, upd_at, upd_upd, upd_id] at c_79); have c_99 := c_9; (try simp only [ez_3, ef_5, ez_6, ez_8, ez_10, ef_11, ef_12, hiq, h5q, h6q, h7q, h10q, h11q, upd_at, upd_upd, upd_id] at c_99); simp only [hoM, hoF, ez_3, ef_5, ez_6, ez_8, ez_10, ef_11, ef_12, hiq, h5q, h6q, h7q, h10q, h11q, upd_at, upd_upd, upd_id, if_neg c_29, if_pos c_49, if_neg c_79, if_pos c_99, upd_upd, upd_id])), (up_s0 hl7 (by have c_29 := c_2; (try simp only [ez_3, ef_5, ez_6, ez_8, ez_10, ef_11, ef_12, hiq, h5q, h6q, h7q, h10q, h11q, upd_at, upd_upd, upd_id] at c_29); have c_49 := c_4; (try simp only [ez_3, ef_5, ez_6, ez_8, ez_10, ef_11, ef_12, hiq, h5q, h6q, h7q, h10q, h11q, upd_at, upd_upd, upd_id] at c_49); have c_79 := c_7; (try simp only [ez_3, ef_5, ez_6, ez_8, ez_10, ef_11, ef_12, hiq, h5q, h6q, h7q, h10q, h11q, upd_at, upd_upd, upd_id] at c_79); have c_99 := c_9; (try simp only [ez_3, ef_5, ez_6, ez_8, ez_10, ef_11, ef_12, hiq, h5q, h6q, h7q, h10q, h11q, upd_at, upd_upd, upd_id] at c_99); simp only [hoS, hoF, ez_3, ef_5, ez_6, ez_8, ez_10, ef_11, ef_12, hiq, h5q, h6q, h7q, h10q, h11q, upd_at, upd_upd, upd_id, if_neg c_29, if_pos c_49, if_neg c_79, if_pos c_99, upd_upd, upd_id])), (by rw [ef_12, hiq]; exact up_st hl10 (by have c_29 := c_2; (try simp only [ez_3, ef_5, ez_6, ez_8, ez_10, ef_11, ef_12, hiq, h5q, h6q, h7q, h10q, h11q, upd_at, upd_upd, upd_id] at c_29); have c_49 := c_4; (try simp only [ez_3, ef_5, ez_6, ez_8, ez_10, ef_11, ef_12, hiq, h5q, h6q, h7q, h10q, h11q, upd_at, upd_upd, upd_id] at c_49); have c_79 := c_7; (try simp only [ez_3, ef_5, ez_6, ez_8, ez_10, ef_11, ef_12, hiq, h5q, h6q, h7q, h10q, h11q, upd_at, upd_upd, upd_id] at c_79); have c_99 := c_9; (try simp only [ez_3, ef_5, ez_6, ez_8, ez_10, ef_11, ef_12, hiq, h5q, h6q, h7q, h10q, h11q, upd_at, upd_upd, upd_id] at c_99); simp only [nar_0, ez_3, ef_5, ez_6, ez_8, ez_10, ef_11, ef_12, hiq, h5q, h6q, h7q, h10q, h11q, upd_at, upd_upd, upd_id, if_neg c_29, if_pos c_49, if_neg c_79, if_pos c_99, upd_upd, upd_id])), (by rw [ef_11, hiq]; exact up_st hl11 (by have c_29 := c_2; (try simp only [ez_3, ef_5, ez_6, ez_8, ez_10, ef_11, ef_12, hiq, h5q, h6q, h7q, h10q, h11q, upd_at, upd_upd, upd_id] at c_29); have c_49 := c_4; (try simp only [ez_3, ef_5, ez_6, ez_8, ez_10, ef_11, ef_12, hiq, h5q, h6q, h7q, h10q, h11q, upd_at, upd_upd, upd_id] at c_49); have c_79 := c_7; (try simp only [ez_3, ef_5, ez_6, ez_8, ez_10, ef_11, ef_12, hiq, h5q, h6q, h7q, h10q, h11q, upd_at, upd_upd, upd_id] at c_79); have c_99 := c_9; (try simp only [ez_3, ef_5, ez_6, ez_8, ez_10, ef_11, ef_12, hiq, h5q, h6q, h7q, h10q, h11q, upd_at, upd_upd, upd_id] at c_99); simp only [nar_01 (h01 q hqlt), ez_3, ef_5, ez_6, ez_8, ez_10, ef_11, ef_12, hiq, h5q, h6q, h7q, h10q, h11q, upd_at, upd_upd, upd_id, if_neg c_29, if_pos c_49, if_neg c_79, if_pos c_99, upd_upd, upd_id]))⟩) hP hD hS (lv_sub hl [0, 1] rfl)
            · have nc_9 := ne_i c_9
              have lc_9 : (2 : Int32).toInt = 2 := by decide
              refine lv_aload_n hx hb dX10_hour_72 rfl (lv_at hl 1 rfl) ?_
              refine va_get (D := (dC, dI)) (ci := 10) (v := .ref (b 10)) (C := RX10) (T := TX10) (N := 51) hx hb hts inw_X10_hour_10 hown hK hP 0 rfl rfl 10 (by decide) (hts (.fieldLink RX10 28 "VatHouseModel" "isDipped" "[Z") (List.mem_of_getElem? (i := 4) (by exact rfl))) (fun _ h9 => h9) rfl dX10_hour_73 ?_
              refine lv_iload_n hx hb dX10_hour_76 rfl (lv_at hl 0 rfl) ?_
              refine va_zald hx hb hK hP 7 6 rfl rfl (by rw [hq]; exact vp_in_nI hqlt (by decide)) dX10_hour_77 ?_
              refine lv_topi (fun z_13 ez_13 => ?_)
              have ez_13 : z_13 = l10 ii.toNatClampNeg := ez_13
              refine lv_if_ne (tgt := 104) hx hb dX10_hour_78 (by decide) (fun c_14 => ?_) (fun c_14 => ?_)
              · have nc_14 := ne_i c_14
                have lc_14 : (0 : Int32).toInt = 0 := by decide
                refine lv_aload_n hx hb dX10_hour_104 rfl (lv_at hl 1 rfl) ?_
                refine va_get (D := (dC, dI)) (ci := 10) (v := .ref (b 11)) (C := RX10) (T := TX10) (N := 51) hx hb hts inw_X10_hour_10 hown hK hP 0 rfl rfl 11 (by decide) (hts (.fieldLink RX10 32 "VatHouseModel" "wasDipped" "[Z") (List.mem_of_getElem? (i := 5) (by exact rfl))) (fun _ h9 => h9) rfl dX10_hour_105 ?_
                refine lv_iload_n hx hb dX10_hour_108 rfl (lv_at hl 0 rfl) ?_
                refine lv_aload_n hx hb dX10_hour_109 rfl (lv_at hl 1 rfl) ?_
                refine va_get (D := (dC, dI)) (ci := 10) (v := .ref (b 10)) (C := RX10) (T := TX10) (N := 51) hx hb hts inw_X10_hour_10 hown hK hP 0 rfl rfl 10 (by decide) (hts (.fieldLink RX10 28 "VatHouseModel" "isDipped" "[Z") (List.mem_of_getElem? (i := 4) (by exact rfl))) (fun _ h9 => h9) rfl dX10_hour_110 ?_
                refine lv_iload_n hx hb dX10_hour_113 rfl (lv_at hl 0 rfl) ?_
                refine va_zald hx hb hK hP 7 6 rfl rfl (by rw [hq]; exact vp_in_nI hqlt (by decide)) dX10_hour_114 ?_
                refine lv_topi (fun z_15 ez_15 => ?_)
                have ez_15 : z_15 = l10 ii.toNatClampNeg := ez_15
                refine va_zast hx hb hK hP hD hS 8 7 rfl rfl (by rw [hq]; exact vp_in_nI hqlt (by decide)) dX10_hour_115 (fun H locs hP hD hS => ?_)
                have hP : va_P (dC, dI) vwCl (mw g h0 b (va_up i 1 z_1) (va_up (va_up (va_up (va_up (va_up a 5 f_5) 6 l6) 7 l7) 10 l10) 11 (upd l11 ii.toNatClampNeg (vp_nar .boolean z_15)))) _ := hP
                have hD : va_D _ (mw g h0 b (va_up i 1 z_1) (va_up (va_up (va_up (va_up (va_up a 5 f_5) 6 l6) 7 l7) 10 l10) 11 (upd l11 ii.toNatClampNeg (vp_nar .boolean z_15)))) := hD
                obtain ⟨f_16, ef_16⟩ : ∃ z, z = (upd l11 ii.toNatClampNeg (vp_nar .boolean z_15)) := ⟨_, rfl⟩
                rw [← ef_16] at hP hD
                refine lv_aload_n hx hb dX10_hour_116 rfl (lv_at hl 1 rfl) ?_
                refine va_get (D := (dC, dI)) (ci := 10) (v := .ref (b 10)) (C := RX10) (T := TX10) (N := 51) hx hb hts inw_X10_hour_10 hown hK hP 0 rfl rfl 10 (by decide) (hts (.fieldLink RX10 28 "VatHouseModel" "isDipped" "[Z") (List.mem_of_getElem? (i := 4) (by exact rfl))) (fun _ h9 => h9) rfl dX10_hour_117 ?_
                refine lv_iload_n hx hb dX10_hour_120 rfl (lv_at hl 0 rfl) ?_
                refine lv_iconst (v := 0) hx hb dX10_hour_121 (by decide) ?_
                refine va_zast hx hb hK hP hD hS 7 6 rfl rfl (by rw [hq]; exact vp_in_nI hqlt (by decide)) dX10_hour_122 (fun H locs hP hD hS => ?_)
                have hP : va_P (dC, dI) vwCl (mw g h0 b (va_up i 1 z_1) (va_up (va_up (va_up (va_up (va_up a 5 f_5) 6 l6) 7 l7) 10 (upd l10 ii.toNatClampNeg (vp_nar .boolean (0 : Int32)))) 11 f_16)) _ := hP
                have hD : va_D _ (mw g h0 b (va_up i 1 z_1) (va_up (va_up (va_up (va_up (va_up a 5 f_5) 6 l6) 7 l7) 10 (upd l10 ii.toNatClampNeg (vp_nar .boolean (0 : Int32)))) 11 f_16)) := hD
                obtain ⟨f_17, ef_17⟩ : ∃ z, z = (upd l10 ii.toNatClampNeg (vp_nar .boolean (0 : Int32))) := ⟨_, rfl⟩
                rw [← ef_17] at hP hD
                refine lv_iinc (v := (ii + 1)) (lv' := [(1, .int (ii + 1)), (0, .ref h0)]) hx hb dX10_hour_123 hl (k := 0) rfl rfl (by decide) rfl (fun ls hl => ?_)
                refine lv_goto (tgt := 12) hx hb dX10_hour_126 (by decide) ?_
                exact ih (ii + 1) f_5 l6 l7 f_17 f_16 _ _ _ (up_nx (by decide) hm (by decide) c_2) (⟨q + 1, by rw [hq]; exact nI_1 q, by omega, (by rw [ef_5, hiq]; exact up_st hl5 (by have c_29 := c_2; (try simp only [ez_3, ef_5, ez_6, ez_8, ez_13, ez_15, ef_16, ef_17, hiq, h5q, h6q, h7q, h10q, h11q, upd_at, upd_upd, upd_id] at c_29); have c_49 := c_4; (try simp only [ez_3, ef_5, ez_6, ez_8, ez_13, ez_15, ef_16, ef_17, hiq, h5q, h6q, h7q, h10q, h11q, upd_at, upd_upd, upd_id] at c_49); have c_79 := c_7; (try simp only [ez_3, ef_5, ez_6, ez_8, ez_13, ez_15, ef_16, ef_17, hiq, h5q, h6q, h7q, h10q, h11q, upd_at, upd_upd, upd_id] at c_79); have c_99 := c_9; (try simp only [ez_3, ef_5, ez_6, ez_8, ez_13, ez_15, ef_16, ef_17, hiq, h5q, h6q, h7q, h10q, h11q, upd_at, upd_upd, upd_id] at c_99); have c_149 := c_14; (try simp only [ez_3, ef_5, ez_6, ez_8, ez_13, ez_15, ef_16, ef_17, hiq, h5q, h6q, h7q, h10q, h11q, upd_at, upd_upd, upd_id] at c_149); simp only [hoF, ez_3, ef_5, ez_6, ez_8, ez_13, ez_15, ef_16, ef_17, hiq, h5q, h6q, h7q, h10q, h11q, upd_at, upd_upd, upd_id, if_neg c_29, if_pos c_49, if_neg c_79, if_neg c_99, if_neg c_149, upd_upd, upd_id])), (up_s0 hl6 (by have c_29 := c_2; (try simp only [ez_3, ef_5, ez_6, ez_8, ez_13, ez_15, ef_16, ef_17, hiq, h5q, h6q, h7q, h10q, h11q, upd_at, upd_upd, upd_id] at c_29); have c_49 := c_4; (try simp only [ez_3, ef_5, ez_6, ez_8, ez_13, ez_15, ef_16, ef_17, hiq, h5q, h6q, h7q, h10q, h11q, upd_at, upd_upd, upd_id] at c_49); have c_79 := c_7; (try simp only [ez_3, ef_5, ez_6, ez_8, ez_13, ez_15, ef_16, ef_17, hiq, h5q, h6q, h7q, h10q, h11q, upd_at, upd_upd, upd_id] at c_79); have c_99 := c_9; (try simp only [ez_3, ef_5, ez_6, ez_8, ez_13, ez_15, ef_16, ef_17, hiq, h5q, h6q, h7q, h10q, h11q, upd_at, upd_upd, upd_id] at c_99); have c_149 := c_14; (try simp only [ez_3, ef_5, ez_6, ez_8, ez_13, ez_15, ef_16, ef_17, hiq, h5q, h6q, h7q, h10q, h11q, upd_at, upd_upd, upd_id] at c_149); simp only [hoM, hoF, ez_3, ef_5, ez_6, ez_8, ez_13, ez_15, ef_16, ef_17, hiq, h5q, h6q, h7q, h10q, h11q, upd_at, upd_upd, upd_id, if_neg c_29, if_pos c_49, if_neg c_79, if_neg c_99, if_neg c_149, upd_upd, upd_id])), (up_s0 hl7 (by have c_29 := c_2; (try simp only [ez_3, ef_5, ez_6, ez_8, ez_13, ez_15, ef_16, ef_17, hiq, h5q, h6q, h7q, h10q, h11q, upd_at, upd_upd, upd_id] at c_29); have c_49 := c_4; (try simp only [ez_3, ef_5, ez_6, ez_8, ez_13, ez_15, ef_16, ef_17, hiq, h5q, h6q, h7q, h10q, h11q, upd_at, upd_upd, upd_id] at c_49); have c_79 := c_7; (try simp only [ez_3, ef_5, ez_6, ez_8, ez_13, ez_15, ef_16, ef_17, hiq, h5q, h6q, h7q, h10q, h11q, upd_at, upd_upd, upd_id] at c_79); have c_99 := c_9; (try simp only [ez_3, ef_5, ez_6, ez_8, ez_13, ez_15, ef_16, ef_17, hiq, h5q, h6q, h7q, h10q, h11q, upd_at, upd_upd, upd_id] at c_99); have c_149 := c_14; (try simp only [ez_3, ef_5, ez_6, ez_8, ez_13, ez_15, ef_16, ef_17, hiq, h5q, h6q, h7q, h10q, h11q, upd_at, upd_upd, upd_id] at c_149); simp only [hoS, hoF, ez_3, ef_5, ez_6, ez_8, ez_13, ez_15, ef_16, ef_17, hiq, h5q, h6q, h7q, h10q, h11q, upd_at, upd_upd, upd_id, if_neg c_29, if_pos c_49, if_neg c_79, if_neg c_99, if_neg c_149, upd_upd, upd_id])), (by rw [ef_17, hiq]; exact up_st hl10 (by have c_29 := c_2; (try simp only [ez_3, ef_5, ez_6, ez_8, ez_13, ez_15, ef_16, ef_17, hiq, h5q, h6q, h7q, h10q, h11q, upd_at, upd_upd, upd_id] at c_29); have c_49 := c_4; (try simp only [ez_3, ef_5, ez_6, ez_8, ez_13, ez_15, ef_16, ef_17, hiq, h5q, h6q, h7q, h10q, h11q, upd_at, upd_upd, upd_id] at c_49); have c_79 := c_7; (try simp only [ez_3, ef_5, ez_6, ez_8, ez_13, ez_15, ef_16, ef_17, hiq, h5q, h6q, h7q, h10q, h11q, upd_at, upd_upd, upd_id] at c_79); have c_99 := c_9; (try simp only [ez_3, ef_5, ez_6, ez_8, ez_13, ez_15, ef_16, ef_17, hiq, h5q, h6q, h7q, h10q, h11q, upd_at, upd_upd, upd_id] at c_99); have c_149 := c_14; (try simp only [ez_3, ef_5, ez_6, ez_8, ez_13, ez_15, ef_16, ef_17, hiq, h5q, h6q, h7q, h10q, h11q, upd_at, upd_upd, upd_id] at c_149); simp only [nar_0, ez_3, ef_5, ez_6, ez_8, ez_13, ez_15, ef_16, ef_17, hiq, h5q, h6q, h7q, h10q, h11q, upd_at, upd_upd, upd_id, if_neg c_29, if_pos c_49, if_neg c_79, if_neg c_99, if_neg c_149, upd_upd, upd_id])), (by rw [ef_16, hiq]; exact up_st hl11 (by have c_29 := c_2; (try simp only [ez_3, ef_5, ez_6, ez_8, ez_13, ez_15, ef_16, ef_17, hiq, h5q, h6q, h7q, h10q, h11q, upd_at, upd_upd, upd_id] at c_29); have c_49 := c_4; (try simp only [ez_3, ef_5, ez_6, ez_8, ez_13, ez_15, ef_16, ef_17, hiq, h5q, h6q, h7q, h10q, h11q, upd_at, upd_upd, upd_id] at c_49); have c_79 := c_7; (try simp only [ez_3, ef_5, ez_6, ez_8, ez_13, ez_15, ef_16, ef_17, hiq, h5q, h6q, h7q, h10q, h11q, upd_at, upd_upd, upd_id] at c_79); have c_99 := c_9; (try simp only [ez_3, ef_5, ez_6, ez_8, ez_13, ez_15, ef_16, ef_17, hiq, h5q, h6q, h7q, h10q, h11q, upd_at, upd_upd, upd_id] at c_99); have c_149 := c_14; (try simp only [ez_3, ef_5, ez_6, ez_8, ez_13, ez_15, ef_16, ef_17, hiq, h5q, h6q, h7q, h10q, h11q, upd_at, upd_upd, upd_id] at c_149); simp only [nar_01 (h01 q hqlt), ez_3, ef_5, ez_6, ez_8, ez_13, ez_15, ef_16, ef_17, hiq, h5q, h6q, h7q, h10q, h11q, upd_at, upd_upd, upd_id, if_neg c_29, if_pos c_49, if_neg c_79, if_neg c_99, if_neg c_149, upd_upd, upd_id]))⟩) hP hD hS (lv_sub hl [0, 1] rfl)
              · have nc_14 := eq_i c_14
                have lc_14 : (0 : Int32).toInt = 0 := by decide
                refine lv_aload_n hx hb dX10_hour_81 rfl (lv_at hl 1 rfl) ?_
                refine va_get (D := (dC, dI)) (ci := 10) (v := .ref (b 11)) (C := RX10) (T := TX10) (N := 51) hx hb hts inw_X10_hour_10 hown hK hP 0 rfl rfl 11 (by decide) (hts (.fieldLink RX10 32 "VatHouseModel" "wasDipped" "[Z") (List.mem_of_getElem? (i := 5) (by exact rfl))) (fun _ h9 => h9) rfl dX10_hour_82 ?_
                refine lv_iload_n hx hb dX10_hour_85 rfl (lv_at hl 0 rfl) ?_
                refine va_zald hx hb hK hP 8 7 rfl rfl (by rw [hq]; exact vp_in_nI hqlt (by decide)) dX10_hour_86 ?_
                refine lv_topi (fun z_18 ez_18 => ?_)
                have ez_18 : z_18 = l11 ii.toNatClampNeg := ez_18
                refine lv_if_ne (tgt := 104) hx hb dX10_hour_87 (by decide) (fun c_19 => ?_) (fun c_19 => ?_)
                · have nc_19 := ne_i c_19
                  have lc_19 : (0 : Int32).toInt = 0 := by decide
                  refine lv_aload_n hx hb dX10_hour_104 rfl (lv_at hl 1 rfl) ?_
                  refine va_get (D := (dC, dI)) (ci := 10) (v := .ref (b 11)) (C := RX10) (T := TX10) (N := 51) hx hb hts inw_X10_hour_10 hown hK hP 0 rfl rfl 11 (by decide) (hts (.fieldLink RX10 32 "VatHouseModel" "wasDipped" "[Z") (List.mem_of_getElem? (i := 5) (by exact rfl))) (fun _ h9 => h9) rfl dX10_hour_105 ?_
                  refine lv_iload_n hx hb dX10_hour_108 rfl (lv_at hl 0 rfl) ?_
                  refine lv_aload_n hx hb dX10_hour_109 rfl (lv_at hl 1 rfl) ?_
                  refine va_get (D := (dC, dI)) (ci := 10) (v := .ref (b 10)) (C := RX10) (T := TX10) (N := 51) hx hb hts inw_X10_hour_10 hown hK hP 0 rfl rfl 10 (by decide) (hts (.fieldLink RX10 28 "VatHouseModel" "isDipped" "[Z") (List.mem_of_getElem? (i := 4) (by exact rfl))) (fun _ h9 => h9) rfl dX10_hour_110 ?_
                  refine lv_iload_n hx hb dX10_hour_113 rfl (lv_at hl 0 rfl) ?_
                  refine va_zald hx hb hK hP 7 6 rfl rfl (by rw [hq]; exact vp_in_nI hqlt (by decide)) dX10_hour_114 ?_
                  refine lv_topi (fun z_20 ez_20 => ?_)
                  have ez_20 : z_20 = l10 ii.toNatClampNeg := ez_20
                  refine va_zast hx hb hK hP hD hS 8 7 rfl rfl (by rw [hq]; exact vp_in_nI hqlt (by decide)) dX10_hour_115 (fun H locs hP hD hS => ?_)
                  have hP : va_P (dC, dI) vwCl (mw g h0 b (va_up i 1 z_1) (va_up (va_up (va_up (va_up (va_up a 5 f_5) 6 l6) 7 l7) 10 l10) 11 (upd l11 ii.toNatClampNeg (vp_nar .boolean z_20)))) _ := hP
                  have hD : va_D _ (mw g h0 b (va_up i 1 z_1) (va_up (va_up (va_up (va_up (va_up a 5 f_5) 6 l6) 7 l7) 10 l10) 11 (upd l11 ii.toNatClampNeg (vp_nar .boolean z_20)))) := hD
                  obtain ⟨f_21, ef_21⟩ : ∃ z, z = (upd l11 ii.toNatClampNeg (vp_nar .boolean z_20)) := ⟨_, rfl⟩
                  rw [← ef_21] at hP hD
                  refine lv_aload_n hx hb dX10_hour_116 rfl (lv_at hl 1 rfl) ?_
                  refine va_get (D := (dC, dI)) (ci := 10) (v := .ref (b 10)) (C := RX10) (T := TX10) (N := 51) hx hb hts inw_X10_hour_10 hown hK hP 0 rfl rfl 10 (by decide) (hts (.fieldLink RX10 28 "VatHouseModel" "isDipped" "[Z") (List.mem_of_getElem? (i := 4) (by exact rfl))) (fun _ h9 => h9) rfl dX10_hour_117 ?_
                  refine lv_iload_n hx hb dX10_hour_120 rfl (lv_at hl 0 rfl) ?_
                  refine lv_iconst (v := 0) hx hb dX10_hour_121 (by decide) ?_
                  refine va_zast hx hb hK hP hD hS 7 6 rfl rfl (by rw [hq]; exact vp_in_nI hqlt (by decide)) dX10_hour_122 (fun H locs hP hD hS => ?_)
                  have hP : va_P (dC, dI) vwCl (mw g h0 b (va_up i 1 z_1) (va_up (va_up (va_up (va_up (va_up a 5 f_5) 6 l6) 7 l7) 10 (upd l10 ii.toNatClampNeg (vp_nar .boolean (0 : Int32)))) 11 f_21)) _ := hP
                  have hD : va_D _ (mw g h0 b (va_up i 1 z_1) (va_up (va_up (va_up (va_up (va_up a 5 f_5) 6 l6) 7 l7) 10 (upd l10 ii.toNatClampNeg (vp_nar .boolean (0 : Int32)))) 11 f_21)) := hD
                  obtain ⟨f_22, ef_22⟩ : ∃ z, z = (upd l10 ii.toNatClampNeg (vp_nar .boolean (0 : Int32))) := ⟨_, rfl⟩
                  rw [← ef_22] at hP hD
                  refine lv_iinc (v := (ii + 1)) (lv' := [(1, .int (ii + 1)), (0, .ref h0)]) hx hb dX10_hour_123 hl (k := 0) rfl rfl (by decide) rfl (fun ls hl => ?_)
                  refine lv_goto (tgt := 12) hx hb dX10_hour_126 (by decide) ?_
                  exact ih (ii + 1) f_5 l6 l7 f_22 f_21 _ _ _ (up_nx (by decide) hm (by decide) c_2) (⟨q + 1, by rw [hq]; exact nI_1 q, by omega, (by rw [ef_5, hiq]; exact up_st hl5 (by have c_29 := c_2; (try simp only [ez_3, ef_5, ez_6, ez_8, ez_13, ez_18, ez_20, ef_21, ef_22, hiq, h5q, h6q, h7q, h10q, h11q, upd_at, upd_upd, upd_id] at c_29); have c_49 := c_4; (try simp only [ez_3, ef_5, ez_6, ez_8, ez_13, ez_18, ez_20, ef_21, ef_22, hiq, h5q, h6q, h7q, h10q, h11q, upd_at, upd_upd, upd_id] at c_49); have c_79 := c_7; (try simp only [ez_3, ef_5, ez_6, ez_8, ez_13, ez_18, ez_20, ef_21, ef_22, hiq, h5q, h6q, h7q, h10q, h11q, upd_at, upd_upd, upd_id] at c_79); have c_99 := c_9; (try simp only [ez_3, ef_5, ez_6, ez_8, ez_13, ez_18, ez_20, ef_21, ef_22, hiq, h5q, h6q, h7q, h10q, h11q, upd_at, upd_upd, upd_id] at c_99); have c_149 := c_14; (try simp only [ez_3, ef_5, ez_6, ez_8, ez_13, ez_18, ez_20, ef_21, ef_22, hiq, h5q, h6q, h7q, h10q, h11q, upd_at, upd_upd, upd_id] at c_149); have c_199 := c_19; (try simp only [ez_3, ef_5, ez_6, ez_8, ez_13, ez_18, ez_20, ef_21, ef_22, hiq, h5q, h6q, h7q, h10q, h11q, upd_at, upd_upd, upd_id] at c_199); simp only [hoF, ez_3, ef_5, ez_6, ez_8, ez_13, ez_18, ez_20, ef_21, ef_22, hiq, h5q, h6q, h7q, h10q, h11q, upd_at, upd_upd, upd_id, if_neg c_29, if_pos c_49, if_neg c_79, if_neg c_99, if_pos c_149, if_neg c_199, upd_upd, upd_id])), (up_s0 hl6 (by have c_29 := c_2; (try simp only [ez_3, ef_5, ez_6, ez_8, ez_13, ez_18, ez_20, ef_21, ef_22, hiq, h5q, h6q, h7q, h10q, h11q, upd_at, upd_upd, upd_id] at c_29); have c_49 := c_4; (try simp only [ez_3, ef_5, ez_6, ez_8, ez_13, ez_18, ez_20, ef_21, ef_22, hiq, h5q, h6q, h7q, h10q, h11q, upd_at, upd_upd, upd_id] at c_49); have c_79 := c_7; (try simp only [ez_3, ef_5, ez_6, ez_8, ez_13, ez_18, ez_20, ef_21, ef_22, hiq, h5q, h6q, h7q, h10q, h11q, upd_at, upd_upd, upd_id] at c_79); have c_99 := c_9; (try simp only [ez_3, ef_5, ez_6, ez_8, ez_13, ez_18, ez_20, ef_21, ef_22, hiq, h5q, h6q, h7q, h10q, h11q, upd_at, upd_upd, upd_id] at c_99); have c_149 := c_14; (try simp only [ez_3, ef_5, ez_6, ez_8, ez_13, ez_18, ez_20, ef_21, ef_22, hiq, h5q, h6q, h7q, h10q, h11q, upd_at, upd_upd, upd_id] at c_149); have c_199 := c_19; (try simp only [ez_3, ef_5, ez_6, ez_8, ez_13, ez_18, ez_20, ef_21, ef_22, hiq, h5q, h6q, h7q, h10q, h11q, upd_at, upd_upd, upd_id] at c_199); simp only [hoM, hoF, ez_3, ef_5, ez_6, ez_8, ez_13, ez_18, ez_20, ef_21, ef_22, hiq, h5q, h6q, h7q, h10q, h11q, upd_at, upd_upd, upd_id, if_neg c_29, if_pos c_49, if_neg c_79, if_neg c_99, if_pos c_149, if_neg c_199, upd_upd, upd_id])), (up_s0 hl7 (by have c_29 := c_2; (try simp only [ez_3, ef_5, ez_6, ez_8, ez_13, ez_18, ez_20, ef_21, ef_22, hiq, h5q, h6q, h7q, h10q, h11q, upd_at, upd_upd, upd_id] at c_29); have c_49 := c_4; (try simp only [ez_3, ef_5, ez_6, ez_8, ez_13, ez_18, ez_20, ef_21, ef_22, hiq, h5q, h6q, h7q, h10q, h11q, upd_at, upd_upd, upd_id] at c_49); have c_79 := c_7; (try simp only [ez_3, ef_5, ez_6, ez_8, ez_13, ez_18, ez_20, ef_21, ef_22, hiq, h5q, h6q, h7q, h10q, h11q, upd_at, upd_upd, upd_id] at c_79); have c_99 := c_9; (try simp only [ez_3, ef_5, ez_6, ez_8, ez_13, ez_18, ez_20, ef_21, ef_22, hiq, h5q, h6q, h7q, h10q, h11q, upd_at, upd_upd, upd_id] at c_99); have c_149 := c_14; (try simp only [ez_3, ef_5, ez_6, ez_8, ez_13, ez_18, ez_20, ef_21, ef_22, hiq, h5q, h6q, h7q, h10q, h11q, upd_at, upd_upd, upd_id] at c_149); have c_199 := c_19; (try simp only [ez_3, ef_5, ez_6, ez_8, ez_13, ez_18, ez_20, ef_21, ef_22, hiq, h5q, h6q, h7q, h10q, h11q, upd_at, upd_upd, upd_id] at c_199); simp only [hoS, hoF, ez_3, ef_5, ez_6, ez_8, ez_13, ez_18, ez_20, ef_21, ef_22, hiq, h5q, h6q, h7q, h10q, h11q, upd_at, upd_upd, upd_id, if_neg c_29, if_pos c_49, if_neg c_79, if_neg c_99, if_pos c_149, if_neg c_199, upd_upd, upd_id])), (by rw [ef_22, hiq]; exact up_st hl10 (by have c_29 := c_2; (try simp only [ez_3, ef_5, ez_6, ez_8, ez_13, ez_18, ez_20, ef_21, ef_22, hiq, h5q, h6q, h7q, h10q, h11q, upd_at, upd_upd, upd_id] at c_29); have c_49 := c_4; (try simp only [ez_3, ef_5, ez_6, ez_8, ez_13, ez_18, ez_20, ef_21, ef_22, hiq, h5q, h6q, h7q, h10q, h11q, upd_at, upd_upd, upd_id] at c_49); have c_79 := c_7; (try simp only [ez_3, ef_5, ez_6, ez_8, ez_13, ez_18, ez_20, ef_21, ef_22, hiq, h5q, h6q, h7q, h10q, h11q, upd_at, upd_upd, upd_id] at c_79); have c_99 := c_9; (try simp only [ez_3, ef_5, ez_6, ez_8, ez_13, ez_18, ez_20, ef_21, ef_22, hiq, h5q, h6q, h7q, h10q, h11q, upd_at, upd_upd, upd_id] at c_99); have c_149 := c_14; (try simp only [ez_3, ef_5, ez_6, ez_8, ez_13, ez_18, ez_20, ef_21, ef_22, hiq, h5q, h6q, h7q, h10q, h11q, upd_at, upd_upd, upd_id] at c_149); have c_199 := c_19; (try simp only [ez_3, ef_5, ez_6, ez_8, ez_13, ez_18, ez_20, ef_21, ef_22, hiq, h5q, h6q, h7q, h10q, h11q, upd_at, upd_upd, upd_id] at c_199); simp only [nar_0, ez_3, ef_5, ez_6, ez_8, ez_13, ez_18, ez_20, ef_21, ef_22, hiq, h5q, h6q, h7q, h10q, h11q, upd_at, upd_upd, upd_id, if_neg c_29, if_pos c_49, if_neg c_79, if_neg c_99, if_pos c_149, if_neg c_199, upd_upd, upd_id])), (by rw [ef_21, hiq]; exact up_st hl11 (by have c_29 := c_2; (try simp only [ez_3, ef_5, ez_6, ez_8, ez_13, ez_18, ez_20, ef_21, ef_22, hiq, h5q, h6q, h7q, h10q, h11q, upd_at, upd_upd, upd_id] at c_29); have c_49 := c_4; (try simp only [ez_3, ef_5, ez_6, ez_8, ez_13, ez_18, ez_20, ef_21, ef_22, hiq, h5q, h6q, h7q, h10q, h11q, upd_at, upd_upd, upd_id] at c_49); have c_79 := c_7; (try simp only [ez_3, ef_5, ez_6, ez_8, ez_13, ez_18, ez_20, ef_21, ef_22, hiq, h5q, h6q, h7q, h10q, h11q, upd_at, upd_upd, upd_id] at c_79); have c_99 := c_9; (try simp only [ez_3, ef_5, ez_6, ez_8, ez_13, ez_18, ez_20, ef_21, ef_22, hiq, h5q, h6q, h7q, h10q, h11q, upd_at, upd_upd, upd_id] at c_99); have c_149 := c_14; (try simp only [ez_3, ef_5, ez_6, ez_8, ez_13, ez_18, ez_20, ef_21, ef_22, hiq, h5q, h6q, h7q, h10q, h11q, upd_at, upd_upd, upd_id] at c_149); have c_199 := c_19; (try simp only [ez_3, ef_5, ez_6, ez_8, ez_13, ez_18, ez_20, ef_21, ef_22, hiq, h5q, h6q, h7q, h10q, h11q, upd_at, upd_upd, upd_id] at c_199); simp only [nar_01 (h01 q hqlt), ez_3, ef_5, ez_6, ez_8, ez_13, ez_18, ez_20, ef_21, ef_22, hiq, h5q, h6q, h7q, h10q, h11q, upd_at, upd_upd, upd_id, if_neg c_29, if_pos c_49, if_neg c_79, if_neg c_99, if_pos c_149, if_neg c_199, upd_upd, upd_id]))⟩) hP hD hS (lv_sub hl [0, 1] rfl)
                · have nc_19 := eq_i c_19
                  have lc_19 : (0 : Int32).toInt = 0 := by decide
                  refine lv_aload_n hx hb dX10_hour_90 rfl (lv_at hl 1 rfl) ?_
                  refine va_get (D := (dC, dI)) (ci := 10) (v := .ref (b 7)) (C := RX10) (T := TX10) (N := 51) hx hb hts inw_X10_hour_10 hown hK hP 0 rfl rfl 7 (by decide) (hts (.fieldLink RX10 19 "VatHouseModel" "state" "[I") (List.mem_of_getElem? (i := 3) (by exact rfl))) (fun _ h9 => h9) rfl dX10_hour_91 ?_
                  refine lv_iload_n hx hb dX10_hour_94 rfl (lv_at hl 0 rfl) ?_
                  refine lv_iconst (v := 0) hx hb dX10_hour_95 (by decide) ?_
                  refine va_iast hx hb hK hP hD hS 4 3 rfl rfl (by rw [hq]; exact vp_in_nI hqlt (by decide)) dX10_hour_96 (fun H locs hP hD hS => ?_)
                  have hP : va_P (dC, dI) vwCl (mw g h0 b (va_up i 1 z_1) (va_up (va_up (va_up (va_up (va_up a 5 f_5) 6 l6) 7 (upd l7 ii.toNatClampNeg (0 : Int32))) 10 l10) 11 l11)) _ := hP
                  have hD : va_D _ (mw g h0 b (va_up i 1 z_1) (va_up (va_up (va_up (va_up (va_up a 5 f_5) 6 l6) 7 (upd l7 ii.toNatClampNeg (0 : Int32))) 10 l10) 11 l11)) := hD
                  obtain ⟨f_23, ef_23⟩ : ∃ z, z = (upd l7 ii.toNatClampNeg (0 : Int32)) := ⟨_, rfl⟩
                  rw [← ef_23] at hP hD
                  refine lv_aload_n hx hb dX10_hour_97 rfl (lv_at hl 1 rfl) ?_
                  refine va_get (D := (dC, dI)) (ci := 10) (v := .ref (b 6)) (C := RX10) (T := TX10) (N := 51) hx hb hts inw_X10_hour_10 hown hK hP 0 rfl rfl 6 (by decide) (hts (.fieldLink RX10 16 "VatHouseModel" "minutes" "[I") (List.mem_of_getElem? (i := 6) (by exact rfl))) (fun _ h9 => h9) rfl dX10_hour_98 ?_
                  refine lv_iload_n hx hb dX10_hour_101 rfl (lv_at hl 0 rfl) ?_
                  refine lv_iconst (v := 0) hx hb dX10_hour_102 (by decide) ?_
                  refine va_iast hx hb hK hP hD hS 3 2 rfl rfl (by rw [hq]; exact vp_in_nI hqlt (by decide)) dX10_hour_103 (fun H locs hP hD hS => ?_)
                  have hP : va_P (dC, dI) vwCl (mw g h0 b (va_up i 1 z_1) (va_up (va_up (va_up (va_up (va_up a 5 f_5) 6 (upd l6 ii.toNatClampNeg (0 : Int32))) 7 f_23) 10 l10) 11 l11)) _ := hP
                  have hD : va_D _ (mw g h0 b (va_up i 1 z_1) (va_up (va_up (va_up (va_up (va_up a 5 f_5) 6 (upd l6 ii.toNatClampNeg (0 : Int32))) 7 f_23) 10 l10) 11 l11)) := hD
                  obtain ⟨f_24, ef_24⟩ : ∃ z, z = (upd l6 ii.toNatClampNeg (0 : Int32)) := ⟨_, rfl⟩
                  rw [← ef_24] at hP hD
                  refine lv_aload_n hx hb dX10_hour_104 rfl (lv_at hl 1 rfl) ?_
                  refine va_get (D := (dC, dI)) (ci := 10) (v := .ref (b 11)) (C := RX10) (T := TX10) (N := 51) hx hb hts inw_X10_hour_10 hown hK hP 0 rfl rfl 11 (by decide) (hts (.fieldLink RX10 32 "VatHouseModel" "wasDipped" "[Z") (List.mem_of_getElem? (i := 5) (by exact rfl))) (fun _ h9 => h9) rfl dX10_hour_105 ?_
                  refine lv_iload_n hx hb dX10_hour_108 rfl (lv_at hl 0 rfl) ?_
                  refine lv_aload_n hx hb dX10_hour_109 rfl (lv_at hl 1 rfl) ?_
                  refine va_get (D := (dC, dI)) (ci := 10) (v := .ref (b 10)) (C := RX10) (T := TX10) (N := 51) hx hb hts inw_X10_hour_10 hown hK hP 0 rfl rfl 10 (by decide) (hts (.fieldLink RX10 28 "VatHouseModel" "isDipped" "[Z") (List.mem_of_getElem? (i := 4) (by exact rfl))) (fun _ h9 => h9) rfl dX10_hour_110 ?_
                  refine lv_iload_n hx hb dX10_hour_113 rfl (lv_at hl 0 rfl) ?_
                  refine va_zald hx hb hK hP 7 6 rfl rfl (by rw [hq]; exact vp_in_nI hqlt (by decide)) dX10_hour_114 ?_
                  refine lv_topi (fun z_25 ez_25 => ?_)
                  have ez_25 : z_25 = l10 ii.toNatClampNeg := ez_25
                  refine va_zast hx hb hK hP hD hS 8 7 rfl rfl (by rw [hq]; exact vp_in_nI hqlt (by decide)) dX10_hour_115 (fun H locs hP hD hS => ?_)
                  have hP : va_P (dC, dI) vwCl (mw g h0 b (va_up i 1 z_1) (va_up (va_up (va_up (va_up (va_up a 5 f_5) 6 f_24) 7 f_23) 10 l10) 11 (upd l11 ii.toNatClampNeg (vp_nar .boolean z_25)))) _ := hP
                  have hD : va_D _ (mw g h0 b (va_up i 1 z_1) (va_up (va_up (va_up (va_up (va_up a 5 f_5) 6 f_24) 7 f_23) 10 l10) 11 (upd l11 ii.toNatClampNeg (vp_nar .boolean z_25)))) := hD
                  obtain ⟨f_26, ef_26⟩ : ∃ z, z = (upd l11 ii.toNatClampNeg (vp_nar .boolean z_25)) := ⟨_, rfl⟩
                  rw [← ef_26] at hP hD
                  refine lv_aload_n hx hb dX10_hour_116 rfl (lv_at hl 1 rfl) ?_
                  refine va_get (D := (dC, dI)) (ci := 10) (v := .ref (b 10)) (C := RX10) (T := TX10) (N := 51) hx hb hts inw_X10_hour_10 hown hK hP 0 rfl rfl 10 (by decide) (hts (.fieldLink RX10 28 "VatHouseModel" "isDipped" "[Z") (List.mem_of_getElem? (i := 4) (by exact rfl))) (fun _ h9 => h9) rfl dX10_hour_117 ?_
                  refine lv_iload_n hx hb dX10_hour_120 rfl (lv_at hl 0 rfl) ?_
                  refine lv_iconst (v := 0) hx hb dX10_hour_121 (by decide) ?_
                  refine va_zast hx hb hK hP hD hS 7 6 rfl rfl (by rw [hq]; exact vp_in_nI hqlt (by decide)) dX10_hour_122 (fun H locs hP hD hS => ?_)
                  have hP : va_P (dC, dI) vwCl (mw g h0 b (va_up i 1 z_1) (va_up (va_up (va_up (va_up (va_up a 5 f_5) 6 f_24) 7 f_23) 10 (upd l10 ii.toNatClampNeg (vp_nar .boolean (0 : Int32)))) 11 f_26)) _ := hP
                  have hD : va_D _ (mw g h0 b (va_up i 1 z_1) (va_up (va_up (va_up (va_up (va_up a 5 f_5) 6 f_24) 7 f_23) 10 (upd l10 ii.toNatClampNeg (vp_nar .boolean (0 : Int32)))) 11 f_26)) := hD
                  obtain ⟨f_27, ef_27⟩ : ∃ z, z = (upd l10 ii.toNatClampNeg (vp_nar .boolean (0 : Int32))) := ⟨_, rfl⟩
                  rw [← ef_27] at hP hD
                  refine lv_iinc (v := (ii + 1)) (lv' := [(1, .int (ii + 1)), (0, .ref h0)]) hx hb dX10_hour_123 hl (k := 0) rfl rfl (by decide) rfl (fun ls hl => ?_)
                  refine lv_goto (tgt := 12) hx hb dX10_hour_126 (by decide) ?_
                  exact ih (ii + 1) f_5 f_24 f_23 f_27 f_26 _ _ _ (up_nx (by decide) hm (by decide) c_2) (⟨q + 1, by rw [hq]; exact nI_1 q, by omega, (by rw [ef_5, hiq]; exact up_st hl5 (by have c_29 := c_2; (try simp only [ez_3, ef_5, ez_6, ez_8, ez_13, ez_18, ef_23, ef_24, ez_25, ef_26, ef_27, hiq, h5q, h6q, h7q, h10q, h11q, upd_at, upd_upd, upd_id] at c_29); have c_49 := c_4; (try simp only [ez_3, ef_5, ez_6, ez_8, ez_13, ez_18, ef_23, ef_24, ez_25, ef_26, ef_27, hiq, h5q, h6q, h7q, h10q, h11q, upd_at, upd_upd, upd_id] at c_49); have c_79 := c_7; (try simp only [ez_3, ef_5, ez_6, ez_8, ez_13, ez_18, ef_23, ef_24, ez_25, ef_26, ef_27, hiq, h5q, h6q, h7q, h10q, h11q, upd_at, upd_upd, upd_id] at c_79); have c_99 := c_9; (try simp only [ez_3, ef_5, ez_6, ez_8, ez_13, ez_18, ef_23, ef_24, ez_25, ef_26, ef_27, hiq, h5q, h6q, h7q, h10q, h11q, upd_at, upd_upd, upd_id] at c_99); have c_149 := c_14; (try simp only [ez_3, ef_5, ez_6, ez_8, ez_13, ez_18, ef_23, ef_24, ez_25, ef_26, ef_27, hiq, h5q, h6q, h7q, h10q, h11q, upd_at, upd_upd, upd_id] at c_149); have c_199 := c_19; (try simp only [ez_3, ef_5, ez_6, ez_8, ez_13, ez_18, ef_23, ef_24, ez_25, ef_26, ef_27, hiq, h5q, h6q, h7q, h10q, h11q, upd_at, upd_upd, upd_id] at c_199); simp only [hoF, ez_3, ef_5, ez_6, ez_8, ez_13, ez_18, ef_23, ef_24, ez_25, ef_26, ef_27, hiq, h5q, h6q, h7q, h10q, h11q, upd_at, upd_upd, upd_id, if_neg c_29, if_pos c_49, if_neg c_79, if_neg c_99, if_pos c_149, if_pos c_199, upd_upd, upd_id])), (by rw [ef_24, hiq]; exact up_st hl6 (by have c_29 := c_2; (try simp only [ez_3, ef_5, ez_6, ez_8, ez_13, ez_18, ef_23, ef_24, ez_25, ef_26, ef_27, hiq, h5q, h6q, h7q, h10q, h11q, upd_at, upd_upd, upd_id] at c_29); have c_49 := c_4; (try simp only [ez_3, ef_5, ez_6, ez_8, ez_13, ez_18, ef_23, ef_24, ez_25, ef_26, ef_27, hiq, h5q, h6q, h7q, h10q, h11q, upd_at, upd_upd, upd_id] at c_49); have c_79 := c_7; (try simp only [ez_3, ef_5, ez_6, ez_8, ez_13, ez_18, ef_23, ef_24, ez_25, ef_26, ef_27, hiq, h5q, h6q, h7q, h10q, h11q, upd_at, upd_upd, upd_id] at c_79); have c_99 := c_9; (try simp only [ez_3, ef_5, ez_6, ez_8, ez_13, ez_18, ef_23, ef_24, ez_25, ef_26, ef_27, hiq, h5q, h6q, h7q, h10q, h11q, upd_at, upd_upd, upd_id] at c_99); have c_149 := c_14; (try simp only [ez_3, ef_5, ez_6, ez_8, ez_13, ez_18, ef_23, ef_24, ez_25, ef_26, ef_27, hiq, h5q, h6q, h7q, h10q, h11q, upd_at, upd_upd, upd_id] at c_149); have c_199 := c_19; (try simp only [ez_3, ef_5, ez_6, ez_8, ez_13, ez_18, ef_23, ef_24, ez_25, ef_26, ef_27, hiq, h5q, h6q, h7q, h10q, h11q, upd_at, upd_upd, upd_id] at c_199); simp only [hoM, hoF, ez_3, ef_5, ez_6, ez_8, ez_13, ez_18, ef_23, ef_24, ez_25, ef_26, ef_27, hiq, h5q, h6q, h7q, h10q, h11q, upd_at, upd_upd, upd_id, if_neg c_29, if_pos c_49, if_neg c_79, if_neg c_99, if_pos c_149, if_pos c_199, upd_upd, upd_id])), (by rw [ef_23, hiq]; exact up_st hl7 (by have c_29 := c_2; (try simp only [ez_3, ef_5, ez_6, ez_8, ez_13, ez_18, ef_23, ef_24, ez_25, ef_26, ef_27, hiq, h5q, h6q, h7q, h10q, h11q, upd_at, upd_upd, upd_id] at c_29); have c_49 := c_4; (try simp only [ez_3, ef_5, ez_6, ez_8, ez_13, ez_18, ef_23, ef_24, ez_25, ef_26, ef_27, hiq, h5q, h6q, h7q, h10q, h11q, upd_at, upd_upd, upd_id] at c_49); have c_79 := c_7; (try simp only [ez_3, ef_5, ez_6, ez_8, ez_13, ez_18, ef_23, ef_24, ez_25, ef_26, ef_27, hiq, h5q, h6q, h7q, h10q, h11q, upd_at, upd_upd, upd_id] at c_79); have c_99 := c_9; (try simp only [ez_3, ef_5, ez_6, ez_8, ez_13, ez_18, ef_23, ef_24, ez_25, ef_26, ef_27, hiq, h5q, h6q, h7q, h10q, h11q, upd_at, upd_upd, upd_id] at c_99); have c_149 := c_14; (try simp only [ez_3, ef_5, ez_6, ez_8, ez_13, ez_18, ef_23, ef_24, ez_25, ef_26, ef_27, hiq, h5q, h6q, h7q, h10q, h11q, upd_at, upd_upd, upd_id] at c_149); have c_199 := c_19; (try simp only [ez_3, ef_5, ez_6, ez_8, ez_13, ez_18, ef_23, ef_24, ez_25, ef_26, ef_27, hiq, h5q, h6q, h7q, h10q, h11q, upd_at, upd_upd, upd_id] at c_199); simp only [hoS, hoF, ez_3, ef_5, ez_6, ez_8, ez_13, ez_18, ef_23, ef_24, ez_25, ef_26, ef_27, hiq, h5q, h6q, h7q, h10q, h11q, upd_at, upd_upd, upd_id, if_neg c_29, if_pos c_49, if_neg c_79, if_neg c_99, if_pos c_149, if_pos c_199, upd_upd, upd_id])), (by rw [ef_27, hiq]; exact up_st hl10 (by have c_29 := c_2; (try simp only [ez_3, ef_5, ez_6, ez_8, ez_13, ez_18, ef_23, ef_24, ez_25, ef_26, ef_27, hiq, h5q, h6q, h7q, h10q, h11q, upd_at, upd_upd, upd_id] at c_29); have c_49 := c_4; (try simp only [ez_3, ef_5, ez_6, ez_8, ez_13, ez_18, ef_23, ef_24, ez_25, ef_26, ef_27, hiq, h5q, h6q, h7q, h10q, h11q, upd_at, upd_upd, upd_id] at c_49); have c_79 := c_7; (try simp only [ez_3, ef_5, ez_6, ez_8, ez_13, ez_18, ef_23, ef_24, ez_25, ef_26, ef_27, hiq, h5q, h6q, h7q, h10q, h11q, upd_at, upd_upd, upd_id] at c_79); have c_99 := c_9; (try simp only [ez_3, ef_5, ez_6, ez_8, ez_13, ez_18, ef_23, ef_24, ez_25, ef_26, ef_27, hiq, h5q, h6q, h7q, h10q, h11q, upd_at, upd_upd, upd_id] at c_99); have c_149 := c_14; (try simp only [ez_3, ef_5, ez_6, ez_8, ez_13, ez_18, ef_23, ef_24, ez_25, ef_26, ef_27, hiq, h5q, h6q, h7q, h10q, h11q, upd_at, upd_upd, upd_id] at c_149); have c_199 := c_19; (try simp only [ez_3, ef_5, ez_6, ez_8, ez_13, ez_18, ef_23, ef_24, ez_25, ef_26, ef_27, hiq, h5q, h6q, h7q, h10q, h11q, upd_at, upd_upd, upd_id] at c_199); simp only [nar_0, ez_3, ef_5, ez_6, ez_8, ez_13, ez_18, ef_23, ef_24, ez_25, ef_26, ef_27, hiq, h5q, h6q, h7q, h10q, h11q, upd_at, upd_upd, upd_id, if_neg c_29, if_pos c_49, if_neg c_79, if_neg c_99, if_pos c_149, if_pos c_199, upd_upd, upd_id])), (by rw [ef_26, hiq]; exact up_st hl11 (by have c_29 := c_2; (try simp only [ez_3, ef_5, ez_6, ez_8, ez_13, ez_18, ef_23, ef_24, ez_25, ef_26, ef_27, hiq, h5q, h6q, h7q, h10q, h11q, upd_at, upd_upd, upd_id] at c_29); have c_49 := c_4; (try simp only [ez_3, ef_5, ez_6, ez_8, ez_13, ez_18, ef_23, ef_24, ez_25, ef_26, ef_27, hiq, h5q, h6q, h7q, h10q, h11q, upd_at, upd_upd, upd_id] at c_49); have c_79 := c_7; (try simp only [ez_3, ef_5, ez_6, ez_8, ez_13, ez_18, ef_23, ef_24, ez_25, ef_26, ef_27, hiq, h5q, h6q, h7q, h10q, h11q, upd_at, upd_upd, upd_id] at c_79); have c_99 := c_9; (try simp only [ez_3, ef_5, ez_6, ez_8, ez_13, ez_18, ef_23, ef_24, ez_25, ef_26, ef_27, hiq, h5q, h6q, h7q, h10q, h11q, upd_at, upd_upd, upd_id] at c_99); have c_149 := c_14; (try simp only [ez_3, ef_5, ez_6, ez_8, ez_13, ez_18, ef_23, ef_24, ez_25, ef_26, ef_27, hiq, h5q, h6q, h7q, h10q, h11q, upd_at, upd_upd, upd_id] at c_149); have c_199 := c_19; (try simp only [ez_3, ef_5, ez_6, ez_8, ez_13, ez_18, ef_23, ef_24, ez_25, ef_26, ef_27, hiq, h5q, h6q, h7q, h10q, h11q, upd_at, upd_upd, upd_id] at c_199); simp only [nar_01 (h01 q hqlt), ez_3, ef_5, ez_6, ez_8, ez_13, ez_18, ef_23, ef_24, ez_25, ef_26, ef_27, hiq, h5q, h6q, h7q, h10q, h11q, upd_at, upd_upd, upd_id, if_neg c_29, if_pos c_49, if_neg c_79, if_neg c_99, if_pos c_149, if_pos c_199, upd_upd, upd_id]))⟩) hP hD hS (lv_sub hl [0, 1] rfl)
          · have nc_7 := eq_i c_7
            have lc_7 : (0 : Int32).toInt = 0 := by decide
            refine lv_aload_n hx hb dX10_hour_55 rfl (lv_at hl 1 rfl) ?_
            refine va_get (D := (dC, dI)) (ci := 10) (v := .ref (b 7)) (C := RX10) (T := TX10) (N := 51) hx hb hts inw_X10_hour_10 hown hK hP 0 rfl rfl 7 (by decide) (hts (.fieldLink RX10 19 "VatHouseModel" "state" "[I") (List.mem_of_getElem? (i := 3) (by exact rfl))) (fun _ h9 => h9) rfl dX10_hour_56 ?_
            refine lv_iload_n hx hb dX10_hour_59 rfl (lv_at hl 0 rfl) ?_
            refine lv_iconst (v := 2) hx hb dX10_hour_60 (by decide) ?_
            refine va_iast hx hb hK hP hD hS 4 3 rfl rfl (by rw [hq]; exact vp_in_nI hqlt (by decide)) dX10_hour_61 (fun H locs hP hD hS => ?_)
            have hP : va_P (dC, dI) vwCl (mw g h0 b (va_up i 1 z_1) (va_up (va_up (va_up (va_up (va_up a 5 f_5) 6 l6) 7 (upd l7 ii.toNatClampNeg (2 : Int32))) 10 l10) 11 l11)) _ := hP
            have hD : va_D _ (mw g h0 b (va_up i 1 z_1) (va_up (va_up (va_up (va_up (va_up a 5 f_5) 6 l6) 7 (upd l7 ii.toNatClampNeg (2 : Int32))) 10 l10) 11 l11)) := hD
            obtain ⟨f_28, ef_28⟩ : ∃ z, z = (upd l7 ii.toNatClampNeg (2 : Int32)) := ⟨_, rfl⟩
            rw [← ef_28] at hP hD
            refine lv_aload_n hx hb dX10_hour_62 rfl (lv_at hl 1 rfl) ?_
            refine va_get (D := (dC, dI)) (ci := 10) (v := .ref (b 7)) (C := RX10) (T := TX10) (N := 51) hx hb hts inw_X10_hour_10 hown hK hP 0 rfl rfl 7 (by decide) (hts (.fieldLink RX10 19 "VatHouseModel" "state" "[I") (List.mem_of_getElem? (i := 3) (by exact rfl))) (fun _ h9 => h9) rfl dX10_hour_63 ?_
            refine lv_iload_n hx hb dX10_hour_66 rfl (lv_at hl 0 rfl) ?_
            refine va_iald hx hb hK hP 4 3 rfl rfl (by rw [hq]; exact vp_in_nI hqlt (by decide)) dX10_hour_67 ?_
            refine lv_topi (fun z_29 ez_29 => ?_)
            have ez_29 : z_29 = f_28 ii.toNatClampNeg := ez_29
            refine lv_iconst (v := 2) hx hb dX10_hour_68 (by decide) ?_
            refine lv_icmp_eq (tgt := 104) hx hb dX10_hour_69 (by decide) (fun c_30 => ?_) (fun c_30 => ?_)
            · have nc_30 := eq_i c_30
              have lc_30 : (2 : Int32).toInt = 2 := by decide
              refine lv_aload_n hx hb dX10_hour_104 rfl (lv_at hl 1 rfl) ?_
              refine va_get (D := (dC, dI)) (ci := 10) (v := .ref (b 11)) (C := RX10) (T := TX10) (N := 51) hx hb hts inw_X10_hour_10 hown hK hP 0 rfl rfl 11 (by decide) (hts (.fieldLink RX10 32 "VatHouseModel" "wasDipped" "[Z") (List.mem_of_getElem? (i := 5) (by exact rfl))) (fun _ h9 => h9) rfl dX10_hour_105 ?_
              refine lv_iload_n hx hb dX10_hour_108 rfl (lv_at hl 0 rfl) ?_
              refine lv_aload_n hx hb dX10_hour_109 rfl (lv_at hl 1 rfl) ?_
              refine va_get (D := (dC, dI)) (ci := 10) (v := .ref (b 10)) (C := RX10) (T := TX10) (N := 51) hx hb hts inw_X10_hour_10 hown hK hP 0 rfl rfl 10 (by decide) (hts (.fieldLink RX10 28 "VatHouseModel" "isDipped" "[Z") (List.mem_of_getElem? (i := 4) (by exact rfl))) (fun _ h9 => h9) rfl dX10_hour_110 ?_
              refine lv_iload_n hx hb dX10_hour_113 rfl (lv_at hl 0 rfl) ?_
              refine va_zald hx hb hK hP 7 6 rfl rfl (by rw [hq]; exact vp_in_nI hqlt (by decide)) dX10_hour_114 ?_
              refine lv_topi (fun z_31 ez_31 => ?_)
              have ez_31 : z_31 = l10 ii.toNatClampNeg := ez_31
              refine va_zast hx hb hK hP hD hS 8 7 rfl rfl (by rw [hq]; exact vp_in_nI hqlt (by decide)) dX10_hour_115 (fun H locs hP hD hS => ?_)
              have hP : va_P (dC, dI) vwCl (mw g h0 b (va_up i 1 z_1) (va_up (va_up (va_up (va_up (va_up a 5 f_5) 6 l6) 7 f_28) 10 l10) 11 (upd l11 ii.toNatClampNeg (vp_nar .boolean z_31)))) _ := hP
              have hD : va_D _ (mw g h0 b (va_up i 1 z_1) (va_up (va_up (va_up (va_up (va_up a 5 f_5) 6 l6) 7 f_28) 10 l10) 11 (upd l11 ii.toNatClampNeg (vp_nar .boolean z_31)))) := hD
              obtain ⟨f_32, ef_32⟩ : ∃ z, z = (upd l11 ii.toNatClampNeg (vp_nar .boolean z_31)) := ⟨_, rfl⟩
              rw [← ef_32] at hP hD
              refine lv_aload_n hx hb dX10_hour_116 rfl (lv_at hl 1 rfl) ?_
              refine va_get (D := (dC, dI)) (ci := 10) (v := .ref (b 10)) (C := RX10) (T := TX10) (N := 51) hx hb hts inw_X10_hour_10 hown hK hP 0 rfl rfl 10 (by decide) (hts (.fieldLink RX10 28 "VatHouseModel" "isDipped" "[Z") (List.mem_of_getElem? (i := 4) (by exact rfl))) (fun _ h9 => h9) rfl dX10_hour_117 ?_
              refine lv_iload_n hx hb dX10_hour_120 rfl (lv_at hl 0 rfl) ?_
              refine lv_iconst (v := 0) hx hb dX10_hour_121 (by decide) ?_
              refine va_zast hx hb hK hP hD hS 7 6 rfl rfl (by rw [hq]; exact vp_in_nI hqlt (by decide)) dX10_hour_122 (fun H locs hP hD hS => ?_)
              have hP : va_P (dC, dI) vwCl (mw g h0 b (va_up i 1 z_1) (va_up (va_up (va_up (va_up (va_up a 5 f_5) 6 l6) 7 f_28) 10 (upd l10 ii.toNatClampNeg (vp_nar .boolean (0 : Int32)))) 11 f_32)) _ := hP
              have hD : va_D _ (mw g h0 b (va_up i 1 z_1) (va_up (va_up (va_up (va_up (va_up a 5 f_5) 6 l6) 7 f_28) 10 (upd l10 ii.toNatClampNeg (vp_nar .boolean (0 : Int32)))) 11 f_32)) := hD
              obtain ⟨f_33, ef_33⟩ : ∃ z, z = (upd l10 ii.toNatClampNeg (vp_nar .boolean (0 : Int32))) := ⟨_, rfl⟩
              rw [← ef_33] at hP hD
              refine lv_iinc (v := (ii + 1)) (lv' := [(1, .int (ii + 1)), (0, .ref h0)]) hx hb dX10_hour_123 hl (k := 0) rfl rfl (by decide) rfl (fun ls hl => ?_)
              refine lv_goto (tgt := 12) hx hb dX10_hour_126 (by decide) ?_
              exact ih (ii + 1) f_5 l6 f_28 f_33 f_32 _ _ _ (up_nx (by decide) hm (by decide) c_2) (⟨q + 1, by rw [hq]; exact nI_1 q, by omega, (by rw [ef_5, hiq]; exact up_st hl5 (by have c_29 := c_2; (try simp only [ez_3, ef_5, ez_6, ef_28, ez_29, ez_31, ef_32, ef_33, hiq, h5q, h6q, h7q, h10q, h11q, upd_at, upd_upd, upd_id] at c_29); have c_49 := c_4; (try simp only [ez_3, ef_5, ez_6, ef_28, ez_29, ez_31, ef_32, ef_33, hiq, h5q, h6q, h7q, h10q, h11q, upd_at, upd_upd, upd_id] at c_49); have c_79 := c_7; (try simp only [ez_3, ef_5, ez_6, ef_28, ez_29, ez_31, ef_32, ef_33, hiq, h5q, h6q, h7q, h10q, h11q, upd_at, upd_upd, upd_id] at c_79); have c_309 := c_30; (try simp only [ez_3, ef_5, ez_6, ef_28, ez_29, ez_31, ef_32, ef_33, hiq, h5q, h6q, h7q, h10q, h11q, upd_at, upd_upd, upd_id] at c_309); simp only [hoF, ez_3, ef_5, ez_6, ef_28, ez_29, ez_31, ef_32, ef_33, hiq, h5q, h6q, h7q, h10q, h11q, upd_at, upd_upd, upd_id, if_neg c_29, if_pos c_49, if_pos c_79, if_pos c_309, upd_upd, upd_id])), (up_s0 hl6 (by have c_29 := c_2; (try simp only [ez_3, ef_5, ez_6, ef_28, ez_29, ez_31, ef_32, ef_33, hiq, h5q, h6q, h7q, h10q, h11q, upd_at, upd_upd, upd_id] at c_29); have c_49 := c_4; (try simp only [ez_3, ef_5, ez_6, ef_28, ez_29, ez_31, ef_32, ef_33, hiq, h5q, h6q, h7q, h10q, h11q, upd_at, upd_upd, upd_id] at c_49); have c_79 := c_7; (try simp only [ez_3, ef_5, ez_6, ef_28, ez_29, ez_31, ef_32, ef_33, hiq, h5q, h6q, h7q, h10q, h11q, upd_at, upd_upd, upd_id] at c_79); have c_309 := c_30; (try simp only [ez_3, ef_5, ez_6, ef_28, ez_29, ez_31, ef_32, ef_33, hiq, h5q, h6q, h7q, h10q, h11q, upd_at, upd_upd, upd_id] at c_309); simp only [hoM, hoF, ez_3, ef_5, ez_6, ef_28, ez_29, ez_31, ef_32, ef_33, hiq, h5q, h6q, h7q, h10q, h11q, upd_at, upd_upd, upd_id, if_neg c_29, if_pos c_49, if_pos c_79, if_pos c_309, upd_upd, upd_id])), (by rw [ef_28, hiq]; exact up_st hl7 (by have c_29 := c_2; (try simp only [ez_3, ef_5, ez_6, ef_28, ez_29, ez_31, ef_32, ef_33, hiq, h5q, h6q, h7q, h10q, h11q, upd_at, upd_upd, upd_id] at c_29); have c_49 := c_4; (try simp only [ez_3, ef_5, ez_6, ef_28, ez_29, ez_31, ef_32, ef_33, hiq, h5q, h6q, h7q, h10q, h11q, upd_at, upd_upd, upd_id] at c_49); have c_79 := c_7; (try simp only [ez_3, ef_5, ez_6, ef_28, ez_29, ez_31, ef_32, ef_33, hiq, h5q, h6q, h7q, h10q, h11q, upd_at, upd_upd, upd_id] at c_79); have c_309 := c_30; (try simp only [ez_3, ef_5, ez_6, ef_28, ez_29, ez_31, ef_32, ef_33, hiq, h5q, h6q, h7q, h10q, h11q, upd_at, upd_upd, upd_id] at c_309); simp only [hoS, hoF, ez_3, ef_5, ez_6, ef_28, ez_29, ez_31, ef_32, ef_33, hiq, h5q, h6q, h7q, h10q, h11q, upd_at, upd_upd, upd_id, if_neg c_29, if_pos c_49, if_pos c_79, if_pos c_309, upd_upd, upd_id])), (by rw [ef_33, hiq]; exact up_st hl10 (by have c_29 := c_2; (try simp only [ez_3, ef_5, ez_6, ef_28, ez_29, ez_31, ef_32, ef_33, hiq, h5q, h6q, h7q, h10q, h11q, upd_at, upd_upd, upd_id] at c_29); have c_49 := c_4; (try simp only [ez_3, ef_5, ez_6, ef_28, ez_29, ez_31, ef_32, ef_33, hiq, h5q, h6q, h7q, h10q, h11q, upd_at, upd_upd, upd_id] at c_49); have c_79 := c_7; (try simp only [ez_3, ef_5, ez_6, ef_28, ez_29, ez_31, ef_32, ef_33, hiq, h5q, h6q, h7q, h10q, h11q, upd_at, upd_upd, upd_id] at c_79); have c_309 := c_30; (try simp only [ez_3, ef_5, ez_6, ef_28, ez_29, ez_31, ef_32, ef_33, hiq, h5q, h6q, h7q, h10q, h11q, upd_at, upd_upd, upd_id] at c_309); simp only [nar_0, ez_3, ef_5, ez_6, ef_28, ez_29, ez_31, ef_32, ef_33, hiq, h5q, h6q, h7q, h10q, h11q, upd_at, upd_upd, upd_id, if_neg c_29, if_pos c_49, if_pos c_79, if_pos c_309, upd_upd, upd_id])), (by rw [ef_32, hiq]; exact up_st hl11 (by have c_29 := c_2; (try simp only [ez_3, ef_5, ez_6, ef_28, ez_29, ez_31, ef_32, ef_33, hiq, h5q, h6q, h7q, h10q, h11q, upd_at, upd_upd, upd_id] at c_29); have c_49 := c_4; (try simp only [ez_3, ef_5, ez_6, ef_28, ez_29, ez_31, ef_32, ef_33, hiq, h5q, h6q, h7q, h10q, h11q, upd_at, upd_upd, upd_id] at c_49); have c_79 := c_7; (try simp only [ez_3, ef_5, ez_6, ef_28, ez_29, ez_31, ef_32, ef_33, hiq, h5q, h6q, h7q, h10q, h11q, upd_at, upd_upd, upd_id] at c_79); have c_309 := c_30; (try simp only [ez_3, ef_5, ez_6, ef_28, ez_29, ez_31, ef_32, ef_33, hiq, h5q, h6q, h7q, h10q, h11q, upd_at, upd_upd, upd_id] at c_309); simp only [nar_01 (h01 q hqlt), ez_3, ef_5, ez_6, ef_28, ez_29, ez_31, ef_32, ef_33, hiq, h5q, h6q, h7q, h10q, h11q, upd_at, upd_upd, upd_id, if_neg c_29, if_pos c_49, if_pos c_79, if_pos c_309, upd_upd, upd_id]))⟩) hP hD hS (lv_sub hl [0, 1] rfl)
            · have nc_30 := ne_i c_30
              have lc_30 : (2 : Int32).toInt = 2 := by decide
              refine lv_aload_n hx hb dX10_hour_72 rfl (lv_at hl 1 rfl) ?_
              refine va_get (D := (dC, dI)) (ci := 10) (v := .ref (b 10)) (C := RX10) (T := TX10) (N := 51) hx hb hts inw_X10_hour_10 hown hK hP 0 rfl rfl 10 (by decide) (hts (.fieldLink RX10 28 "VatHouseModel" "isDipped" "[Z") (List.mem_of_getElem? (i := 4) (by exact rfl))) (fun _ h9 => h9) rfl dX10_hour_73 ?_
              refine lv_iload_n hx hb dX10_hour_76 rfl (lv_at hl 0 rfl) ?_
              refine va_zald hx hb hK hP 7 6 rfl rfl (by rw [hq]; exact vp_in_nI hqlt (by decide)) dX10_hour_77 ?_
              refine lv_topi (fun z_34 ez_34 => ?_)
              have ez_34 : z_34 = l10 ii.toNatClampNeg := ez_34
              refine lv_if_ne (tgt := 104) hx hb dX10_hour_78 (by decide) (fun c_35 => ?_) (fun c_35 => ?_)
              · have nc_35 := ne_i c_35
                have lc_35 : (0 : Int32).toInt = 0 := by decide
                refine lv_aload_n hx hb dX10_hour_104 rfl (lv_at hl 1 rfl) ?_
                refine va_get (D := (dC, dI)) (ci := 10) (v := .ref (b 11)) (C := RX10) (T := TX10) (N := 51) hx hb hts inw_X10_hour_10 hown hK hP 0 rfl rfl 11 (by decide) (hts (.fieldLink RX10 32 "VatHouseModel" "wasDipped" "[Z") (List.mem_of_getElem? (i := 5) (by exact rfl))) (fun _ h9 => h9) rfl dX10_hour_105 ?_
                refine lv_iload_n hx hb dX10_hour_108 rfl (lv_at hl 0 rfl) ?_
                refine lv_aload_n hx hb dX10_hour_109 rfl (lv_at hl 1 rfl) ?_
                refine va_get (D := (dC, dI)) (ci := 10) (v := .ref (b 10)) (C := RX10) (T := TX10) (N := 51) hx hb hts inw_X10_hour_10 hown hK hP 0 rfl rfl 10 (by decide) (hts (.fieldLink RX10 28 "VatHouseModel" "isDipped" "[Z") (List.mem_of_getElem? (i := 4) (by exact rfl))) (fun _ h9 => h9) rfl dX10_hour_110 ?_
                refine lv_iload_n hx hb dX10_hour_113 rfl (lv_at hl 0 rfl) ?_
                refine va_zald hx hb hK hP 7 6 rfl rfl (by rw [hq]; exact vp_in_nI hqlt (by decide)) dX10_hour_114 ?_
                refine lv_topi (fun z_36 ez_36 => ?_)
                have ez_36 : z_36 = l10 ii.toNatClampNeg := ez_36
                refine va_zast hx hb hK hP hD hS 8 7 rfl rfl (by rw [hq]; exact vp_in_nI hqlt (by decide)) dX10_hour_115 (fun H locs hP hD hS => ?_)
                have hP : va_P (dC, dI) vwCl (mw g h0 b (va_up i 1 z_1) (va_up (va_up (va_up (va_up (va_up a 5 f_5) 6 l6) 7 f_28) 10 l10) 11 (upd l11 ii.toNatClampNeg (vp_nar .boolean z_36)))) _ := hP
                have hD : va_D _ (mw g h0 b (va_up i 1 z_1) (va_up (va_up (va_up (va_up (va_up a 5 f_5) 6 l6) 7 f_28) 10 l10) 11 (upd l11 ii.toNatClampNeg (vp_nar .boolean z_36)))) := hD
                obtain ⟨f_37, ef_37⟩ : ∃ z, z = (upd l11 ii.toNatClampNeg (vp_nar .boolean z_36)) := ⟨_, rfl⟩
                rw [← ef_37] at hP hD
                refine lv_aload_n hx hb dX10_hour_116 rfl (lv_at hl 1 rfl) ?_
                refine va_get (D := (dC, dI)) (ci := 10) (v := .ref (b 10)) (C := RX10) (T := TX10) (N := 51) hx hb hts inw_X10_hour_10 hown hK hP 0 rfl rfl 10 (by decide) (hts (.fieldLink RX10 28 "VatHouseModel" "isDipped" "[Z") (List.mem_of_getElem? (i := 4) (by exact rfl))) (fun _ h9 => h9) rfl dX10_hour_117 ?_
                refine lv_iload_n hx hb dX10_hour_120 rfl (lv_at hl 0 rfl) ?_
                refine lv_iconst (v := 0) hx hb dX10_hour_121 (by decide) ?_
                refine va_zast hx hb hK hP hD hS 7 6 rfl rfl (by rw [hq]; exact vp_in_nI hqlt (by decide)) dX10_hour_122 (fun H locs hP hD hS => ?_)
                have hP : va_P (dC, dI) vwCl (mw g h0 b (va_up i 1 z_1) (va_up (va_up (va_up (va_up (va_up a 5 f_5) 6 l6) 7 f_28) 10 (upd l10 ii.toNatClampNeg (vp_nar .boolean (0 : Int32)))) 11 f_37)) _ := hP
                have hD : va_D _ (mw g h0 b (va_up i 1 z_1) (va_up (va_up (va_up (va_up (va_up a 5 f_5) 6 l6) 7 f_28) 10 (upd l10 ii.toNatClampNeg (vp_nar .boolean (0 : Int32)))) 11 f_37)) := hD
                obtain ⟨f_38, ef_38⟩ : ∃ z, z = (upd l10 ii.toNatClampNeg (vp_nar .boolean (0 : Int32))) := ⟨_, rfl⟩
                rw [← ef_38] at hP hD
                refine lv_iinc (v := (ii + 1)) (lv' := [(1, .int (ii + 1)), (0, .ref h0)]) hx hb dX10_hour_123 hl (k := 0) rfl rfl (by decide) rfl (fun ls hl => ?_)
                refine lv_goto (tgt := 12) hx hb dX10_hour_126 (by decide) ?_
                exact ih (ii + 1) f_5 l6 f_28 f_38 f_37 _ _ _ (up_nx (by decide) hm (by decide) c_2) (absurd (show z_29 = 2 by simp only [ez_29, ef_5, ef_28, upd_at]) c_30) hP hD hS (lv_sub hl [0, 1] rfl)
              · have nc_35 := eq_i c_35
                have lc_35 : (0 : Int32).toInt = 0 := by decide
                refine lv_aload_n hx hb dX10_hour_81 rfl (lv_at hl 1 rfl) ?_
                refine va_get (D := (dC, dI)) (ci := 10) (v := .ref (b 11)) (C := RX10) (T := TX10) (N := 51) hx hb hts inw_X10_hour_10 hown hK hP 0 rfl rfl 11 (by decide) (hts (.fieldLink RX10 32 "VatHouseModel" "wasDipped" "[Z") (List.mem_of_getElem? (i := 5) (by exact rfl))) (fun _ h9 => h9) rfl dX10_hour_82 ?_
                refine lv_iload_n hx hb dX10_hour_85 rfl (lv_at hl 0 rfl) ?_
                refine va_zald hx hb hK hP 8 7 rfl rfl (by rw [hq]; exact vp_in_nI hqlt (by decide)) dX10_hour_86 ?_
                refine lv_topi (fun z_39 ez_39 => ?_)
                have ez_39 : z_39 = l11 ii.toNatClampNeg := ez_39
                refine lv_if_ne (tgt := 104) hx hb dX10_hour_87 (by decide) (fun c_40 => ?_) (fun c_40 => ?_)
                · have nc_40 := ne_i c_40
                  have lc_40 : (0 : Int32).toInt = 0 := by decide
                  refine lv_aload_n hx hb dX10_hour_104 rfl (lv_at hl 1 rfl) ?_
                  refine va_get (D := (dC, dI)) (ci := 10) (v := .ref (b 11)) (C := RX10) (T := TX10) (N := 51) hx hb hts inw_X10_hour_10 hown hK hP 0 rfl rfl 11 (by decide) (hts (.fieldLink RX10 32 "VatHouseModel" "wasDipped" "[Z") (List.mem_of_getElem? (i := 5) (by exact rfl))) (fun _ h9 => h9) rfl dX10_hour_105 ?_
                  refine lv_iload_n hx hb dX10_hour_108 rfl (lv_at hl 0 rfl) ?_
                  refine lv_aload_n hx hb dX10_hour_109 rfl (lv_at hl 1 rfl) ?_
                  refine va_get (D := (dC, dI)) (ci := 10) (v := .ref (b 10)) (C := RX10) (T := TX10) (N := 51) hx hb hts inw_X10_hour_10 hown hK hP 0 rfl rfl 10 (by decide) (hts (.fieldLink RX10 28 "VatHouseModel" "isDipped" "[Z") (List.mem_of_getElem? (i := 4) (by exact rfl))) (fun _ h9 => h9) rfl dX10_hour_110 ?_
                  refine lv_iload_n hx hb dX10_hour_113 rfl (lv_at hl 0 rfl) ?_
                  refine va_zald hx hb hK hP 7 6 rfl rfl (by rw [hq]; exact vp_in_nI hqlt (by decide)) dX10_hour_114 ?_
                  refine lv_topi (fun z_41 ez_41 => ?_)
                  have ez_41 : z_41 = l10 ii.toNatClampNeg := ez_41
                  refine va_zast hx hb hK hP hD hS 8 7 rfl rfl (by rw [hq]; exact vp_in_nI hqlt (by decide)) dX10_hour_115 (fun H locs hP hD hS => ?_)
                  have hP : va_P (dC, dI) vwCl (mw g h0 b (va_up i 1 z_1) (va_up (va_up (va_up (va_up (va_up a 5 f_5) 6 l6) 7 f_28) 10 l10) 11 (upd l11 ii.toNatClampNeg (vp_nar .boolean z_41)))) _ := hP
                  have hD : va_D _ (mw g h0 b (va_up i 1 z_1) (va_up (va_up (va_up (va_up (va_up a 5 f_5) 6 l6) 7 f_28) 10 l10) 11 (upd l11 ii.toNatClampNeg (vp_nar .boolean z_41)))) := hD
                  obtain ⟨f_42, ef_42⟩ : ∃ z, z = (upd l11 ii.toNatClampNeg (vp_nar .boolean z_41)) := ⟨_, rfl⟩
                  rw [← ef_42] at hP hD
                  refine lv_aload_n hx hb dX10_hour_116 rfl (lv_at hl 1 rfl) ?_
                  refine va_get (D := (dC, dI)) (ci := 10) (v := .ref (b 10)) (C := RX10) (T := TX10) (N := 51) hx hb hts inw_X10_hour_10 hown hK hP 0 rfl rfl 10 (by decide) (hts (.fieldLink RX10 28 "VatHouseModel" "isDipped" "[Z") (List.mem_of_getElem? (i := 4) (by exact rfl))) (fun _ h9 => h9) rfl dX10_hour_117 ?_
                  refine lv_iload_n hx hb dX10_hour_120 rfl (lv_at hl 0 rfl) ?_
                  refine lv_iconst (v := 0) hx hb dX10_hour_121 (by decide) ?_
                  refine va_zast hx hb hK hP hD hS 7 6 rfl rfl (by rw [hq]; exact vp_in_nI hqlt (by decide)) dX10_hour_122 (fun H locs hP hD hS => ?_)
                  have hP : va_P (dC, dI) vwCl (mw g h0 b (va_up i 1 z_1) (va_up (va_up (va_up (va_up (va_up a 5 f_5) 6 l6) 7 f_28) 10 (upd l10 ii.toNatClampNeg (vp_nar .boolean (0 : Int32)))) 11 f_42)) _ := hP
                  have hD : va_D _ (mw g h0 b (va_up i 1 z_1) (va_up (va_up (va_up (va_up (va_up a 5 f_5) 6 l6) 7 f_28) 10 (upd l10 ii.toNatClampNeg (vp_nar .boolean (0 : Int32)))) 11 f_42)) := hD
                  obtain ⟨f_43, ef_43⟩ : ∃ z, z = (upd l10 ii.toNatClampNeg (vp_nar .boolean (0 : Int32))) := ⟨_, rfl⟩
                  rw [← ef_43] at hP hD
                  refine lv_iinc (v := (ii + 1)) (lv' := [(1, .int (ii + 1)), (0, .ref h0)]) hx hb dX10_hour_123 hl (k := 0) rfl rfl (by decide) rfl (fun ls hl => ?_)
                  refine lv_goto (tgt := 12) hx hb dX10_hour_126 (by decide) ?_
                  exact ih (ii + 1) f_5 l6 f_28 f_43 f_42 _ _ _ (up_nx (by decide) hm (by decide) c_2) (absurd (show z_29 = 2 by simp only [ez_29, ef_5, ef_28, upd_at]) c_30) hP hD hS (lv_sub hl [0, 1] rfl)
                · have nc_40 := eq_i c_40
                  have lc_40 : (0 : Int32).toInt = 0 := by decide
                  refine lv_aload_n hx hb dX10_hour_90 rfl (lv_at hl 1 rfl) ?_
                  refine va_get (D := (dC, dI)) (ci := 10) (v := .ref (b 7)) (C := RX10) (T := TX10) (N := 51) hx hb hts inw_X10_hour_10 hown hK hP 0 rfl rfl 7 (by decide) (hts (.fieldLink RX10 19 "VatHouseModel" "state" "[I") (List.mem_of_getElem? (i := 3) (by exact rfl))) (fun _ h9 => h9) rfl dX10_hour_91 ?_
                  refine lv_iload_n hx hb dX10_hour_94 rfl (lv_at hl 0 rfl) ?_
                  refine lv_iconst (v := 0) hx hb dX10_hour_95 (by decide) ?_
                  refine va_iast hx hb hK hP hD hS 4 3 rfl rfl (by rw [hq]; exact vp_in_nI hqlt (by decide)) dX10_hour_96 (fun H locs hP hD hS => ?_)
                  have hP : va_P (dC, dI) vwCl (mw g h0 b (va_up i 1 z_1) (va_up (va_up (va_up (va_up (va_up a 5 f_5) 6 l6) 7 (upd f_28 ii.toNatClampNeg (0 : Int32))) 10 l10) 11 l11)) _ := hP
                  have hD : va_D _ (mw g h0 b (va_up i 1 z_1) (va_up (va_up (va_up (va_up (va_up a 5 f_5) 6 l6) 7 (upd f_28 ii.toNatClampNeg (0 : Int32))) 10 l10) 11 l11)) := hD
                  obtain ⟨f_44, ef_44⟩ : ∃ z, z = (upd f_28 ii.toNatClampNeg (0 : Int32)) := ⟨_, rfl⟩
                  rw [← ef_44] at hP hD
                  refine lv_aload_n hx hb dX10_hour_97 rfl (lv_at hl 1 rfl) ?_
                  refine va_get (D := (dC, dI)) (ci := 10) (v := .ref (b 6)) (C := RX10) (T := TX10) (N := 51) hx hb hts inw_X10_hour_10 hown hK hP 0 rfl rfl 6 (by decide) (hts (.fieldLink RX10 16 "VatHouseModel" "minutes" "[I") (List.mem_of_getElem? (i := 6) (by exact rfl))) (fun _ h9 => h9) rfl dX10_hour_98 ?_
                  refine lv_iload_n hx hb dX10_hour_101 rfl (lv_at hl 0 rfl) ?_
                  refine lv_iconst (v := 0) hx hb dX10_hour_102 (by decide) ?_
                  refine va_iast hx hb hK hP hD hS 3 2 rfl rfl (by rw [hq]; exact vp_in_nI hqlt (by decide)) dX10_hour_103 (fun H locs hP hD hS => ?_)
                  have hP : va_P (dC, dI) vwCl (mw g h0 b (va_up i 1 z_1) (va_up (va_up (va_up (va_up (va_up a 5 f_5) 6 (upd l6 ii.toNatClampNeg (0 : Int32))) 7 f_44) 10 l10) 11 l11)) _ := hP
                  have hD : va_D _ (mw g h0 b (va_up i 1 z_1) (va_up (va_up (va_up (va_up (va_up a 5 f_5) 6 (upd l6 ii.toNatClampNeg (0 : Int32))) 7 f_44) 10 l10) 11 l11)) := hD
                  obtain ⟨f_45, ef_45⟩ : ∃ z, z = (upd l6 ii.toNatClampNeg (0 : Int32)) := ⟨_, rfl⟩
                  rw [← ef_45] at hP hD
                  refine lv_aload_n hx hb dX10_hour_104 rfl (lv_at hl 1 rfl) ?_
                  refine va_get (D := (dC, dI)) (ci := 10) (v := .ref (b 11)) (C := RX10) (T := TX10) (N := 51) hx hb hts inw_X10_hour_10 hown hK hP 0 rfl rfl 11 (by decide) (hts (.fieldLink RX10 32 "VatHouseModel" "wasDipped" "[Z") (List.mem_of_getElem? (i := 5) (by exact rfl))) (fun _ h9 => h9) rfl dX10_hour_105 ?_
                  refine lv_iload_n hx hb dX10_hour_108 rfl (lv_at hl 0 rfl) ?_
                  refine lv_aload_n hx hb dX10_hour_109 rfl (lv_at hl 1 rfl) ?_
                  refine va_get (D := (dC, dI)) (ci := 10) (v := .ref (b 10)) (C := RX10) (T := TX10) (N := 51) hx hb hts inw_X10_hour_10 hown hK hP 0 rfl rfl 10 (by decide) (hts (.fieldLink RX10 28 "VatHouseModel" "isDipped" "[Z") (List.mem_of_getElem? (i := 4) (by exact rfl))) (fun _ h9 => h9) rfl dX10_hour_110 ?_
                  refine lv_iload_n hx hb dX10_hour_113 rfl (lv_at hl 0 rfl) ?_
                  refine va_zald hx hb hK hP 7 6 rfl rfl (by rw [hq]; exact vp_in_nI hqlt (by decide)) dX10_hour_114 ?_
                  refine lv_topi (fun z_46 ez_46 => ?_)
                  have ez_46 : z_46 = l10 ii.toNatClampNeg := ez_46
                  refine va_zast hx hb hK hP hD hS 8 7 rfl rfl (by rw [hq]; exact vp_in_nI hqlt (by decide)) dX10_hour_115 (fun H locs hP hD hS => ?_)
                  have hP : va_P (dC, dI) vwCl (mw g h0 b (va_up i 1 z_1) (va_up (va_up (va_up (va_up (va_up a 5 f_5) 6 f_45) 7 f_44) 10 l10) 11 (upd l11 ii.toNatClampNeg (vp_nar .boolean z_46)))) _ := hP
                  have hD : va_D _ (mw g h0 b (va_up i 1 z_1) (va_up (va_up (va_up (va_up (va_up a 5 f_5) 6 f_45) 7 f_44) 10 l10) 11 (upd l11 ii.toNatClampNeg (vp_nar .boolean z_46)))) := hD
                  obtain ⟨f_47, ef_47⟩ : ∃ z, z = (upd l11 ii.toNatClampNeg (vp_nar .boolean z_46)) := ⟨_, rfl⟩
                  rw [← ef_47] at hP hD
                  refine lv_aload_n hx hb dX10_hour_116 rfl (lv_at hl 1 rfl) ?_
                  refine va_get (D := (dC, dI)) (ci := 10) (v := .ref (b 10)) (C := RX10) (T := TX10) (N := 51) hx hb hts inw_X10_hour_10 hown hK hP 0 rfl rfl 10 (by decide) (hts (.fieldLink RX10 28 "VatHouseModel" "isDipped" "[Z") (List.mem_of_getElem? (i := 4) (by exact rfl))) (fun _ h9 => h9) rfl dX10_hour_117 ?_
                  refine lv_iload_n hx hb dX10_hour_120 rfl (lv_at hl 0 rfl) ?_
                  refine lv_iconst (v := 0) hx hb dX10_hour_121 (by decide) ?_
                  refine va_zast hx hb hK hP hD hS 7 6 rfl rfl (by rw [hq]; exact vp_in_nI hqlt (by decide)) dX10_hour_122 (fun H locs hP hD hS => ?_)
                  have hP : va_P (dC, dI) vwCl (mw g h0 b (va_up i 1 z_1) (va_up (va_up (va_up (va_up (va_up a 5 f_5) 6 f_45) 7 f_44) 10 (upd l10 ii.toNatClampNeg (vp_nar .boolean (0 : Int32)))) 11 f_47)) _ := hP
                  have hD : va_D _ (mw g h0 b (va_up i 1 z_1) (va_up (va_up (va_up (va_up (va_up a 5 f_5) 6 f_45) 7 f_44) 10 (upd l10 ii.toNatClampNeg (vp_nar .boolean (0 : Int32)))) 11 f_47)) := hD
                  obtain ⟨f_48, ef_48⟩ : ∃ z, z = (upd l10 ii.toNatClampNeg (vp_nar .boolean (0 : Int32))) := ⟨_, rfl⟩
                  rw [← ef_48] at hP hD
                  refine lv_iinc (v := (ii + 1)) (lv' := [(1, .int (ii + 1)), (0, .ref h0)]) hx hb dX10_hour_123 hl (k := 0) rfl rfl (by decide) rfl (fun ls hl => ?_)
                  refine lv_goto (tgt := 12) hx hb dX10_hour_126 (by decide) ?_
                  exact ih (ii + 1) f_5 f_45 f_44 f_48 f_47 _ _ _ (up_nx (by decide) hm (by decide) c_2) (absurd (show z_29 = 2 by simp only [ez_29, ef_5, ef_28, upd_at]) c_30) hP hD hS (lv_sub hl [0, 1] rfl)
        · have nc_4 := nle_i c_4
          have lc_4 : (5 : Int32).toInt = 5 := by decide
          refine lv_aload_n hx hb dX10_hour_33 rfl (lv_at hl 1 rfl) ?_
          refine va_get (D := (dC, dI)) (ci := 10) (v := .ref (b 5)) (C := RX10) (T := TX10) (N := 51) hx hb hts inw_X10_hour_10 hown hK hP 0 rfl rfl 5 (by decide) (hts (.fieldLink RX10 13 "VatHouseModel" "food" "[I") (List.mem_of_getElem? (i := 2) (by exact rfl))) (fun _ h9 => h9) rfl dX10_hour_34 ?_
          refine lv_iload_n hx hb dX10_hour_37 rfl (lv_at hl 0 rfl) ?_
          refine va_iald hx hb hK hP 2 1 rfl rfl (by rw [hq]; exact vp_in_nI hqlt (by decide)) dX10_hour_38 ?_
          refine lv_topi (fun z_49 ez_49 => ?_)
          have ez_49 : z_49 = l5 ii.toNatClampNeg := ez_49
          refine lv_iconst (v := 5) hx hb dX10_hour_39 (by decide) ?_
          refine lv_isub hx hb dX10_hour_40 ?_
          refine lv_topi (fun z_50 ez_50 => ?_)
          refine lv_goto (tgt := 45) hx hb dX10_hour_41 (by decide) ?_
          refine va_iast hx hb hK hP hD hS 2 1 rfl rfl (by rw [hq]; exact vp_in_nI hqlt (by decide)) dX10_hour_45 (fun H locs hP hD hS => ?_)
          have hP : va_P (dC, dI) vwCl (mw g h0 b (va_up i 1 z_1) (va_up (va_up (va_up (va_up (va_up a 5 (upd l5 ii.toNatClampNeg z_50)) 6 l6) 7 l7) 10 l10) 11 l11)) _ := hP
          have hD : va_D _ (mw g h0 b (va_up i 1 z_1) (va_up (va_up (va_up (va_up (va_up a 5 (upd l5 ii.toNatClampNeg z_50)) 6 l6) 7 l7) 10 l10) 11 l11)) := hD
          obtain ⟨f_51, ef_51⟩ : ∃ z, z = (upd l5 ii.toNatClampNeg z_50) := ⟨_, rfl⟩
          rw [← ef_51] at hP hD
          refine lv_aload_n hx hb dX10_hour_46 rfl (lv_at hl 1 rfl) ?_
          refine va_get (D := (dC, dI)) (ci := 10) (v := .ref (b 5)) (C := RX10) (T := TX10) (N := 51) hx hb hts inw_X10_hour_10 hown hK hP 0 rfl rfl 5 (by decide) (hts (.fieldLink RX10 13 "VatHouseModel" "food" "[I") (List.mem_of_getElem? (i := 2) (by exact rfl))) (fun _ h9 => h9) rfl dX10_hour_47 ?_
          refine lv_iload_n hx hb dX10_hour_50 rfl (lv_at hl 0 rfl) ?_
          refine va_iald hx hb hK hP 2 1 rfl rfl (by rw [hq]; exact vp_in_nI hqlt (by decide)) dX10_hour_51 ?_
          refine lv_topi (fun z_52 ez_52 => ?_)
          have ez_52 : z_52 = f_51 ii.toNatClampNeg := ez_52
          refine lv_if_ne (tgt := 62) hx hb dX10_hour_52 (by decide) (fun c_53 => ?_) (fun c_53 => ?_)
          · have nc_53 := ne_i c_53
            have lc_53 : (0 : Int32).toInt = 0 := by decide
            refine lv_aload_n hx hb dX10_hour_62 rfl (lv_at hl 1 rfl) ?_
            refine va_get (D := (dC, dI)) (ci := 10) (v := .ref (b 7)) (C := RX10) (T := TX10) (N := 51) hx hb hts inw_X10_hour_10 hown hK hP 0 rfl rfl 7 (by decide) (hts (.fieldLink RX10 19 "VatHouseModel" "state" "[I") (List.mem_of_getElem? (i := 3) (by exact rfl))) (fun _ h9 => h9) rfl dX10_hour_63 ?_
            refine lv_iload_n hx hb dX10_hour_66 rfl (lv_at hl 0 rfl) ?_
            refine va_iald hx hb hK hP 4 3 rfl rfl (by rw [hq]; exact vp_in_nI hqlt (by decide)) dX10_hour_67 ?_
            refine lv_topi (fun z_54 ez_54 => ?_)
            have ez_54 : z_54 = l7 ii.toNatClampNeg := ez_54
            refine lv_iconst (v := 2) hx hb dX10_hour_68 (by decide) ?_
            refine lv_icmp_eq (tgt := 104) hx hb dX10_hour_69 (by decide) (fun c_55 => ?_) (fun c_55 => ?_)
            · have nc_55 := eq_i c_55
              have lc_55 : (2 : Int32).toInt = 2 := by decide
              refine lv_aload_n hx hb dX10_hour_104 rfl (lv_at hl 1 rfl) ?_
              refine va_get (D := (dC, dI)) (ci := 10) (v := .ref (b 11)) (C := RX10) (T := TX10) (N := 51) hx hb hts inw_X10_hour_10 hown hK hP 0 rfl rfl 11 (by decide) (hts (.fieldLink RX10 32 "VatHouseModel" "wasDipped" "[Z") (List.mem_of_getElem? (i := 5) (by exact rfl))) (fun _ h9 => h9) rfl dX10_hour_105 ?_
              refine lv_iload_n hx hb dX10_hour_108 rfl (lv_at hl 0 rfl) ?_
              refine lv_aload_n hx hb dX10_hour_109 rfl (lv_at hl 1 rfl) ?_
              refine va_get (D := (dC, dI)) (ci := 10) (v := .ref (b 10)) (C := RX10) (T := TX10) (N := 51) hx hb hts inw_X10_hour_10 hown hK hP 0 rfl rfl 10 (by decide) (hts (.fieldLink RX10 28 "VatHouseModel" "isDipped" "[Z") (List.mem_of_getElem? (i := 4) (by exact rfl))) (fun _ h9 => h9) rfl dX10_hour_110 ?_
              refine lv_iload_n hx hb dX10_hour_113 rfl (lv_at hl 0 rfl) ?_
              refine va_zald hx hb hK hP 7 6 rfl rfl (by rw [hq]; exact vp_in_nI hqlt (by decide)) dX10_hour_114 ?_
              refine lv_topi (fun z_56 ez_56 => ?_)
              have ez_56 : z_56 = l10 ii.toNatClampNeg := ez_56
              refine va_zast hx hb hK hP hD hS 8 7 rfl rfl (by rw [hq]; exact vp_in_nI hqlt (by decide)) dX10_hour_115 (fun H locs hP hD hS => ?_)
              have hP : va_P (dC, dI) vwCl (mw g h0 b (va_up i 1 z_1) (va_up (va_up (va_up (va_up (va_up a 5 f_51) 6 l6) 7 l7) 10 l10) 11 (upd l11 ii.toNatClampNeg (vp_nar .boolean z_56)))) _ := hP
              have hD : va_D _ (mw g h0 b (va_up i 1 z_1) (va_up (va_up (va_up (va_up (va_up a 5 f_51) 6 l6) 7 l7) 10 l10) 11 (upd l11 ii.toNatClampNeg (vp_nar .boolean z_56)))) := hD
              obtain ⟨f_57, ef_57⟩ : ∃ z, z = (upd l11 ii.toNatClampNeg (vp_nar .boolean z_56)) := ⟨_, rfl⟩
              rw [← ef_57] at hP hD
              refine lv_aload_n hx hb dX10_hour_116 rfl (lv_at hl 1 rfl) ?_
              refine va_get (D := (dC, dI)) (ci := 10) (v := .ref (b 10)) (C := RX10) (T := TX10) (N := 51) hx hb hts inw_X10_hour_10 hown hK hP 0 rfl rfl 10 (by decide) (hts (.fieldLink RX10 28 "VatHouseModel" "isDipped" "[Z") (List.mem_of_getElem? (i := 4) (by exact rfl))) (fun _ h9 => h9) rfl dX10_hour_117 ?_
              refine lv_iload_n hx hb dX10_hour_120 rfl (lv_at hl 0 rfl) ?_
              refine lv_iconst (v := 0) hx hb dX10_hour_121 (by decide) ?_
              refine va_zast hx hb hK hP hD hS 7 6 rfl rfl (by rw [hq]; exact vp_in_nI hqlt (by decide)) dX10_hour_122 (fun H locs hP hD hS => ?_)
              have hP : va_P (dC, dI) vwCl (mw g h0 b (va_up i 1 z_1) (va_up (va_up (va_up (va_up (va_up a 5 f_51) 6 l6) 7 l7) 10 (upd l10 ii.toNatClampNeg (vp_nar .boolean (0 : Int32)))) 11 f_57)) _ := hP
              have hD : va_D _ (mw g h0 b (va_up i 1 z_1) (va_up (va_up (va_up (va_up (va_up a 5 f_51) 6 l6) 7 l7) 10 (upd l10 ii.toNatClampNeg (vp_nar .boolean (0 : Int32)))) 11 f_57)) := hD
              obtain ⟨f_58, ef_58⟩ : ∃ z, z = (upd l10 ii.toNatClampNeg (vp_nar .boolean (0 : Int32))) := ⟨_, rfl⟩
              rw [← ef_58] at hP hD
              refine lv_iinc (v := (ii + 1)) (lv' := [(1, .int (ii + 1)), (0, .ref h0)]) hx hb dX10_hour_123 hl (k := 0) rfl rfl (by decide) rfl (fun ls hl => ?_)
              refine lv_goto (tgt := 12) hx hb dX10_hour_126 (by decide) ?_
              exact ih (ii + 1) f_51 l6 l7 f_58 f_57 _ _ _ (up_nx (by decide) hm (by decide) c_2) (⟨q + 1, by rw [hq]; exact nI_1 q, by omega, (by rw [ef_51, hiq]; exact up_st hl5 (by have c_29 := c_2; (try simp only [ez_3, ez_49, ez_50, ef_51, ez_52, ez_54, ez_56, ef_57, ef_58, hiq, h5q, h6q, h7q, h10q, h11q, upd_at, upd_upd, upd_id] at c_29); have c_49 := c_4; (try simp only [ez_3, ez_49, ez_50, ef_51, ez_52, ez_54, ez_56, ef_57, ef_58, hiq, h5q, h6q, h7q, h10q, h11q, upd_at, upd_upd, upd_id] at c_49); have c_539 := c_53; (try simp only [ez_3, ez_49, ez_50, ef_51, ez_52, ez_54, ez_56, ef_57, ef_58, hiq, h5q, h6q, h7q, h10q, h11q, upd_at, upd_upd, upd_id] at c_539); have c_559 := c_55; (try simp only [ez_3, ez_49, ez_50, ef_51, ez_52, ez_54, ez_56, ef_57, ef_58, hiq, h5q, h6q, h7q, h10q, h11q, upd_at, upd_upd, upd_id] at c_559); simp only [hoF, ez_3, ez_49, ez_50, ef_51, ez_52, ez_54, ez_56, ef_57, ef_58, hiq, h5q, h6q, h7q, h10q, h11q, upd_at, upd_upd, upd_id, if_neg c_29, if_neg c_49, if_neg c_539, if_pos c_559, upd_upd, upd_id])), (up_s0 hl6 (by have c_29 := c_2; (try simp only [ez_3, ez_49, ez_50, ef_51, ez_52, ez_54, ez_56, ef_57, ef_58, hiq, h5q, h6q, h7q, h10q, h11q, upd_at, upd_upd, upd_id] at c_29); have c_49 := c_4; (try simp only [ez_3, ez_49, ez_50, ef_51, ez_52, ez_54, ez_56, ef_57, ef_58, hiq, h5q, h6q, h7q, h10q, h11q, upd_at, upd_upd, upd_id] at c_49); have c_539 := c_53; (try simp only [ez_3, ez_49, ez_50, ef_51, ez_52, ez_54, ez_56, ef_57, ef_58, hiq, h5q, h6q, h7q, h10q, h11q, upd_at, upd_upd, upd_id] at c_539); have c_559 := c_55; (try simp only [ez_3, ez_49, ez_50, ef_51, ez_52, ez_54, ez_56, ef_57, ef_58, hiq, h5q, h6q, h7q, h10q, h11q, upd_at, upd_upd, upd_id] at c_559); simp only [hoM, hoF, ez_3, ez_49, ez_50, ef_51, ez_52, ez_54, ez_56, ef_57, ef_58, hiq, h5q, h6q, h7q, h10q, h11q, upd_at, upd_upd, upd_id, if_neg c_29, if_neg c_49, if_neg c_539, if_pos c_559, upd_upd, upd_id])), (up_s0 hl7 (by have c_29 := c_2; (try simp only [ez_3, ez_49, ez_50, ef_51, ez_52, ez_54, ez_56, ef_57, ef_58, hiq, h5q, h6q, h7q, h10q, h11q, upd_at, upd_upd, upd_id] at c_29); have c_49 := c_4; (try simp only [ez_3, ez_49, ez_50, ef_51, ez_52, ez_54, ez_56, ef_57, ef_58, hiq, h5q, h6q, h7q, h10q, h11q, upd_at, upd_upd, upd_id] at c_49); have c_539 := c_53; (try simp only [ez_3, ez_49, ez_50, ef_51, ez_52, ez_54, ez_56, ef_57, ef_58, hiq, h5q, h6q, h7q, h10q, h11q, upd_at, upd_upd, upd_id] at c_539); have c_559 := c_55; (try simp only [ez_3, ez_49, ez_50, ef_51, ez_52, ez_54, ez_56, ef_57, ef_58, hiq, h5q, h6q, h7q, h10q, h11q, upd_at, upd_upd, upd_id] at c_559); simp only [hoS, hoF, ez_3, ez_49, ez_50, ef_51, ez_52, ez_54, ez_56, ef_57, ef_58, hiq, h5q, h6q, h7q, h10q, h11q, upd_at, upd_upd, upd_id, if_neg c_29, if_neg c_49, if_neg c_539, if_pos c_559, upd_upd, upd_id])), (by rw [ef_58, hiq]; exact up_st hl10 (by have c_29 := c_2; (try simp only [ez_3, ez_49, ez_50, ef_51, ez_52, ez_54, ez_56, ef_57, ef_58, hiq, h5q, h6q, h7q, h10q, h11q, upd_at, upd_upd, upd_id] at c_29); have c_49 := c_4; (try simp only [ez_3, ez_49, ez_50, ef_51, ez_52, ez_54, ez_56, ef_57, ef_58, hiq, h5q, h6q, h7q, h10q, h11q, upd_at, upd_upd, upd_id] at c_49); have c_539 := c_53; (try simp only [ez_3, ez_49, ez_50, ef_51, ez_52, ez_54, ez_56, ef_57, ef_58, hiq, h5q, h6q, h7q, h10q, h11q, upd_at, upd_upd, upd_id] at c_539); have c_559 := c_55; (try simp only [ez_3, ez_49, ez_50, ef_51, ez_52, ez_54, ez_56, ef_57, ef_58, hiq, h5q, h6q, h7q, h10q, h11q, upd_at, upd_upd, upd_id] at c_559); simp only [nar_0, ez_3, ez_49, ez_50, ef_51, ez_52, ez_54, ez_56, ef_57, ef_58, hiq, h5q, h6q, h7q, h10q, h11q, upd_at, upd_upd, upd_id, if_neg c_29, if_neg c_49, if_neg c_539, if_pos c_559, upd_upd, upd_id])), (by rw [ef_57, hiq]; exact up_st hl11 (by have c_29 := c_2; (try simp only [ez_3, ez_49, ez_50, ef_51, ez_52, ez_54, ez_56, ef_57, ef_58, hiq, h5q, h6q, h7q, h10q, h11q, upd_at, upd_upd, upd_id] at c_29); have c_49 := c_4; (try simp only [ez_3, ez_49, ez_50, ef_51, ez_52, ez_54, ez_56, ef_57, ef_58, hiq, h5q, h6q, h7q, h10q, h11q, upd_at, upd_upd, upd_id] at c_49); have c_539 := c_53; (try simp only [ez_3, ez_49, ez_50, ef_51, ez_52, ez_54, ez_56, ef_57, ef_58, hiq, h5q, h6q, h7q, h10q, h11q, upd_at, upd_upd, upd_id] at c_539); have c_559 := c_55; (try simp only [ez_3, ez_49, ez_50, ef_51, ez_52, ez_54, ez_56, ef_57, ef_58, hiq, h5q, h6q, h7q, h10q, h11q, upd_at, upd_upd, upd_id] at c_559); simp only [nar_01 (h01 q hqlt), ez_3, ez_49, ez_50, ef_51, ez_52, ez_54, ez_56, ef_57, ef_58, hiq, h5q, h6q, h7q, h10q, h11q, upd_at, upd_upd, upd_id, if_neg c_29, if_neg c_49, if_neg c_539, if_pos c_559, upd_upd, upd_id]))⟩) hP hD hS (lv_sub hl [0, 1] rfl)
            · have nc_55 := ne_i c_55
              have lc_55 : (2 : Int32).toInt = 2 := by decide
              refine lv_aload_n hx hb dX10_hour_72 rfl (lv_at hl 1 rfl) ?_
              refine va_get (D := (dC, dI)) (ci := 10) (v := .ref (b 10)) (C := RX10) (T := TX10) (N := 51) hx hb hts inw_X10_hour_10 hown hK hP 0 rfl rfl 10 (by decide) (hts (.fieldLink RX10 28 "VatHouseModel" "isDipped" "[Z") (List.mem_of_getElem? (i := 4) (by exact rfl))) (fun _ h9 => h9) rfl dX10_hour_73 ?_
              refine lv_iload_n hx hb dX10_hour_76 rfl (lv_at hl 0 rfl) ?_
              refine va_zald hx hb hK hP 7 6 rfl rfl (by rw [hq]; exact vp_in_nI hqlt (by decide)) dX10_hour_77 ?_
              refine lv_topi (fun z_59 ez_59 => ?_)
              have ez_59 : z_59 = l10 ii.toNatClampNeg := ez_59
              refine lv_if_ne (tgt := 104) hx hb dX10_hour_78 (by decide) (fun c_60 => ?_) (fun c_60 => ?_)
              · have nc_60 := ne_i c_60
                have lc_60 : (0 : Int32).toInt = 0 := by decide
                refine lv_aload_n hx hb dX10_hour_104 rfl (lv_at hl 1 rfl) ?_
                refine va_get (D := (dC, dI)) (ci := 10) (v := .ref (b 11)) (C := RX10) (T := TX10) (N := 51) hx hb hts inw_X10_hour_10 hown hK hP 0 rfl rfl 11 (by decide) (hts (.fieldLink RX10 32 "VatHouseModel" "wasDipped" "[Z") (List.mem_of_getElem? (i := 5) (by exact rfl))) (fun _ h9 => h9) rfl dX10_hour_105 ?_
                refine lv_iload_n hx hb dX10_hour_108 rfl (lv_at hl 0 rfl) ?_
                refine lv_aload_n hx hb dX10_hour_109 rfl (lv_at hl 1 rfl) ?_
                refine va_get (D := (dC, dI)) (ci := 10) (v := .ref (b 10)) (C := RX10) (T := TX10) (N := 51) hx hb hts inw_X10_hour_10 hown hK hP 0 rfl rfl 10 (by decide) (hts (.fieldLink RX10 28 "VatHouseModel" "isDipped" "[Z") (List.mem_of_getElem? (i := 4) (by exact rfl))) (fun _ h9 => h9) rfl dX10_hour_110 ?_
                refine lv_iload_n hx hb dX10_hour_113 rfl (lv_at hl 0 rfl) ?_
                refine va_zald hx hb hK hP 7 6 rfl rfl (by rw [hq]; exact vp_in_nI hqlt (by decide)) dX10_hour_114 ?_
                refine lv_topi (fun z_61 ez_61 => ?_)
                have ez_61 : z_61 = l10 ii.toNatClampNeg := ez_61
                refine va_zast hx hb hK hP hD hS 8 7 rfl rfl (by rw [hq]; exact vp_in_nI hqlt (by decide)) dX10_hour_115 (fun H locs hP hD hS => ?_)
                have hP : va_P (dC, dI) vwCl (mw g h0 b (va_up i 1 z_1) (va_up (va_up (va_up (va_up (va_up a 5 f_51) 6 l6) 7 l7) 10 l10) 11 (upd l11 ii.toNatClampNeg (vp_nar .boolean z_61)))) _ := hP
                have hD : va_D _ (mw g h0 b (va_up i 1 z_1) (va_up (va_up (va_up (va_up (va_up a 5 f_51) 6 l6) 7 l7) 10 l10) 11 (upd l11 ii.toNatClampNeg (vp_nar .boolean z_61)))) := hD
                obtain ⟨f_62, ef_62⟩ : ∃ z, z = (upd l11 ii.toNatClampNeg (vp_nar .boolean z_61)) := ⟨_, rfl⟩
                rw [← ef_62] at hP hD
                refine lv_aload_n hx hb dX10_hour_116 rfl (lv_at hl 1 rfl) ?_
                refine va_get (D := (dC, dI)) (ci := 10) (v := .ref (b 10)) (C := RX10) (T := TX10) (N := 51) hx hb hts inw_X10_hour_10 hown hK hP 0 rfl rfl 10 (by decide) (hts (.fieldLink RX10 28 "VatHouseModel" "isDipped" "[Z") (List.mem_of_getElem? (i := 4) (by exact rfl))) (fun _ h9 => h9) rfl dX10_hour_117 ?_
                refine lv_iload_n hx hb dX10_hour_120 rfl (lv_at hl 0 rfl) ?_
                refine lv_iconst (v := 0) hx hb dX10_hour_121 (by decide) ?_
                refine va_zast hx hb hK hP hD hS 7 6 rfl rfl (by rw [hq]; exact vp_in_nI hqlt (by decide)) dX10_hour_122 (fun H locs hP hD hS => ?_)
                have hP : va_P (dC, dI) vwCl (mw g h0 b (va_up i 1 z_1) (va_up (va_up (va_up (va_up (va_up a 5 f_51) 6 l6) 7 l7) 10 (upd l10 ii.toNatClampNeg (vp_nar .boolean (0 : Int32)))) 11 f_62)) _ := hP
                have hD : va_D _ (mw g h0 b (va_up i 1 z_1) (va_up (va_up (va_up (va_up (va_up a 5 f_51) 6 l6) 7 l7) 10 (upd l10 ii.toNatClampNeg (vp_nar .boolean (0 : Int32)))) 11 f_62)) := hD
                obtain ⟨f_63, ef_63⟩ : ∃ z, z = (upd l10 ii.toNatClampNeg (vp_nar .boolean (0 : Int32))) := ⟨_, rfl⟩
                rw [← ef_63] at hP hD
                refine lv_iinc (v := (ii + 1)) (lv' := [(1, .int (ii + 1)), (0, .ref h0)]) hx hb dX10_hour_123 hl (k := 0) rfl rfl (by decide) rfl (fun ls hl => ?_)
                refine lv_goto (tgt := 12) hx hb dX10_hour_126 (by decide) ?_
                exact ih (ii + 1) f_51 l6 l7 f_63 f_62 _ _ _ (up_nx (by decide) hm (by decide) c_2) (⟨q + 1, by rw [hq]; exact nI_1 q, by omega, (by rw [ef_51, hiq]; exact up_st hl5 (by have c_29 := c_2; (try simp only [ez_3, ez_49, ez_50, ef_51, ez_52, ez_54, ez_59, ez_61, ef_62, ef_63, hiq, h5q, h6q, h7q, h10q, h11q, upd_at, upd_upd, upd_id] at c_29); have c_49 := c_4; (try simp only [ez_3, ez_49, ez_50, ef_51, ez_52, ez_54, ez_59, ez_61, ef_62, ef_63, hiq, h5q, h6q, h7q, h10q, h11q, upd_at, upd_upd, upd_id] at c_49); have c_539 := c_53; (try simp only [ez_3, ez_49, ez_50, ef_51, ez_52, ez_54, ez_59, ez_61, ef_62, ef_63, hiq, h5q, h6q, h7q, h10q, h11q, upd_at, upd_upd, upd_id] at c_539); have c_559 := c_55; (try simp only [ez_3, ez_49, ez_50, ef_51, ez_52, ez_54, ez_59, ez_61, ef_62, ef_63, hiq, h5q, h6q, h7q, h10q, h11q, upd_at, upd_upd, upd_id] at c_559); have c_609 := c_60; (try simp only [ez_3, ez_49, ez_50, ef_51, ez_52, ez_54, ez_59, ez_61, ef_62, ef_63, hiq, h5q, h6q, h7q, h10q, h11q, upd_at, upd_upd, upd_id] at c_609); simp only [hoF, ez_3, ez_49, ez_50, ef_51, ez_52, ez_54, ez_59, ez_61, ef_62, ef_63, hiq, h5q, h6q, h7q, h10q, h11q, upd_at, upd_upd, upd_id, if_neg c_29, if_neg c_49, if_neg c_539, if_neg c_559, if_neg c_609, upd_upd, upd_id])), (up_s0 hl6 (by have c_29 := c_2; (try simp only [ez_3, ez_49, ez_50, ef_51, ez_52, ez_54, ez_59, ez_61, ef_62, ef_63, hiq, h5q, h6q, h7q, h10q, h11q, upd_at, upd_upd, upd_id] at c_29); have c_49 := c_4; (try simp only [ez_3, ez_49, ez_50, ef_51, ez_52, ez_54, ez_59, ez_61, ef_62, ef_63, hiq, h5q, h6q, h7q, h10q, h11q, upd_at, upd_upd, upd_id] at c_49); have c_539 := c_53; (try simp only [ez_3, ez_49, ez_50, ef_51, ez_52, ez_54, ez_59, ez_61, ef_62, ef_63, hiq, h5q, h6q, h7q, h10q, h11q, upd_at, upd_upd, upd_id] at c_539); have c_559 := c_55; (try simp only [ez_3, ez_49, ez_50, ef_51, ez_52, ez_54, ez_59, ez_61, ef_62, ef_63, hiq, h5q, h6q, h7q, h10q, h11q, upd_at, upd_upd, upd_id] at c_559); have c_609 := c_60; (try simp only [ez_3, ez_49, ez_50, ef_51, ez_52, ez_54, ez_59, ez_61, ef_62, ef_63, hiq, h5q, h6q, h7q, h10q, h11q, upd_at, upd_upd, upd_id] at c_609); simp only [hoM, hoF, ez_3, ez_49, ez_50, ef_51, ez_52, ez_54, ez_59, ez_61, ef_62, ef_63, hiq, h5q, h6q, h7q, h10q, h11q, upd_at, upd_upd, upd_id, if_neg c_29, if_neg c_49, if_neg c_539, if_neg c_559, if_neg c_609, upd_upd, upd_id])), (up_s0 hl7 (by have c_29 := c_2; (try simp only [ez_3, ez_49, ez_50, ef_51, ez_52, ez_54, ez_59, ez_61, ef_62, ef_63, hiq, h5q, h6q, h7q, h10q, h11q, upd_at, upd_upd, upd_id] at c_29); have c_49 := c_4; (try simp only [ez_3, ez_49, ez_50, ef_51, ez_52, ez_54, ez_59, ez_61, ef_62, ef_63, hiq, h5q, h6q, h7q, h10q, h11q, upd_at, upd_upd, upd_id] at c_49); have c_539 := c_53; (try simp only [ez_3, ez_49, ez_50, ef_51, ez_52, ez_54, ez_59, ez_61, ef_62, ef_63, hiq, h5q, h6q, h7q, h10q, h11q, upd_at, upd_upd, upd_id] at c_539); have c_559 := c_55; (try simp only [ez_3, ez_49, ez_50, ef_51, ez_52, ez_54, ez_59, ez_61, ef_62, ef_63, hiq, h5q, h6q, h7q, h10q, h11q, upd_at, upd_upd, upd_id] at c_559); have c_609 := c_60; (try simp only [ez_3, ez_49, ez_50, ef_51, ez_52, ez_54, ez_59, ez_61, ef_62, ef_63, hiq, h5q, h6q, h7q, h10q, h11q, upd_at, upd_upd, upd_id] at c_609); simp only [hoS, hoF, ez_3, ez_49, ez_50, ef_51, ez_52, ez_54, ez_59, ez_61, ef_62, ef_63, hiq, h5q, h6q, h7q, h10q, h11q, upd_at, upd_upd, upd_id, if_neg c_29, if_neg c_49, if_neg c_539, if_neg c_559, if_neg c_609, upd_upd, upd_id])), (by rw [ef_63, hiq]; exact up_st hl10 (by have c_29 := c_2; (try simp only [ez_3, ez_49, ez_50, ef_51, ez_52, ez_54, ez_59, ez_61, ef_62, ef_63, hiq, h5q, h6q, h7q, h10q, h11q, upd_at, upd_upd, upd_id] at c_29); have c_49 := c_4; (try simp only [ez_3, ez_49, ez_50, ef_51, ez_52, ez_54, ez_59, ez_61, ef_62, ef_63, hiq, h5q, h6q, h7q, h10q, h11q, upd_at, upd_upd, upd_id] at c_49); have c_539 := c_53; (try simp only [ez_3, ez_49, ez_50, ef_51, ez_52, ez_54, ez_59, ez_61, ef_62, ef_63, hiq, h5q, h6q, h7q, h10q, h11q, upd_at, upd_upd, upd_id] at c_539); have c_559 := c_55; (try simp only [ez_3, ez_49, ez_50, ef_51, ez_52, ez_54, ez_59, ez_61, ef_62, ef_63, hiq, h5q, h6q, h7q, h10q, h11q, upd_at, upd_upd, upd_id] at c_559); have c_609 := c_60; (try simp only [ez_3, ez_49, ez_50, ef_51, ez_52, ez_54, ez_59, ez_61, ef_62, ef_63, hiq, h5q, h6q, h7q, h10q, h11q, upd_at, upd_upd, upd_id] at c_609); simp only [nar_0, ez_3, ez_49, ez_50, ef_51, ez_52, ez_54, ez_59, ez_61, ef_62, ef_63, hiq, h5q, h6q, h7q, h10q, h11q, upd_at, upd_upd, upd_id, if_neg c_29, if_neg c_49, if_neg c_539, if_neg c_559, if_neg c_609, upd_upd, upd_id])), (by rw [ef_62, hiq]; exact up_st hl11 (by have c_29 := c_2; (try simp only [ez_3, ez_49, ez_50, ef_51, ez_52, ez_54, ez_59, ez_61, ef_62, ef_63, hiq, h5q, h6q, h7q, h10q, h11q, upd_at, upd_upd, upd_id] at c_29); have c_49 := c_4; (try simp only [ez_3, ez_49, ez_50, ef_51, ez_52, ez_54, ez_59, ez_61, ef_62, ef_63, hiq, h5q, h6q, h7q, h10q, h11q, upd_at, upd_upd, upd_id] at c_49); have c_539 := c_53; (try simp only [ez_3, ez_49, ez_50, ef_51, ez_52, ez_54, ez_59, ez_61, ef_62, ef_63, hiq, h5q, h6q, h7q, h10q, h11q, upd_at, upd_upd, upd_id] at c_539); have c_559 := c_55; (try simp only [ez_3, ez_49, ez_50, ef_51, ez_52, ez_54, ez_59, ez_61, ef_62, ef_63, hiq, h5q, h6q, h7q, h10q, h11q, upd_at, upd_upd, upd_id] at c_559); have c_609 := c_60; (try simp only [ez_3, ez_49, ez_50, ef_51, ez_52, ez_54, ez_59, ez_61, ef_62, ef_63, hiq, h5q, h6q, h7q, h10q, h11q, upd_at, upd_upd, upd_id] at c_609); simp only [nar_01 (h01 q hqlt), ez_3, ez_49, ez_50, ef_51, ez_52, ez_54, ez_59, ez_61, ef_62, ef_63, hiq, h5q, h6q, h7q, h10q, h11q, upd_at, upd_upd, upd_id, if_neg c_29, if_neg c_49, if_neg c_539, if_neg c_559, if_neg c_609, upd_upd, upd_id]))⟩) hP hD hS (lv_sub hl [0, 1] rfl)
              · have nc_60 := eq_i c_60
                have lc_60 : (0 : Int32).toInt = 0 := by decide
                refine lv_aload_n hx hb dX10_hour_81 rfl (lv_at hl 1 rfl) ?_
                refine va_get (D := (dC, dI)) (ci := 10) (v := .ref (b 11)) (C := RX10) (T := TX10) (N := 51) hx hb hts inw_X10_hour_10 hown hK hP 0 rfl rfl 11 (by decide) (hts (.fieldLink RX10 32 "VatHouseModel" "wasDipped" "[Z") (List.mem_of_getElem? (i := 5) (by exact rfl))) (fun _ h9 => h9) rfl dX10_hour_82 ?_
                refine lv_iload_n hx hb dX10_hour_85 rfl (lv_at hl 0 rfl) ?_
                refine va_zald hx hb hK hP 8 7 rfl rfl (by rw [hq]; exact vp_in_nI hqlt (by decide)) dX10_hour_86 ?_
                refine lv_topi (fun z_64 ez_64 => ?_)
                have ez_64 : z_64 = l11 ii.toNatClampNeg := ez_64
                refine lv_if_ne (tgt := 104) hx hb dX10_hour_87 (by decide) (fun c_65 => ?_) (fun c_65 => ?_)
                · have nc_65 := ne_i c_65
                  have lc_65 : (0 : Int32).toInt = 0 := by decide
                  refine lv_aload_n hx hb dX10_hour_104 rfl (lv_at hl 1 rfl) ?_
                  refine va_get (D := (dC, dI)) (ci := 10) (v := .ref (b 11)) (C := RX10) (T := TX10) (N := 51) hx hb hts inw_X10_hour_10 hown hK hP 0 rfl rfl 11 (by decide) (hts (.fieldLink RX10 32 "VatHouseModel" "wasDipped" "[Z") (List.mem_of_getElem? (i := 5) (by exact rfl))) (fun _ h9 => h9) rfl dX10_hour_105 ?_
                  refine lv_iload_n hx hb dX10_hour_108 rfl (lv_at hl 0 rfl) ?_
                  refine lv_aload_n hx hb dX10_hour_109 rfl (lv_at hl 1 rfl) ?_
                  refine va_get (D := (dC, dI)) (ci := 10) (v := .ref (b 10)) (C := RX10) (T := TX10) (N := 51) hx hb hts inw_X10_hour_10 hown hK hP 0 rfl rfl 10 (by decide) (hts (.fieldLink RX10 28 "VatHouseModel" "isDipped" "[Z") (List.mem_of_getElem? (i := 4) (by exact rfl))) (fun _ h9 => h9) rfl dX10_hour_110 ?_
                  refine lv_iload_n hx hb dX10_hour_113 rfl (lv_at hl 0 rfl) ?_
                  refine va_zald hx hb hK hP 7 6 rfl rfl (by rw [hq]; exact vp_in_nI hqlt (by decide)) dX10_hour_114 ?_
                  refine lv_topi (fun z_66 ez_66 => ?_)
                  have ez_66 : z_66 = l10 ii.toNatClampNeg := ez_66
                  refine va_zast hx hb hK hP hD hS 8 7 rfl rfl (by rw [hq]; exact vp_in_nI hqlt (by decide)) dX10_hour_115 (fun H locs hP hD hS => ?_)
                  have hP : va_P (dC, dI) vwCl (mw g h0 b (va_up i 1 z_1) (va_up (va_up (va_up (va_up (va_up a 5 f_51) 6 l6) 7 l7) 10 l10) 11 (upd l11 ii.toNatClampNeg (vp_nar .boolean z_66)))) _ := hP
                  have hD : va_D _ (mw g h0 b (va_up i 1 z_1) (va_up (va_up (va_up (va_up (va_up a 5 f_51) 6 l6) 7 l7) 10 l10) 11 (upd l11 ii.toNatClampNeg (vp_nar .boolean z_66)))) := hD
                  obtain ⟨f_67, ef_67⟩ : ∃ z, z = (upd l11 ii.toNatClampNeg (vp_nar .boolean z_66)) := ⟨_, rfl⟩
                  rw [← ef_67] at hP hD
                  refine lv_aload_n hx hb dX10_hour_116 rfl (lv_at hl 1 rfl) ?_
                  refine va_get (D := (dC, dI)) (ci := 10) (v := .ref (b 10)) (C := RX10) (T := TX10) (N := 51) hx hb hts inw_X10_hour_10 hown hK hP 0 rfl rfl 10 (by decide) (hts (.fieldLink RX10 28 "VatHouseModel" "isDipped" "[Z") (List.mem_of_getElem? (i := 4) (by exact rfl))) (fun _ h9 => h9) rfl dX10_hour_117 ?_
                  refine lv_iload_n hx hb dX10_hour_120 rfl (lv_at hl 0 rfl) ?_
                  refine lv_iconst (v := 0) hx hb dX10_hour_121 (by decide) ?_
                  refine va_zast hx hb hK hP hD hS 7 6 rfl rfl (by rw [hq]; exact vp_in_nI hqlt (by decide)) dX10_hour_122 (fun H locs hP hD hS => ?_)
                  have hP : va_P (dC, dI) vwCl (mw g h0 b (va_up i 1 z_1) (va_up (va_up (va_up (va_up (va_up a 5 f_51) 6 l6) 7 l7) 10 (upd l10 ii.toNatClampNeg (vp_nar .boolean (0 : Int32)))) 11 f_67)) _ := hP
                  have hD : va_D _ (mw g h0 b (va_up i 1 z_1) (va_up (va_up (va_up (va_up (va_up a 5 f_51) 6 l6) 7 l7) 10 (upd l10 ii.toNatClampNeg (vp_nar .boolean (0 : Int32)))) 11 f_67)) := hD
                  obtain ⟨f_68, ef_68⟩ : ∃ z, z = (upd l10 ii.toNatClampNeg (vp_nar .boolean (0 : Int32))) := ⟨_, rfl⟩
                  rw [← ef_68] at hP hD
                  refine lv_iinc (v := (ii + 1)) (lv' := [(1, .int (ii + 1)), (0, .ref h0)]) hx hb dX10_hour_123 hl (k := 0) rfl rfl (by decide) rfl (fun ls hl => ?_)
                  refine lv_goto (tgt := 12) hx hb dX10_hour_126 (by decide) ?_
                  exact ih (ii + 1) f_51 l6 l7 f_68 f_67 _ _ _ (up_nx (by decide) hm (by decide) c_2) (⟨q + 1, by rw [hq]; exact nI_1 q, by omega, (by rw [ef_51, hiq]; exact up_st hl5 (by have c_29 := c_2; (try simp only [ez_3, ez_49, ez_50, ef_51, ez_52, ez_54, ez_59, ez_64, ez_66, ef_67, ef_68, hiq, h5q, h6q, h7q, h10q, h11q, upd_at, upd_upd, upd_id] at c_29); have c_49 := c_4; (try simp only [ez_3, ez_49, ez_50, ef_51, ez_52, ez_54, ez_59, ez_64, ez_66, ef_67, ef_68, hiq, h5q, h6q, h7q, h10q, h11q, upd_at, upd_upd, upd_id] at c_49); have c_539 := c_53; (try simp only [ez_3, ez_49, ez_50, ef_51, ez_52, ez_54, ez_59, ez_64, ez_66, ef_67, ef_68, hiq, h5q, h6q, h7q, h10q, h11q, upd_at, upd_upd, upd_id] at c_539); have c_559 := c_55; (try simp only [ez_3, ez_49, ez_50, ef_51, ez_52, ez_54, ez_59, ez_64, ez_66, ef_67, ef_68, hiq, h5q, h6q, h7q, h10q, h11q, upd_at, upd_upd, upd_id] at c_559); have c_609 := c_60; (try simp only [ez_3, ez_49, ez_50, ef_51, ez_52, ez_54, ez_59, ez_64, ez_66, ef_67, ef_68, hiq, h5q, h6q, h7q, h10q, h11q, upd_at, upd_upd, upd_id] at c_609); have c_659 := c_65; (try simp only [ez_3, ez_49, ez_50, ef_51, ez_52, ez_54, ez_59, ez_64, ez_66, ef_67, ef_68, hiq, h5q, h6q, h7q, h10q, h11q, upd_at, upd_upd, upd_id] at c_659); simp only [hoF, ez_3, ez_49, ez_50, ef_51, ez_52, ez_54, ez_59, ez_64, ez_66, ef_67, ef_68, hiq, h5q, h6q, h7q, h10q, h11q, upd_at, upd_upd, upd_id, if_neg c_29, if_neg c_49, if_neg c_539, if_neg c_559, if_pos c_609, if_neg c_659, upd_upd, upd_id])), (up_s0 hl6 (by have c_29 := c_2; (try simp only [ez_3, ez_49, ez_50, ef_51, ez_52, ez_54, ez_59, ez_64, ez_66, ef_67, ef_68, hiq, h5q, h6q, h7q, h10q, h11q, upd_at, upd_upd, upd_id] at c_29); have c_49 := c_4; (try simp only [ez_3, ez_49, ez_50, ef_51, ez_52, ez_54, ez_59, ez_64, ez_66, ef_67, ef_68, hiq, h5q, h6q, h7q, h10q, h11q, upd_at, upd_upd, upd_id] at c_49); have c_539 := c_53; (try simp only [ez_3, ez_49, ez_50, ef_51, ez_52, ez_54, ez_59, ez_64, ez_66, ef_67, ef_68, hiq, h5q, h6q, h7q, h10q, h11q, upd_at, upd_upd, upd_id] at c_539); have c_559 := c_55; (try simp only [ez_3, ez_49, ez_50, ef_51, ez_52, ez_54, ez_59, ez_64, ez_66, ef_67, ef_68, hiq, h5q, h6q, h7q, h10q, h11q, upd_at, upd_upd, upd_id] at c_559); have c_609 := c_60; (try simp only [ez_3, ez_49, ez_50, ef_51, ez_52, ez_54, ez_59, ez_64, ez_66, ef_67, ef_68, hiq, h5q, h6q, h7q, h10q, h11q, upd_at, upd_upd, upd_id] at c_609); have c_659 := c_65; (try simp only [ez_3, ez_49, ez_50, ef_51, ez_52, ez_54, ez_59, ez_64, ez_66, ef_67, ef_68, hiq, h5q, h6q, h7q, h10q, h11q, upd_at, upd_upd, upd_id] at c_659); simp only [hoM, hoF, ez_3, ez_49, ez_50, ef_51, ez_52, ez_54, ez_59, ez_64, ez_66, ef_67, ef_68, hiq, h5q, h6q, h7q, h10q, h11q, upd_at, upd_upd, upd_id, if_neg c_29, if_neg c_49, if_neg c_539, if_neg c_559, if_pos c_609, if_neg c_659, upd_upd, upd_id])), (up_s0 hl7 (by have c_29 := c_2; (try simp only [ez_3, ez_49, ez_50, ef_51, ez_52, ez_54, ez_59, ez_64, ez_66, ef_67, ef_68, hiq, h5q, h6q, h7q, h10q, h11q, upd_at, upd_upd, upd_id] at c_29); have c_49 := c_4; (try simp only [ez_3, ez_49, ez_50, ef_51, ez_52, ez_54, ez_59, ez_64, ez_66, ef_67, ef_68, hiq, h5q, h6q, h7q, h10q, h11q, upd_at, upd_upd, upd_id] at c_49); have c_539 := c_53; (try simp only [ez_3, ez_49, ez_50, ef_51, ez_52, ez_54, ez_59, ez_64, ez_66, ef_67, ef_68, hiq, h5q, h6q, h7q, h10q, h11q, upd_at, upd_upd, upd_id] at c_539); have c_559 := c_55; (try simp only [ez_3, ez_49, ez_50, ef_51, ez_52, ez_54, ez_59, ez_64, ez_66, ef_67, ef_68, hiq, h5q, h6q, h7q, h10q, h11q, upd_at, upd_upd, upd_id] at c_559); have c_609 := c_60; (try simp only [ez_3, ez_49, ez_50, ef_51, ez_52, ez_54, ez_59, ez_64, ez_66, ef_67, ef_68, hiq, h5q, h6q, h7q, h10q, h11q, upd_at, upd_upd, upd_id] at c_609); have c_659 := c_65; (try simp only [ez_3, ez_49, ez_50, ef_51, ez_52, ez_54, ez_59, ez_64, ez_66, ef_67, ef_68, hiq, h5q, h6q, h7q, h10q, h11q, upd_at, upd_upd, upd_id] at c_659); simp only [hoS, hoF, ez_3, ez_49, ez_50, ef_51, ez_52, ez_54, ez_59, ez_64, ez_66, ef_67, ef_68, hiq, h5q, h6q, h7q, h10q, h11q, upd_at, upd_upd, upd_id, if_neg c_29, if_neg c_49, if_neg c_539, if_neg c_559, if_pos c_609, if_neg c_659, upd_upd, upd_id])), (by rw [ef_68, hiq]; exact up_st hl10 (by have c_29 := c_2; (try simp only [ez_3, ez_49, ez_50, ef_51, ez_52, ez_54, ez_59, ez_64, ez_66, ef_67, ef_68, hiq, h5q, h6q, h7q, h10q, h11q, upd_at, upd_upd, upd_id] at c_29); have c_49 := c_4; (try simp only [ez_3, ez_49, ez_50, ef_51, ez_52, ez_54, ez_59, ez_64, ez_66, ef_67, ef_68, hiq, h5q, h6q, h7q, h10q, h11q, upd_at, upd_upd, upd_id] at c_49); have c_539 := c_53; (try simp only [ez_3, ez_49, ez_50, ef_51, ez_52, ez_54, ez_59, ez_64, ez_66, ef_67, ef_68, hiq, h5q, h6q, h7q, h10q, h11q, upd_at, upd_upd, upd_id] at c_539); have c_559 := c_55; (try simp only [ez_3, ez_49, ez_50, ef_51, ez_52, ez_54, ez_59, ez_64, ez_66, ef_67, ef_68, hiq, h5q, h6q, h7q, h10q, h11q, upd_at, upd_upd, upd_id] at c_559); have c_609 := c_60; (try simp only [ez_3, ez_49, ez_50, ef_51, ez_52, ez_54, ez_59, ez_64, ez_66, ef_67, ef_68, hiq, h5q, h6q, h7q, h10q, h11q, upd_at, upd_upd, upd_id] at c_609); have c_659 := c_65; (try simp only [ez_3, ez_49, ez_50, ef_51, ez_52, ez_54, ez_59, ez_64, ez_66, ef_67, ef_68, hiq, h5q, h6q, h7q, h10q, h11q, upd_at, upd_upd, upd_id] at c_659); simp only [nar_0, ez_3, ez_49, ez_50, ef_51, ez_52, ez_54, ez_59, ez_64, ez_66, ef_67, ef_68, hiq, h5q, h6q, h7q, h10q, h11q, upd_at, upd_upd, upd_id, if_neg c_29, if_neg c_49, if_neg c_539, if_neg c_559, if_pos c_609, if_neg c_659, upd_upd, upd_id])), (by rw [ef_67, hiq]; exact up_st hl11 (by have c_29 := c_2; (try simp only [ez_3, ez_49, ez_50, ef_51, ez_52, ez_54, ez_59, ez_64, ez_66, ef_67, ef_68, hiq, h5q, h6q, h7q, h10q, h11q, upd_at, upd_upd, upd_id] at c_29); have c_49 := c_4; (try simp only [ez_3, ez_49, ez_50, ef_51, ez_52, ez_54, ez_59, ez_64, ez_66, ef_67, ef_68, hiq, h5q, h6q, h7q, h10q, h11q, upd_at, upd_upd, upd_id] at c_49); have c_539 := c_53; (try simp only [ez_3, ez_49, ez_50, ef_51, ez_52, ez_54, ez_59, ez_64, ez_66, ef_67, ef_68, hiq, h5q, h6q, h7q, h10q, h11q, upd_at, upd_upd, upd_id] at c_539); have c_559 := c_55; (try simp only [ez_3, ez_49, ez_50, ef_51, ez_52, ez_54, ez_59, ez_64, ez_66, ef_67, ef_68, hiq, h5q, h6q, h7q, h10q, h11q, upd_at, upd_upd, upd_id] at c_559); have c_609 := c_60; (try simp only [ez_3, ez_49, ez_50, ef_51, ez_52, ez_54, ez_59, ez_64, ez_66, ef_67, ef_68, hiq, h5q, h6q, h7q, h10q, h11q, upd_at, upd_upd, upd_id] at c_609); have c_659 := c_65; (try simp only [ez_3, ez_49, ez_50, ef_51, ez_52, ez_54, ez_59, ez_64, ez_66, ef_67, ef_68, hiq, h5q, h6q, h7q, h10q, h11q, upd_at, upd_upd, upd_id] at c_659); simp only [nar_01 (h01 q hqlt), ez_3, ez_49, ez_50, ef_51, ez_52, ez_54, ez_59, ez_64, ez_66, ef_67, ef_68, hiq, h5q, h6q, h7q, h10q, h11q, upd_at, upd_upd, upd_id, if_neg c_29, if_neg c_49, if_neg c_539, if_neg c_559, if_pos c_609, if_neg c_659, upd_upd, upd_id]))⟩) hP hD hS (lv_sub hl [0, 1] rfl)
                · have nc_65 := eq_i c_65
                  have lc_65 : (0 : Int32).toInt = 0 := by decide
                  refine lv_aload_n hx hb dX10_hour_90 rfl (lv_at hl 1 rfl) ?_
                  refine va_get (D := (dC, dI)) (ci := 10) (v := .ref (b 7)) (C := RX10) (T := TX10) (N := 51) hx hb hts inw_X10_hour_10 hown hK hP 0 rfl rfl 7 (by decide) (hts (.fieldLink RX10 19 "VatHouseModel" "state" "[I") (List.mem_of_getElem? (i := 3) (by exact rfl))) (fun _ h9 => h9) rfl dX10_hour_91 ?_
                  refine lv_iload_n hx hb dX10_hour_94 rfl (lv_at hl 0 rfl) ?_
                  refine lv_iconst (v := 0) hx hb dX10_hour_95 (by decide) ?_
                  refine va_iast hx hb hK hP hD hS 4 3 rfl rfl (by rw [hq]; exact vp_in_nI hqlt (by decide)) dX10_hour_96 (fun H locs hP hD hS => ?_)
                  have hP : va_P (dC, dI) vwCl (mw g h0 b (va_up i 1 z_1) (va_up (va_up (va_up (va_up (va_up a 5 f_51) 6 l6) 7 (upd l7 ii.toNatClampNeg (0 : Int32))) 10 l10) 11 l11)) _ := hP
                  have hD : va_D _ (mw g h0 b (va_up i 1 z_1) (va_up (va_up (va_up (va_up (va_up a 5 f_51) 6 l6) 7 (upd l7 ii.toNatClampNeg (0 : Int32))) 10 l10) 11 l11)) := hD
                  obtain ⟨f_69, ef_69⟩ : ∃ z, z = (upd l7 ii.toNatClampNeg (0 : Int32)) := ⟨_, rfl⟩
                  rw [← ef_69] at hP hD
                  refine lv_aload_n hx hb dX10_hour_97 rfl (lv_at hl 1 rfl) ?_
                  refine va_get (D := (dC, dI)) (ci := 10) (v := .ref (b 6)) (C := RX10) (T := TX10) (N := 51) hx hb hts inw_X10_hour_10 hown hK hP 0 rfl rfl 6 (by decide) (hts (.fieldLink RX10 16 "VatHouseModel" "minutes" "[I") (List.mem_of_getElem? (i := 6) (by exact rfl))) (fun _ h9 => h9) rfl dX10_hour_98 ?_
                  refine lv_iload_n hx hb dX10_hour_101 rfl (lv_at hl 0 rfl) ?_
                  refine lv_iconst (v := 0) hx hb dX10_hour_102 (by decide) ?_
                  refine va_iast hx hb hK hP hD hS 3 2 rfl rfl (by rw [hq]; exact vp_in_nI hqlt (by decide)) dX10_hour_103 (fun H locs hP hD hS => ?_)
                  have hP : va_P (dC, dI) vwCl (mw g h0 b (va_up i 1 z_1) (va_up (va_up (va_up (va_up (va_up a 5 f_51) 6 (upd l6 ii.toNatClampNeg (0 : Int32))) 7 f_69) 10 l10) 11 l11)) _ := hP
                  have hD : va_D _ (mw g h0 b (va_up i 1 z_1) (va_up (va_up (va_up (va_up (va_up a 5 f_51) 6 (upd l6 ii.toNatClampNeg (0 : Int32))) 7 f_69) 10 l10) 11 l11)) := hD
                  obtain ⟨f_70, ef_70⟩ : ∃ z, z = (upd l6 ii.toNatClampNeg (0 : Int32)) := ⟨_, rfl⟩
                  rw [← ef_70] at hP hD
                  refine lv_aload_n hx hb dX10_hour_104 rfl (lv_at hl 1 rfl) ?_
                  refine va_get (D := (dC, dI)) (ci := 10) (v := .ref (b 11)) (C := RX10) (T := TX10) (N := 51) hx hb hts inw_X10_hour_10 hown hK hP 0 rfl rfl 11 (by decide) (hts (.fieldLink RX10 32 "VatHouseModel" "wasDipped" "[Z") (List.mem_of_getElem? (i := 5) (by exact rfl))) (fun _ h9 => h9) rfl dX10_hour_105 ?_
                  refine lv_iload_n hx hb dX10_hour_108 rfl (lv_at hl 0 rfl) ?_
                  refine lv_aload_n hx hb dX10_hour_109 rfl (lv_at hl 1 rfl) ?_
                  refine va_get (D := (dC, dI)) (ci := 10) (v := .ref (b 10)) (C := RX10) (T := TX10) (N := 51) hx hb hts inw_X10_hour_10 hown hK hP 0 rfl rfl 10 (by decide) (hts (.fieldLink RX10 28 "VatHouseModel" "isDipped" "[Z") (List.mem_of_getElem? (i := 4) (by exact rfl))) (fun _ h9 => h9) rfl dX10_hour_110 ?_
                  refine lv_iload_n hx hb dX10_hour_113 rfl (lv_at hl 0 rfl) ?_
                  refine va_zald hx hb hK hP 7 6 rfl rfl (by rw [hq]; exact vp_in_nI hqlt (by decide)) dX10_hour_114 ?_
                  refine lv_topi (fun z_71 ez_71 => ?_)
                  have ez_71 : z_71 = l10 ii.toNatClampNeg := ez_71
                  refine va_zast hx hb hK hP hD hS 8 7 rfl rfl (by rw [hq]; exact vp_in_nI hqlt (by decide)) dX10_hour_115 (fun H locs hP hD hS => ?_)
                  have hP : va_P (dC, dI) vwCl (mw g h0 b (va_up i 1 z_1) (va_up (va_up (va_up (va_up (va_up a 5 f_51) 6 f_70) 7 f_69) 10 l10) 11 (upd l11 ii.toNatClampNeg (vp_nar .boolean z_71)))) _ := hP
                  have hD : va_D _ (mw g h0 b (va_up i 1 z_1) (va_up (va_up (va_up (va_up (va_up a 5 f_51) 6 f_70) 7 f_69) 10 l10) 11 (upd l11 ii.toNatClampNeg (vp_nar .boolean z_71)))) := hD
                  obtain ⟨f_72, ef_72⟩ : ∃ z, z = (upd l11 ii.toNatClampNeg (vp_nar .boolean z_71)) := ⟨_, rfl⟩
                  rw [← ef_72] at hP hD
                  refine lv_aload_n hx hb dX10_hour_116 rfl (lv_at hl 1 rfl) ?_
                  refine va_get (D := (dC, dI)) (ci := 10) (v := .ref (b 10)) (C := RX10) (T := TX10) (N := 51) hx hb hts inw_X10_hour_10 hown hK hP 0 rfl rfl 10 (by decide) (hts (.fieldLink RX10 28 "VatHouseModel" "isDipped" "[Z") (List.mem_of_getElem? (i := 4) (by exact rfl))) (fun _ h9 => h9) rfl dX10_hour_117 ?_
                  refine lv_iload_n hx hb dX10_hour_120 rfl (lv_at hl 0 rfl) ?_
                  refine lv_iconst (v := 0) hx hb dX10_hour_121 (by decide) ?_
                  refine va_zast hx hb hK hP hD hS 7 6 rfl rfl (by rw [hq]; exact vp_in_nI hqlt (by decide)) dX10_hour_122 (fun H locs hP hD hS => ?_)
                  have hP : va_P (dC, dI) vwCl (mw g h0 b (va_up i 1 z_1) (va_up (va_up (va_up (va_up (va_up a 5 f_51) 6 f_70) 7 f_69) 10 (upd l10 ii.toNatClampNeg (vp_nar .boolean (0 : Int32)))) 11 f_72)) _ := hP
                  have hD : va_D _ (mw g h0 b (va_up i 1 z_1) (va_up (va_up (va_up (va_up (va_up a 5 f_51) 6 f_70) 7 f_69) 10 (upd l10 ii.toNatClampNeg (vp_nar .boolean (0 : Int32)))) 11 f_72)) := hD
                  obtain ⟨f_73, ef_73⟩ : ∃ z, z = (upd l10 ii.toNatClampNeg (vp_nar .boolean (0 : Int32))) := ⟨_, rfl⟩
                  rw [← ef_73] at hP hD
                  refine lv_iinc (v := (ii + 1)) (lv' := [(1, .int (ii + 1)), (0, .ref h0)]) hx hb dX10_hour_123 hl (k := 0) rfl rfl (by decide) rfl (fun ls hl => ?_)
                  refine lv_goto (tgt := 12) hx hb dX10_hour_126 (by decide) ?_
                  exact ih (ii + 1) f_51 f_70 f_69 f_73 f_72 _ _ _ (up_nx (by decide) hm (by decide) c_2) (⟨q + 1, by rw [hq]; exact nI_1 q, by omega, (by rw [ef_51, hiq]; exact up_st hl5 (by have c_29 := c_2; (try simp only [ez_3, ez_49, ez_50, ef_51, ez_52, ez_54, ez_59, ez_64, ef_69, ef_70, ez_71, ef_72, ef_73, hiq, h5q, h6q, h7q, h10q, h11q, upd_at, upd_upd, upd_id] at c_29); have c_49 := c_4; (try simp only [ez_3, ez_49, ez_50, ef_51, ez_52, ez_54, ez_59, ez_64, ef_69, ef_70, ez_71, ef_72, ef_73, hiq, h5q, h6q, h7q, h10q, h11q, upd_at, upd_upd, upd_id] at c_49); have c_539 := c_53; (try simp only [ez_3, ez_49, ez_50, ef_51, ez_52, ez_54, ez_59, ez_64, ef_69, ef_70, ez_71, ef_72, ef_73, hiq, h5q, h6q, h7q, h10q, h11q, upd_at, upd_upd, upd_id] at c_539); have c_559 := c_55; (try simp only [ez_3, ez_49, ez_50, ef_51, ez_52, ez_54, ez_59, ez_64, ef_69, ef_70, ez_71, ef_72, ef_73, hiq, h5q, h6q, h7q, h10q, h11q, upd_at, upd_upd, upd_id] at c_559); have c_609 := c_60; (try simp only [ez_3, ez_49, ez_50, ef_51, ez_52, ez_54, ez_59, ez_64, ef_69, ef_70, ez_71, ef_72, ef_73, hiq, h5q, h6q, h7q, h10q, h11q, upd_at, upd_upd, upd_id] at c_609); have c_659 := c_65; (try simp only [ez_3, ez_49, ez_50, ef_51, ez_52, ez_54, ez_59, ez_64, ef_69, ef_70, ez_71, ef_72, ef_73, hiq, h5q, h6q, h7q, h10q, h11q, upd_at, upd_upd, upd_id] at c_659); simp only [hoF, ez_3, ez_49, ez_50, ef_51, ez_52, ez_54, ez_59, ez_64, ef_69, ef_70, ez_71, ef_72, ef_73, hiq, h5q, h6q, h7q, h10q, h11q, upd_at, upd_upd, upd_id, if_neg c_29, if_neg c_49, if_neg c_539, if_neg c_559, if_pos c_609, if_pos c_659, upd_upd, upd_id])), (by rw [ef_70, hiq]; exact up_st hl6 (by have c_29 := c_2; (try simp only [ez_3, ez_49, ez_50, ef_51, ez_52, ez_54, ez_59, ez_64, ef_69, ef_70, ez_71, ef_72, ef_73, hiq, h5q, h6q, h7q, h10q, h11q, upd_at, upd_upd, upd_id] at c_29); have c_49 := c_4; (try simp only [ez_3, ez_49, ez_50, ef_51, ez_52, ez_54, ez_59, ez_64, ef_69, ef_70, ez_71, ef_72, ef_73, hiq, h5q, h6q, h7q, h10q, h11q, upd_at, upd_upd, upd_id] at c_49); have c_539 := c_53; (try simp only [ez_3, ez_49, ez_50, ef_51, ez_52, ez_54, ez_59, ez_64, ef_69, ef_70, ez_71, ef_72, ef_73, hiq, h5q, h6q, h7q, h10q, h11q, upd_at, upd_upd, upd_id] at c_539); have c_559 := c_55; (try simp only [ez_3, ez_49, ez_50, ef_51, ez_52, ez_54, ez_59, ez_64, ef_69, ef_70, ez_71, ef_72, ef_73, hiq, h5q, h6q, h7q, h10q, h11q, upd_at, upd_upd, upd_id] at c_559); have c_609 := c_60; (try simp only [ez_3, ez_49, ez_50, ef_51, ez_52, ez_54, ez_59, ez_64, ef_69, ef_70, ez_71, ef_72, ef_73, hiq, h5q, h6q, h7q, h10q, h11q, upd_at, upd_upd, upd_id] at c_609); have c_659 := c_65; (try simp only [ez_3, ez_49, ez_50, ef_51, ez_52, ez_54, ez_59, ez_64, ef_69, ef_70, ez_71, ef_72, ef_73, hiq, h5q, h6q, h7q, h10q, h11q, upd_at, upd_upd, upd_id] at c_659); simp only [hoM, hoF, ez_3, ez_49, ez_50, ef_51, ez_52, ez_54, ez_59, ez_64, ef_69, ef_70, ez_71, ef_72, ef_73, hiq, h5q, h6q, h7q, h10q, h11q, upd_at, upd_upd, upd_id, if_neg c_29, if_neg c_49, if_neg c_539, if_neg c_559, if_pos c_609, if_pos c_659, upd_upd, upd_id])), (by rw [ef_69, hiq]; exact up_st hl7 (by have c_29 := c_2; (try simp only [ez_3, ez_49, ez_50, ef_51, ez_52, ez_54, ez_59, ez_64, ef_69, ef_70, ez_71, ef_72, ef_73, hiq, h5q, h6q, h7q, h10q, h11q, upd_at, upd_upd, upd_id] at c_29); have c_49 := c_4; (try simp only [ez_3, ez_49, ez_50, ef_51, ez_52, ez_54, ez_59, ez_64, ef_69, ef_70, ez_71, ef_72, ef_73, hiq, h5q, h6q, h7q, h10q, h11q, upd_at, upd_upd, upd_id] at c_49); have c_539 := c_53; (try simp only [ez_3, ez_49, ez_50, ef_51, ez_52, ez_54, ez_59, ez_64, ef_69, ef_70, ez_71, ef_72, ef_73, hiq, h5q, h6q, h7q, h10q, h11q, upd_at, upd_upd, upd_id] at c_539); have c_559 := c_55; (try simp only [ez_3, ez_49, ez_50, ef_51, ez_52, ez_54, ez_59, ez_64, ef_69, ef_70, ez_71, ef_72, ef_73, hiq, h5q, h6q, h7q, h10q, h11q, upd_at, upd_upd, upd_id] at c_559); have c_609 := c_60; (try simp only [ez_3, ez_49, ez_50, ef_51, ez_52, ez_54, ez_59, ez_64, ef_69, ef_70, ez_71, ef_72, ef_73, hiq, h5q, h6q, h7q, h10q, h11q, upd_at, upd_upd, upd_id] at c_609); have c_659 := c_65; (try simp only [ez_3, ez_49, ez_50, ef_51, ez_52, ez_54, ez_59, ez_64, ef_69, ef_70, ez_71, ef_72, ef_73, hiq, h5q, h6q, h7q, h10q, h11q, upd_at, upd_upd, upd_id] at c_659); simp only [hoS, hoF, ez_3, ez_49, ez_50, ef_51, ez_52, ez_54, ez_59, ez_64, ef_69, ef_70, ez_71, ef_72, ef_73, hiq, h5q, h6q, h7q, h10q, h11q, upd_at, upd_upd, upd_id, if_neg c_29, if_neg c_49, if_neg c_539, if_neg c_559, if_pos c_609, if_pos c_659, upd_upd, upd_id])), (by rw [ef_73, hiq]; exact up_st hl10 (by have c_29 := c_2; (try simp only [ez_3, ez_49, ez_50, ef_51, ez_52, ez_54, ez_59, ez_64, ef_69, ef_70, ez_71, ef_72, ef_73, hiq, h5q, h6q, h7q, h10q, h11q, upd_at, upd_upd, upd_id] at c_29); have c_49 := c_4; (try simp only [ez_3, ez_49, ez_50, ef_51, ez_52, ez_54, ez_59, ez_64, ef_69, ef_70, ez_71, ef_72, ef_73, hiq, h5q, h6q, h7q, h10q, h11q, upd_at, upd_upd, upd_id] at c_49); have c_539 := c_53; (try simp only [ez_3, ez_49, ez_50, ef_51, ez_52, ez_54, ez_59, ez_64, ef_69, ef_70, ez_71, ef_72, ef_73, hiq, h5q, h6q, h7q, h10q, h11q, upd_at, upd_upd, upd_id] at c_539); have c_559 := c_55; (try simp only [ez_3, ez_49, ez_50, ef_51, ez_52, ez_54, ez_59, ez_64, ef_69, ef_70, ez_71, ef_72, ef_73, hiq, h5q, h6q, h7q, h10q, h11q, upd_at, upd_upd, upd_id] at c_559); have c_609 := c_60; (try simp only [ez_3, ez_49, ez_50, ef_51, ez_52, ez_54, ez_59, ez_64, ef_69, ef_70, ez_71, ef_72, ef_73, hiq, h5q, h6q, h7q, h10q, h11q, upd_at, upd_upd, upd_id] at c_609); have c_659 := c_65; (try simp only [ez_3, ez_49, ez_50, ef_51, ez_52, ez_54, ez_59, ez_64, ef_69, ef_70, ez_71, ef_72, ef_73, hiq, h5q, h6q, h7q, h10q, h11q, upd_at, upd_upd, upd_id] at c_659); simp only [nar_0, ez_3, ez_49, ez_50, ef_51, ez_52, ez_54, ez_59, ez_64, ef_69, ef_70, ez_71, ef_72, ef_73, hiq, h5q, h6q, h7q, h10q, h11q, upd_at, upd_upd, upd_id, if_neg c_29, if_neg c_49, if_neg c_539, if_neg c_559, if_pos c_609, if_pos c_659, upd_upd, upd_id])), (by rw [ef_72, hiq]; exact up_st hl11 (by have c_29 := c_2; (try simp only [ez_3, ez_49, ez_50, ef_51, ez_52, ez_54, ez_59, ez_64, ef_69, ef_70, ez_71, ef_72, ef_73, hiq, h5q, h6q, h7q, h10q, h11q, upd_at, upd_upd, upd_id] at c_29); have c_49 := c_4; (try simp only [ez_3, ez_49, ez_50, ef_51, ez_52, ez_54, ez_59, ez_64, ef_69, ef_70, ez_71, ef_72, ef_73, hiq, h5q, h6q, h7q, h10q, h11q, upd_at, upd_upd, upd_id] at c_49); have c_539 := c_53; (try simp only [ez_3, ez_49, ez_50, ef_51, ez_52, ez_54, ez_59, ez_64, ef_69, ef_70, ez_71, ef_72, ef_73, hiq, h5q, h6q, h7q, h10q, h11q, upd_at, upd_upd, upd_id] at c_539); have c_559 := c_55; (try simp only [ez_3, ez_49, ez_50, ef_51, ez_52, ez_54, ez_59, ez_64, ef_69, ef_70, ez_71, ef_72, ef_73, hiq, h5q, h6q, h7q, h10q, h11q, upd_at, upd_upd, upd_id] at c_559); have c_609 := c_60; (try simp only [ez_3, ez_49, ez_50, ef_51, ez_52, ez_54, ez_59, ez_64, ef_69, ef_70, ez_71, ef_72, ef_73, hiq, h5q, h6q, h7q, h10q, h11q, upd_at, upd_upd, upd_id] at c_609); have c_659 := c_65; (try simp only [ez_3, ez_49, ez_50, ef_51, ez_52, ez_54, ez_59, ez_64, ef_69, ef_70, ez_71, ef_72, ef_73, hiq, h5q, h6q, h7q, h10q, h11q, upd_at, upd_upd, upd_id] at c_659); simp only [nar_01 (h01 q hqlt), ez_3, ez_49, ez_50, ef_51, ez_52, ez_54, ez_59, ez_64, ef_69, ef_70, ez_71, ef_72, ef_73, hiq, h5q, h6q, h7q, h10q, h11q, upd_at, upd_upd, upd_id, if_neg c_29, if_neg c_49, if_neg c_539, if_neg c_559, if_pos c_609, if_pos c_659, upd_upd, upd_id]))⟩) hP hD hS (lv_sub hl [0, 1] rfl)
          · have nc_53 := eq_i c_53
            have lc_53 : (0 : Int32).toInt = 0 := by decide
            refine lv_aload_n hx hb dX10_hour_55 rfl (lv_at hl 1 rfl) ?_
            refine va_get (D := (dC, dI)) (ci := 10) (v := .ref (b 7)) (C := RX10) (T := TX10) (N := 51) hx hb hts inw_X10_hour_10 hown hK hP 0 rfl rfl 7 (by decide) (hts (.fieldLink RX10 19 "VatHouseModel" "state" "[I") (List.mem_of_getElem? (i := 3) (by exact rfl))) (fun _ h9 => h9) rfl dX10_hour_56 ?_
            refine lv_iload_n hx hb dX10_hour_59 rfl (lv_at hl 0 rfl) ?_
            refine lv_iconst (v := 2) hx hb dX10_hour_60 (by decide) ?_
            refine va_iast hx hb hK hP hD hS 4 3 rfl rfl (by rw [hq]; exact vp_in_nI hqlt (by decide)) dX10_hour_61 (fun H locs hP hD hS => ?_)
            have hP : va_P (dC, dI) vwCl (mw g h0 b (va_up i 1 z_1) (va_up (va_up (va_up (va_up (va_up a 5 f_51) 6 l6) 7 (upd l7 ii.toNatClampNeg (2 : Int32))) 10 l10) 11 l11)) _ := hP
            have hD : va_D _ (mw g h0 b (va_up i 1 z_1) (va_up (va_up (va_up (va_up (va_up a 5 f_51) 6 l6) 7 (upd l7 ii.toNatClampNeg (2 : Int32))) 10 l10) 11 l11)) := hD
            obtain ⟨f_74, ef_74⟩ : ∃ z, z = (upd l7 ii.toNatClampNeg (2 : Int32)) := ⟨_, rfl⟩
            rw [← ef_74] at hP hD
            refine lv_aload_n hx hb dX10_hour_62 rfl (lv_at hl 1 rfl) ?_
            refine va_get (D := (dC, dI)) (ci := 10) (v := .ref (b 7)) (C := RX10) (T := TX10) (N := 51) hx hb hts inw_X10_hour_10 hown hK hP 0 rfl rfl 7 (by decide) (hts (.fieldLink RX10 19 "VatHouseModel" "state" "[I") (List.mem_of_getElem? (i := 3) (by exact rfl))) (fun _ h9 => h9) rfl dX10_hour_63 ?_
            refine lv_iload_n hx hb dX10_hour_66 rfl (lv_at hl 0 rfl) ?_
            refine va_iald hx hb hK hP 4 3 rfl rfl (by rw [hq]; exact vp_in_nI hqlt (by decide)) dX10_hour_67 ?_
            refine lv_topi (fun z_75 ez_75 => ?_)
            have ez_75 : z_75 = f_74 ii.toNatClampNeg := ez_75
            refine lv_iconst (v := 2) hx hb dX10_hour_68 (by decide) ?_
            refine lv_icmp_eq (tgt := 104) hx hb dX10_hour_69 (by decide) (fun c_76 => ?_) (fun c_76 => ?_)
            · have nc_76 := eq_i c_76
              have lc_76 : (2 : Int32).toInt = 2 := by decide
              refine lv_aload_n hx hb dX10_hour_104 rfl (lv_at hl 1 rfl) ?_
              refine va_get (D := (dC, dI)) (ci := 10) (v := .ref (b 11)) (C := RX10) (T := TX10) (N := 51) hx hb hts inw_X10_hour_10 hown hK hP 0 rfl rfl 11 (by decide) (hts (.fieldLink RX10 32 "VatHouseModel" "wasDipped" "[Z") (List.mem_of_getElem? (i := 5) (by exact rfl))) (fun _ h9 => h9) rfl dX10_hour_105 ?_
              refine lv_iload_n hx hb dX10_hour_108 rfl (lv_at hl 0 rfl) ?_
              refine lv_aload_n hx hb dX10_hour_109 rfl (lv_at hl 1 rfl) ?_
              refine va_get (D := (dC, dI)) (ci := 10) (v := .ref (b 10)) (C := RX10) (T := TX10) (N := 51) hx hb hts inw_X10_hour_10 hown hK hP 0 rfl rfl 10 (by decide) (hts (.fieldLink RX10 28 "VatHouseModel" "isDipped" "[Z") (List.mem_of_getElem? (i := 4) (by exact rfl))) (fun _ h9 => h9) rfl dX10_hour_110 ?_
              refine lv_iload_n hx hb dX10_hour_113 rfl (lv_at hl 0 rfl) ?_
              refine va_zald hx hb hK hP 7 6 rfl rfl (by rw [hq]; exact vp_in_nI hqlt (by decide)) dX10_hour_114 ?_
              refine lv_topi (fun z_77 ez_77 => ?_)
              have ez_77 : z_77 = l10 ii.toNatClampNeg := ez_77
              refine va_zast hx hb hK hP hD hS 8 7 rfl rfl (by rw [hq]; exact vp_in_nI hqlt (by decide)) dX10_hour_115 (fun H locs hP hD hS => ?_)
              have hP : va_P (dC, dI) vwCl (mw g h0 b (va_up i 1 z_1) (va_up (va_up (va_up (va_up (va_up a 5 f_51) 6 l6) 7 f_74) 10 l10) 11 (upd l11 ii.toNatClampNeg (vp_nar .boolean z_77)))) _ := hP
              have hD : va_D _ (mw g h0 b (va_up i 1 z_1) (va_up (va_up (va_up (va_up (va_up a 5 f_51) 6 l6) 7 f_74) 10 l10) 11 (upd l11 ii.toNatClampNeg (vp_nar .boolean z_77)))) := hD
              obtain ⟨f_78, ef_78⟩ : ∃ z, z = (upd l11 ii.toNatClampNeg (vp_nar .boolean z_77)) := ⟨_, rfl⟩
              rw [← ef_78] at hP hD
              refine lv_aload_n hx hb dX10_hour_116 rfl (lv_at hl 1 rfl) ?_
              refine va_get (D := (dC, dI)) (ci := 10) (v := .ref (b 10)) (C := RX10) (T := TX10) (N := 51) hx hb hts inw_X10_hour_10 hown hK hP 0 rfl rfl 10 (by decide) (hts (.fieldLink RX10 28 "VatHouseModel" "isDipped" "[Z") (List.mem_of_getElem? (i := 4) (by exact rfl))) (fun _ h9 => h9) rfl dX10_hour_117 ?_
              refine lv_iload_n hx hb dX10_hour_120 rfl (lv_at hl 0 rfl) ?_
              refine lv_iconst (v := 0) hx hb dX10_hour_121 (by decide) ?_
              refine va_zast hx hb hK hP hD hS 7 6 rfl rfl (by rw [hq]; exact vp_in_nI hqlt (by decide)) dX10_hour_122 (fun H locs hP hD hS => ?_)
              have hP : va_P (dC, dI) vwCl (mw g h0 b (va_up i 1 z_1) (va_up (va_up (va_up (va_up (va_up a 5 f_51) 6 l6) 7 f_74) 10 (upd l10 ii.toNatClampNeg (vp_nar .boolean (0 : Int32)))) 11 f_78)) _ := hP
              have hD : va_D _ (mw g h0 b (va_up i 1 z_1) (va_up (va_up (va_up (va_up (va_up a 5 f_51) 6 l6) 7 f_74) 10 (upd l10 ii.toNatClampNeg (vp_nar .boolean (0 : Int32)))) 11 f_78)) := hD
              obtain ⟨f_79, ef_79⟩ : ∃ z, z = (upd l10 ii.toNatClampNeg (vp_nar .boolean (0 : Int32))) := ⟨_, rfl⟩
              rw [← ef_79] at hP hD
              refine lv_iinc (v := (ii + 1)) (lv' := [(1, .int (ii + 1)), (0, .ref h0)]) hx hb dX10_hour_123 hl (k := 0) rfl rfl (by decide) rfl (fun ls hl => ?_)
              refine lv_goto (tgt := 12) hx hb dX10_hour_126 (by decide) ?_
              exact ih (ii + 1) f_51 l6 f_74 f_79 f_78 _ _ _ (up_nx (by decide) hm (by decide) c_2) (⟨q + 1, by rw [hq]; exact nI_1 q, by omega, (by rw [ef_51, hiq]; exact up_st hl5 (by have c_29 := c_2; (try simp only [ez_3, ez_49, ez_50, ef_51, ez_52, ef_74, ez_75, ez_77, ef_78, ef_79, hiq, h5q, h6q, h7q, h10q, h11q, upd_at, upd_upd, upd_id] at c_29); have c_49 := c_4; (try simp only [ez_3, ez_49, ez_50, ef_51, ez_52, ef_74, ez_75, ez_77, ef_78, ef_79, hiq, h5q, h6q, h7q, h10q, h11q, upd_at, upd_upd, upd_id] at c_49); have c_539 := c_53; (try simp only [ez_3, ez_49, ez_50, ef_51, ez_52, ef_74, ez_75, ez_77, ef_78, ef_79, hiq, h5q, h6q, h7q, h10q, h11q, upd_at, upd_upd, upd_id] at c_539); have c_769 := c_76; (try simp only [ez_3, ez_49, ez_50, ef_51, ez_52, ef_74, ez_75, ez_77, ef_78, ef_79, hiq, h5q, h6q, h7q, h10q, h11q, upd_at, upd_upd, upd_id] at c_769); simp only [hoF, ez_3, ez_49, ez_50, ef_51, ez_52, ef_74, ez_75, ez_77, ef_78, ef_79, hiq, h5q, h6q, h7q, h10q, h11q, upd_at, upd_upd, upd_id, if_neg c_29, if_neg c_49, if_pos c_539, if_pos c_769, upd_upd, upd_id])), (up_s0 hl6 (by have c_29 := c_2; (try simp only [ez_3, ez_49, ez_50, ef_51, ez_52, ef_74, ez_75, ez_77, ef_78, ef_79, hiq, h5q, h6q, h7q, h10q, h11q, upd_at, upd_upd, upd_id] at c_29); have c_49 := c_4; (try simp only [ez_3, ez_49, ez_50, ef_51, ez_52, ef_74, ez_75, ez_77, ef_78, ef_79, hiq, h5q, h6q, h7q, h10q, h11q, upd_at, upd_upd, upd_id] at c_49); have c_539 := c_53; (try simp only [ez_3, ez_49, ez_50, ef_51, ez_52, ef_74, ez_75, ez_77, ef_78, ef_79, hiq, h5q, h6q, h7q, h10q, h11q, upd_at, upd_upd, upd_id] at c_539); have c_769 := c_76; (try simp only [ez_3, ez_49, ez_50, ef_51, ez_52, ef_74, ez_75, ez_77, ef_78, ef_79, hiq, h5q, h6q, h7q, h10q, h11q, upd_at, upd_upd, upd_id] at c_769); simp only [hoM, hoF, ez_3, ez_49, ez_50, ef_51, ez_52, ef_74, ez_75, ez_77, ef_78, ef_79, hiq, h5q, h6q, h7q, h10q, h11q, upd_at, upd_upd, upd_id, if_neg c_29, if_neg c_49, if_pos c_539, if_pos c_769, upd_upd, upd_id])), (by rw [ef_74, hiq]; exact up_st hl7 (by have c_29 := c_2; (try simp only [ez_3, ez_49, ez_50, ef_51, ez_52, ef_74, ez_75, ez_77, ef_78, ef_79, hiq, h5q, h6q, h7q, h10q, h11q, upd_at, upd_upd, upd_id] at c_29); have c_49 := c_4; (try simp only [ez_3, ez_49, ez_50, ef_51, ez_52, ef_74, ez_75, ez_77, ef_78, ef_79, hiq, h5q, h6q, h7q, h10q, h11q, upd_at, upd_upd, upd_id] at c_49); have c_539 := c_53; (try simp only [ez_3, ez_49, ez_50, ef_51, ez_52, ef_74, ez_75, ez_77, ef_78, ef_79, hiq, h5q, h6q, h7q, h10q, h11q, upd_at, upd_upd, upd_id] at c_539); have c_769 := c_76; (try simp only [ez_3, ez_49, ez_50, ef_51, ez_52, ef_74, ez_75, ez_77, ef_78, ef_79, hiq, h5q, h6q, h7q, h10q, h11q, upd_at, upd_upd, upd_id] at c_769); simp only [hoS, hoF, ez_3, ez_49, ez_50, ef_51, ez_52, ef_74, ez_75, ez_77, ef_78, ef_79, hiq, h5q, h6q, h7q, h10q, h11q, upd_at, upd_upd, upd_id, if_neg c_29, if_neg c_49, if_pos c_539, if_pos c_769, upd_upd, upd_id])), (by rw [ef_79, hiq]; exact up_st hl10 (by have c_29 := c_2; (try simp only [ez_3, ez_49, ez_50, ef_51, ez_52, ef_74, ez_75, ez_77, ef_78, ef_79, hiq, h5q, h6q, h7q, h10q, h11q, upd_at, upd_upd, upd_id] at c_29); have c_49 := c_4; (try simp only [ez_3, ez_49, ez_50, ef_51, ez_52, ef_74, ez_75, ez_77, ef_78, ef_79, hiq, h5q, h6q, h7q, h10q, h11q, upd_at, upd_upd, upd_id] at c_49); have c_539 := c_53; (try simp only [ez_3, ez_49, ez_50, ef_51, ez_52, ef_74, ez_75, ez_77, ef_78, ef_79, hiq, h5q, h6q, h7q, h10q, h11q, upd_at, upd_upd, upd_id] at c_539); have c_769 := c_76; (try simp only [ez_3, ez_49, ez_50, ef_51, ez_52, ef_74, ez_75, ez_77, ef_78, ef_79, hiq, h5q, h6q, h7q, h10q, h11q, upd_at, upd_upd, upd_id] at c_769); simp only [nar_0, ez_3, ez_49, ez_50, ef_51, ez_52, ef_74, ez_75, ez_77, ef_78, ef_79, hiq, h5q, h6q, h7q, h10q, h11q, upd_at, upd_upd, upd_id, if_neg c_29, if_neg c_49, if_pos c_539, if_pos c_769, upd_upd, upd_id])), (by rw [ef_78, hiq]; exact up_st hl11 (by have c_29 := c_2; (try simp only [ez_3, ez_49, ez_50, ef_51, ez_52, ef_74, ez_75, ez_77, ef_78, ef_79, hiq, h5q, h6q, h7q, h10q, h11q, upd_at, upd_upd, upd_id] at c_29); have c_49 := c_4; (try simp only [ez_3, ez_49, ez_50, ef_51, ez_52, ef_74, ez_75, ez_77, ef_78, ef_79, hiq, h5q, h6q, h7q, h10q, h11q, upd_at, upd_upd, upd_id] at c_49); have c_539 := c_53; (try simp only [ez_3, ez_49, ez_50, ef_51, ez_52, ef_74, ez_75, ez_77, ef_78, ef_79, hiq, h5q, h6q, h7q, h10q, h11q, upd_at, upd_upd, upd_id] at c_539); have c_769 := c_76; (try simp only [ez_3, ez_49, ez_50, ef_51, ez_52, ef_74, ez_75, ez_77, ef_78, ef_79, hiq, h5q, h6q, h7q, h10q, h11q, upd_at, upd_upd, upd_id] at c_769); simp only [nar_01 (h01 q hqlt), ez_3, ez_49, ez_50, ef_51, ez_52, ef_74, ez_75, ez_77, ef_78, ef_79, hiq, h5q, h6q, h7q, h10q, h11q, upd_at, upd_upd, upd_id, if_neg c_29, if_neg c_49, if_pos c_539, if_pos c_769, upd_upd, upd_id]))⟩) hP hD hS (lv_sub hl [0, 1] rfl)
            · have nc_76 := ne_i c_76
              have lc_76 : (2 : Int32).toInt = 2 := by decide
              refine lv_aload_n hx hb dX10_hour_72 rfl (lv_at hl 1 rfl) ?_
              refine va_get (D := (dC, dI)) (ci := 10) (v := .ref (b 10)) (C := RX10) (T := TX10) (N := 51) hx hb hts inw_X10_hour_10 hown hK hP 0 rfl rfl 10 (by decide) (hts (.fieldLink RX10 28 "VatHouseModel" "isDipped" "[Z") (List.mem_of_getElem? (i := 4) (by exact rfl))) (fun _ h9 => h9) rfl dX10_hour_73 ?_
              refine lv_iload_n hx hb dX10_hour_76 rfl (lv_at hl 0 rfl) ?_
              refine va_zald hx hb hK hP 7 6 rfl rfl (by rw [hq]; exact vp_in_nI hqlt (by decide)) dX10_hour_77 ?_
              refine lv_topi (fun z_80 ez_80 => ?_)
              have ez_80 : z_80 = l10 ii.toNatClampNeg := ez_80
              refine lv_if_ne (tgt := 104) hx hb dX10_hour_78 (by decide) (fun c_81 => ?_) (fun c_81 => ?_)
              · have nc_81 := ne_i c_81
                have lc_81 : (0 : Int32).toInt = 0 := by decide
                refine lv_aload_n hx hb dX10_hour_104 rfl (lv_at hl 1 rfl) ?_
                refine va_get (D := (dC, dI)) (ci := 10) (v := .ref (b 11)) (C := RX10) (T := TX10) (N := 51) hx hb hts inw_X10_hour_10 hown hK hP 0 rfl rfl 11 (by decide) (hts (.fieldLink RX10 32 "VatHouseModel" "wasDipped" "[Z") (List.mem_of_getElem? (i := 5) (by exact rfl))) (fun _ h9 => h9) rfl dX10_hour_105 ?_
                refine lv_iload_n hx hb dX10_hour_108 rfl (lv_at hl 0 rfl) ?_
                refine lv_aload_n hx hb dX10_hour_109 rfl (lv_at hl 1 rfl) ?_
                refine va_get (D := (dC, dI)) (ci := 10) (v := .ref (b 10)) (C := RX10) (T := TX10) (N := 51) hx hb hts inw_X10_hour_10 hown hK hP 0 rfl rfl 10 (by decide) (hts (.fieldLink RX10 28 "VatHouseModel" "isDipped" "[Z") (List.mem_of_getElem? (i := 4) (by exact rfl))) (fun _ h9 => h9) rfl dX10_hour_110 ?_
                refine lv_iload_n hx hb dX10_hour_113 rfl (lv_at hl 0 rfl) ?_
                refine va_zald hx hb hK hP 7 6 rfl rfl (by rw [hq]; exact vp_in_nI hqlt (by decide)) dX10_hour_114 ?_
                refine lv_topi (fun z_82 ez_82 => ?_)
                have ez_82 : z_82 = l10 ii.toNatClampNeg := ez_82
                refine va_zast hx hb hK hP hD hS 8 7 rfl rfl (by rw [hq]; exact vp_in_nI hqlt (by decide)) dX10_hour_115 (fun H locs hP hD hS => ?_)
                have hP : va_P (dC, dI) vwCl (mw g h0 b (va_up i 1 z_1) (va_up (va_up (va_up (va_up (va_up a 5 f_51) 6 l6) 7 f_74) 10 l10) 11 (upd l11 ii.toNatClampNeg (vp_nar .boolean z_82)))) _ := hP
                have hD : va_D _ (mw g h0 b (va_up i 1 z_1) (va_up (va_up (va_up (va_up (va_up a 5 f_51) 6 l6) 7 f_74) 10 l10) 11 (upd l11 ii.toNatClampNeg (vp_nar .boolean z_82)))) := hD
                obtain ⟨f_83, ef_83⟩ : ∃ z, z = (upd l11 ii.toNatClampNeg (vp_nar .boolean z_82)) := ⟨_, rfl⟩
                rw [← ef_83] at hP hD
                refine lv_aload_n hx hb dX10_hour_116 rfl (lv_at hl 1 rfl) ?_
                refine va_get (D := (dC, dI)) (ci := 10) (v := .ref (b 10)) (C := RX10) (T := TX10) (N := 51) hx hb hts inw_X10_hour_10 hown hK hP 0 rfl rfl 10 (by decide) (hts (.fieldLink RX10 28 "VatHouseModel" "isDipped" "[Z") (List.mem_of_getElem? (i := 4) (by exact rfl))) (fun _ h9 => h9) rfl dX10_hour_117 ?_
                refine lv_iload_n hx hb dX10_hour_120 rfl (lv_at hl 0 rfl) ?_
                refine lv_iconst (v := 0) hx hb dX10_hour_121 (by decide) ?_
                refine va_zast hx hb hK hP hD hS 7 6 rfl rfl (by rw [hq]; exact vp_in_nI hqlt (by decide)) dX10_hour_122 (fun H locs hP hD hS => ?_)
                have hP : va_P (dC, dI) vwCl (mw g h0 b (va_up i 1 z_1) (va_up (va_up (va_up (va_up (va_up a 5 f_51) 6 l6) 7 f_74) 10 (upd l10 ii.toNatClampNeg (vp_nar .boolean (0 : Int32)))) 11 f_83)) _ := hP
                have hD : va_D _ (mw g h0 b (va_up i 1 z_1) (va_up (va_up (va_up (va_up (va_up a 5 f_51) 6 l6) 7 f_74) 10 (upd l10 ii.toNatClampNeg (vp_nar .boolean (0 : Int32)))) 11 f_83)) := hD
                obtain ⟨f_84, ef_84⟩ : ∃ z, z = (upd l10 ii.toNatClampNeg (vp_nar .boolean (0 : Int32))) := ⟨_, rfl⟩
                rw [← ef_84] at hP hD
                refine lv_iinc (v := (ii + 1)) (lv' := [(1, .int (ii + 1)), (0, .ref h0)]) hx hb dX10_hour_123 hl (k := 0) rfl rfl (by decide) rfl (fun ls hl => ?_)
                refine lv_goto (tgt := 12) hx hb dX10_hour_126 (by decide) ?_
                exact ih (ii + 1) f_51 l6 f_74 f_84 f_83 _ _ _ (up_nx (by decide) hm (by decide) c_2) (absurd (show z_75 = 2 by simp only [ez_75, ef_51, ef_74, upd_at]) c_76) hP hD hS (lv_sub hl [0, 1] rfl)
              · have nc_81 := eq_i c_81
                have lc_81 : (0 : Int32).toInt = 0 := by decide
                refine lv_aload_n hx hb dX10_hour_81 rfl (lv_at hl 1 rfl) ?_
                refine va_get (D := (dC, dI)) (ci := 10) (v := .ref (b 11)) (C := RX10) (T := TX10) (N := 51) hx hb hts inw_X10_hour_10 hown hK hP 0 rfl rfl 11 (by decide) (hts (.fieldLink RX10 32 "VatHouseModel" "wasDipped" "[Z") (List.mem_of_getElem? (i := 5) (by exact rfl))) (fun _ h9 => h9) rfl dX10_hour_82 ?_
                refine lv_iload_n hx hb dX10_hour_85 rfl (lv_at hl 0 rfl) ?_
                refine va_zald hx hb hK hP 8 7 rfl rfl (by rw [hq]; exact vp_in_nI hqlt (by decide)) dX10_hour_86 ?_
                refine lv_topi (fun z_85 ez_85 => ?_)
                have ez_85 : z_85 = l11 ii.toNatClampNeg := ez_85
                refine lv_if_ne (tgt := 104) hx hb dX10_hour_87 (by decide) (fun c_86 => ?_) (fun c_86 => ?_)
                · have nc_86 := ne_i c_86
                  have lc_86 : (0 : Int32).toInt = 0 := by decide
                  refine lv_aload_n hx hb dX10_hour_104 rfl (lv_at hl 1 rfl) ?_
                  refine va_get (D := (dC, dI)) (ci := 10) (v := .ref (b 11)) (C := RX10) (T := TX10) (N := 51) hx hb hts inw_X10_hour_10 hown hK hP 0 rfl rfl 11 (by decide) (hts (.fieldLink RX10 32 "VatHouseModel" "wasDipped" "[Z") (List.mem_of_getElem? (i := 5) (by exact rfl))) (fun _ h9 => h9) rfl dX10_hour_105 ?_
                  refine lv_iload_n hx hb dX10_hour_108 rfl (lv_at hl 0 rfl) ?_
                  refine lv_aload_n hx hb dX10_hour_109 rfl (lv_at hl 1 rfl) ?_
                  refine va_get (D := (dC, dI)) (ci := 10) (v := .ref (b 10)) (C := RX10) (T := TX10) (N := 51) hx hb hts inw_X10_hour_10 hown hK hP 0 rfl rfl 10 (by decide) (hts (.fieldLink RX10 28 "VatHouseModel" "isDipped" "[Z") (List.mem_of_getElem? (i := 4) (by exact rfl))) (fun _ h9 => h9) rfl dX10_hour_110 ?_
                  refine lv_iload_n hx hb dX10_hour_113 rfl (lv_at hl 0 rfl) ?_
                  refine va_zald hx hb hK hP 7 6 rfl rfl (by rw [hq]; exact vp_in_nI hqlt (by decide)) dX10_hour_114 ?_
                  refine lv_topi (fun z_87 ez_87 => ?_)
                  have ez_87 : z_87 = l10 ii.toNatClampNeg := ez_87
                  refine va_zast hx hb hK hP hD hS 8 7 rfl rfl (by rw [hq]; exact vp_in_nI hqlt (by decide)) dX10_hour_115 (fun H locs hP hD hS => ?_)
                  have hP : va_P (dC, dI) vwCl (mw g h0 b (va_up i 1 z_1) (va_up (va_up (va_up (va_up (va_up a 5 f_51) 6 l6) 7 f_74) 10 l10) 11 (upd l11 ii.toNatClampNeg (vp_nar .boolean z_87)))) _ := hP
                  have hD : va_D _ (mw g h0 b (va_up i 1 z_1) (va_up (va_up (va_up (va_up (va_up a 5 f_51) 6 l6) 7 f_74) 10 l10) 11 (upd l11 ii.toNatClampNeg (vp_nar .boolean z_87)))) := hD
                  obtain ⟨f_88, ef_88⟩ : ∃ z, z = (upd l11 ii.toNatClampNeg (vp_nar .boolean z_87)) := ⟨_, rfl⟩
                  rw [← ef_88] at hP hD
                  refine lv_aload_n hx hb dX10_hour_116 rfl (lv_at hl 1 rfl) ?_
                  refine va_get (D := (dC, dI)) (ci := 10) (v := .ref (b 10)) (C := RX10) (T := TX10) (N := 51) hx hb hts inw_X10_hour_10 hown hK hP 0 rfl rfl 10 (by decide) (hts (.fieldLink RX10 28 "VatHouseModel" "isDipped" "[Z") (List.mem_of_getElem? (i := 4) (by exact rfl))) (fun _ h9 => h9) rfl dX10_hour_117 ?_
                  refine lv_iload_n hx hb dX10_hour_120 rfl (lv_at hl 0 rfl) ?_
                  refine lv_iconst (v := 0) hx hb dX10_hour_121 (by decide) ?_
                  refine va_zast hx hb hK hP hD hS 7 6 rfl rfl (by rw [hq]; exact vp_in_nI hqlt (by decide)) dX10_hour_122 (fun H locs hP hD hS => ?_)
                  have hP : va_P (dC, dI) vwCl (mw g h0 b (va_up i 1 z_1) (va_up (va_up (va_up (va_up (va_up a 5 f_51) 6 l6) 7 f_74) 10 (upd l10 ii.toNatClampNeg (vp_nar .boolean (0 : Int32)))) 11 f_88)) _ := hP
                  have hD : va_D _ (mw g h0 b (va_up i 1 z_1) (va_up (va_up (va_up (va_up (va_up a 5 f_51) 6 l6) 7 f_74) 10 (upd l10 ii.toNatClampNeg (vp_nar .boolean (0 : Int32)))) 11 f_88)) := hD
                  obtain ⟨f_89, ef_89⟩ : ∃ z, z = (upd l10 ii.toNatClampNeg (vp_nar .boolean (0 : Int32))) := ⟨_, rfl⟩
                  rw [← ef_89] at hP hD
                  refine lv_iinc (v := (ii + 1)) (lv' := [(1, .int (ii + 1)), (0, .ref h0)]) hx hb dX10_hour_123 hl (k := 0) rfl rfl (by decide) rfl (fun ls hl => ?_)
                  refine lv_goto (tgt := 12) hx hb dX10_hour_126 (by decide) ?_
                  exact ih (ii + 1) f_51 l6 f_74 f_89 f_88 _ _ _ (up_nx (by decide) hm (by decide) c_2) (absurd (show z_75 = 2 by simp only [ez_75, ef_51, ef_74, upd_at]) c_76) hP hD hS (lv_sub hl [0, 1] rfl)
                · have nc_86 := eq_i c_86
                  have lc_86 : (0 : Int32).toInt = 0 := by decide
                  refine lv_aload_n hx hb dX10_hour_90 rfl (lv_at hl 1 rfl) ?_
                  refine va_get (D := (dC, dI)) (ci := 10) (v := .ref (b 7)) (C := RX10) (T := TX10) (N := 51) hx hb hts inw_X10_hour_10 hown hK hP 0 rfl rfl 7 (by decide) (hts (.fieldLink RX10 19 "VatHouseModel" "state" "[I") (List.mem_of_getElem? (i := 3) (by exact rfl))) (fun _ h9 => h9) rfl dX10_hour_91 ?_
                  refine lv_iload_n hx hb dX10_hour_94 rfl (lv_at hl 0 rfl) ?_
                  refine lv_iconst (v := 0) hx hb dX10_hour_95 (by decide) ?_
                  refine va_iast hx hb hK hP hD hS 4 3 rfl rfl (by rw [hq]; exact vp_in_nI hqlt (by decide)) dX10_hour_96 (fun H locs hP hD hS => ?_)
                  have hP : va_P (dC, dI) vwCl (mw g h0 b (va_up i 1 z_1) (va_up (va_up (va_up (va_up (va_up a 5 f_51) 6 l6) 7 (upd f_74 ii.toNatClampNeg (0 : Int32))) 10 l10) 11 l11)) _ := hP
                  have hD : va_D _ (mw g h0 b (va_up i 1 z_1) (va_up (va_up (va_up (va_up (va_up a 5 f_51) 6 l6) 7 (upd f_74 ii.toNatClampNeg (0 : Int32))) 10 l10) 11 l11)) := hD
                  obtain ⟨f_90, ef_90⟩ : ∃ z, z = (upd f_74 ii.toNatClampNeg (0 : Int32)) := ⟨_, rfl⟩
                  rw [← ef_90] at hP hD
                  refine lv_aload_n hx hb dX10_hour_97 rfl (lv_at hl 1 rfl) ?_
                  refine va_get (D := (dC, dI)) (ci := 10) (v := .ref (b 6)) (C := RX10) (T := TX10) (N := 51) hx hb hts inw_X10_hour_10 hown hK hP 0 rfl rfl 6 (by decide) (hts (.fieldLink RX10 16 "VatHouseModel" "minutes" "[I") (List.mem_of_getElem? (i := 6) (by exact rfl))) (fun _ h9 => h9) rfl dX10_hour_98 ?_
                  refine lv_iload_n hx hb dX10_hour_101 rfl (lv_at hl 0 rfl) ?_
                  refine lv_iconst (v := 0) hx hb dX10_hour_102 (by decide) ?_
                  refine va_iast hx hb hK hP hD hS 3 2 rfl rfl (by rw [hq]; exact vp_in_nI hqlt (by decide)) dX10_hour_103 (fun H locs hP hD hS => ?_)
                  have hP : va_P (dC, dI) vwCl (mw g h0 b (va_up i 1 z_1) (va_up (va_up (va_up (va_up (va_up a 5 f_51) 6 (upd l6 ii.toNatClampNeg (0 : Int32))) 7 f_90) 10 l10) 11 l11)) _ := hP
                  have hD : va_D _ (mw g h0 b (va_up i 1 z_1) (va_up (va_up (va_up (va_up (va_up a 5 f_51) 6 (upd l6 ii.toNatClampNeg (0 : Int32))) 7 f_90) 10 l10) 11 l11)) := hD
                  obtain ⟨f_91, ef_91⟩ : ∃ z, z = (upd l6 ii.toNatClampNeg (0 : Int32)) := ⟨_, rfl⟩
                  rw [← ef_91] at hP hD
                  refine lv_aload_n hx hb dX10_hour_104 rfl (lv_at hl 1 rfl) ?_
                  refine va_get (D := (dC, dI)) (ci := 10) (v := .ref (b 11)) (C := RX10) (T := TX10) (N := 51) hx hb hts inw_X10_hour_10 hown hK hP 0 rfl rfl 11 (by decide) (hts (.fieldLink RX10 32 "VatHouseModel" "wasDipped" "[Z") (List.mem_of_getElem? (i := 5) (by exact rfl))) (fun _ h9 => h9) rfl dX10_hour_105 ?_
                  refine lv_iload_n hx hb dX10_hour_108 rfl (lv_at hl 0 rfl) ?_
                  refine lv_aload_n hx hb dX10_hour_109 rfl (lv_at hl 1 rfl) ?_
                  refine va_get (D := (dC, dI)) (ci := 10) (v := .ref (b 10)) (C := RX10) (T := TX10) (N := 51) hx hb hts inw_X10_hour_10 hown hK hP 0 rfl rfl 10 (by decide) (hts (.fieldLink RX10 28 "VatHouseModel" "isDipped" "[Z") (List.mem_of_getElem? (i := 4) (by exact rfl))) (fun _ h9 => h9) rfl dX10_hour_110 ?_
                  refine lv_iload_n hx hb dX10_hour_113 rfl (lv_at hl 0 rfl) ?_
                  refine va_zald hx hb hK hP 7 6 rfl rfl (by rw [hq]; exact vp_in_nI hqlt (by decide)) dX10_hour_114 ?_
                  refine lv_topi (fun z_92 ez_92 => ?_)
                  have ez_92 : z_92 = l10 ii.toNatClampNeg := ez_92
                  refine va_zast hx hb hK hP hD hS 8 7 rfl rfl (by rw [hq]; exact vp_in_nI hqlt (by decide)) dX10_hour_115 (fun H locs hP hD hS => ?_)
                  have hP : va_P (dC, dI) vwCl (mw g h0 b (va_up i 1 z_1) (va_up (va_up (va_up (va_up (va_up a 5 f_51) 6 f_91) 7 f_90) 10 l10) 11 (upd l11 ii.toNatClampNeg (vp_nar .boolean z_92)))) _ := hP
                  have hD : va_D _ (mw g h0 b (va_up i 1 z_1) (va_up (va_up (va_up (va_up (va_up a 5 f_51) 6 f_91) 7 f_90) 10 l10) 11 (upd l11 ii.toNatClampNeg (vp_nar .boolean z_92)))) := hD
                  obtain ⟨f_93, ef_93⟩ : ∃ z, z = (upd l11 ii.toNatClampNeg (vp_nar .boolean z_92)) := ⟨_, rfl⟩
                  rw [← ef_93] at hP hD
                  refine lv_aload_n hx hb dX10_hour_116 rfl (lv_at hl 1 rfl) ?_
                  refine va_get (D := (dC, dI)) (ci := 10) (v := .ref (b 10)) (C := RX10) (T := TX10) (N := 51) hx hb hts inw_X10_hour_10 hown hK hP 0 rfl rfl 10 (by decide) (hts (.fieldLink RX10 28 "VatHouseModel" "isDipped" "[Z") (List.mem_of_getElem? (i := 4) (by exact rfl))) (fun _ h9 => h9) rfl dX10_hour_117 ?_
                  refine lv_iload_n hx hb dX10_hour_120 rfl (lv_at hl 0 rfl) ?_
                  refine lv_iconst (v := 0) hx hb dX10_hour_121 (by decide) ?_
                  refine va_zast hx hb hK hP hD hS 7 6 rfl rfl (by rw [hq]; exact vp_in_nI hqlt (by decide)) dX10_hour_122 (fun H locs hP hD hS => ?_)
                  have hP : va_P (dC, dI) vwCl (mw g h0 b (va_up i 1 z_1) (va_up (va_up (va_up (va_up (va_up a 5 f_51) 6 f_91) 7 f_90) 10 (upd l10 ii.toNatClampNeg (vp_nar .boolean (0 : Int32)))) 11 f_93)) _ := hP
                  have hD : va_D _ (mw g h0 b (va_up i 1 z_1) (va_up (va_up (va_up (va_up (va_up a 5 f_51) 6 f_91) 7 f_90) 10 (upd l10 ii.toNatClampNeg (vp_nar .boolean (0 : Int32)))) 11 f_93)) := hD
                  obtain ⟨f_94, ef_94⟩ : ∃ z, z = (upd l10 ii.toNatClampNeg (vp_nar .boolean (0 : Int32))) := ⟨_, rfl⟩
                  rw [← ef_94] at hP hD
                  refine lv_iinc (v := (ii + 1)) (lv' := [(1, .int (ii + 1)), (0, .ref h0)]) hx hb dX10_hour_123 hl (k := 0) rfl rfl (by decide) rfl (fun ls hl => ?_)
                  refine lv_goto (tgt := 12) hx hb dX10_hour_126 (by decide) ?_
                  exact ih (ii + 1) f_51 f_91 f_90 f_94 f_93 _ _ _ (up_nx (by decide) hm (by decide) c_2) (absurd (show z_75 = 2 by simp only [ez_75, ef_51, ef_74, upd_at]) c_76) hP hD hS (lv_sub hl [0, 1] rfl)
  exact lp 7 (0 : Int32) (a 5) (a 6) (a 7) (a 10) (a 11) _ _ _ (⟨0, nI_0.symm, by omega, by omega⟩) (⟨0, nI_0.symm, by omega, rfl, rfl, rfl, rfl, rfl⟩) hP hD hS (lv_sub hl [0, 1] rfl)
