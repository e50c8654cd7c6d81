theorem q_fin {q : Nat} {nn ii : Int32} (hq : ii = nI q) (hqn : (q : Int) ≤ nn.toInt) (h : nn ≤ ii) : q = nn.toNatClampNeg := by
  have hb := nn.toInt_lt
  rw [Int32.le_iff_toInt_le, hq, nI_toInt (by omega)] at h
  have h7 := clamp_i (x := nn) (by omega)
  omega
theorem n0_le {nn : Int32} (h : ¬ nn < 0) : ((0 : Nat) : Int) ≤ nn.toInt := by
  rw [Int32.lt_iff_toInt_lt] at h
  have c0 : (0 : Int32).toInt = 0 := by decide
  omega
theorem hN_01 {s : AS} (h : ∀ k : Nat, k < 6 → s.2 10 k = 0 ∨ s.2 10 k = 1) : ∀ (n k : Nat), k < 6 → (hN n s).2 10 k = 0 ∨ (hN n s).2 10 k = 1 := fun n k hk => by
  cases n with
  | zero => exact h k hk
  | succ n => rw [hN_s]; exact Or.inl (if_pos hk)
theorem nr_of {n : Nat} {w k : Int32} (hk : k = nI n) (hn : n < 2147483648) (h : w < 0 ∨ k < w) {j : Int32} {m : Nat} (hj : j = nI m) (hm : m ≤ n) : ¬ w = j := fun e => by
  subst e
  rw [Int32.lt_iff_toInt_lt, Int32.lt_iff_toInt_lt, hk, hj, nI_toInt (by omega), nI_toInt (by omega)] at h
  have c0 : (0 : Int32).toInt = 0 := by decide
  omega

theorem tabe5 {w : Int32} (h0 : ¬ w < 0) (h : ¬ 5 < w) (c0 : ¬ w = 0) (c1 : ¬ w = 1) (c2 : ¬ w = 2) (c3 : ¬ w = 3) (c4 : ¬ w = 4) : w = 5 := by
  rw [Int32.lt_iff_toInt_lt] at h0 h
  have z0 : (0 : Int32).toInt = 0 := by decide
  have e1 : (1 : Int32).toInt = 1 := by decide
  have e2 : (2 : Int32).toInt = 2 := by decide
  have e3 : (3 : Int32).toInt = 3 := by decide
  have e4 : (4 : Int32).toInt = 4 := by decide
  have e5 : (5 : Int32).toInt = 5 := by decide
  rw [← Int32.toInt_inj] at c0 c1 c2 c3 c4 ⊢
  omega

theorem tabe7 {w : Int32} (h0 : ¬ w < 0) (h : ¬ 7 < w) (c0 : ¬ w = 0) (c1 : ¬ w = 1) (c2 : ¬ w = 2) (c3 : ¬ w = 3) (c4 : ¬ w = 4) (c5 : ¬ w = 5) (c6 : ¬ w = 6) : w = 7 := by
  rw [Int32.lt_iff_toInt_lt] at h0 h
  have z0 : (0 : Int32).toInt = 0 := by decide
  have e1 : (1 : Int32).toInt = 1 := by decide
  have e2 : (2 : Int32).toInt = 2 := by decide
  have e3 : (3 : Int32).toInt = 3 := by decide
  have e4 : (4 : Int32).toInt = 4 := by decide
  have e5 : (5 : Int32).toInt = 5 := by decide
  have e6 : (6 : Int32).toInt = 6 := by decide
  have e7 : (7 : Int32).toInt = 7 := by decide
  rw [← Int32.toInt_inj] at c0 c1 c2 c3 c4 c5 c6 ⊢
  omega

noncomputable abbrev rm_X10_hoursE : Room := { frames := 1, cells := 0, slots := 0, locals := 22 }
set_option maxHeartbeats 4000000 in
set_option maxRecDepth 100000 in
theorem m_X10_hoursE (l : Launch) (dC : Nat → ClassId) (dI : Nat → Nat → Nat) (sa : Nat → Nat) (g : Nat → Nat) (h0 : Nat) (b : Nat → Nat) (i : Nat → Int32) (a : Nat → Nat → Int32) (nn : Int32) (sz : Nat) (h01 : ∀ k : Nat, k < 6 → a 10 k = 0 ∨ a 10 k = 1) : CT l dC dI sa yX10_hours wsX10_hours rm_X10_hoursE [.ref h0, .int nn] (mw g h0 b i a) (tyM g) sz (fun (r : Option Value) (u : Int32 × Int32 × (Nat → Int32) × (Nat → Int32) × (Nat → Int32) × (Nat → Int32) × (Nat → Int32)) => match u with | (x0, x1, y5, y6, y7, y10, y11) => (∃ z : Int32, r = some (.int z)) ∧ (x0 = (hrS nn (i, a)).1 ∧ ((hrS nn (i, a)).1 = 0 → r = some (.int (hrS nn (i, a)).2.1)) ∧ x1 = (hrS nn (i, a)).2.2.1 1 ∧ y5 = (hrS nn (i, a)).2.2.2 5 ∧ y6 = (hrS nn (i, a)).2.2.2 6 ∧ y7 = (hrS nn (i, a)).2.2.2 7 ∧ y10 = (hrS nn (i, a)).2.2.2 10 ∧ y11 = (hrS nn (i, a)).2.2.2 11)) (fun (u : Int32 × Int32 × (Nat → Int32) × (Nat → Int32) × (Nat → Int32) × (Nat → Int32) × (Nat → Int32)) => match u with | (x0, x1, y5, y6, y7, y10, y11) => mw g h0 b (va_up (va_up i 0 x0) 1 x1) (va_up (va_up (va_up (va_up (va_up a 5 y5) 6 y6) 7 y7) 10 y10) 11 y11)) (fun _ => []) 0 0 := by
  refine CT.start (cc := cX10_hours) (maxL := 3) (ret := (some .int)) (by decide) rfl (Nat.le_of_ble_eq_true rfl) ?_
  intro p e s m below meth c ls hst hP hK hD hev hS hl
  obtain ⟨hx, hb, hr, hml, hts, hown, hlocks, hin⟩ := hst
  have hown : s.vm.findClass RX10 = some m.cls := hown
  have hA : ∀ q : Nat, s.heap.size ≤ q → va_A (mw g h0 b i a) s.heap.size q := fun _ h => Or.inr h
  have hl : lv_has ls 3 [(0, .ref h0), (1, .int nn)] := hl
  refine lv_aload_n hx hb dX10_hours_0 rfl (lv_at hl 0 rfl) ?_
  refine lv_iconst (v := 0) hx hb dX10_hours_1 (by decide) ?_
  refine va_put (D := (dC, dI)) (ci := 10) (v := .int 0) (ty := .int) (C := RX10) (T := TX10) (N := 51) hx hb hts inw_X10_hours_10 tyX10 tyX10_ok nmX10 hown hK hP hD hS 0 rfl rfl 0 (by decide) (hts (.fieldLink RX10 105 "VatHouseModel" "thrown" "I") (List.mem_of_getElem? (i := 1) (by exact rfl))) (fun _ h9 => h9) rfl (tyX10_ok 0 (by decide)) rfl rfl (Nat.le_of_ble_eq_true rfl) dX10_hours_2 (fun H locs hP hD hS => ?_)
  have hP : va_P (dC, dI) vwCl (mw g h0 b (va_up i 0 (0 : Int32)) a) _ := hP
  have hD : va_D _ (mw g h0 b (va_up i 0 (0 : Int32)) a) := hD
  refine lv_aload_n hx hb dX10_hours_5 rfl (lv_at hl 0 rfl) ?_
  refine lv_iload_n hx hb dX10_hours_6 rfl (lv_at hl 1 rfl) ?_
  refine lv_if_lt (tgt := 21) hx hb dX10_hours_7 (by decide) (fun c_1 => ?_) (fun c_1 => ?_)
  · have nc_1 := lt_i c_1
    have lc_1 : (0 : Int32).toInt = 0 := by decide
    refine lv_iconst (v := 0) hx hb dX10_hours_21 (by decide) ?_
    refine lv_iconst (v := 1) hx hb dX10_hours_22 (by decide) ?_
    refine M_V ⟨hx, hb, hml, hown, hts⟩ (m_X10_rightX l dC dI sa g h0 b (va_up i 0 (0 : Int32)) a (0 : Int32) (1 : Int32) _ (by decide) rfl) (cwV 2 hts gX10_hours_X10_right rfl rfl rfl (by decide +kernel) ⟨Nat.le_of_ble_eq_true rfl, Nat.le_of_ble_eq_true rfl⟩) hP hD hK hS hA hev rfl rfl rfl rfl hl.1 rfl (Nat.le_of_ble_eq_true rfl) dX10_hours_23 ⟨(Nat.le_of_ble_eq_true rfl), (Nat.le_of_ble_eq_true rfl)⟩ (fun r u H locs hw hP hD hS => ?_)
    obtain ⟨x0_2, rfl⟩ : ∃ z, z = u := ⟨_, rfl⟩
    have hw : ((r = some (.int 0) ∧ ((0 : Int32) = 0 ∧ x0_2 = (1 : Int32))) ∨ (r = some (.int 1) ∧ (¬ (0 : Int32) = 0 ∧ x0_2 = 0))) ∧ (True) := hw
    obtain ⟨⟨rfl, hz2_4⟩ | ⟨rfl, hz2_4⟩, hw_3⟩ := hw
    · have hP : va_P (dC, dI) vwCl (mw g h0 b (va_up i 0 x0_2) a) _ := hP
      have hD : va_D _ (mw g h0 b (va_up i 0 x0_2) a) := hD
      refine W.eq (g2 := F0 m 26 ls [.int 0]) rfl ?_
      refine lv_if_ne (tgt := 31) hx hb dX10_hours_26 (by decide) (fun c_5 => absurd c_5 (by decide)) (fun _ => ?_)
      refine lv_iconst (v := 0) hx hb dX10_hours_29 (by decide) ?_
      exact M_i hx hb hr hlocks (x0_2, (i 1), (a 5), (a 6), (a 7), (a 10), (a 11)) hP hD hK hS ⟨⟨_, rfl⟩, (by rw [show hrS nn (i, a) = _ from if_neg (fun h8 => le_nlt h8.1 c_1)]; exact ⟨hz2_4.2, fun h9 => (by first | exact n1_0 h9 | exact n2_0 h9), rfl, rfl, rfl, rfl, rfl, rfl⟩)⟩ (Nat.le_of_ble_eq_true rfl) (Nat.le_of_ble_eq_true rfl) dX10_hours_30
    · have hP : va_P (dC, dI) vwCl (mw g h0 b (va_up i 0 x0_2) a) _ := hP
      have hD : va_D _ (mw g h0 b (va_up i 0 x0_2) a) := hD
      refine W.eq (g2 := F0 m 26 ls [.int 1]) rfl ?_
      exact absurd rfl hz2_4.1
  · have nc_1 := nlt_i c_1
    have lc_1 : (0 : Int32).toInt = 0 := by decide
    refine lv_iload_n hx hb dX10_hours_10 rfl (lv_at hl 1 rfl) ?_
    refine lv_sipush (v := 10000) hx hb dX10_hours_11 (by decide) ?_
    refine lv_icmp_gt (tgt := 21) hx hb dX10_hours_14 (by decide) (fun c_6 => ?_) (fun c_6 => ?_)
    · have nc_6 := lt_i c_6
      have lc_6 : (10000 : Int32).toInt = 10000 := by decide
      refine lv_iconst (v := 0) hx hb dX10_hours_21 (by decide) ?_
      refine lv_iconst (v := 1) hx hb dX10_hours_22 (by decide) ?_
      refine M_V ⟨hx, hb, hml, hown, hts⟩ (m_X10_rightX l dC dI sa g h0 b (va_up i 0 (0 : Int32)) a (0 : Int32) (1 : Int32) _ (by decide) rfl) (cwV 2 hts gX10_hours_X10_right rfl rfl rfl (by decide +kernel) ⟨Nat.le_of_ble_eq_true rfl, Nat.le_of_ble_eq_true rfl⟩) hP hD hK hS hA hev rfl rfl rfl rfl hl.1 rfl (Nat.le_of_ble_eq_true rfl) dX10_hours_23 ⟨(Nat.le_of_ble_eq_true rfl), (Nat.le_of_ble_eq_true rfl)⟩ (fun r u H locs hw hP hD hS => ?_)
      obtain ⟨x0_7, rfl⟩ : ∃ z, z = u := ⟨_, rfl⟩
      have hw : ((r = some (.int 0) ∧ ((0 : Int32) = 0 ∧ x0_7 = (1 : Int32))) ∨ (r = some (.int 1) ∧ (¬ (0 : Int32) = 0 ∧ x0_7 = 0))) ∧ (True) := hw
      obtain ⟨⟨rfl, hz2_9⟩ | ⟨rfl, hz2_9⟩, hw_8⟩ := hw
      · have hP : va_P (dC, dI) vwCl (mw g h0 b (va_up i 0 x0_7) a) _ := hP
        have hD : va_D _ (mw g h0 b (va_up i 0 x0_7) a) := hD
        refine W.eq (g2 := F0 m 26 ls [.int 0]) rfl ?_
        refine lv_if_ne (tgt := 31) hx hb dX10_hours_26 (by decide) (fun c_10 => absurd c_10 (by decide)) (fun _ => ?_)
        refine lv_iconst (v := 0) hx hb dX10_hours_29 (by decide) ?_
        exact M_i hx hb hr hlocks (x0_7, (i 1), (a 5), (a 6), (a 7), (a 10), (a 11)) hP hD hK hS ⟨⟨_, rfl⟩, (by rw [show hrS nn (i, a) = _ from if_neg (fun h8 => le_nlt h8.2 c_6)]; exact ⟨hz2_9.2, fun h9 => (by first | exact n1_0 h9 | exact n2_0 h9), rfl, rfl, rfl, rfl, rfl, rfl⟩)⟩ (Nat.le_of_ble_eq_true rfl) (Nat.le_of_ble_eq_true rfl) dX10_hours_30
      · have hP : va_P (dC, dI) vwCl (mw g h0 b (va_up i 0 x0_7) a) _ := hP
        have hD : va_D _ (mw g h0 b (va_up i 0 x0_7) a) := hD
        refine W.eq (g2 := F0 m 26 ls [.int 1]) rfl ?_
        exact absurd rfl hz2_9.1
    · have nc_6 := nlt_i c_6
      have lc_6 : (10000 : Int32).toInt = 10000 := by decide
      refine lv_iconst (v := 1) hx hb dX10_hours_17 (by decide) ?_
      refine lv_goto (tgt := 22) hx hb dX10_hours_18 (by decide) ?_
      refine lv_iconst (v := 1) hx hb dX10_hours_22 (by decide) ?_
      refine M_V ⟨hx, hb, hml, hown, hts⟩ (m_X10_rightX l dC dI sa g h0 b (va_up i 0 (0 : Int32)) a (1 : Int32) (1 : Int32) _ (by decide) rfl) (cwV 2 hts gX10_hours_X10_right rfl rfl rfl (by decide +kernel) ⟨Nat.le_of_ble_eq_true rfl, Nat.le_of_ble_eq_true rfl⟩) hP hD hK hS hA hev rfl rfl rfl rfl hl.1 rfl (Nat.le_of_ble_eq_true rfl) dX10_hours_23 ⟨(Nat.le_of_ble_eq_true rfl), (Nat.le_of_ble_eq_true rfl)⟩ (fun r u H locs hw hP hD hS => ?_)
      obtain ⟨x0_11, rfl⟩ : ∃ z, z = u := ⟨_, rfl⟩
      have hw : ((r = some (.int 0) ∧ ((1 : Int32) = 0 ∧ x0_11 = (1 : Int32))) ∨ (r = some (.int 1) ∧ (¬ (1 : Int32) = 0 ∧ x0_11 = 0))) ∧ (True) := hw
      obtain ⟨⟨rfl, hz2_13⟩ | ⟨rfl, hz2_13⟩, hw_12⟩ := hw
      · have hP : va_P (dC, dI) vwCl (mw g h0 b (va_up i 0 x0_11) a) _ := hP
        have hD : va_D _ (mw g h0 b (va_up i 0 x0_11) a) := hD
        refine W.eq (g2 := F0 m 26 ls [.int 0]) rfl ?_
        exact absurd hz2_13.1 (by decide)
      · have hP : va_P (dC, dI) vwCl (mw g h0 b (va_up i 0 x0_11) a) _ := hP
        have hD : va_D _ (mw g h0 b (va_up i 0 x0_11) a) := hD
        refine W.eq (g2 := F0 m 26 ls [.int 1]) rfl ?_
        refine lv_if_ne (tgt := 31) hx hb dX10_hours_26 (by decide) (fun _ => ?_) (fun c_14 => absurd c_14 (by decide))
        refine lv_iconst (v := 0) hx hb dX10_hours_31 (by decide) ?_
        refine lv_istore_n (lv' := [(2, .int 0), (0, .ref h0), (1, .int nn)]) hx hb dX10_hours_32 rfl hl (by decide) rfl (fun ls hl => ?_)
        have lp : ∀ (n : Nat) (ii : Int32) (l1 : Int32) (l5 : Nat → Int32) (l6 : Nat → Int32) (l7 : Nat → Int32) (l10 : Nat → Int32) (l11 : Nat → Int32) (H : Heap) (locs : List Loc) (ls : Array Slot), ((nn.toInt - ii.toInt).toNat < n) → (∃ q : Nat, ii = nI q ∧ (q : Int) ≤ nn.toInt ∧ l1 = (hN q (i, a)).1 1 ∧ l5 = (hN q (i, a)).2 5 ∧ l6 = (hN q (i, a)).2 6 ∧ l7 = (hN q (i, a)).2 7 ∧ l10 = (hN q (i, a)).2 10 ∧ l11 = (hN q (i, a)).2 11) → va_P (dC, dI) vwCl (mw g h0 b (va_up (va_up i 0 x0_11) 1 l1) (va_up (va_up (va_up (va_up (va_up a 5 l5) 6 l6) 7 l7) 10 l10) 11 l11)) H → va_D (va_A (mw g h0 b i a) s.heap.size) (mw g h0 b (va_up (va_up i 0 x0_11) 1 l1) (va_up (va_up (va_up (va_up (va_up a 5 l5) 6 l6) 7 l7) 10 l10) 11 l11)) → va_S (va_A (mw g h0 b i a) s.heap.size) s.heap H locs → lv_has ls 3 [(2, .int ii), (0, .ref h0), (1, .int nn)] → W p l e rm_X10_hoursE s m [.ref h0, .int nn].toArray below meth c H locs 0 0 (MQ below (Qg (fun (r : Option Value) (u : Int32 × Int32 × (Nat → Int32) × (Nat → Int32) × (Nat → Int32) × (Nat → Int32) × (Nat → Int32)) => match u with | (x0, x1, y5, y6, y7, y10, y11) => (∃ z : Int32, r = some (.int z)) ∧ (x0 = (hrS nn (i, a)).1 ∧ ((hrS nn (i, a)).1 = 0 → r = some (.int (hrS nn (i, a)).2.1)) ∧ x1 = (hrS nn (i, a)).2.2.1 1 ∧ y5 = (hrS nn (i, a)).2.2.2 5 ∧ y6 = (hrS nn (i, a)).2.2.2 6 ∧ y7 = (hrS nn (i, a)).2.2.2 7 ∧ y10 = (hrS nn (i, a)).2.2.2 10 ∧ y11 = (hrS nn (i, a)).2.2.2 11)) (fun u t => QW dC dI (va_A (mw g h0 b i a) s.heap.size) ((fun (u : Int32 × Int32 × (Nat → Int32) × (Nat → Int32) × (Nat → Int32) × (Nat → Int32) × (Nat → Int32)) => match u with | (x0, x1, y5, y6, y7, y10, y11) => mw g h0 b (va_up (va_up i 0 x0) 1 x1) (va_up (va_up (va_up (va_up (va_up a 5 y5) 6 y6) 7 y7) 10 y10) 11 y11)) u) [] t) (va_A (mw g h0 b i a) s.heap.size)) [.ref h0, .int nn].toArray s 0 0 (va_A (mw g h0 b i a) s.heap.size)) (F0 m 33 ls []) := by
          intro n
          induction n with
          | zero => intro ii l1 l5 l6 l7 l10 l11 H locs ls hm hL hP hD hS hl; exact absurd hm (by omega)
          | succ n ih =>
            intro ii l1 l5 l6 l7 l10 l11 H locs ls hm hL hP hD hS hl
            refine lv_iload_n hx hb dX10_hours_33 rfl (lv_at hl 0 rfl) ?_
            obtain ⟨q, hq, hqn, hl1, hl5, hl6, hl7, hl10, hl11⟩ := hL
            refine lv_iload_n hx hb dX10_hours_34 rfl (lv_at hl 2 rfl) ?_
            refine lv_icmp_ge (tgt := 48) hx hb dX10_hours_35 (by decide) (fun c_15 => ?_) (fun c_15 => ?_)
            · have nc_15 := le_i c_15
              refine lv_aload_n hx hb dX10_hours_48 rfl (lv_at hl 1 rfl) ?_
              refine va_get (D := (dC, dI)) (ci := 10) (v := .int l1) (C := RX10) (T := TX10) (N := 51) hx hb hts inw_X10_hours_10 hown hK hP 0 rfl rfl 1 (by decide) (hts (.fieldLink RX10 131 "VatHouseModel" "hours" "I") (List.mem_of_getElem? (i := 2) (by exact rfl))) (fun _ h9 => h9) rfl dX10_hours_49 ?_
              exact M_i hx hb hr hlocks (x0_11, l1, l5, l6, l7, l10, l11) hP hD hK hS ⟨⟨_, rfl⟩, (by obtain rfl := q_fin hq hqn c_15; rw [show hrS nn (i, a) = _ from if_pos ⟨nlt_le c_1, nlt_le c_6⟩]; exact ⟨hz2_13.2, fun _ => by rw [hl1], hl1, hl5, hl6, hl7, hl10, hl11⟩)⟩ (Nat.le_of_ble_eq_true rfl) (Nat.le_of_ble_eq_true rfl) dX10_hours_52
            · have nc_15 := nle_i c_15
              have hlt : (q : Int) < nn.toInt := by have hb := nn.toInt_lt; have h8 := c_15; rw [Int32.le_iff_toInt_le, hq, nI_toInt (by omega)] at h8; omega
              refine lv_aload_n hx hb dX10_hours_38 rfl (lv_at hl 1 rfl) ?_
              refine M_V ⟨hx, hb, hml, hown, hts⟩ (m_X10_hourE l dC dI sa g h0 b (va_up (va_up i 0 x0_11) 1 l1) (va_up (va_up (va_up (va_up (va_up a 5 l5) 6 l6) 7 l7) 10 l10) 11 l11)  _ (by rw [hl10]; exact hN_01 h01 q)) (cwV 0 hts gX10_hours_X10_hour rfl rfl rfl (by decide +kernel) ⟨Nat.le_of_ble_eq_true rfl, Nat.le_of_ble_eq_true rfl⟩) hP hD hK hS hA hev rfl rfl rfl rfl hl.1 rfl (Nat.le_of_ble_eq_true rfl) dX10_hours_39 ⟨(Nat.le_of_ble_eq_true rfl), (Nat.le_of_ble_eq_true rfl)⟩ (fun r u H locs hw hP hD hS => ?_)
              obtain ⟨x1_16, y5_17, y6_18, y7_19, y10_20, y11_21⟩ := u
              have hw : (r = none) ∧ (x1_16 = l1 + 1 ∧ y5_17 = ho5 l5 ∧ y6_18 = ho6 l5 l6 l7 l10 l11 ∧ y7_19 = ho7 l5 l7 l10 l11 ∧ y10_20 = ho10 l10 ∧ y11_21 = ho11 l10 l11) := hw
              obtain ⟨rfl, hw_22⟩ := hw
              have hP : va_P (dC, dI) vwCl (mw g h0 b (va_up (va_up i 0 x0_11) 1 x1_16) (va_up (va_up (va_up (va_up (va_up a 5 y5_17) 6 y6_18) 7 y7_19) 10 y10_20) 11 y11_21)) _ := hP
              have hD : va_D _ (mw g h0 b (va_up (va_up i 0 x0_11) 1 x1_16) (va_up (va_up (va_up (va_up (va_up a 5 y5_17) 6 y6_18) 7 y7_19) 10 y10_20) 11 y11_21)) := hD
              refine W.eq (g2 := F0 m 42 ls []) rfl ?_
              obtain ⟨hp1, hp5, hp6, hp7, hp10, hp11⟩ := hw_22
              refine lv_iinc (v := (ii + 1)) (lv' := [(2, .int (ii + 1)), (0, .ref h0), (1, .int nn)]) hx hb dX10_hours_42 hl (k := 0) rfl rfl (by decide) rfl (fun ls hl => ?_)
              refine lv_goto (tgt := 33) hx hb dX10_hours_45 (by decide) ?_
              exact ih (ii + 1) x1_16 y5_17 y6_18 y7_19 y10_20 y11_21 _ _ _ (at_nx hm c_15 rfl) (⟨q + 1, by rw [hq]; exact nI_1 q, by omega, (by rw [hp1, hN_s, hl1]; rfl), (by rw [hp5, hN_s, hl5]; rfl), (by rw [hp6, hN_s, hl5, hl6, hl7, hl10, hl11]; rfl), (by rw [hp7, hN_s, hl5, hl7, hl10, hl11]; rfl), (by rw [hp10, hN_s, hl10]; rfl), (by rw [hp11, hN_s, hl10, hl11]; rfl)⟩) hP hD hS (lv_sub hl [0, 1, 2] rfl)
        exact lp ((nn.toInt - (0 : Int32).toInt).toNat + 1) (0 : Int32) (i 1) (a 5) (a 6) (a 7) (a 10) (a 11) _ _ _ (by omega) (⟨0, nI_0.symm, (n0_le c_1), rfl, rfl, rfl, rfl, rfl, rfl⟩) hP hD hS (lv_sub hl [0, 1, 2] rfl)

noncomputable abbrev rm_X10_vatE : Room := { frames := 2, cells := 0, slots := 0, locals := 43 }
set_option maxHeartbeats 4000000 in
set_option maxRecDepth 100000 in
theorem m_X10_vatE (l : Launch) (dC : Nat → ClassId) (dI : Nat → Nat → Nat) (sa : Nat → Nat) (g : Nat → Nat) (h0 : Nat) (b : Nat → Nat) (i : Nat → Int32) (a : Nat → Nat → Int32) (vv : Int32) (wt : Int32) (sz : Nat) : CT l dC dI sa yX10_vat wsX10_vat rm_X10_vatE [.ref h0, .int vv, .int wt] (mw g h0 b i a) (tyM g) sz (fun (r : Option Value) (x0 : Int32) => (∃ z : Int32, r = some (.int z)) ∧ (x0 = (vaS vv wt (i, a)).1 ∧ ((vaS vv wt (i, a)).1 = 0 → r = some (.int (vaS vv wt (i, a)).2.1)))) (fun (x0 : Int32) => mw g h0 b (va_up i 0 x0) a) (fun _ => []) 0 0 := by
  refine CT.start (cc := cX10_vat) (maxL := 3) (ret := (some .int)) (by decide) rfl (Nat.le_of_ble_eq_true rfl) ?_
  intro p e s m below meth c ls hst hP hK hD hev hS hl
  obtain ⟨hx, hb, hr, hml, hts, hown, hlocks, hin⟩ := hst
  have hown : s.vm.findClass RX10 = some m.cls := hown
  have hA : ∀ q : Nat, s.heap.size ≤ q → va_A (mw g h0 b i a) s.heap.size q := fun _ h => Or.inr h
  have hl : lv_has ls 3 [(0, .ref h0), (1, .int vv), (2, .int wt)] := hl
  refine lv_aload_n hx hb dX10_vat_0 rfl (lv_at hl 0 rfl) ?_
  refine lv_iload_n hx hb dX10_vat_1 rfl (lv_at hl 1 rfl) ?_
  refine M_V ⟨hx, hb, hml, hown, hts⟩ (m_X10_isVatE l dC dI sa g h0 b i a vv _ ) (cwV 1 hts gX10_vat_X10_isVat rfl rfl rfl (by decide +kernel) ⟨Nat.le_of_ble_eq_true rfl, Nat.le_of_ble_eq_true rfl⟩) hP hD hK hS hA hev rfl rfl rfl rfl hl.1 rfl (Nat.le_of_ble_eq_true rfl) dX10_vat_2 ⟨(Nat.le_of_ble_eq_true rfl), (Nat.le_of_ble_eq_true rfl)⟩ (fun r u H locs hw hP hD hS => ?_)
  obtain ⟨x0_1, rfl⟩ : ∃ z, z = u := ⟨_, rfl⟩
  have hw : ((r = some (.int 0) ∧ (¬ inV vv ∧ x0_1 = 1)) ∨ (r = some (.int 1) ∧ (inV vv ∧ x0_1 = 0))) ∧ (True) := hw
  obtain ⟨⟨rfl, hz2_3⟩ | ⟨rfl, hz2_3⟩, hw_2⟩ := hw
  · have hP : va_P (dC, dI) vwCl (mw g h0 b (va_up i 0 x0_1) a) _ := hP
    have hD : va_D _ (mw g h0 b (va_up i 0 x0_1) a) := hD
    refine W.eq (g2 := F0 m 5 ls [.int 0]) rfl ?_
    refine lv_if_eq (tgt := 30) hx hb dX10_vat_5 (by decide) (fun _ => ?_) (fun c_4 => absurd c_4 (by decide))
    refine lv_iconst (v := 0) hx hb dX10_vat_30 (by decide) ?_
    exact M_i hx hb hr hlocks (x0_1) hP hD hK hS ⟨⟨_, rfl⟩, (by rw [show vaS vv wt (i, a) = _ from if_neg hz2_3.1]; exact ⟨hz2_3.2, fun h9 => (by first | exact n1_0 h9 | exact n2_0 h9)⟩)⟩ (Nat.le_of_ble_eq_true rfl) (Nat.le_of_ble_eq_true rfl) dX10_vat_31
  · have hP : va_P (dC, dI) vwCl (mw g h0 b (va_up i 0 x0_1) a) _ := hP
    have hD : va_D _ (mw g h0 b (va_up i 0 x0_1) a) := hD
    refine W.eq (g2 := F0 m 5 ls [.int 1]) rfl ?_
    have hv6 := in_V hz2_3.1
    refine lv_if_eq (tgt := 30) hx hb dX10_vat_5 (by decide) (fun c_5 => absurd c_5 (by decide)) (fun _ => ?_)
    refine lv_aload_n hx hb dX10_vat_8 rfl (lv_at hl 0 rfl) ?_
    refine lv_iload_n hx hb dX10_vat_9 rfl (lv_at hl 2 rfl) ?_
    refine lv_if_lt (tgt := 22) hx hb dX10_vat_10 (by decide) (fun c_6 => ?_) (fun c_6 => ?_)
    · have nc_6 := lt_i c_6
      have lc_6 : (0 : Int32).toInt = 0 := by decide
      refine lv_iconst (v := 0) hx hb dX10_vat_22 (by decide) ?_
      refine lv_iconst (v := 1) hx hb dX10_vat_23 (by decide) ?_
      refine M_V ⟨hx, hb, hml, hown, hts⟩ (m_X10_rightX l dC dI sa g h0 b (va_up i 0 x0_1) a (0 : Int32) (1 : Int32) _ (by decide) hz2_3.2) (cwV 2 hts gX10_vat_X10_right rfl rfl rfl (by decide +kernel) ⟨Nat.le_of_ble_eq_true rfl, Nat.le_of_ble_eq_true rfl⟩) hP hD hK hS hA hev rfl rfl rfl rfl hl.1 rfl (Nat.le_of_ble_eq_true rfl) dX10_vat_24 ⟨(Nat.le_of_ble_eq_true rfl), (Nat.le_of_ble_eq_true rfl)⟩ (fun r u H locs hw hP hD hS => ?_)
      obtain ⟨x0_7, rfl⟩ : ∃ z, z = u := ⟨_, rfl⟩
      have hw : ((r = some (.int 0) ∧ ((0 : Int32) = 0 ∧ x0_7 = (1 : Int32))) ∨ (r = some (.int 1) ∧ (¬ (0 : Int32) = 0 ∧ x0_7 = 0))) ∧ (True) := hw
      obtain ⟨⟨rfl, hz2_9⟩ | ⟨rfl, hz2_9⟩, hw_8⟩ := hw
      · have hP : va_P (dC, dI) vwCl (mw g h0 b (va_up i 0 x0_7) a) _ := hP
        have hD : va_D _ (mw g h0 b (va_up i 0 x0_7) a) := hD
        refine W.eq (g2 := F0 m 27 ls [.int 0]) rfl ?_
        refine lv_if_ne (tgt := 32) hx hb dX10_vat_27 (by decide) (fun c_10 => absurd c_10 (by decide)) (fun _ => ?_)
        refine lv_iconst (v := 0) hx hb dX10_vat_30 (by decide) ?_
        exact M_i hx hb hr hlocks (x0_7) hP hD hK hS ⟨⟨_, rfl⟩, (by rw [show vaS vv wt (i, a) = _ from (if_pos hz2_3.1).trans ((if_neg (nr_of (n := 5) (m := 0) rfl (by decide) (Or.inl c_6) rfl (by decide))).trans ((if_neg (nr_of (n := 5) (m := 1) rfl (by decide) (Or.inl c_6) rfl (by decide))).trans ((if_neg (nr_of (n := 5) (m := 2) rfl (by decide) (Or.inl c_6) rfl (by decide))).trans ((if_neg (nr_of (n := 5) (m := 3) rfl (by decide) (Or.inl c_6) rfl (by decide))).trans ((if_neg (nr_of (n := 5) (m := 4) rfl (by decide) (Or.inl c_6) rfl (by decide))).trans (if_neg (nr_of (n := 5) (m := 5) rfl (by decide) (Or.inl c_6) rfl (by decide))))))))]; exact ⟨hz2_9.2, fun h9 => (by first | exact n1_0 h9 | exact n2_0 h9)⟩)⟩ (Nat.le_of_ble_eq_true rfl) (Nat.le_of_ble_eq_true rfl) dX10_vat_31
      · have hP : va_P (dC, dI) vwCl (mw g h0 b (va_up i 0 x0_7) a) _ := hP
        have hD : va_D _ (mw g h0 b (va_up i 0 x0_7) a) := hD
        refine W.eq (g2 := F0 m 27 ls [.int 1]) rfl ?_
        exact absurd rfl hz2_9.1
    · have nc_6 := nlt_i c_6
      have lc_6 : (0 : Int32).toInt = 0 := by decide
      refine lv_iload_n hx hb dX10_vat_13 rfl (lv_at hl 2 rfl) ?_
      refine lv_iconst (v := 5) hx hb dX10_vat_14 (by decide) ?_
      refine lv_icmp_gt (tgt := 22) hx hb dX10_vat_15 (by decide) (fun c_11 => ?_) (fun c_11 => ?_)
      · have nc_11 := lt_i c_11
        have lc_11 : (5 : Int32).toInt = 5 := by decide
        refine lv_iconst (v := 0) hx hb dX10_vat_22 (by decide) ?_
        refine lv_iconst (v := 1) hx hb dX10_vat_23 (by decide) ?_
        refine M_V ⟨hx, hb, hml, hown, hts⟩ (m_X10_rightX l dC dI sa g h0 b (va_up i 0 x0_1) a (0 : Int32) (1 : Int32) _ (by decide) hz2_3.2) (cwV 2 hts gX10_vat_X10_right rfl rfl rfl (by decide +kernel) ⟨Nat.le_of_ble_eq_true rfl, Nat.le_of_ble_eq_true rfl⟩) hP hD hK hS hA hev rfl rfl rfl rfl hl.1 rfl (Nat.le_of_ble_eq_true rfl) dX10_vat_24 ⟨(Nat.le_of_ble_eq_true rfl), (Nat.le_of_ble_eq_true rfl)⟩ (fun r u H locs hw hP hD hS => ?_)
        obtain ⟨x0_12, rfl⟩ : ∃ z, z = u := ⟨_, rfl⟩
        have hw : ((r = some (.int 0) ∧ ((0 : Int32) = 0 ∧ x0_12 = (1 : Int32))) ∨ (r = some (.int 1) ∧ (¬ (0 : Int32) = 0 ∧ x0_12 = 0))) ∧ (True) := hw
        obtain ⟨⟨rfl, hz2_14⟩ | ⟨rfl, hz2_14⟩, hw_13⟩ := hw
        · have hP : va_P (dC, dI) vwCl (mw g h0 b (va_up i 0 x0_12) a) _ := hP
          have hD : va_D _ (mw g h0 b (va_up i 0 x0_12) a) := hD
          refine W.eq (g2 := F0 m 27 ls [.int 0]) rfl ?_
          refine lv_if_ne (tgt := 32) hx hb dX10_vat_27 (by decide) (fun c_15 => absurd c_15 (by decide)) (fun _ => ?_)
          refine lv_iconst (v := 0) hx hb dX10_vat_30 (by decide) ?_
          exact M_i hx hb hr hlocks (x0_12) hP hD hK hS ⟨⟨_, rfl⟩, (by rw [show vaS vv wt (i, a) = _ from (if_pos hz2_3.1).trans ((if_neg (nr_of (n := 5) (m := 0) rfl (by decide) (Or.inr c_11) rfl (by decide))).trans ((if_neg (nr_of (n := 5) (m := 1) rfl (by decide) (Or.inr c_11) rfl (by decide))).trans ((if_neg (nr_of (n := 5) (m := 2) rfl (by decide) (Or.inr c_11) rfl (by decide))).trans ((if_neg (nr_of (n := 5) (m := 3) rfl (by decide) (Or.inr c_11) rfl (by decide))).trans ((if_neg (nr_of (n := 5) (m := 4) rfl (by decide) (Or.inr c_11) rfl (by decide))).trans (if_neg (nr_of (n := 5) (m := 5) rfl (by decide) (Or.inr c_11) rfl (by decide))))))))]; exact ⟨hz2_14.2, fun h9 => (by first | exact n1_0 h9 | exact n2_0 h9)⟩)⟩ (Nat.le_of_ble_eq_true rfl) (Nat.le_of_ble_eq_true rfl) dX10_vat_31
        · have hP : va_P (dC, dI) vwCl (mw g h0 b (va_up i 0 x0_12) a) _ := hP
          have hD : va_D _ (mw g h0 b (va_up i 0 x0_12) a) := hD
          refine W.eq (g2 := F0 m 27 ls [.int 1]) rfl ?_
          exact absurd rfl hz2_14.1
      · have nc_11 := nlt_i c_11
        have lc_11 : (5 : Int32).toInt = 5 := by decide
        refine lv_iconst (v := 1) hx hb dX10_vat_18 (by decide) ?_
        refine lv_goto (tgt := 23) hx hb dX10_vat_19 (by decide) ?_
        refine lv_iconst (v := 1) hx hb dX10_vat_23 (by decide) ?_
        refine M_V ⟨hx, hb, hml, hown, hts⟩ (m_X10_rightX l dC dI sa g h0 b (va_up i 0 x0_1) a (1 : Int32) (1 : Int32) _ (by decide) hz2_3.2) (cwV 2 hts gX10_vat_X10_right rfl rfl rfl (by decide +kernel) ⟨Nat.le_of_ble_eq_true rfl, Nat.le_of_ble_eq_true rfl⟩) hP hD hK hS hA hev rfl rfl rfl rfl hl.1 rfl (Nat.le_of_ble_eq_true rfl) dX10_vat_24 ⟨(Nat.le_of_ble_eq_true rfl), (Nat.le_of_ble_eq_true rfl)⟩ (fun r u H locs hw hP hD hS => ?_)
        obtain ⟨x0_16, rfl⟩ : ∃ z, z = u := ⟨_, rfl⟩
        have hw : ((r = some (.int 0) ∧ ((1 : Int32) = 0 ∧ x0_16 = (1 : Int32))) ∨ (r = some (.int 1) ∧ (¬ (1 : Int32) = 0 ∧ x0_16 = 0))) ∧ (True) := hw
        obtain ⟨⟨rfl, hz2_18⟩ | ⟨rfl, hz2_18⟩, hw_17⟩ := hw
        · have hP : va_P (dC, dI) vwCl (mw g h0 b (va_up i 0 x0_16) a) _ := hP
          have hD : va_D _ (mw g h0 b (va_up i 0 x0_16) a) := hD
          refine W.eq (g2 := F0 m 27 ls [.int 0]) rfl ?_
          exact absurd hz2_18.1 (by decide)
        · have hP : va_P (dC, dI) vwCl (mw g h0 b (va_up i 0 x0_16) a) _ := hP
          have hD : va_D _ (mw g h0 b (va_up i 0 x0_16) a) := hD
          refine W.eq (g2 := F0 m 27 ls [.int 1]) rfl ?_
          refine lv_if_ne (tgt := 32) hx hb dX10_vat_27 (by decide) (fun _ => ?_) (fun c_19 => absurd c_19 (by decide))
          refine lv_iload_n hx hb dX10_vat_32 rfl (lv_at hl 2 rfl) ?_
          by_cases c_20 : wt = 0
          · refine lv_tableIn (tgt := 68) hx hb dX10_vat_33 (by rw [c_20]; decide) (by rw [c_20]; decide) (by rw [c_20]; rfl) (by decide) ?_
            refine lv_aload_n hx hb dX10_vat_68 rfl (lv_at hl 0 rfl) ?_
            refine va_get (D := (dC, dI)) (ci := 10) (v := .ref (b 4)) (C := RX10) (T := TX10) (N := 51) hx hb hts inw_X10_vat_10 hown hK hP 0 rfl rfl 4 (by decide) (hts (.fieldLink RX10 7 "VatHouseModel" "grains" "[I") (List.mem_of_getElem? (i := 1) (by exact rfl))) (fun _ h9 => h9) rfl dX10_vat_69 ?_
            refine lv_iload_n hx hb dX10_vat_72 rfl (lv_at hl 1 rfl) ?_
            refine va_iald hx hb hK hP 1 0 rfl rfl (by assumption) dX10_vat_73 ?_
            refine lv_topi (fun z_21 ez_21 => ?_)
            have ez_21 : z_21 = (a 4) vv.toNatClampNeg := ez_21
            exact M_i hx hb hr hlocks (x0_16) hP hD hK hS ⟨⟨_, rfl⟩, (by rw [show vaS vv wt (i, a) = _ from (if_pos hz2_3.1).trans (if_pos c_20)]; exact ⟨hz2_18.2, fun h9 => (by rw [ez_21])⟩)⟩ (Nat.le_of_ble_eq_true rfl) (Nat.le_of_ble_eq_true rfl) dX10_vat_74
          by_cases c_22 : wt = 1
          · refine lv_tableIn (tgt := 75) hx hb dX10_vat_33 (by rw [c_22]; decide) (by rw [c_22]; decide) (by rw [c_22]; rfl) (by decide) ?_
            refine lv_aload_n hx hb dX10_vat_75 rfl (lv_at hl 0 rfl) ?_
            refine va_get (D := (dC, dI)) (ci := 10) (v := .ref (b 5)) (C := RX10) (T := TX10) (N := 51) hx hb hts inw_X10_vat_10 hown hK hP 0 rfl rfl 5 (by decide) (hts (.fieldLink RX10 13 "VatHouseModel" "food" "[I") (List.mem_of_getElem? (i := 2) (by exact rfl))) (fun _ h9 => h9) rfl dX10_vat_76 ?_
            refine lv_iload_n hx hb dX10_vat_79 rfl (lv_at hl 1 rfl) ?_
            refine va_iald hx hb hK hP 2 1 rfl rfl (by assumption) dX10_vat_80 ?_
            refine lv_topi (fun z_23 ez_23 => ?_)
            have ez_23 : z_23 = (a 5) vv.toNatClampNeg := ez_23
            exact M_i hx hb hr hlocks (x0_16) hP hD hK hS ⟨⟨_, rfl⟩, (by rw [show vaS vv wt (i, a) = _ from (if_pos hz2_3.1).trans ((if_neg c_20).trans (if_pos c_22))]; exact ⟨hz2_18.2, fun h9 => (by rw [ez_23])⟩)⟩ (Nat.le_of_ble_eq_true rfl) (Nat.le_of_ble_eq_true rfl) dX10_vat_81
          by_cases c_24 : wt = 2
          · refine lv_tableIn (tgt := 82) hx hb dX10_vat_33 (by rw [c_24]; decide) (by rw [c_24]; decide) (by rw [c_24]; rfl) (by decide) ?_
            refine lv_aload_n hx hb dX10_vat_82 rfl (lv_at hl 0 rfl) ?_
            refine va_get (D := (dC, dI)) (ci := 10) (v := .ref (b 6)) (C := RX10) (T := TX10) (N := 51) hx hb hts inw_X10_vat_10 hown hK hP 0 rfl rfl 6 (by decide) (hts (.fieldLink RX10 16 "VatHouseModel" "minutes" "[I") (List.mem_of_getElem? (i := 3) (by exact rfl))) (fun _ h9 => h9) rfl dX10_vat_83 ?_
            refine lv_iload_n hx hb dX10_vat_86 rfl (lv_at hl 1 rfl) ?_
            refine va_iald hx hb hK hP 3 2 rfl rfl (by assumption) dX10_vat_87 ?_
            refine lv_topi (fun z_25 ez_25 => ?_)
            have ez_25 : z_25 = (a 6) vv.toNatClampNeg := ez_25
            exact M_i hx hb hr hlocks (x0_16) hP hD hK hS ⟨⟨_, rfl⟩, (by rw [show vaS vv wt (i, a) = _ from (if_pos hz2_3.1).trans ((if_neg c_20).trans ((if_neg c_22).trans (if_pos c_24)))]; exact ⟨hz2_18.2, fun h9 => (by rw [ez_25])⟩)⟩ (Nat.le_of_ble_eq_true rfl) (Nat.le_of_ble_eq_true rfl) dX10_vat_88
          by_cases c_26 : wt = 3
          · refine lv_tableIn (tgt := 89) hx hb dX10_vat_33 (by rw [c_26]; decide) (by rw [c_26]; decide) (by rw [c_26]; rfl) (by decide) ?_
            refine lv_aload_n hx hb dX10_vat_89 rfl (lv_at hl 0 rfl) ?_
            refine va_get (D := (dC, dI)) (ci := 10) (v := .ref (b 7)) (C := RX10) (T := TX10) (N := 51) hx hb hts inw_X10_vat_10 hown hK hP 0 rfl rfl 7 (by decide) (hts (.fieldLink RX10 19 "VatHouseModel" "state" "[I") (List.mem_of_getElem? (i := 4) (by exact rfl))) (fun _ h9 => h9) rfl dX10_vat_90 ?_
            refine lv_iload_n hx hb dX10_vat_93 rfl (lv_at hl 1 rfl) ?_
            refine va_iald hx hb hK hP 4 3 rfl rfl (by assumption) dX10_vat_94 ?_
            refine lv_topi (fun z_27 ez_27 => ?_)
            have ez_27 : z_27 = (a 7) vv.toNatClampNeg := ez_27
            exact M_i hx hb hr hlocks (x0_16) hP hD hK hS ⟨⟨_, rfl⟩, (by rw [show vaS vv wt (i, a) = _ from (if_pos hz2_3.1).trans ((if_neg c_20).trans ((if_neg c_22).trans ((if_neg c_24).trans (if_pos c_26))))]; exact ⟨hz2_18.2, fun h9 => (by rw [ez_27])⟩)⟩ (Nat.le_of_ble_eq_true rfl) (Nat.le_of_ble_eq_true rfl) dX10_vat_95
          by_cases c_28 : wt = 4
          · refine lv_tableIn (tgt := 96) hx hb dX10_vat_33 (by rw [c_28]; decide) (by rw [c_28]; decide) (by rw [c_28]; rfl) (by decide) ?_
            refine lv_aload_n hx hb dX10_vat_96 rfl (lv_at hl 0 rfl) ?_
            refine va_get (D := (dC, dI)) (ci := 10) (v := .ref (b 8)) (C := RX10) (T := TX10) (N := 51) hx hb hts inw_X10_vat_10 hown hK hP 0 rfl rfl 8 (by decide) (hts (.fieldLink RX10 22 "VatHouseModel" "dips" "[I") (List.mem_of_getElem? (i := 5) (by exact rfl))) (fun _ h9 => h9) rfl dX10_vat_97 ?_
            refine lv_iload_n hx hb dX10_vat_100 rfl (lv_at hl 1 rfl) ?_
            refine va_iald hx hb hK hP 5 4 rfl rfl (by assumption) dX10_vat_101 ?_
            refine lv_topi (fun z_29 ez_29 => ?_)
            have ez_29 : z_29 = (a 8) vv.toNatClampNeg := ez_29
            exact M_i hx hb hr hlocks (x0_16) hP hD hK hS ⟨⟨_, rfl⟩, (by rw [show vaS vv wt (i, a) = _ from (if_pos hz2_3.1).trans ((if_neg c_20).trans ((if_neg c_22).trans ((if_neg c_24).trans ((if_neg c_26).trans (if_pos c_28)))))]; exact ⟨hz2_18.2, fun h9 => (by rw [ez_29])⟩)⟩ (Nat.le_of_ble_eq_true rfl) (Nat.le_of_ble_eq_true rfl) dX10_vat_102
          refine lv_tableOut (tgt := 103) hx hb dX10_vat_33 (tab_out5 c_20 c_22 c_24 c_26 c_28) (by decide) ?_
          refine lv_aload_n hx hb dX10_vat_103 rfl (lv_at hl 0 rfl) ?_
          refine va_get (D := (dC, dI)) (ci := 10) (v := .ref (b 9)) (C := RX10) (T := TX10) (N := 51) hx hb hts inw_X10_vat_10 hown hK hP 0 rfl rfl 9 (by decide) (hts (.fieldLink RX10 25 "VatHouseModel" "dyed" "[I") (List.mem_of_getElem? (i := 6) (by exact rfl))) (fun _ h9 => h9) rfl dX10_vat_104 ?_
          refine lv_iload_n hx hb dX10_vat_107 rfl (lv_at hl 1 rfl) ?_
          refine va_iald hx hb hK hP 6 5 rfl rfl (by assumption) dX10_vat_108 ?_
          refine lv_topi (fun z_30 ez_30 => ?_)
          have ez_30 : z_30 = (a 9) vv.toNatClampNeg := ez_30
          exact M_i hx hb hr hlocks (x0_16) hP hD hK hS ⟨⟨_, rfl⟩, (by rw [show vaS vv wt (i, a) = _ from (if_pos hz2_3.1).trans ((if_neg c_20).trans ((if_neg c_22).trans ((if_neg c_24).trans ((if_neg c_26).trans ((if_neg c_28).trans (if_pos (tabe5 c_6 c_11 c_20 c_22 c_24 c_26 c_28)))))))]; exact ⟨hz2_18.2, fun h9 => (by rw [ez_30])⟩)⟩ (Nat.le_of_ble_eq_true rfl) (Nat.le_of_ble_eq_true rfl) dX10_vat_109

noncomputable abbrev rm_X10_countE : Room := { frames := 1, cells := 0, slots := 0, locals := 22 }
set_option maxHeartbeats 4000000 in
set_option maxRecDepth 100000 in
theorem m_X10_countE (l : Launch) (dC : Nat → ClassId) (dI : Nat → Nat → Nat) (sa : Nat → Nat) (g : Nat → Nat) (h0 : Nat) (b : Nat → Nat) (i : Nat → Int32) (a : Nat → Nat → Int32) (wt : Int32) (sz : Nat) : CT l dC dI sa yX10_count wsX10_count rm_X10_countE [.ref h0, .int wt] (mw g h0 b i a) (tyM g) sz (fun (r : Option Value) (x0 : Int32) => (∃ z : Int32, r = some (.int z)) ∧ (x0 = (ctS wt (i, a)).1 ∧ ((ctS wt (i, a)).1 = 0 → r = some (.int (ctS wt (i, a)).2.1)))) (fun (x0 : Int32) => mw g h0 b (va_up i 0 x0) a) (fun _ => []) 0 0 := by
  refine CT.start (cc := cX10_count) (maxL := 2) (ret := (some .int)) (by decide) rfl (Nat.le_of_ble_eq_true rfl) ?_
  intro p e s m below meth c ls hst hP hK hD hev hS hl
  obtain ⟨hx, hb, hr, hml, hts, hown, hlocks, hin⟩ := hst
  have hown : s.vm.findClass RX10 = some m.cls := hown
  have hA : ∀ q : Nat, s.heap.size ≤ q → va_A (mw g h0 b i a) s.heap.size q := fun _ h => Or.inr h
  have hl : lv_has ls 2 [(0, .ref h0), (1, .int wt)] := hl
  refine lv_aload_n hx hb dX10_count_0 rfl (lv_at hl 0 rfl) ?_
  refine lv_iconst (v := 0) hx hb dX10_count_1 (by decide) ?_
  refine va_put (D := (dC, dI)) (ci := 10) (v := .int 0) (ty := .int) (C := RX10) (T := TX10) (N := 51) hx hb hts inw_X10_count_10 tyX10 tyX10_ok nmX10 hown hK hP hD hS 0 rfl rfl 0 (by decide) (hts (.fieldLink RX10 105 "VatHouseModel" "thrown" "I") (List.mem_of_getElem? (i := 1) (by exact rfl))) (fun _ h9 => h9) rfl (tyX10_ok 0 (by decide)) rfl rfl (Nat.le_of_ble_eq_true rfl) dX10_count_2 (fun H locs hP hD hS => ?_)
  have hP : va_P (dC, dI) vwCl (mw g h0 b (va_up i 0 (0 : Int32)) a) _ := hP
  have hD : va_D _ (mw g h0 b (va_up i 0 (0 : Int32)) a) := hD
  refine lv_aload_n hx hb dX10_count_5 rfl (lv_at hl 0 rfl) ?_
  refine lv_iload_n hx hb dX10_count_6 rfl (lv_at hl 1 rfl) ?_
  refine lv_if_lt (tgt := 19) hx hb dX10_count_7 (by decide) (fun c_1 => ?_) (fun c_1 => ?_)
  · have nc_1 := lt_i c_1
    have lc_1 : (0 : Int32).toInt = 0 := by decide
    refine lv_iconst (v := 0) hx hb dX10_count_19 (by decide) ?_
    refine lv_iconst (v := 1) hx hb dX10_count_20 (by decide) ?_
    refine M_V ⟨hx, hb, hml, hown, hts⟩ (m_X10_rightX l dC dI sa g h0 b (va_up i 0 (0 : Int32)) a (0 : Int32) (1 : Int32) _ (by decide) rfl) (cwV 2 hts gX10_count_X10_right rfl rfl rfl (by decide +kernel) ⟨Nat.le_of_ble_eq_true rfl, Nat.le_of_ble_eq_true rfl⟩) hP hD hK hS hA hev rfl rfl rfl rfl hl.1 rfl (Nat.le_of_ble_eq_true rfl) dX10_count_21 ⟨(Nat.le_of_ble_eq_true rfl), (Nat.le_of_ble_eq_true rfl)⟩ (fun r u H locs hw hP hD hS => ?_)
    obtain ⟨x0_2, rfl⟩ : ∃ z, z = u := ⟨_, rfl⟩
    have hw : ((r = some (.int 0) ∧ ((0 : Int32) = 0 ∧ x0_2 = (1 : Int32))) ∨ (r = some (.int 1) ∧ (¬ (0 : Int32) = 0 ∧ x0_2 = 0))) ∧ (True) := hw
    obtain ⟨⟨rfl, hz2_4⟩ | ⟨rfl, hz2_4⟩, hw_3⟩ := hw
    · have hP : va_P (dC, dI) vwCl (mw g h0 b (va_up i 0 x0_2) a) _ := hP
      have hD : va_D _ (mw g h0 b (va_up i 0 x0_2) a) := hD
      refine W.eq (g2 := F0 m 24 ls [.int 0]) rfl ?_
      refine lv_if_ne (tgt := 29) hx hb dX10_count_24 (by decide) (fun c_5 => absurd c_5 (by decide)) (fun _ => ?_)
      refine lv_iconst (v := 0) hx hb dX10_count_27 (by decide) ?_
      exact M_i hx hb hr hlocks (x0_2) hP hD hK hS ⟨⟨_, rfl⟩, (by rw [show ctS wt (i, a) = _ from (if_neg (nr_of (n := 5) (m := 0) rfl (by decide) (Or.inl c_1) rfl (by decide))).trans ((if_neg (nr_of (n := 5) (m := 1) rfl (by decide) (Or.inl c_1) rfl (by decide))).trans ((if_neg (nr_of (n := 5) (m := 2) rfl (by decide) (Or.inl c_1) rfl (by decide))).trans ((if_neg (nr_of (n := 5) (m := 3) rfl (by decide) (Or.inl c_1) rfl (by decide))).trans ((if_neg (nr_of (n := 5) (m := 4) rfl (by decide) (Or.inl c_1) rfl (by decide))).trans (if_neg (nr_of (n := 5) (m := 5) rfl (by decide) (Or.inl c_1) rfl (by decide)))))))]; exact ⟨hz2_4.2, fun h9 => (by first | exact n1_0 h9 | exact n2_0 h9)⟩)⟩ (Nat.le_of_ble_eq_true rfl) (Nat.le_of_ble_eq_true rfl) dX10_count_28
    · have hP : va_P (dC, dI) vwCl (mw g h0 b (va_up i 0 x0_2) a) _ := hP
      have hD : va_D _ (mw g h0 b (va_up i 0 x0_2) a) := hD
      refine W.eq (g2 := F0 m 24 ls [.int 1]) rfl ?_
      exact absurd rfl hz2_4.1
  · have nc_1 := nlt_i c_1
    have lc_1 : (0 : Int32).toInt = 0 := by decide
    refine lv_iload_n hx hb dX10_count_10 rfl (lv_at hl 1 rfl) ?_
    refine lv_iconst (v := 5) hx hb dX10_count_11 (by decide) ?_
    refine lv_icmp_gt (tgt := 19) hx hb dX10_count_12 (by decide) (fun c_6 => ?_) (fun c_6 => ?_)
    · have nc_6 := lt_i c_6
      have lc_6 : (5 : Int32).toInt = 5 := by decide
      refine lv_iconst (v := 0) hx hb dX10_count_19 (by decide) ?_
      refine lv_iconst (v := 1) hx hb dX10_count_20 (by decide) ?_
      refine M_V ⟨hx, hb, hml, hown, hts⟩ (m_X10_rightX l dC dI sa g h0 b (va_up i 0 (0 : Int32)) a (0 : Int32) (1 : Int32) _ (by decide) rfl) (cwV 2 hts gX10_count_X10_right rfl rfl rfl (by decide +kernel) ⟨Nat.le_of_ble_eq_true rfl, Nat.le_of_ble_eq_true rfl⟩) hP hD hK hS hA hev rfl rfl rfl rfl hl.1 rfl (Nat.le_of_ble_eq_true rfl) dX10_count_21 ⟨(Nat.le_of_ble_eq_true rfl), (Nat.le_of_ble_eq_true rfl)⟩ (fun r u H locs hw hP hD hS => ?_)
      obtain ⟨x0_7, rfl⟩ : ∃ z, z = u := ⟨_, rfl⟩
      have hw : ((r = some (.int 0) ∧ ((0 : Int32) = 0 ∧ x0_7 = (1 : Int32))) ∨ (r = some (.int 1) ∧ (¬ (0 : Int32) = 0 ∧ x0_7 = 0))) ∧ (True) := hw
      obtain ⟨⟨rfl, hz2_9⟩ | ⟨rfl, hz2_9⟩, hw_8⟩ := hw
      · have hP : va_P (dC, dI) vwCl (mw g h0 b (va_up i 0 x0_7) a) _ := hP
        have hD : va_D _ (mw g h0 b (va_up i 0 x0_7) a) := hD
        refine W.eq (g2 := F0 m 24 ls [.int 0]) rfl ?_
        refine lv_if_ne (tgt := 29) hx hb dX10_count_24 (by decide) (fun c_10 => absurd c_10 (by decide)) (fun _ => ?_)
        refine lv_iconst (v := 0) hx hb dX10_count_27 (by decide) ?_
        exact M_i hx hb hr hlocks (x0_7) hP hD hK hS ⟨⟨_, rfl⟩, (by rw [show ctS wt (i, a) = _ from (if_neg (nr_of (n := 5) (m := 0) rfl (by decide) (Or.inr c_6) rfl (by decide))).trans ((if_neg (nr_of (n := 5) (m := 1) rfl (by decide) (Or.inr c_6) rfl (by decide))).trans ((if_neg (nr_of (n := 5) (m := 2) rfl (by decide) (Or.inr c_6) rfl (by decide))).trans ((if_neg (nr_of (n := 5) (m := 3) rfl (by decide) (Or.inr c_6) rfl (by decide))).trans ((if_neg (nr_of (n := 5) (m := 4) rfl (by decide) (Or.inr c_6) rfl (by decide))).trans (if_neg (nr_of (n := 5) (m := 5) rfl (by decide) (Or.inr c_6) rfl (by decide)))))))]; exact ⟨hz2_9.2, fun h9 => (by first | exact n1_0 h9 | exact n2_0 h9)⟩)⟩ (Nat.le_of_ble_eq_true rfl) (Nat.le_of_ble_eq_true rfl) dX10_count_28
      · have hP : va_P (dC, dI) vwCl (mw g h0 b (va_up i 0 x0_7) a) _ := hP
        have hD : va_D _ (mw g h0 b (va_up i 0 x0_7) a) := hD
        refine W.eq (g2 := F0 m 24 ls [.int 1]) rfl ?_
        exact absurd rfl hz2_9.1
    · have nc_6 := nlt_i c_6
      have lc_6 : (5 : Int32).toInt = 5 := by decide
      refine lv_iconst (v := 1) hx hb dX10_count_15 (by decide) ?_
      refine lv_goto (tgt := 20) hx hb dX10_count_16 (by decide) ?_
      refine lv_iconst (v := 1) hx hb dX10_count_20 (by decide) ?_
      refine M_V ⟨hx, hb, hml, hown, hts⟩ (m_X10_rightX l dC dI sa g h0 b (va_up i 0 (0 : Int32)) a (1 : Int32) (1 : Int32) _ (by decide) rfl) (cwV 2 hts gX10_count_X10_right rfl rfl rfl (by decide +kernel) ⟨Nat.le_of_ble_eq_true rfl, Nat.le_of_ble_eq_true rfl⟩) hP hD hK hS hA hev rfl rfl rfl rfl hl.1 rfl (Nat.le_of_ble_eq_true rfl) dX10_count_21 ⟨(Nat.le_of_ble_eq_true rfl), (Nat.le_of_ble_eq_true rfl)⟩ (fun r u H locs hw hP hD hS => ?_)
      obtain ⟨x0_11, rfl⟩ : ∃ z, z = u := ⟨_, rfl⟩
      have hw : ((r = some (.int 0) ∧ ((1 : Int32) = 0 ∧ x0_11 = (1 : Int32))) ∨ (r = some (.int 1) ∧ (¬ (1 : Int32) = 0 ∧ x0_11 = 0))) ∧ (True) := hw
      obtain ⟨⟨rfl, hz2_13⟩ | ⟨rfl, hz2_13⟩, hw_12⟩ := hw
      · have hP : va_P (dC, dI) vwCl (mw g h0 b (va_up i 0 x0_11) a) _ := hP
        have hD : va_D _ (mw g h0 b (va_up i 0 x0_11) a) := hD
        refine W.eq (g2 := F0 m 24 ls [.int 0]) rfl ?_
        exact absurd hz2_13.1 (by decide)
      · have hP : va_P (dC, dI) vwCl (mw g h0 b (va_up i 0 x0_11) a) _ := hP
        have hD : va_D _ (mw g h0 b (va_up i 0 x0_11) a) := hD
        refine W.eq (g2 := F0 m 24 ls [.int 1]) rfl ?_
        refine lv_if_ne (tgt := 29) hx hb dX10_count_24 (by decide) (fun _ => ?_) (fun c_14 => absurd c_14 (by decide))
        refine lv_iload_n hx hb dX10_count_29 rfl (lv_at hl 1 rfl) ?_
        by_cases c_15 : wt = 0
        · refine lv_tableIn (tgt := 64) hx hb dX10_count_30 (by rw [c_15]; decide) (by rw [c_15]; decide) (by rw [c_15]; rfl) (by decide) ?_
          refine lv_aload_n hx hb dX10_count_64 rfl (lv_at hl 0 rfl) ?_
          refine va_get (D := (dC, dI)) (ci := 10) (v := .int (i 1)) (C := RX10) (T := TX10) (N := 51) hx hb hts inw_X10_count_10 hown hK hP 0 rfl rfl 1 (by decide) (hts (.fieldLink RX10 131 "VatHouseModel" "hours" "I") (List.mem_of_getElem? (i := 2) (by exact rfl))) (fun _ h9 => h9) rfl dX10_count_65 ?_
          exact M_i hx hb hr hlocks (x0_11) hP hD hK hS ⟨⟨_, rfl⟩, (by rw [show ctS wt (i, a) = _ from if_pos c_15]; exact ⟨hz2_13.2, fun h9 => rfl⟩)⟩ (Nat.le_of_ble_eq_true rfl) (Nat.le_of_ble_eq_true rfl) dX10_count_68
        by_cases c_16 : wt = 1
        · refine lv_tableIn (tgt := 69) hx hb dX10_count_30 (by rw [c_16]; decide) (by rw [c_16]; decide) (by rw [c_16]; rfl) (by decide) ?_
          refine lv_aload_n hx hb dX10_count_69 rfl (lv_at hl 0 rfl) ?_
          refine va_get (D := (dC, dI)) (ci := 10) (v := .int (i 2)) (C := RX10) (T := TX10) (N := 51) hx hb hts inw_X10_count_10 hown hK hP 0 rfl rfl 2 (by decide) (hts (.fieldLink RX10 149 "VatHouseModel" "drain" "I") (List.mem_of_getElem? (i := 3) (by exact rfl))) (fun _ h9 => h9) rfl dX10_count_70 ?_
          exact M_i hx hb hr hlocks (x0_11) hP hD hK hS ⟨⟨_, rfl⟩, (by rw [show ctS wt (i, a) = _ from (if_neg c_15).trans (if_pos c_16)]; exact ⟨hz2_13.2, fun h9 => rfl⟩)⟩ (Nat.le_of_ble_eq_true rfl) (Nat.le_of_ble_eq_true rfl) dX10_count_73
        by_cases c_17 : wt = 2
        · refine lv_tableIn (tgt := 74) hx hb dX10_count_30 (by rw [c_17]; decide) (by rw [c_17]; decide) (by rw [c_17]; rfl) (by decide) ?_
          refine lv_aload_n hx hb dX10_count_74 rfl (lv_at hl 0 rfl) ?_
          refine va_get (D := (dC, dI)) (ci := 10) (v := .int (i 12)) (C := RX10) (T := TX10) (N := 51) hx hb hts inw_X10_count_10 hown hK hP 0 rfl rfl 12 (by decide) (hts (.fieldLink RX10 112 "VatHouseModel" "cloths" "I") (List.mem_of_getElem? (i := 4) (by exact rfl))) (fun _ h9 => h9) rfl dX10_count_75 ?_
          exact M_i hx hb hr hlocks (x0_11) hP hD hK hS ⟨⟨_, rfl⟩, (by rw [show ctS wt (i, a) = _ from (if_neg c_15).trans ((if_neg c_16).trans (if_pos c_17))]; exact ⟨hz2_13.2, fun h9 => rfl⟩)⟩ (Nat.le_of_ble_eq_true rfl) (Nat.le_of_ble_eq_true rfl) dX10_count_78
        by_cases c_18 : wt = 3
        · refine lv_tableIn (tgt := 79) hx hb dX10_count_30 (by rw [c_18]; decide) (by rw [c_18]; decide) (by rw [c_18]; rfl) (by decide) ?_
          refine lv_aload_n hx hb dX10_count_79 rfl (lv_at hl 0 rfl) ?_
          refine va_get (D := (dC, dI)) (ci := 10) (v := .int (i 3)) (C := RX10) (T := TX10) (N := 51) hx hb hts inw_X10_count_10 hown hK hP 0 rfl rfl 3 (by decide) (hts (.fieldLink RX10 120 "VatHouseModel" "put" "I") (List.mem_of_getElem? (i := 5) (by exact rfl))) (fun _ h9 => h9) rfl dX10_count_80 ?_
          exact M_i hx hb hr hlocks (x0_11) hP hD hK hS ⟨⟨_, rfl⟩, (by rw [show ctS wt (i, a) = _ from (if_neg c_15).trans ((if_neg c_16).trans ((if_neg c_17).trans (if_pos c_18)))]; exact ⟨hz2_13.2, fun h9 => rfl⟩)⟩ (Nat.le_of_ble_eq_true rfl) (Nat.le_of_ble_eq_true rfl) dX10_count_83
        by_cases c_19 : wt = 4
        · refine lv_tableIn (tgt := 84) hx hb dX10_count_30 (by rw [c_19]; decide) (by rw [c_19]; decide) (by rw [c_19]; rfl) (by decide) ?_
          refine lv_aload_n hx hb dX10_count_84 rfl (lv_at hl 0 rfl) ?_
          refine va_get (D := (dC, dI)) (ci := 10) (v := .int (i 20)) (C := RX10) (T := TX10) (N := 51) hx hb hts inw_X10_count_10 hown hK hP 0 rfl rfl 20 (by decide) (hts (.fieldLink RX10 159 "VatHouseModel" "taped" "I") (List.mem_of_getElem? (i := 6) (by exact rfl))) (fun _ h9 => h9) rfl dX10_count_85 ?_
          exact M_i hx hb hr hlocks (x0_11) hP hD hK hS ⟨⟨_, rfl⟩, (by rw [show ctS wt (i, a) = _ from (if_neg c_15).trans ((if_neg c_16).trans ((if_neg c_17).trans ((if_neg c_18).trans (if_pos c_19))))]; exact ⟨hz2_13.2, fun h9 => rfl⟩)⟩ (Nat.le_of_ble_eq_true rfl) (Nat.le_of_ble_eq_true rfl) dX10_count_88
        refine lv_tableOut (tgt := 89) hx hb dX10_count_30 (tab_out5 c_15 c_16 c_17 c_18 c_19) (by decide) ?_
        refine lv_aload_n hx hb dX10_count_89 rfl (lv_at hl 0 rfl) ?_
        refine va_get (D := (dC, dI)) (ci := 10) (v := .int (i 37)) (C := RX10) (T := TX10) (N := 51) hx hb hts inw_X10_count_10 hown hK hP 0 rfl rfl 37 (by decide) (hts (.fieldLink RX10 284 "VatHouseModel" "latest" "I") (List.mem_of_getElem? (i := 7) (by exact rfl))) (fun _ h9 => h9) rfl dX10_count_90 ?_
        exact M_i hx hb hr hlocks (x0_11) hP hD hK hS ⟨⟨_, rfl⟩, (by rw [show ctS wt (i, a) = _ from (if_neg c_15).trans ((if_neg c_16).trans ((if_neg c_17).trans ((if_neg c_18).trans ((if_neg c_19).trans (if_pos (tabe5 c_1 c_6 c_15 c_16 c_17 c_18 c_19))))))]; exact ⟨hz2_13.2, fun h9 => rfl⟩)⟩ (Nat.le_of_ble_eq_true rfl) (Nat.le_of_ble_eq_true rfl) dX10_count_93

noncomputable abbrev rm_X10_ranE : Room := { frames := 1, cells := 0, slots := 0, locals := 22 }
set_option maxHeartbeats 4000000 in
set_option maxRecDepth 100000 in
theorem m_X10_ranE (l : Launch) (dC : Nat → ClassId) (dI : Nat → Nat → Nat) (sa : Nat → Nat) (g : Nat → Nat) (h0 : Nat) (b : Nat → Nat) (i : Nat → Int32) (a : Nat → Nat → Int32) (wt : Int32) (sz : Nat) : CT l dC dI sa yX10_ran wsX10_ran rm_X10_ranE [.ref h0, .int wt] (mw g h0 b i a) (tyM g) sz (fun (r : Option Value) (x0 : Int32) => (∃ z : Int32, r = some (.int z)) ∧ (x0 = (raS wt (i, a)).1 ∧ ((raS wt (i, a)).1 = 0 → r = some (.int (raS wt (i, a)).2.1)))) (fun (x0 : Int32) => mw g h0 b (va_up i 0 x0) a) (fun _ => []) 0 0 := by
  refine CT.start (cc := cX10_ran) (maxL := 2) (ret := (some .int)) (by decide) rfl (Nat.le_of_ble_eq_true rfl) ?_
  intro p e s m below meth c ls hst hP hK hD hev hS hl
  obtain ⟨hx, hb, hr, hml, hts, hown, hlocks, hin⟩ := hst
  have hown : s.vm.findClass RX10 = some m.cls := hown
  have hA : ∀ q : Nat, s.heap.size ≤ q → va_A (mw g h0 b i a) s.heap.size q := fun _ h => Or.inr h
  have hl : lv_has ls 2 [(0, .ref h0), (1, .int wt)] := hl
  refine lv_aload_n hx hb dX10_ran_0 rfl (lv_at hl 0 rfl) ?_
  refine lv_iconst (v := 0) hx hb dX10_ran_1 (by decide) ?_
  refine va_put (D := (dC, dI)) (ci := 10) (v := .int 0) (ty := .int) (C := RX10) (T := TX10) (N := 51) hx hb hts inw_X10_ran_10 tyX10 tyX10_ok nmX10 hown hK hP hD hS 0 rfl rfl 0 (by decide) (hts (.fieldLink RX10 105 "VatHouseModel" "thrown" "I") (List.mem_of_getElem? (i := 1) (by exact rfl))) (fun _ h9 => h9) rfl (tyX10_ok 0 (by decide)) rfl rfl (Nat.le_of_ble_eq_true rfl) dX10_ran_2 (fun H locs hP hD hS => ?_)
  have hP : va_P (dC, dI) vwCl (mw g h0 b (va_up i 0 (0 : Int32)) a) _ := hP
  have hD : va_D _ (mw g h0 b (va_up i 0 (0 : Int32)) a) := hD
  refine lv_aload_n hx hb dX10_ran_5 rfl (lv_at hl 0 rfl) ?_
  refine lv_iload_n hx hb dX10_ran_6 rfl (lv_at hl 1 rfl) ?_
  refine lv_if_lt (tgt := 19) hx hb dX10_ran_7 (by decide) (fun c_1 => ?_) (fun c_1 => ?_)
  · have nc_1 := lt_i c_1
    have lc_1 : (0 : Int32).toInt = 0 := by decide
    refine lv_iconst (v := 0) hx hb dX10_ran_19 (by decide) ?_
    refine lv_iconst (v := 1) hx hb dX10_ran_20 (by decide) ?_
    refine M_V ⟨hx, hb, hml, hown, hts⟩ (m_X10_rightX l dC dI sa g h0 b (va_up i 0 (0 : Int32)) a (0 : Int32) (1 : Int32) _ (by decide) rfl) (cwV 2 hts gX10_ran_X10_right rfl rfl rfl (by decide +kernel) ⟨Nat.le_of_ble_eq_true rfl, Nat.le_of_ble_eq_true rfl⟩) hP hD hK hS hA hev rfl rfl rfl rfl hl.1 rfl (Nat.le_of_ble_eq_true rfl) dX10_ran_21 ⟨(Nat.le_of_ble_eq_true rfl), (Nat.le_of_ble_eq_true rfl)⟩ (fun r u H locs hw hP hD hS => ?_)
    obtain ⟨x0_2, rfl⟩ : ∃ z, z = u := ⟨_, rfl⟩
    have hw : ((r = some (.int 0) ∧ ((0 : Int32) = 0 ∧ x0_2 = (1 : Int32))) ∨ (r = some (.int 1) ∧ (¬ (0 : Int32) = 0 ∧ x0_2 = 0))) ∧ (True) := hw
    obtain ⟨⟨rfl, hz2_4⟩ | ⟨rfl, hz2_4⟩, hw_3⟩ := hw
    · have hP : va_P (dC, dI) vwCl (mw g h0 b (va_up i 0 x0_2) a) _ := hP
      have hD : va_D _ (mw g h0 b (va_up i 0 x0_2) a) := hD
      refine W.eq (g2 := F0 m 24 ls [.int 0]) rfl ?_
      refine lv_if_ne (tgt := 29) hx hb dX10_ran_24 (by decide) (fun c_5 => absurd c_5 (by decide)) (fun _ => ?_)
      refine lv_iconst (v := 0) hx hb dX10_ran_27 (by decide) ?_
      exact M_i hx hb hr hlocks (x0_2) hP hD hK hS ⟨⟨_, rfl⟩, (by rw [show raS wt (i, a) = _ from (if_neg (nr_of (n := 5) (m := 0) rfl (by decide) (Or.inl c_1) rfl (by decide))).trans ((if_neg (nr_of (n := 5) (m := 1) rfl (by decide) (Or.inl c_1) rfl (by decide))).trans ((if_neg (nr_of (n := 5) (m := 2) rfl (by decide) (Or.inl c_1) rfl (by decide))).trans ((if_neg (nr_of (n := 5) (m := 3) rfl (by decide) (Or.inl c_1) rfl (by decide))).trans ((if_neg (nr_of (n := 5) (m := 4) rfl (by decide) (Or.inl c_1) rfl (by decide))).trans (if_neg (nr_of (n := 5) (m := 5) rfl (by decide) (Or.inl c_1) rfl (by decide)))))))]; exact ⟨hz2_4.2, fun h9 => (by first | exact n1_0 h9 | exact n2_0 h9)⟩)⟩ (Nat.le_of_ble_eq_true rfl) (Nat.le_of_ble_eq_true rfl) dX10_ran_28
    · have hP : va_P (dC, dI) vwCl (mw g h0 b (va_up i 0 x0_2) a) _ := hP
      have hD : va_D _ (mw g h0 b (va_up i 0 x0_2) a) := hD
      refine W.eq (g2 := F0 m 24 ls [.int 1]) rfl ?_
      exact absurd rfl hz2_4.1
  · have nc_1 := nlt_i c_1
    have lc_1 : (0 : Int32).toInt = 0 := by decide
    refine lv_iload_n hx hb dX10_ran_10 rfl (lv_at hl 1 rfl) ?_
    refine lv_iconst (v := 5) hx hb dX10_ran_11 (by decide) ?_
    refine lv_icmp_gt (tgt := 19) hx hb dX10_ran_12 (by decide) (fun c_6 => ?_) (fun c_6 => ?_)
    · have nc_6 := lt_i c_6
      have lc_6 : (5 : Int32).toInt = 5 := by decide
      refine lv_iconst (v := 0) hx hb dX10_ran_19 (by decide) ?_
      refine lv_iconst (v := 1) hx hb dX10_ran_20 (by decide) ?_
      refine M_V ⟨hx, hb, hml, hown, hts⟩ (m_X10_rightX l dC dI sa g h0 b (va_up i 0 (0 : Int32)) a (0 : Int32) (1 : Int32) _ (by decide) rfl) (cwV 2 hts gX10_ran_X10_right rfl rfl rfl (by decide +kernel) ⟨Nat.le_of_ble_eq_true rfl, Nat.le_of_ble_eq_true rfl⟩) hP hD hK hS hA hev rfl rfl rfl rfl hl.1 rfl (Nat.le_of_ble_eq_true rfl) dX10_ran_21 ⟨(Nat.le_of_ble_eq_true rfl), (Nat.le_of_ble_eq_true rfl)⟩ (fun r u H locs hw hP hD hS => ?_)
      obtain ⟨x0_7, rfl⟩ : ∃ z, z = u := ⟨_, rfl⟩
      have hw : ((r = some (.int 0) ∧ ((0 : Int32) = 0 ∧ x0_7 = (1 : Int32))) ∨ (r = some (.int 1) ∧ (¬ (0 : Int32) = 0 ∧ x0_7 = 0))) ∧ (True) := hw
      obtain ⟨⟨rfl, hz2_9⟩ | ⟨rfl, hz2_9⟩, hw_8⟩ := hw
      · have hP : va_P (dC, dI) vwCl (mw g h0 b (va_up i 0 x0_7) a) _ := hP
        have hD : va_D _ (mw g h0 b (va_up i 0 x0_7) a) := hD
        refine W.eq (g2 := F0 m 24 ls [.int 0]) rfl ?_
        refine lv_if_ne (tgt := 29) hx hb dX10_ran_24 (by decide) (fun c_10 => absurd c_10 (by decide)) (fun _ => ?_)
        refine lv_iconst (v := 0) hx hb dX10_ran_27 (by decide) ?_
        exact M_i hx hb hr hlocks (x0_7) hP hD hK hS ⟨⟨_, rfl⟩, (by rw [show raS wt (i, a) = _ from (if_neg (nr_of (n := 5) (m := 0) rfl (by decide) (Or.inr c_6) rfl (by decide))).trans ((if_neg (nr_of (n := 5) (m := 1) rfl (by decide) (Or.inr c_6) rfl (by decide))).trans ((if_neg (nr_of (n := 5) (m := 2) rfl (by decide) (Or.inr c_6) rfl (by decide))).trans ((if_neg (nr_of (n := 5) (m := 3) rfl (by decide) (Or.inr c_6) rfl (by decide))).trans ((if_neg (nr_of (n := 5) (m := 4) rfl (by decide) (Or.inr c_6) rfl (by decide))).trans (if_neg (nr_of (n := 5) (m := 5) rfl (by decide) (Or.inr c_6) rfl (by decide)))))))]; exact ⟨hz2_9.2, fun h9 => (by first | exact n1_0 h9 | exact n2_0 h9)⟩)⟩ (Nat.le_of_ble_eq_true rfl) (Nat.le_of_ble_eq_true rfl) dX10_ran_28
      · have hP : va_P (dC, dI) vwCl (mw g h0 b (va_up i 0 x0_7) a) _ := hP
        have hD : va_D _ (mw g h0 b (va_up i 0 x0_7) a) := hD
        refine W.eq (g2 := F0 m 24 ls [.int 1]) rfl ?_
        exact absurd rfl hz2_9.1
    · have nc_6 := nlt_i c_6
      have lc_6 : (5 : Int32).toInt = 5 := by decide
      refine lv_iconst (v := 1) hx hb dX10_ran_15 (by decide) ?_
      refine lv_goto (tgt := 20) hx hb dX10_ran_16 (by decide) ?_
      refine lv_iconst (v := 1) hx hb dX10_ran_20 (by decide) ?_
      refine M_V ⟨hx, hb, hml, hown, hts⟩ (m_X10_rightX l dC dI sa g h0 b (va_up i 0 (0 : Int32)) a (1 : Int32) (1 : Int32) _ (by decide) rfl) (cwV 2 hts gX10_ran_X10_right rfl rfl rfl (by decide +kernel) ⟨Nat.le_of_ble_eq_true rfl, Nat.le_of_ble_eq_true rfl⟩) hP hD hK hS hA hev rfl rfl rfl rfl hl.1 rfl (Nat.le_of_ble_eq_true rfl) dX10_ran_21 ⟨(Nat.le_of_ble_eq_true rfl), (Nat.le_of_ble_eq_true rfl)⟩ (fun r u H locs hw hP hD hS => ?_)
      obtain ⟨x0_11, rfl⟩ : ∃ z, z = u := ⟨_, rfl⟩
      have hw : ((r = some (.int 0) ∧ ((1 : Int32) = 0 ∧ x0_11 = (1 : Int32))) ∨ (r = some (.int 1) ∧ (¬ (1 : Int32) = 0 ∧ x0_11 = 0))) ∧ (True) := hw
      obtain ⟨⟨rfl, hz2_13⟩ | ⟨rfl, hz2_13⟩, hw_12⟩ := hw
      · have hP : va_P (dC, dI) vwCl (mw g h0 b (va_up i 0 x0_11) a) _ := hP
        have hD : va_D _ (mw g h0 b (va_up i 0 x0_11) a) := hD
        refine W.eq (g2 := F0 m 24 ls [.int 0]) rfl ?_
        exact absurd hz2_13.1 (by decide)
      · have hP : va_P (dC, dI) vwCl (mw g h0 b (va_up i 0 x0_11) a) _ := hP
        have hD : va_D _ (mw g h0 b (va_up i 0 x0_11) a) := hD
        refine W.eq (g2 := F0 m 24 ls [.int 1]) rfl ?_
        refine lv_if_ne (tgt := 29) hx hb dX10_ran_24 (by decide) (fun _ => ?_) (fun c_14 => absurd c_14 (by decide))
        refine lv_iload_n hx hb dX10_ran_29 rfl (lv_at hl 1 rfl) ?_
        by_cases c_15 : wt = 0
        · refine lv_tableIn (tgt := 64) hx hb dX10_ran_30 (by rw [c_15]; decide) (by rw [c_15]; decide) (by rw [c_15]; rfl) (by decide) ?_
          refine lv_aload_n hx hb dX10_ran_64 rfl (lv_at hl 0 rfl) ?_
          refine va_get (D := (dC, dI)) (ci := 10) (v := .int (i 44)) (C := RX10) (T := TX10) (N := 51) hx hb hts inw_X10_ran_10 hown hK hP 0 rfl rfl 44 (by decide) (hts (.fieldLink RX10 90 "VatHouseModel" "ran" "I") (List.mem_of_getElem? (i := 2) (by exact rfl))) (fun _ h9 => h9) rfl dX10_ran_65 ?_
          exact M_i hx hb hr hlocks (x0_11) hP hD hK hS ⟨⟨_, rfl⟩, (by rw [show raS wt (i, a) = _ from if_pos c_15]; exact ⟨hz2_13.2, fun h9 => rfl⟩)⟩ (Nat.le_of_ble_eq_true rfl) (Nat.le_of_ble_eq_true rfl) dX10_ran_68
        by_cases c_16 : wt = 1
        · refine lv_tableIn (tgt := 69) hx hb dX10_ran_30 (by rw [c_16]; decide) (by rw [c_16]; decide) (by rw [c_16]; rfl) (by decide) ?_
          refine lv_aload_n hx hb dX10_ran_69 rfl (lv_at hl 0 rfl) ?_
          refine va_get (D := (dC, dI)) (ci := 10) (v := .int (i 45)) (C := RX10) (T := TX10) (N := 51) hx hb hts inw_X10_ran_10 hown hK hP 0 rfl rfl 45 (by decide) (hts (.fieldLink RX10 328 "VatHouseModel" "failure" "I") (List.mem_of_getElem? (i := 3) (by exact rfl))) (fun _ h9 => h9) rfl dX10_ran_70 ?_
          exact M_i hx hb hr hlocks (x0_11) hP hD hK hS ⟨⟨_, rfl⟩, (by rw [show raS wt (i, a) = _ from (if_neg c_15).trans (if_pos c_16)]; exact ⟨hz2_13.2, fun h9 => rfl⟩)⟩ (Nat.le_of_ble_eq_true rfl) (Nat.le_of_ble_eq_true rfl) dX10_ran_73
        by_cases c_17 : wt = 2
        · refine lv_tableIn (tgt := 74) hx hb dX10_ran_30 (by rw [c_17]; decide) (by rw [c_17]; decide) (by rw [c_17]; rfl) (by decide) ?_
          refine lv_aload_n hx hb dX10_ran_74 rfl (lv_at hl 0 rfl) ?_
          refine va_get (D := (dC, dI)) (ci := 10) (v := .int (i 40)) (C := RX10) (T := TX10) (N := 51) hx hb hts inw_X10_ran_10 hown hK hP 0 rfl rfl 40 (by decide) (hts (.fieldLink RX10 287 "VatHouseModel" "counted" "I") (List.mem_of_getElem? (i := 4) (by exact rfl))) (fun _ h9 => h9) rfl dX10_ran_75 ?_
          exact M_i hx hb hr hlocks (x0_11) hP hD hK hS ⟨⟨_, rfl⟩, (by rw [show raS wt (i, a) = _ from (if_neg c_15).trans ((if_neg c_16).trans (if_pos c_17))]; exact ⟨hz2_13.2, fun h9 => rfl⟩)⟩ (Nat.le_of_ble_eq_true rfl) (Nat.le_of_ble_eq_true rfl) dX10_ran_78
        by_cases c_18 : wt = 3
        · refine lv_tableIn (tgt := 79) hx hb dX10_ran_30 (by rw [c_18]; decide) (by rw [c_18]; decide) (by rw [c_18]; rfl) (by decide) ?_
          refine lv_aload_n hx hb dX10_ran_79 rfl (lv_at hl 0 rfl) ?_
          refine va_get (D := (dC, dI)) (ci := 10) (v := .int (i 41)) (C := RX10) (T := TX10) (N := 51) hx hb hts inw_X10_ran_10 hown hK hP 0 rfl rfl 41 (by decide) (hts (.fieldLink RX10 313 "VatHouseModel" "ranDips" "I") (List.mem_of_getElem? (i := 5) (by exact rfl))) (fun _ h9 => h9) rfl dX10_ran_80 ?_
          exact M_i hx hb hr hlocks (x0_11) hP hD hK hS ⟨⟨_, rfl⟩, (by rw [show raS wt (i, a) = _ from (if_neg c_15).trans ((if_neg c_16).trans ((if_neg c_17).trans (if_pos c_18)))]; exact ⟨hz2_13.2, fun h9 => rfl⟩)⟩ (Nat.le_of_ble_eq_true rfl) (Nat.le_of_ble_eq_true rfl) dX10_ran_83
        by_cases c_19 : wt = 4
        · refine lv_tableIn (tgt := 84) hx hb dX10_ran_30 (by rw [c_19]; decide) (by rw [c_19]; decide) (by rw [c_19]; rfl) (by decide) ?_
          refine lv_aload_n hx hb dX10_ran_84 rfl (lv_at hl 0 rfl) ?_
          refine va_get (D := (dC, dI)) (ci := 10) (v := .int (i 42)) (C := RX10) (T := TX10) (N := 51) hx hb hts inw_X10_ran_10 hown hK hP 0 rfl rfl 42 (by decide) (hts (.fieldLink RX10 310 "VatHouseModel" "ranGrains" "I") (List.mem_of_getElem? (i := 6) (by exact rfl))) (fun _ h9 => h9) rfl dX10_ran_85 ?_
          exact M_i hx hb hr hlocks (x0_11) hP hD hK hS ⟨⟨_, rfl⟩, (by rw [show raS wt (i, a) = _ from (if_neg c_15).trans ((if_neg c_16).trans ((if_neg c_17).trans ((if_neg c_18).trans (if_pos c_19))))]; exact ⟨hz2_13.2, fun h9 => rfl⟩)⟩ (Nat.le_of_ble_eq_true rfl) (Nat.le_of_ble_eq_true rfl) dX10_ran_88
        refine lv_tableOut (tgt := 89) hx hb dX10_ran_30 (tab_out5 c_15 c_16 c_17 c_18 c_19) (by decide) ?_
        refine lv_aload_n hx hb dX10_ran_89 rfl (lv_at hl 0 rfl) ?_
        refine va_get (D := (dC, dI)) (ci := 10) (v := .int (i 43)) (C := RX10) (T := TX10) (N := 51) hx hb hts inw_X10_ran_10 hown hK hP 0 rfl rfl 43 (by decide) (hts (.fieldLink RX10 316 "VatHouseModel" "ranHours" "I") (List.mem_of_getElem? (i := 7) (by exact rfl))) (fun _ h9 => h9) rfl dX10_ran_90 ?_
        exact M_i hx hb hr hlocks (x0_11) hP hD hK hS ⟨⟨_, rfl⟩, (by rw [show raS wt (i, a) = _ from (if_neg c_15).trans ((if_neg c_16).trans ((if_neg c_17).trans ((if_neg c_18).trans ((if_neg c_19).trans (if_pos (tabe5 c_1 c_6 c_15 c_16 c_17 c_18 c_19))))))]; exact ⟨hz2_13.2, fun h9 => rfl⟩)⟩ (Nat.le_of_ble_eq_true rfl) (Nat.le_of_ble_eq_true rfl) dX10_ran_93

noncomputable abbrev rm_X10_aboutE : Room := { frames := 2, cells := 0, slots := 0, locals := 43 }
set_option maxHeartbeats 4000000 in
set_option maxRecDepth 100000 in
theorem m_X10_aboutE (l : Launch) (dC : Nat → ClassId) (dI : Nat → Nat → Nat) (sa : Nat → Nat) (g : Nat → Nat) (h0 : Nat) (b : Nat → Nat) (i : Nat → Int32) (a : Nat → Nat → Int32) (ck : Int32) (wt : Int32) (sz : Nat) (hRC : RC (i, a)) : CT l dC dI sa yX10_about wsX10_about rm_X10_aboutE [.ref h0, .int ck, .int wt] (mw g h0 b i a) (tyM g) sz (fun (r : Option Value) (x0 : Int32) => (∃ z : Int32, r = some (.int z)) ∧ (x0 = (abS ck wt (i, a)).1 ∧ ((abS ck wt (i, a)).1 = 0 → r = some (.int (abS ck wt (i, a)).2.1)))) (fun (x0 : Int32) => mw g h0 b (va_up i 0 x0) a) (fun _ => []) 0 0 := by
  refine CT.start (cc := cX10_about) (maxL := 3) (ret := (some .int)) (by decide) rfl (Nat.le_of_ble_eq_true rfl) ?_
  intro p e s m below meth c ls hst hP hK hD hev hS hl
  obtain ⟨hx, hb, hr, hml, hts, hown, hlocks, hin⟩ := hst
  have hown : s.vm.findClass RX10 = some m.cls := hown
  have hA : ∀ q : Nat, s.heap.size ≤ q → va_A (mw g h0 b i a) s.heap.size q := fun _ h => Or.inr h
  have hl : lv_has ls 3 [(0, .ref h0), (1, .int ck), (2, .int wt)] := hl
  refine lv_aload_n hx hb dX10_about_0 rfl (lv_at hl 0 rfl) ?_
  refine lv_iload_n hx hb dX10_about_1 rfl (lv_at hl 1 rfl) ?_
  refine M_V ⟨hx, hb, hml, hown, hts⟩ (m_X10_isClothE l dC dI sa g h0 b i a ck _ ) (cwV 1 hts gX10_about_X10_isCloth rfl rfl rfl (by decide +kernel) ⟨Nat.le_of_ble_eq_true rfl, Nat.le_of_ble_eq_true rfl⟩) hP hD hK hS hA hev rfl rfl rfl rfl hl.1 rfl (Nat.le_of_ble_eq_true rfl) dX10_about_2 ⟨(Nat.le_of_ble_eq_true rfl), (Nat.le_of_ble_eq_true rfl)⟩ (fun r u H locs hw hP hD hS => ?_)
  obtain ⟨x0_1, rfl⟩ : ∃ z, z = u := ⟨_, rfl⟩
  have hw : ((r = some (.int 0) ∧ (¬ inC (i, a) ck ∧ x0_1 = 1)) ∨ (r = some (.int 1) ∧ (inC (i, a) ck ∧ x0_1 = 0))) ∧ (True) := hw
  obtain ⟨⟨rfl, hz2_3⟩ | ⟨rfl, hz2_3⟩, hw_2⟩ := hw
  · have hP : va_P (dC, dI) vwCl (mw g h0 b (va_up i 0 x0_1) a) _ := hP
    have hD : va_D _ (mw g h0 b (va_up i 0 x0_1) a) := hD
    refine W.eq (g2 := F0 m 5 ls [.int 0]) rfl ?_
    refine lv_if_eq (tgt := 31) hx hb dX10_about_5 (by decide) (fun _ => ?_) (fun c_4 => absurd c_4 (by decide))
    refine lv_iconst (v := 0) hx hb dX10_about_31 (by decide) ?_
    exact M_i hx hb hr hlocks (x0_1) hP hD hK hS ⟨⟨_, rfl⟩, (by rw [show abS ck wt (i, a) = _ from if_neg hz2_3.1]; exact ⟨hz2_3.2, fun h9 => (by first | exact n1_0 h9 | exact n2_0 h9)⟩)⟩ (Nat.le_of_ble_eq_true rfl) (Nat.le_of_ble_eq_true rfl) dX10_about_32
  · have hP : va_P (dC, dI) vwCl (mw g h0 b (va_up i 0 x0_1) a) _ := hP
    have hD : va_D _ (mw g h0 b (va_up i 0 x0_1) a) := hD
    refine W.eq (g2 := F0 m 5 ls [.int 1]) rfl ?_
    have hc30 := in_C hz2_3.1 hRC.1.2
    have hcc := inC_c hz2_3.1
    have hwt := (hRC.2 _ hcc.2).1
    refine lv_if_eq (tgt := 31) hx hb dX10_about_5 (by decide) (fun c_5 => absurd c_5 (by decide)) (fun _ => ?_)
    refine lv_aload_n hx hb dX10_about_8 rfl (lv_at hl 0 rfl) ?_
    refine lv_iload_n hx hb dX10_about_9 rfl (lv_at hl 2 rfl) ?_
    refine lv_if_lt (tgt := 23) hx hb dX10_about_10 (by decide) (fun c_6 => ?_) (fun c_6 => ?_)
    · have nc_6 := lt_i c_6
      have lc_6 : (0 : Int32).toInt = 0 := by decide
      refine lv_iconst (v := 0) hx hb dX10_about_23 (by decide) ?_
      refine lv_iconst (v := 1) hx hb dX10_about_24 (by decide) ?_
      refine M_V ⟨hx, hb, hml, hown, hts⟩ (m_X10_rightX l dC dI sa g h0 b (va_up i 0 x0_1) a (0 : Int32) (1 : Int32) _ (by decide) hz2_3.2) (cwV 2 hts gX10_about_X10_right rfl rfl rfl (by decide +kernel) ⟨Nat.le_of_ble_eq_true rfl, Nat.le_of_ble_eq_true rfl⟩) hP hD hK hS hA hev rfl rfl rfl rfl hl.1 rfl (Nat.le_of_ble_eq_true rfl) dX10_about_25 ⟨(Nat.le_of_ble_eq_true rfl), (Nat.le_of_ble_eq_true rfl)⟩ (fun r u H locs hw hP hD hS => ?_)
      obtain ⟨x0_7, rfl⟩ : ∃ z, z = u := ⟨_, rfl⟩
      have hw : ((r = some (.int 0) ∧ ((0 : Int32) = 0 ∧ x0_7 = (1 : Int32))) ∨ (r = some (.int 1) ∧ (¬ (0 : Int32) = 0 ∧ x0_7 = 0))) ∧ (True) := hw
      obtain ⟨⟨rfl, hz2_9⟩ | ⟨rfl, hz2_9⟩, hw_8⟩ := hw
      · have hP : va_P (dC, dI) vwCl (mw g h0 b (va_up i 0 x0_7) a) _ := hP
        have hD : va_D _ (mw g h0 b (va_up i 0 x0_7) a) := hD
        refine W.eq (g2 := F0 m 28 ls [.int 0]) rfl ?_
        refine lv_if_ne (tgt := 33) hx hb dX10_about_28 (by decide) (fun c_10 => absurd c_10 (by decide)) (fun _ => ?_)
        refine lv_iconst (v := 0) hx hb dX10_about_31 (by decide) ?_
        exact M_i hx hb hr hlocks (x0_7) hP hD hK hS ⟨⟨_, rfl⟩, (by rw [show abS ck wt (i, a) = _ from (if_pos hz2_3.1).trans ((if_neg (nr_of (n := 7) (m := 0) rfl (by decide) (Or.inl c_6) rfl (by decide))).trans ((if_neg (nr_of (n := 7) (m := 1) rfl (by decide) (Or.inl c_6) rfl (by decide))).trans ((if_neg (nr_of (n := 7) (m := 2) rfl (by decide) (Or.inl c_6) rfl (by decide))).trans ((if_neg (nr_of (n := 7) (m := 3) rfl (by decide) (Or.inl c_6) rfl (by decide))).trans ((if_neg (nr_of (n := 7) (m := 4) rfl (by decide) (Or.inl c_6) rfl (by decide))).trans ((if_neg (nr_of (n := 7) (m := 5) rfl (by decide) (Or.inl c_6) rfl (by decide))).trans ((if_neg (nr_of (n := 7) (m := 6) rfl (by decide) (Or.inl c_6) rfl (by decide))).trans (if_neg (nr_of (n := 7) (m := 7) rfl (by decide) (Or.inl c_6) rfl (by decide))))))))))]; exact ⟨hz2_9.2, fun h9 => (by first | exact n1_0 h9 | exact n2_0 h9)⟩)⟩ (Nat.le_of_ble_eq_true rfl) (Nat.le_of_ble_eq_true rfl) dX10_about_32
      · have hP : va_P (dC, dI) vwCl (mw g h0 b (va_up i 0 x0_7) a) _ := hP
        have hD : va_D _ (mw g h0 b (va_up i 0 x0_7) a) := hD
        refine W.eq (g2 := F0 m 28 ls [.int 1]) rfl ?_
        exact absurd rfl hz2_9.1
    · have nc_6 := nlt_i c_6
      have lc_6 : (0 : Int32).toInt = 0 := by decide
      refine lv_iload_n hx hb dX10_about_13 rfl (lv_at hl 2 rfl) ?_
      refine lv_bipush (v := 7) hx hb dX10_about_14 (by decide) ?_
      refine lv_icmp_gt (tgt := 23) hx hb dX10_about_16 (by decide) (fun c_11 => ?_) (fun c_11 => ?_)
      · have nc_11 := lt_i c_11
        have lc_11 : (7 : Int32).toInt = 7 := by decide
        refine lv_iconst (v := 0) hx hb dX10_about_23 (by decide) ?_
        refine lv_iconst (v := 1) hx hb dX10_about_24 (by decide) ?_
        refine M_V ⟨hx, hb, hml, hown, hts⟩ (m_X10_rightX l dC dI sa g h0 b (va_up i 0 x0_1) a (0 : Int32) (1 : Int32) _ (by decide) hz2_3.2) (cwV 2 hts gX10_about_X10_right rfl rfl rfl (by decide +kernel) ⟨Nat.le_of_ble_eq_true rfl, Nat.le_of_ble_eq_true rfl⟩) hP hD hK hS hA hev rfl rfl rfl rfl hl.1 rfl (Nat.le_of_ble_eq_true rfl) dX10_about_25 ⟨(Nat.le_of_ble_eq_true rfl), (Nat.le_of_ble_eq_true rfl)⟩ (fun r u H locs hw hP hD hS => ?_)
        obtain ⟨x0_12, rfl⟩ : ∃ z, z = u := ⟨_, rfl⟩
        have hw : ((r = some (.int 0) ∧ ((0 : Int32) = 0 ∧ x0_12 = (1 : Int32))) ∨ (r = some (.int 1) ∧ (¬ (0 : Int32) = 0 ∧ x0_12 = 0))) ∧ (True) := hw
        obtain ⟨⟨rfl, hz2_14⟩ | ⟨rfl, hz2_14⟩, hw_13⟩ := hw
        · have hP : va_P (dC, dI) vwCl (mw g h0 b (va_up i 0 x0_12) a) _ := hP
          have hD : va_D _ (mw g h0 b (va_up i 0 x0_12) a) := hD
          refine W.eq (g2 := F0 m 28 ls [.int 0]) rfl ?_
          refine lv_if_ne (tgt := 33) hx hb dX10_about_28 (by decide) (fun c_15 => absurd c_15 (by decide)) (fun _ => ?_)
          refine lv_iconst (v := 0) hx hb dX10_about_31 (by decide) ?_
          exact M_i hx hb hr hlocks (x0_12) hP hD hK hS ⟨⟨_, rfl⟩, (by rw [show abS ck wt (i, a) = _ from (if_pos hz2_3.1).trans ((if_neg (nr_of (n := 7) (m := 0) rfl (by decide) (Or.inr c_11) rfl (by decide))).trans ((if_neg (nr_of (n := 7) (m := 1) rfl (by decide) (Or.inr c_11) rfl (by decide))).trans ((if_neg (nr_of (n := 7) (m := 2) rfl (by decide) (Or.inr c_11) rfl (by decide))).trans ((if_neg (nr_of (n := 7) (m := 3) rfl (by decide) (Or.inr c_11) rfl (by decide))).trans ((if_neg (nr_of (n := 7) (m := 4) rfl (by decide) (Or.inr c_11) rfl (by decide))).trans ((if_neg (nr_of (n := 7) (m := 5) rfl (by decide) (Or.inr c_11) rfl (by decide))).trans ((if_neg (nr_of (n := 7) (m := 6) rfl (by decide) (Or.inr c_11) rfl (by decide))).trans (if_neg (nr_of (n := 7) (m := 7) rfl (by decide) (Or.inr c_11) rfl (by decide))))))))))]; exact ⟨hz2_14.2, fun h9 => (by first | exact n1_0 h9 | exact n2_0 h9)⟩)⟩ (Nat.le_of_ble_eq_true rfl) (Nat.le_of_ble_eq_true rfl) dX10_about_32
        · have hP : va_P (dC, dI) vwCl (mw g h0 b (va_up i 0 x0_12) a) _ := hP
          have hD : va_D _ (mw g h0 b (va_up i 0 x0_12) a) := hD
          refine W.eq (g2 := F0 m 28 ls [.int 1]) rfl ?_
          exact absurd rfl hz2_14.1
      · have nc_11 := nlt_i c_11
        have lc_11 : (7 : Int32).toInt = 7 := by decide
        refine lv_iconst (v := 1) hx hb dX10_about_19 (by decide) ?_
        refine lv_goto (tgt := 24) hx hb dX10_about_20 (by decide) ?_
        refine lv_iconst (v := 1) hx hb dX10_about_24 (by decide) ?_
        refine M_V ⟨hx, hb, hml, hown, hts⟩ (m_X10_rightX l dC dI sa g h0 b (va_up i 0 x0_1) a (1 : Int32) (1 : Int32) _ (by decide) hz2_3.2) (cwV 2 hts gX10_about_X10_right rfl rfl rfl (by decide +kernel) ⟨Nat.le_of_ble_eq_true rfl, Nat.le_of_ble_eq_true rfl⟩) hP hD hK hS hA hev rfl rfl rfl rfl hl.1 rfl (Nat.le_of_ble_eq_true rfl) dX10_about_25 ⟨(Nat.le_of_ble_eq_true rfl), (Nat.le_of_ble_eq_true rfl)⟩ (fun r u H locs hw hP hD hS => ?_)
        obtain ⟨x0_16, rfl⟩ : ∃ z, z = u := ⟨_, rfl⟩
        have hw : ((r = some (.int 0) ∧ ((1 : Int32) = 0 ∧ x0_16 = (1 : Int32))) ∨ (r = some (.int 1) ∧ (¬ (1 : Int32) = 0 ∧ x0_16 = 0))) ∧ (True) := hw
        obtain ⟨⟨rfl, hz2_18⟩ | ⟨rfl, hz2_18⟩, hw_17⟩ := hw
        · have hP : va_P (dC, dI) vwCl (mw g h0 b (va_up i 0 x0_16) a) _ := hP
          have hD : va_D _ (mw g h0 b (va_up i 0 x0_16) a) := hD
          refine W.eq (g2 := F0 m 28 ls [.int 0]) rfl ?_
          exact absurd hz2_18.1 (by decide)
        · have hP : va_P (dC, dI) vwCl (mw g h0 b (va_up i 0 x0_16) a) _ := hP
          have hD : va_D _ (mw g h0 b (va_up i 0 x0_16) a) := hD
          refine W.eq (g2 := F0 m 28 ls [.int 1]) rfl ?_
          refine lv_if_ne (tgt := 33) hx hb dX10_about_28 (by decide) (fun _ => ?_) (fun c_19 => absurd c_19 (by decide))
          refine lv_iload_n hx hb dX10_about_33 rfl (lv_at hl 2 rfl) ?_
          by_cases c_20 : wt = 0
          · refine lv_tableIn (tgt := 76) hx hb dX10_about_34 (by rw [c_20]; decide) (by rw [c_20]; decide) (by rw [c_20]; rfl) (by decide) ?_
            refine lv_aload_n hx hb dX10_about_76 rfl (lv_at hl 0 rfl) ?_
            refine va_get (D := (dC, dI)) (ci := 10) (v := .ref (b 13)) (C := RX10) (T := TX10) (N := 51) hx hb hts inw_X10_about_10 hown hK hP 0 rfl rfl 13 (by decide) (hts (.fieldLink RX10 35 "VatHouseModel" "weight" "[I") (List.mem_of_getElem? (i := 1) (by exact rfl))) (fun _ h9 => h9) rfl dX10_about_77 ?_
            refine lv_iload_n hx hb dX10_about_80 rfl (lv_at hl 1 rfl) ?_
            refine va_iald hx hb hK hP 9 8 rfl rfl (by assumption) dX10_about_81 ?_
            refine lv_topi (fun z_21 ez_21 => ?_)
            have ez_21 : z_21 = (a 13) ck.toNatClampNeg := ez_21
            exact M_i hx hb hr hlocks (x0_16) hP hD hK hS ⟨⟨_, rfl⟩, (by rw [show abS ck wt (i, a) = _ from (if_pos hz2_3.1).trans (if_pos c_20)]; exact ⟨hz2_18.2, fun h9 => (by rw [ez_21])⟩)⟩ (Nat.le_of_ble_eq_true rfl) (Nat.le_of_ble_eq_true rfl) dX10_about_82
          by_cases c_22 : wt = 1
          · refine lv_tableIn (tgt := 83) hx hb dX10_about_34 (by rw [c_22]; decide) (by rw [c_22]; decide) (by rw [c_22]; rfl) (by decide) ?_
            refine lv_aload_n hx hb dX10_about_83 rfl (lv_at hl 0 rfl) ?_
            refine va_get (D := (dC, dI)) (ci := 10) (v := .ref (b 14)) (C := RX10) (T := TX10) (N := 51) hx hb hts inw_X10_about_10 hown hK hP 0 rfl rfl 14 (by decide) (hts (.fieldLink RX10 38 "VatHouseModel" "loose" "[I") (List.mem_of_getElem? (i := 2) (by exact rfl))) (fun _ h9 => h9) rfl dX10_about_84 ?_
            refine lv_iload_n hx hb dX10_about_87 rfl (lv_at hl 1 rfl) ?_
            refine va_iald hx hb hK hP 10 9 rfl rfl (by assumption) dX10_about_88 ?_
            refine lv_topi (fun z_23 ez_23 => ?_)
            have ez_23 : z_23 = (a 14) ck.toNatClampNeg := ez_23
            exact M_i hx hb hr hlocks (x0_16) hP hD hK hS ⟨⟨_, rfl⟩, (by rw [show abS ck wt (i, a) = _ from (if_pos hz2_3.1).trans ((if_neg c_20).trans (if_pos c_22))]; exact ⟨hz2_18.2, fun h9 => (by rw [ez_23])⟩)⟩ (Nat.le_of_ble_eq_true rfl) (Nat.le_of_ble_eq_true rfl) dX10_about_89
          by_cases c_24 : wt = 2
          · refine lv_tableIn (tgt := 90) hx hb dX10_about_34 (by rw [c_24]; decide) (by rw [c_24]; decide) (by rw [c_24]; rfl) (by decide) ?_
            refine lv_aload_n hx hb dX10_about_90 rfl (lv_at hl 0 rfl) ?_
            refine va_get (D := (dC, dI)) (ci := 10) (v := .ref (b 15)) (C := RX10) (T := TX10) (N := 51) hx hb hts inw_X10_about_10 hown hK hP 0 rfl rfl 15 (by decide) (hts (.fieldLink RX10 41 "VatHouseModel" "fast" "[I") (List.mem_of_getElem? (i := 3) (by exact rfl))) (fun _ h9 => h9) rfl dX10_about_91 ?_
            refine lv_iload_n hx hb dX10_about_94 rfl (lv_at hl 1 rfl) ?_
            refine va_iald hx hb hK hP 11 10 rfl rfl (by assumption) dX10_about_95 ?_
            refine lv_topi (fun z_25 ez_25 => ?_)
            have ez_25 : z_25 = (a 15) ck.toNatClampNeg := ez_25
            exact M_i hx hb hr hlocks (x0_16) hP hD hK hS ⟨⟨_, rfl⟩, (by rw [show abS ck wt (i, a) = _ from (if_pos hz2_3.1).trans ((if_neg c_20).trans ((if_neg c_22).trans (if_pos c_24)))]; exact ⟨hz2_18.2, fun h9 => (by rw [ez_25])⟩)⟩ (Nat.le_of_ble_eq_true rfl) (Nat.le_of_ble_eq_true rfl) dX10_about_96
          by_cases c_26 : wt = 3
          · refine lv_tableIn (tgt := 97) hx hb dX10_about_34 (by rw [c_26]; decide) (by rw [c_26]; decide) (by rw [c_26]; rfl) (by decide) ?_
            refine lv_aload_n hx hb dX10_about_97 rfl (lv_at hl 0 rfl) ?_
            refine lv_iload_n hx hb dX10_about_98 rfl (lv_at hl 1 rfl) ?_
            refine M_V ⟨hx, hb, hml, hown, hts⟩ (m_X10_shadeOfE l dC dI sa g h0 b (va_up i 0 x0_16) a ck _ hc30 hwt) (cwV 1 hts gX10_about_X10_shadeOf rfl rfl rfl (by decide +kernel) ⟨Nat.le_of_ble_eq_true rfl, Nat.le_of_ble_eq_true rfl⟩) hP hD hK hS hA hev rfl rfl rfl rfl hl.1 rfl (Nat.le_of_ble_eq_true rfl) dX10_about_99 ⟨(Nat.le_of_ble_eq_true rfl), (Nat.le_of_ble_eq_true rfl)⟩ (fun r u H locs hw hP hD hS => ?_)
            have hw : (∃ z : Int32, r = some (.int z) ∧ (z = ((a 15) ck.toNatClampNeg) / ((a 13) ck.toNatClampNeg))) ∧ (True) := hw
            obtain ⟨⟨z_28, rfl, hz_z_28⟩, hw_27⟩ := hw
            have hP : va_P (dC, dI) vwCl (mw g h0 b (va_up i 0 x0_16) a) _ := hP
            have hD : va_D _ (mw g h0 b (va_up i 0 x0_16) a) := hD
            refine W.eq (g2 := F0 m 102 ls [.int z_28]) rfl ?_
            exact M_i hx hb hr hlocks (x0_16) hP hD hK hS ⟨⟨_, rfl⟩, (by rw [show abS ck wt (i, a) = _ from (if_pos hz2_3.1).trans ((if_neg c_20).trans ((if_neg c_22).trans ((if_neg c_24).trans (if_pos c_26))))]; exact ⟨hz2_18.2, fun h9 => (by rw [hz_z_28]; rfl)⟩)⟩ (Nat.le_of_ble_eq_true rfl) (Nat.le_of_ble_eq_true rfl) dX10_about_102
          by_cases c_29 : wt = 4
          · refine lv_tableIn (tgt := 103) hx hb dX10_about_34 (by rw [c_29]; decide) (by rw [c_29]; decide) (by rw [c_29]; rfl) (by decide) ?_
            refine lv_aload_n hx hb dX10_about_103 rfl (lv_at hl 0 rfl) ?_
            refine lv_iload_n hx hb dX10_about_104 rfl (lv_at hl 1 rfl) ?_
            refine M_V ⟨hx, hb, hml, hown, hts⟩ (m_X10_isDryE l dC dI sa g h0 b (va_up i 0 x0_16) a ck _ hc30) (cwV 1 hts gX10_about_X10_isDry rfl rfl rfl (by decide +kernel) ⟨Nat.le_of_ble_eq_true rfl, Nat.le_of_ble_eq_true rfl⟩) hP hD hK hS hA hev rfl rfl rfl rfl hl.1 rfl (Nat.le_of_ble_eq_true rfl) dX10_about_105 ⟨(Nat.le_of_ble_eq_true rfl), (Nat.le_of_ble_eq_true rfl)⟩ (fun r u H locs hw hP hD hS => ?_)
            have hw : ((r = some (.int 0) ∧ (((a 16) ck.toNatClampNeg) = -1)) ∨ (r = some (.int 1) ∧ (¬ ((a 16) ck.toNatClampNeg) = -1))) ∧ (True) := hw
            obtain ⟨⟨rfl, hz2_31⟩ | ⟨rfl, hz2_31⟩, hw_30⟩ := hw
            · have hP : va_P (dC, dI) vwCl (mw g h0 b (va_up i 0 x0_16) a) _ := hP
              have hD : va_D _ (mw g h0 b (va_up i 0 x0_16) a) := hD
              refine W.eq (g2 := F0 m 108 ls [.int 0]) rfl ?_
              refine lv_if_eq (tgt := 115) hx hb dX10_about_108 (by decide) (fun _ => ?_) (fun c_32 => absurd c_32 (by decide))
              refine lv_iconst (v := 0) hx hb dX10_about_115 (by decide) ?_
              exact M_i hx hb hr hlocks (x0_16) hP hD hK hS ⟨⟨_, rfl⟩, (by rw [show abS ck wt (i, a) = _ from (if_pos hz2_3.1).trans ((if_neg c_20).trans ((if_neg c_22).trans ((if_neg c_24).trans ((if_neg c_26).trans (if_pos c_29)))))]; exact ⟨hz2_18.2, fun h9 => (by rw [show dyA ((i, a).2 16 ck.toNatClampNeg) = 0 from if_pos hz2_31])⟩)⟩ (Nat.le_of_ble_eq_true rfl) (Nat.le_of_ble_eq_true rfl) dX10_about_116
            · have hP : va_P (dC, dI) vwCl (mw g h0 b (va_up i 0 x0_16) a) _ := hP
              have hD : va_D _ (mw g h0 b (va_up i 0 x0_16) a) := hD
              refine W.eq (g2 := F0 m 108 ls [.int 1]) rfl ?_
              refine lv_if_eq (tgt := 115) hx hb dX10_about_108 (by decide) (fun c_33 => absurd c_33 (by decide)) (fun _ => ?_)
              refine lv_iconst (v := 1) hx hb dX10_about_111 (by decide) ?_
              refine lv_goto (tgt := 116) hx hb dX10_about_112 (by decide) ?_
              exact M_i hx hb hr hlocks (x0_16) hP hD hK hS ⟨⟨_, rfl⟩, (by rw [show abS ck wt (i, a) = _ from (if_pos hz2_3.1).trans ((if_neg c_20).trans ((if_neg c_22).trans ((if_neg c_24).trans ((if_neg c_26).trans (if_pos c_29)))))]; exact ⟨hz2_18.2, fun h9 => (by rw [show dyA ((i, a).2 16 ck.toNatClampNeg) = 1 from if_neg hz2_31])⟩)⟩ (Nat.le_of_ble_eq_true rfl) (Nat.le_of_ble_eq_true rfl) dX10_about_116
          by_cases c_34 : wt = 5
          · refine lv_tableIn (tgt := 117) hx hb dX10_about_34 (by rw [c_34]; decide) (by rw [c_34]; decide) (by rw [c_34]; rfl) (by decide) ?_
            refine lv_aload_n hx hb dX10_about_117 rfl (lv_at hl 0 rfl) ?_
            refine va_get (D := (dC, dI)) (ci := 10) (v := .ref (b 16)) (C := RX10) (T := TX10) (N := 51) hx hb hts inw_X10_about_10 hown hK hP 0 rfl rfl 16 (by decide) (hts (.fieldLink RX10 44 "VatHouseModel" "day" "[I") (List.mem_of_getElem? (i := 4) (by exact rfl))) (fun _ h9 => h9) rfl dX10_about_118 ?_
            refine lv_iload_n hx hb dX10_about_121 rfl (lv_at hl 1 rfl) ?_
            refine va_iald hx hb hK hP 12 11 rfl rfl (by assumption) dX10_about_122 ?_
            refine lv_topi (fun z_35 ez_35 => ?_)
            have ez_35 : z_35 = (a 16) ck.toNatClampNeg := ez_35
            exact M_i hx hb hr hlocks (x0_16) hP hD hK hS ⟨⟨_, rfl⟩, (by rw [show abS ck wt (i, a) = _ from (if_pos hz2_3.1).trans ((if_neg c_20).trans ((if_neg c_22).trans ((if_neg c_24).trans ((if_neg c_26).trans ((if_neg c_29).trans (if_pos c_34))))))]; exact ⟨hz2_18.2, fun h9 => (by rw [ez_35])⟩)⟩ (Nat.le_of_ble_eq_true rfl) (Nat.le_of_ble_eq_true rfl) dX10_about_123
          by_cases c_36 : wt = 6
          · refine lv_tableIn (tgt := 124) hx hb dX10_about_34 (by rw [c_36]; decide) (by rw [c_36]; decide) (by rw [c_36]; rfl) (by decide) ?_
            refine lv_aload_n hx hb dX10_about_124 rfl (lv_at hl 0 rfl) ?_
            refine va_get (D := (dC, dI)) (ci := 10) (v := .ref (b 17)) (C := RX10) (T := TX10) (N := 51) hx hb hts inw_X10_about_10 hown hK hP 0 rfl rfl 17 (by decide) (hts (.fieldLink RX10 47 "VatHouseModel" "vats" "[I") (List.mem_of_getElem? (i := 5) (by exact rfl))) (fun _ h9 => h9) rfl dX10_about_125 ?_
            refine lv_iload_n hx hb dX10_about_128 rfl (lv_at hl 1 rfl) ?_
            refine va_iald hx hb hK hP 13 12 rfl rfl (by assumption) dX10_about_129 ?_
            refine lv_topi (fun z_37 ez_37 => ?_)
            have ez_37 : z_37 = (a 17) ck.toNatClampNeg := ez_37
            exact M_i hx hb hr hlocks (x0_16) hP hD hK hS ⟨⟨_, rfl⟩, (by rw [show abS ck wt (i, a) = _ from (if_pos hz2_3.1).trans ((if_neg c_20).trans ((if_neg c_22).trans ((if_neg c_24).trans ((if_neg c_26).trans ((if_neg c_29).trans ((if_neg c_34).trans (if_pos c_36)))))))]; exact ⟨hz2_18.2, fun h9 => (by rw [ez_37])⟩)⟩ (Nat.le_of_ble_eq_true rfl) (Nat.le_of_ble_eq_true rfl) dX10_about_130
          refine lv_tableOut (tgt := 131) hx hb dX10_about_34 (tab_out7 c_20 c_22 c_24 c_26 c_29 c_34 c_36) (by decide) ?_
          refine lv_aload_n hx hb dX10_about_131 rfl (lv_at hl 0 rfl) ?_
          refine va_get (D := (dC, dI)) (ci := 10) (v := .ref (b 18)) (C := RX10) (T := TX10) (N := 51) hx hb hts inw_X10_about_10 hown hK hP 0 rfl rfl 18 (by decide) (hts (.fieldLink RX10 50 "VatHouseModel" "often" "[I") (List.mem_of_getElem? (i := 6) (by exact rfl))) (fun _ h9 => h9) rfl dX10_about_132 ?_
          refine lv_iload_n hx hb dX10_about_135 rfl (lv_at hl 1 rfl) ?_
          refine va_iald hx hb hK hP 14 13 rfl rfl (by assumption) dX10_about_136 ?_
          refine lv_topi (fun z_38 ez_38 => ?_)
          have ez_38 : z_38 = (a 18) ck.toNatClampNeg := ez_38
          exact M_i hx hb hr hlocks (x0_16) hP hD hK hS ⟨⟨_, rfl⟩, (by rw [show abS ck wt (i, a) = _ from (if_pos hz2_3.1).trans ((if_neg c_20).trans ((if_neg c_22).trans ((if_neg c_24).trans ((if_neg c_26).trans ((if_neg c_29).trans ((if_neg c_34).trans ((if_neg c_36).trans (if_pos (tabe7 c_6 c_11 c_20 c_22 c_24 c_26 c_29 c_34 c_36)))))))))]; exact ⟨hz2_18.2, fun h9 => (by rw [ez_38])⟩)⟩ (Nat.le_of_ble_eq_true rfl) (Nat.le_of_ble_eq_true rfl) dX10_about_137
