noncomputable abbrev rm_X10_blockT (j : Nat) (bl : Nat) (dp : Nat → Nat) (ln : Nat) (sq : SG) (T : TT) (k0 : Nat) : Room := { frames := 4 * j + 60, cells := 0, slots := 0, locals := 200 * j + 1000 }
noncomputable abbrev rm_X10_restT (j : Nat) (bl : Nat) (dp : Nat → Nat) (ln : Nat) (sq : SG) (T : TT) (k0 : Nat) (cw : Int32) : Room := { frames := 4 * j + 61, cells := 0, slots := 0, locals := 200 * j + 1040 }
noncomputable abbrev rm_X10_stepT (j : Nat) (bl : Nat) (dp : Nat → Nat) (ln : Nat) (sq : SG) (T : TT) : Room := { frames := 4 * j + 62, cells := 0, slots := 0, locals := 200 * j + 1080 }
noncomputable abbrev rm_X10_stepsT (j : Nat) (bl : Nat) (dp : Nat → Nat) (ln : Nat) (sq : SG) (T : TT) : Room := { frames := 4 * j + 63, cells := 0, slots := 0, locals := 200 * j + 1120 }
set_option maxHeartbeats 1000000 in
set_option maxRecDepth 100000 in
theorem m_X10_blockT (l : Launch) (dC : Nat → ClassId) (dI : Nat → Nat → Nat) (sa : Nat → Nat) (g : Nat → Nat) (h0 : Nat) (b : Nat → Nat) (j : Nat) (bl : Nat) (dp : Nat → Nat) (ln : Nat) (sq : SG) (T : TT) (k0 : Nat) (i : Nat → Int32) (a : Nat → Nat → Int32) (kk : Int32) (se : Int32) (sz : Nat) (hL : (i 21) = nI ln ∧ ln ≤ 1500) (hM : MI (a 19) ln sq (i 22) (i 23) (i 24)) (hn36 : (i 36) = nI sq.2.1) (hPN : PN (i 36) dp (a 26) (a 27) (a 31) (a 32) (a 33)) (hBL : (i 38) = nI bl) (hj : bl + j = 8) (hn3 : sq.2.1 ≤ 300) (hRM : RM (Kp (a 19) ln) T sq.2.1 (a 26) (a 31) (a 32) (a 33)) (hnode : ∃ q0 : Nat, kk = nI q0 ∧ PV (i 36) q0 ∧ dp q0 = bl) (hkb : kk = nI (2400 + k0) ∧ k0 < sq.2.1) (IHS : ∀ j' bl' : Nat, bl' + j' = 8 → j = j' + 1 → ∀ (dp : Nat → Nat) (ln : Nat) (sq : SG) (T : TT) (i : Nat → Int32) (a : Nat → Nat → Int32) (ib : Int32) (sz : Nat) (hL : (i 21) = nI ln ∧ ln ≤ 1500) (hM : MI (a 19) ln sq (i 22) (i 23) (i 24)) (hn36 : (i 36) = nI sq.2.1) (hPN : PN (i 36) dp (a 26) (a 27) (a 31) (a 32) (a 33)) (hBL : (i 38) = nI bl') (hn3 : sq.2.1 ≤ 300) (hRM : RM (Kp (a 19) ln) T sq.2.1 (a 26) (a 31) (a 32) (a 33)), CT l dC dI sa yX10_steps wsX10_steps (rm_X10_stepsT j' bl' dp ln sq T) [.ref h0, .int ib] (mw g h0 b i a) (tyM g) sz (fun (r : Option Value) (u : Int32 × Int32 × Int32 × Int32 × Int32 × (Nat → Int32) × (Nat → Int32) × (Nat → Int32) × (Nat → Int32) × (Nat → Int32) × (Nat → Int32) × (Nat → Int32) × (Nat → Int32)) => match u with | (x22, x23, x24, x25, x36, y26, y27, y28, y29, y30, y31, y32, y33) => (∃ z : Int32, r = some (.int z)) ∧ (∃ dpN : Nat → Nat, PR (i 36) x36 dp dpN (a 26) (a 27) (a 31) (a 32) (a 33) y26 y27 y31 y32 y33 ∧ KP3 (a 28) (a 29) (a 30) y28 y29 y30 ∧ (∀ z : Int32, r = some (.int z) → (z = -2 ∧ ∃ rn : SG, ST (Kp (a 19) ln) (Vp (a 19) ln) (nq (a 19) ln) bl' (if ib = 0 then (0 : Int32) else 125) sq rn ∧ MO rn x23 x24) ∨ (lk (PV x36) dpN bl' z ∧ ∃ (r1 : SG) (TN : TT), EvT (Kp (a 19) ln) (Vp (a 19) ln) (nq (a 19) ln) 0 bl' 0 (sq, T) (r1, TN) ∧ z = lkm 2400 (thd sq.2.1 r1.2.1) ∧ MI (a 19) ln (gpa (Kp (a 19) ln) (nq (a 19) ln) (if ib = 0 then (0 : Int32) else 125) r1) x22 x23 x24 ∧ x36 = nI r1.2.1 ∧ TQ (Kp (a 19) ln) (Vp (a 19) ln) (nq (a 19) ln) TN sq.2.1 r1.2.1 (a 27) (a 28) (a 29) (a 30) y26 y27 y28 y29 y30 y31 y32 y33)))) (fun (u : Int32 × Int32 × Int32 × Int32 × Int32 × (Nat → Int32) × (Nat → Int32) × (Nat → Int32) × (Nat → Int32) × (Nat → Int32) × (Nat → Int32) × (Nat → Int32) × (Nat → Int32)) => match u with | (x22, x23, x24, x25, x36, y26, y27, y28, y29, y30, y31, y32, y33) => mw g h0 b (va_up (va_up (va_up (va_up (va_up i 22 x22) 23 x23) 24 x24) 25 x25) 36 x36) (va_up (va_up (va_up (va_up (va_up (va_up (va_up (va_up a 26 y26) 27 y27) 28 y28) 29 y29) 30 y30) 31 y31) 32 y32) 33 y33)) (fun _ => []) 0 0) : CT l dC dI sa yX10_block wsX10_block (rm_X10_blockT j bl dp ln sq T k0) [.ref h0, .int kk, .int se] (mw g h0 b i a) (tyM g) sz (fun (r : Option Value) (u : Int32 × Int32 × Int32 × Int32 × Int32 × (Nat → Int32) × (Nat → Int32) × (Nat → Int32) × (Nat → Int32) × (Nat → Int32) × (Nat → Int32) × (Nat → Int32) × (Nat → Int32)) => match u with | (x22, x23, x24, x25, x36, y26, y27, y28, y29, y30, y31, y32, y33) => ((r = some (.int 0) ∧ (∃ rn : SG, Ev (Kp (a 19) ln) (Vp (a 19) ln) (nq (a 19) ln) 2 bl sq rn ∧ MO rn x23 x24)) ∨ (r = some (.int 1) ∧ (∃ (rn : SG) (TN : TT), EvT (Kp (a 19) ln) (Vp (a 19) ln) (nq (a 19) ln) 2 bl 0 (sq, T) (rn, TN) ∧ MI (a 19) ln rn x22 x23 x24 ∧ x36 = nI rn.2.1 ∧ TQ (Kp (a 19) ln) (Vp (a 19) ln) (nq (a 19) ln) (tset TN (if se = 0 then 1 else 2) k0 (thd sq.2.1 rn.2.1)) sq.2.1 rn.2.1 (a 27) (a 28) (a 29) (a 30) y26 y27 y28 y29 y30 y31 y32 y33))) ∧ (∃ dpN : Nat → Nat, PR (i 36) x36 dp dpN (a 26) (a 27) (a 31) (a 32) (a 33) y26 y27 y31 y32 y33 ∧ KP3 (a 28) (a 29) (a 30) y28 y29 y30)) (fun (u : Int32 × Int32 × Int32 × Int32 × Int32 × (Nat → Int32) × (Nat → Int32) × (Nat → Int32) × (Nat → Int32) × (Nat → Int32) × (Nat → Int32) × (Nat → Int32) × (Nat → Int32)) => match u with | (x22, x23, x24, x25, x36, y26, y27, y28, y29, y30, y31, y32, y33) => mw g h0 b (va_up (va_up (va_up (va_up (va_up i 22 x22) 23 x23) 24 x24) 25 x25) 36 x36) (va_up (va_up (va_up (va_up (va_up (va_up (va_up (va_up a 26 y26) 27 y27) 28 y28) 29 y29) 30 y30) 31 y31) 32 y32) 33 y33)) (fun _ => []) 0 0 := by
  refine CT.start (cc := cX10_block) (maxL := 4) (ret := (some .boolean)) (by decide) rfl (Nat.le_of_ble_eq_true rfl) ?_
  intro p e s m below meth c ls hst hP hK hD hev hS hl
  obtain ⟨hx, hb, hr, hml, hts, hown, hlocks, hin⟩ := hst
  have hown : s.vm.findClass RX10 = some m.cls := hown
  have hA : ∀ q : Nat, s.heap.size ≤ q → va_A (mw g h0 b i a) s.heap.size q := fun _ h => Or.inr h
  have hl : lv_has ls 4 [(0, .ref h0), (1, .int kk), (2, .int se)] := hl
  obtain ⟨q, hq, hVq, hdq⟩ := hnode
  have hq27 := (hPN.2.2 q hVq).1
  have hkq : kk.toNatClampNeg = q := by rw [hq]; exact nI_clamp (by omega)
  have hk : vp_in kk 2700 := by rw [hq]; exact vp_in_nI hq27 (by decide)
  refine lv_aload_n hx hb dX10_block_0 rfl (lv_at hl 0 rfl) ?_
  refine lv_bipush (v := 123) hx hb dX10_block_1 (by decide) ?_
  refine M_V ⟨hx, hb, hml, hown, hts⟩ (m_X10_isSign l dC dI sa g h0 b ln sq i a (123 : Int32) _ hL hM (by decide)) (cwV 1 hts gX10_block_X10_isSign rfl rfl rfl (by decide +kernel) ⟨(by first | exact Nat.le_of_ble_eq_true rfl | (simp only [rm_X10_isSign, rm_X10_blockT]; omega)), (by first | exact Nat.le_of_ble_eq_true rfl | (simp only [rm_X10_isSign, rm_X10_blockT]; omega))⟩) hP hD hK hS hA hev rfl rfl rfl rfl hl.1 rfl (Nat.le_of_ble_eq_true rfl) dX10_block_3 ⟨(by first | exact Nat.le_of_ble_eq_true rfl | (simp only [rm_X10_blockT]; omega)), (by first | exact Nat.le_of_ble_eq_true rfl | (simp only [rm_X10_blockT]; omega))⟩ (fun r u H locs hw hP hD hS => ?_)
  obtain ⟨x22_1, rfl⟩ : ∃ z, z = u := ⟨_, rfl⟩
  have hw : ((r = some (.int 0) ∧ (¬ Kp (a 19) ln sq.1 = (123 : Int32))) ∨ (r = some (.int 1) ∧ (sq.1 < ln ∧ Kp (a 19) ln sq.1 = (123 : Int32)))) ∧ (x22_1 = nI sq.1) := hw
  obtain ⟨⟨rfl, hz2_3⟩ | ⟨rfl, hz2_3⟩, hw_2⟩ := hw
  · have hP : va_P (dC, dI) vwCl (mw g h0 b (va_up i 22 x22_1) a) _ := hP
    have hD : va_D _ (mw g h0 b (va_up i 22 x22_1) a) := hD
    refine W.eq (g2 := F0 m 6 ls [.int 0]) rfl ?_
    have hmq_4 : MI (a 19) ln sq x22_1 (i 23) (i 24) := (hM).sk hw_2
    refine lv_if_ne (tgt := 19) hx hb dX10_block_6 (by decide) (fun c_5 => absurd c_5 (by decide)) (fun _ => ?_)
    refine lv_aload_n hx hb dX10_block_9 rfl (lv_at hl 0 rfl) ?_
    refine lv_iconst (v := 1) hx hb dX10_block_10 (by decide) ?_
    refine lv_aload_n hx hb dX10_block_11 rfl (lv_at hl 0 rfl) ?_
    refine va_get (D := (dC, dI)) (ci := 10) (v := .int x22_1) (C := RX10) (T := TX10) (N := 51) hx hb hts inw_X10_block_10 hown hK hP 0 rfl rfl 22 (by decide) (hts (.fieldLink RX10 168 "VatHouseModel" "at" "I") (List.mem_of_getElem? (i := 1) (by exact rfl))) (fun _ h9 => h9) rfl dX10_block_12 ?_
    refine M_V ⟨hx, hb, hml, hown, hts⟩ (m_X10_wrong l dC dI sa g h0 b (va_up i 22 x22_1) a (1 : Int32) x22_1 _ (hmq_4).1) (cwV 2 hts gX10_block_X10_wrong rfl rfl rfl (by decide +kernel) ⟨(by first | exact Nat.le_of_ble_eq_true rfl | (simp only [rm_X10_wrong, rm_X10_blockT]; omega)), (by first | exact Nat.le_of_ble_eq_true rfl | (simp only [rm_X10_wrong, rm_X10_blockT]; omega))⟩) hP hD hK hS hA hev rfl rfl rfl rfl hl.1 rfl (Nat.le_of_ble_eq_true rfl) dX10_block_15 ⟨(by first | exact Nat.le_of_ble_eq_true rfl | (simp only [rm_X10_blockT]; omega)), (by first | exact Nat.le_of_ble_eq_true rfl | (simp only [rm_X10_blockT]; omega))⟩ (fun r u H locs hw hP hD hS => ?_)
    obtain ⟨x23_6, x24_7⟩ := u
    have hw : ((r = some (.int 0) ∧ (x23_6 = (1 : Int32) ∧ x24_7 = x22_1)) ∨ (r = some (.int 1) ∧ (False))) ∧ (True) := hw
    obtain ⟨⟨rfl, hz2_9⟩ | ⟨rfl, hz2_9⟩, hw_8⟩ := hw
    · have hP : va_P (dC, dI) vwCl (mw g h0 b (va_up (va_up (va_up i 22 x22_1) 23 x23_6) 24 x24_7) a) _ := hP
      have hD : va_D _ (mw g h0 b (va_up (va_up (va_up i 22 x22_1) 23 x23_6) 24 x24_7) a) := hD
      refine W.eq (g2 := F0 m 18 ls [.int 0]) rfl ?_
      exact M_z hx hb hr rfl hlocks (x22_1, x23_6, x24_7, (i 25), (i 36), (a 26), (a 27), (a 28), (a 29), (a 30), (a 31), (a 32), (a 33)) hP hD hK hS ⟨Or.inl ⟨rfl, (hmq_4).bk1 bl hz2_3 hz2_9.1 (hz2_9.2.trans hw_2)⟩, ⟨dp, (PR.rf hPN), KP3.rf⟩⟩ (by first | exact Nat.le_of_ble_eq_true rfl | (simp only [rm_X10_blockT]; omega)) (by first | exact Nat.le_of_ble_eq_true rfl | (simp only [rm_X10_blockT]; omega)) dX10_block_18
    · have hP : va_P (dC, dI) vwCl (mw g h0 b (va_up (va_up (va_up i 22 x22_1) 23 x23_6) 24 x24_7) a) _ := hP
      have hD : va_D _ (mw g h0 b (va_up (va_up (va_up i 22 x22_1) 23 x23_6) 24 x24_7) a) := hD
      refine W.eq (g2 := F0 m 18 ls [.int 1]) rfl ?_
      exact hz2_9.elim
  · have hP : va_P (dC, dI) vwCl (mw g h0 b (va_up i 22 x22_1) a) _ := hP
    have hD : va_D _ (mw g h0 b (va_up i 22 x22_1) a) := hD
    refine W.eq (g2 := F0 m 6 ls [.int 1]) rfl ?_
    have hmq_10 : MI (a 19) ln sq x22_1 (i 23) (i 24) := (hM).sk hw_2
    refine lv_if_ne (tgt := 19) hx hb dX10_block_6 (by decide) (fun _ => ?_) (fun c_11 => absurd c_11 (by decide))
    refine lv_aload_n hx hb dX10_block_19 rfl (lv_at hl 0 rfl) ?_
    refine va_get (D := (dC, dI)) (ci := 10) (v := .int (i 38)) (C := RX10) (T := TX10) (N := 51) hx hb hts inw_X10_block_10 hown hK hP 0 rfl rfl 38 (by decide) (hts (.fieldLink RX10 277 "VatHouseModel" "blocks" "I") (List.mem_of_getElem? (i := 2) (by exact rfl))) (fun _ h9 => h9) rfl dX10_block_20 ?_
    refine lv_bipush (v := 8) hx hb dX10_block_23 (by decide) ?_
    refine lv_icmp_ne (tgt := 38) hx hb dX10_block_25 (by decide) (fun c_12 => ?_) (fun c_12 => ?_)
    · have nc_12 := ne_i c_12
      have lc_12 : (8 : Int32).toInt = 8 := by decide
      refine lv_aload_n hx hb dX10_block_38 rfl (lv_at hl 0 rfl) ?_
      refine lv_dup hx hb dX10_block_39 rfl ?_
      refine va_get (D := (dC, dI)) (ci := 10) (v := .int (i 38)) (C := RX10) (T := TX10) (N := 51) hx hb hts inw_X10_block_10 hown hK hP 0 rfl rfl 38 (by decide) (hts (.fieldLink RX10 277 "VatHouseModel" "blocks" "I") (List.mem_of_getElem? (i := 2) (by exact rfl))) (fun _ h9 => h9) rfl dX10_block_40 ?_
      refine lv_iconst (v := 1) hx hb dX10_block_43 (by decide) ?_
      refine lv_iadd hx hb dX10_block_44 ?_
      refine lv_topi (fun z_13 ez_13 => ?_)
      refine va_put (D := (dC, dI)) (ci := 10) (v := .int z_13) (ty := .int) (C := RX10) (T := TX10) (N := 51) hx hb hts inw_X10_block_10 tyX10 tyX10_ok nmX10 hown hK hP hD hS 0 rfl rfl 38 (by decide) (hts (.fieldLink RX10 277 "VatHouseModel" "blocks" "I") (List.mem_of_getElem? (i := 2) (by exact rfl))) (fun _ h9 => h9) rfl (tyX10_ok 38 (by decide)) rfl rfl (Nat.le_of_ble_eq_true rfl) dX10_block_45 (fun H locs hP hD hS => ?_)
      have hP : va_P (dC, dI) vwCl (mw g h0 b (va_up (va_up i 22 x22_1) 38 z_13) a) _ := hP
      have hD : va_D _ (mw g h0 b (va_up (va_up i 22 x22_1) 38 z_13) a) := hD
      refine lv_aload_n hx hb dX10_block_48 rfl (lv_at hl 0 rfl) ?_
      refine lv_dup hx hb dX10_block_49 rfl ?_
      refine va_get (D := (dC, dI)) (ci := 10) (v := .int x22_1) (C := RX10) (T := TX10) (N := 51) hx hb hts inw_X10_block_10 hown hK hP 0 rfl rfl 22 (by decide) (hts (.fieldLink RX10 168 "VatHouseModel" "at" "I") (List.mem_of_getElem? (i := 1) (by exact rfl))) (fun _ h9 => h9) rfl dX10_block_50 ?_
      refine lv_iconst (v := 1) hx hb dX10_block_53 (by decide) ?_
      refine lv_iadd hx hb dX10_block_54 ?_
      refine lv_topi (fun z_14 ez_14 => ?_)
      refine va_put (D := (dC, dI)) (ci := 10) (v := .int z_14) (ty := .int) (C := RX10) (T := TX10) (N := 51) hx hb hts inw_X10_block_10 tyX10 tyX10_ok nmX10 hown hK hP hD hS 0 rfl rfl 22 (by decide) (hts (.fieldLink RX10 168 "VatHouseModel" "at" "I") (List.mem_of_getElem? (i := 1) (by exact rfl))) (fun _ h9 => h9) rfl (tyX10_ok 22 (by decide)) rfl rfl (Nat.le_of_ble_eq_true rfl) dX10_block_55 (fun H locs hP hD hS => ?_)
      have hP : va_P (dC, dI) vwCl (mw g h0 b (va_up (va_up i 22 z_14) 38 z_13) a) _ := hP
      have hD : va_D _ (mw g h0 b (va_up (va_up i 22 z_14) 38 z_13) a) := hD
      have hd8 : ¬ 8 ≤ bl := by obtain ⟨j1, h9⟩ := lv8b hBL c_12 hj; omega
      have hmq_15 : MI (a 19) ln (gob (Kp (a 19) ln) (nq (a 19) ln) bl sq) z_14 (i 23) (i 24) := (hmq_10).bk3 hz2_3.2 hz2_3.1 hd8 (by rw [ez_14, hw_2, nx_sign (by decide) ((Kp_sign (by decide)).mp hz2_3.2).2]; exact nI_1 _)
      refine lv_aload_n hx hb dX10_block_58 rfl (lv_at hl 0 rfl) ?_
      refine lv_iconst (v := 1) hx hb dX10_block_59 (by decide) ?_
      obtain ⟨j1, hj_16⟩ := lv8b hBL c_12 hj
      refine M_V ⟨hx, hb, hml, hown, hts⟩ (IHS j1 (bl + 1) (by omega) hj_16 dp ln (gob (Kp (a 19) ln) (nq (a 19) ln) bl sq) T (va_up (va_up i 22 z_14) 38 z_13) a (1 : Int32) _ hL hmq_15 (by first | exact hn36 | (simp only [gpa_nd, gnu_nd, gpl_nd, gte_nd, gob_nd, grf_nd]; exact hn36)) hPN (by show z_13 = nI (bl + 1); rw [ez_13, hBL]; exact nI_1 bl) (by first | exact hn3 | (simp only [gpa_nd, gnu_nd, gpl_nd, gte_nd, gob_nd, grf_nd]; exact hn3)) (by rw [gob_nd]; exact hRM)) (cwV 1 hts gX10_block_X10_steps rfl rfl rfl (by decide +kernel) ⟨(by first | exact Nat.le_of_ble_eq_true rfl | (simp only [rm_X10_stepsT, rm_X10_blockT]; omega)), (by first | exact Nat.le_of_ble_eq_true rfl | (simp only [rm_X10_stepsT, rm_X10_blockT]; omega))⟩) hP hD hK hS hA hev rfl rfl rfl rfl hl.1 rfl (Nat.le_of_ble_eq_true rfl) dX10_block_60 ⟨(by first | exact Nat.le_of_ble_eq_true rfl | (simp only [rm_X10_blockT]; omega)), (by first | exact Nat.le_of_ble_eq_true rfl | (simp only [rm_X10_blockT]; omega))⟩ (fun r u H locs hw hP hD hS => ?_)
      obtain ⟨x22_17, x23_18, x24_19, x25_20, x36_21, y26_22, y27_23, y28_24, y29_25, y30_26, y31_27, y32_28, y33_29⟩ := u
      have hw : (∃ z : Int32, r = some (.int z)) ∧ (∃ dpN : Nat → Nat, PR (i 36) x36_21 dp dpN (a 26) (a 27) (a 31) (a 32) (a 33) y26_22 y27_23 y31_27 y32_28 y33_29 ∧ KP3 (a 28) (a 29) (a 30) y28_24 y29_25 y30_26 ∧ (∀ z : Int32, r = some (.int z) → (z = -2 ∧ ∃ rn : SG, ST (Kp (a 19) ln) (Vp (a 19) ln) (nq (a 19) ln) (bl + 1) (if (1 : Int32) = 0 then (0 : Int32) else 125) (gob (Kp (a 19) ln) (nq (a 19) ln) bl sq) rn ∧ MO rn x23_18 x24_19) ∨ (lk (PV x36_21) dpN (bl + 1) z ∧ ∃ (r1 : SG) (TN : TT), EvT (Kp (a 19) ln) (Vp (a 19) ln) (nq (a 19) ln) 0 (bl + 1) 0 ((gob (Kp (a 19) ln) (nq (a 19) ln) bl sq), T) (r1, TN) ∧ z = lkm 2400 (thd (gob (Kp (a 19) ln) (nq (a 19) ln) bl sq).2.1 r1.2.1) ∧ MI (a 19) ln (gpa (Kp (a 19) ln) (nq (a 19) ln) (if (1 : Int32) = 0 then (0 : Int32) else 125) r1) x22_17 x23_18 x24_19 ∧ x36_21 = nI r1.2.1 ∧ TQ (Kp (a 19) ln) (Vp (a 19) ln) (nq (a 19) ln) TN (gob (Kp (a 19) ln) (nq (a 19) ln) bl sq).2.1 r1.2.1 (a 27) (a 28) (a 29) (a 30) y26_22 y27_23 y28_24 y29_25 y30_26 y31_27 y32_28 y33_29))) := hw
      obtain ⟨⟨z_31, rfl⟩, hw_30⟩ := hw
      have hP : va_P (dC, dI) vwCl (mw g h0 b (va_up (va_up (va_up (va_up (va_up (va_up i 22 x22_17) 23 x23_18) 24 x24_19) 25 x25_20) 36 x36_21) 38 z_13) (va_up (va_up (va_up (va_up (va_up (va_up (va_up (va_up a 26 y26_22) 27 y27_23) 28 y28_24) 29 y29_25) 30 y30_26) 31 y31_27) 32 y32_28) 33 y33_29)) _ := hP
      have hD : va_D _ (mw g h0 b (va_up (va_up (va_up (va_up (va_up (va_up i 22 x22_17) 23 x23_18) 24 x24_19) 25 x25_20) 36 x36_21) 38 z_13) (va_up (va_up (va_up (va_up (va_up (va_up (va_up (va_up a 26 y26_22) 27 y27_23) 28 y28_24) 29 y29_25) 30 y30_26) 31 y31_27) 32 y32_28) 33 y33_29)) := hD
      refine W.eq (g2 := F0 m 63 ls [.int z_31]) rfl ?_
      obtain ⟨dp_33, hPR_32, hk3_35, hres_34⟩ := hw_30
      have thk3_35 := KP3.tr (KP3.rf (f1 := (a 28)) (f2 := (a 29)) (f3 := (a 30))) hk3_35
      have hres_34 := hres_34 _ rfl
      have hpr_36 := PR.tr (PR.rf hPN) hPR_32
      rw [show (if (1 : Int32) = 0 then (0 : Int32) else 125) = 125 from if_neg (by decide)] at hres_34
      refine lv_istore_n (lv' := [(3, .int z_31), (0, .ref h0), (1, .int kk), (2, .int se)]) hx hb dX10_block_63 rfl hl (by decide) rfl (fun ls hl => ?_)
      refine lv_aload_n hx hb dX10_block_64 rfl (lv_at hl 1 rfl) ?_
      refine lv_dup hx hb dX10_block_65 rfl ?_
      refine va_get (D := (dC, dI)) (ci := 10) (v := .int z_13) (C := RX10) (T := TX10) (N := 51) hx hb hts inw_X10_block_10 hown hK hP 0 rfl rfl 38 (by decide) (hts (.fieldLink RX10 277 "VatHouseModel" "blocks" "I") (List.mem_of_getElem? (i := 2) (by exact rfl))) (fun _ h9 => h9) rfl dX10_block_66 ?_
      refine lv_iconst (v := 1) hx hb dX10_block_69 (by decide) ?_
      refine lv_isub hx hb dX10_block_70 ?_
      refine lv_topi (fun z_37 ez_37 => ?_)
      refine va_put (D := (dC, dI)) (ci := 10) (v := .int z_37) (ty := .int) (C := RX10) (T := TX10) (N := 51) hx hb hts inw_X10_block_10 tyX10 tyX10_ok nmX10 hown hK hP hD hS 0 rfl rfl 38 (by decide) (hts (.fieldLink RX10 277 "VatHouseModel" "blocks" "I") (List.mem_of_getElem? (i := 2) (by exact rfl))) (fun _ h9 => h9) rfl (tyX10_ok 38 (by decide)) rfl rfl (Nat.le_of_ble_eq_true rfl) dX10_block_71 (fun H locs hP hD hS => ?_)
      have hP : va_P (dC, dI) vwCl (mw g h0 b (va_up (va_up (va_up (va_up (va_up (va_up i 22 x22_17) 23 x23_18) 24 x24_19) 25 x25_20) 36 x36_21) 38 z_37) (va_up (va_up (va_up (va_up (va_up (va_up (va_up (va_up a 26 y26_22) 27 y27_23) 28 y28_24) 29 y29_25) 30 y30_26) 31 y31_27) 32 y32_28) 33 y33_29)) _ := hP
      have hD : va_D _ (mw g h0 b (va_up (va_up (va_up (va_up (va_up (va_up i 22 x22_17) 23 x23_18) 24 x24_19) 25 x25_20) 36 x36_21) 38 z_37) (va_up (va_up (va_up (va_up (va_up (va_up (va_up (va_up a 26 y26_22) 27 y27_23) 28 y28_24) 29 y29_25) 30 y30_26) 31 y31_27) 32 y32_28) 33 y33_29)) := hD
      obtain rfl : z_37 = i 38 := by rw [ez_37, ez_13]; exact Int32.add_sub_cancel _ _
      have hP : va_P (dC, dI) vwCl (mw g h0 b (va_up (va_up (va_up (va_up (va_up i 22 x22_17) 23 x23_18) 24 x24_19) 25 x25_20) 36 x36_21) (va_up (va_up (va_up (va_up (va_up (va_up (va_up (va_up a 26 y26_22) 27 y27_23) 28 y28_24) 29 y29_25) 30 y30_26) 31 y31_27) 32 y32_28) 33 y33_29)) _ := hP
      have hD : va_D _ (mw g h0 b (va_up (va_up (va_up (va_up (va_up i 22 x22_17) 23 x23_18) 24 x24_19) 25 x25_20) 36 x36_21) (va_up (va_up (va_up (va_up (va_up (va_up (va_up (va_up a 26 y26_22) 27 y27_23) 28 y28_24) 29 y29_25) 30 y30_26) 31 y31_27) 32 y32_28) 33 y33_29)) := hD
      refine lv_iload_n hx hb dX10_block_74 rfl (lv_at hl 0 rfl) ?_
      refine lv_bipush (v := (-2)) hx hb dX10_block_75 (by decide) ?_
      refine lv_icmp_ne (tgt := 82) hx hb dX10_block_77 (by decide) (fun c_38 => ?_) (fun c_38 => ?_)
      · have nc_38 := ne_i c_38
        have lc_38 : ((-2) : Int32).toInt = -2 := by decide
        refine lv_iload_n hx hb dX10_block_82 rfl (lv_at hl 3 rfl) ?_
        refine lv_if_eq (tgt := 96) hx hb dX10_block_83 (by decide) (fun c_39 => ?_) (fun c_39 => ?_)
        · have nc_39 := eq_i c_39
          have lc_39 : (0 : Int32).toInt = 0 := by decide
          refine lv_aload_n hx hb dX10_block_96 rfl (lv_at hl 1 rfl) ?_
          refine va_get (D := (dC, dI)) (ci := 10) (v := .ref (b 31)) (C := RX10) (T := TX10) (N := 51) hx hb hts inw_X10_block_10 hown hK hP 0 rfl rfl 31 (by decide) (hts (.fieldLink RX10 75 "VatHouseModel" "inner" "[I") (List.mem_of_getElem? (i := 4) (by exact rfl))) (fun _ h9 => h9) rfl dX10_block_97 ?_
          refine lv_iload_n hx hb dX10_block_100 rfl (lv_at hl 2 rfl) ?_
          refine lv_iload_n hx hb dX10_block_101 rfl (lv_at hl 0 rfl) ?_
          refine va_iast hx hb hK hP hD hS 21 20 rfl rfl (by assumption) dX10_block_102 (fun H locs hP hD hS => ?_)
          have hP : va_P (dC, dI) vwCl (mw g h0 b (va_up (va_up (va_up (va_up (va_up i 22 x22_17) 23 x23_18) 24 x24_19) 25 x25_20) 36 x36_21) (va_up (va_up (va_up (va_up (va_up (va_up (va_up (va_up a 26 y26_22) 27 y27_23) 28 y28_24) 29 y29_25) 30 y30_26) 31 (upd y31_27 kk.toNatClampNeg z_31)) 32 y32_28) 33 y33_29)) _ := hP
          have hD : va_D _ (mw g h0 b (va_up (va_up (va_up (va_up (va_up i 22 x22_17) 23 x23_18) 24 x24_19) 25 x25_20) 36 x36_21) (va_up (va_up (va_up (va_up (va_up (va_up (va_up (va_up a 26 y26_22) 27 y27_23) 28 y28_24) 29 y29_25) 30 y30_26) 31 (upd y31_27 kk.toNatClampNeg z_31)) 32 y32_28) 33 y33_29)) := hD
          obtain ⟨f_40, ef_40⟩ : ∃ z, z = (upd y31_27 kk.toNatClampNeg z_31) := ⟨_, rfl⟩
          rw [← ef_40] at hP hD
          have hnd := PR.nd hpr_36 hVq hdq
          have hp_41 := PN.inner hPR_32.2.1 hq hnd.1 (by rw [hnd.2]; exact (hres_34.resolve_left (fun h9 => c_38 h9.1)).1)
          rw [← ef_40] at hp_41
          have hpr_42 := PR.tr hpr_36 hp_41
          refine lv_iconst (v := 1) hx hb dX10_block_103 (by decide) ?_
          exact M_z hx hb hr rfl hlocks (x22_17, x23_18, x24_19, x25_20, x36_21, y26_22, y27_23, y28_24, y29_25, y30_26, f_40, y32_28, y33_29) hP hD hK hS ⟨Or.inr ⟨rfl, (by rcases hres_34 with ⟨h9, -⟩ | ⟨-, r1, TN, h1, h2, h3, h4, h5⟩; (exact absurd h9 c_38); (rw [gob_nd] at h2 h5; exact ⟨gpa (Kp (a 19) ln) (nq (a 19) ln) 125 r1, TN, EvT.block (s := (sq, T)) (r := (r1, TN)) (hmq_15).gob0 h1, h3, (by rw [gpa_nd]; exact h4), (by rw [gpa_nd, if_pos c_39, ef_40]; exact TQ.inn h5 (by rw [hkb.1]; exact nI_clamp (by omega)) h2)⟩))⟩, ⟨dp_33, hpr_42, thk3_35⟩⟩ (by first | exact Nat.le_of_ble_eq_true rfl | (simp only [rm_X10_blockT]; omega)) (by first | exact Nat.le_of_ble_eq_true rfl | (simp only [rm_X10_blockT]; omega)) dX10_block_104
        · have nc_39 := ne_i c_39
          have lc_39 : (0 : Int32).toInt = 0 := by decide
          refine lv_aload_n hx hb dX10_block_86 rfl (lv_at hl 1 rfl) ?_
          refine va_get (D := (dC, dI)) (ci := 10) (v := .ref (b 32)) (C := RX10) (T := TX10) (N := 51) hx hb hts inw_X10_block_10 hown hK hP 0 rfl rfl 32 (by decide) (hts (.fieldLink RX10 78 "VatHouseModel" "other" "[I") (List.mem_of_getElem? (i := 3) (by exact rfl))) (fun _ h9 => h9) rfl dX10_block_87 ?_
          refine lv_iload_n hx hb dX10_block_90 rfl (lv_at hl 2 rfl) ?_
          refine lv_iload_n hx hb dX10_block_91 rfl (lv_at hl 0 rfl) ?_
          refine va_iast hx hb hK hP hD hS 22 21 rfl rfl (by assumption) dX10_block_92 (fun H locs hP hD hS => ?_)
          have hP : va_P (dC, dI) vwCl (mw g h0 b (va_up (va_up (va_up (va_up (va_up i 22 x22_17) 23 x23_18) 24 x24_19) 25 x25_20) 36 x36_21) (va_up (va_up (va_up (va_up (va_up (va_up (va_up (va_up a 26 y26_22) 27 y27_23) 28 y28_24) 29 y29_25) 30 y30_26) 31 y31_27) 32 (upd y32_28 kk.toNatClampNeg z_31)) 33 y33_29)) _ := hP
          have hD : va_D _ (mw g h0 b (va_up (va_up (va_up (va_up (va_up i 22 x22_17) 23 x23_18) 24 x24_19) 25 x25_20) 36 x36_21) (va_up (va_up (va_up (va_up (va_up (va_up (va_up (va_up a 26 y26_22) 27 y27_23) 28 y28_24) 29 y29_25) 30 y30_26) 31 y31_27) 32 (upd y32_28 kk.toNatClampNeg z_31)) 33 y33_29)) := hD
          obtain ⟨f_43, ef_43⟩ : ∃ z, z = (upd y32_28 kk.toNatClampNeg z_31) := ⟨_, rfl⟩
          rw [← ef_43] at hP hD
          refine lv_goto (tgt := 103) hx hb dX10_block_93 (by decide) ?_
          have hnd := PR.nd hpr_36 hVq hdq
          have hp_44 := PN.other hPR_32.2.1 hq hnd.1 (by rw [hnd.2]; exact (hres_34.resolve_left (fun h9 => c_38 h9.1)).1)
          rw [← ef_43] at hp_44
          have hpr_45 := PR.tr hpr_36 hp_44
          refine lv_iconst (v := 1) hx hb dX10_block_103 (by decide) ?_
          exact M_z hx hb hr rfl hlocks (x22_17, x23_18, x24_19, x25_20, x36_21, y26_22, y27_23, y28_24, y29_25, y30_26, y31_27, f_43, y33_29) hP hD hK hS ⟨Or.inr ⟨rfl, (by rcases hres_34 with ⟨h9, -⟩ | ⟨-, r1, TN, h1, h2, h3, h4, h5⟩; (exact absurd h9 c_38); (rw [gob_nd] at h2 h5; exact ⟨gpa (Kp (a 19) ln) (nq (a 19) ln) 125 r1, TN, EvT.block (s := (sq, T)) (r := (r1, TN)) (hmq_15).gob0 h1, h3, (by rw [gpa_nd]; exact h4), (by rw [gpa_nd, if_neg c_39, ef_43]; exact TQ.ot h5 (by rw [hkb.1]; exact nI_clamp (by omega)) h2)⟩))⟩, ⟨dp_33, hpr_45, thk3_35⟩⟩ (by first | exact Nat.le_of_ble_eq_true rfl | (simp only [rm_X10_blockT]; omega)) (by first | exact Nat.le_of_ble_eq_true rfl | (simp only [rm_X10_blockT]; omega)) dX10_block_104
      · have nc_38 := eq_i c_38
        have lc_38 : ((-2) : Int32).toInt = -2 := by decide
        refine lv_iconst (v := 0) hx hb dX10_block_80 (by decide) ?_
        exact M_z hx hb hr rfl hlocks (x22_17, x23_18, x24_19, x25_20, x36_21, y26_22, y27_23, y28_24, y29_25, y30_26, y31_27, y32_28, y33_29) hP hD hK hS ⟨Or.inl ⟨rfl, (by rcases hres_34 with ⟨-, rn, h1, h2⟩ | ⟨h1, -⟩; exact ⟨rn, ST.bk (hmq_15).gob0 h1, h2⟩; exact absurd c_38 (lk.ne2 hPR_32.2.1.2.2 h1))⟩, ⟨dp_33, hpr_36, thk3_35⟩⟩ (by first | exact Nat.le_of_ble_eq_true rfl | (simp only [rm_X10_blockT]; omega)) (by first | exact Nat.le_of_ble_eq_true rfl | (simp only [rm_X10_blockT]; omega)) dX10_block_81
    · have nc_12 := eq_i c_12
      have lc_12 : (8 : Int32).toInt = 8 := by decide
      refine lv_aload_n hx hb dX10_block_28 rfl (lv_at hl 0 rfl) ?_
      refine lv_iconst (v := 2) hx hb dX10_block_29 (by decide) ?_
      refine lv_aload_n hx hb dX10_block_30 rfl (lv_at hl 0 rfl) ?_
      refine va_get (D := (dC, dI)) (ci := 10) (v := .int x22_1) (C := RX10) (T := TX10) (N := 51) hx hb hts inw_X10_block_10 hown hK hP 0 rfl rfl 22 (by decide) (hts (.fieldLink RX10 168 "VatHouseModel" "at" "I") (List.mem_of_getElem? (i := 1) (by exact rfl))) (fun _ h9 => h9) rfl dX10_block_31 ?_
      refine M_V ⟨hx, hb, hml, hown, hts⟩ (m_X10_wrong l dC dI sa g h0 b (va_up i 22 x22_1) a (2 : Int32) x22_1 _ (hmq_10).1) (cwV 2 hts gX10_block_X10_wrong rfl rfl rfl (by decide +kernel) ⟨(by first | exact Nat.le_of_ble_eq_true rfl | (simp only [rm_X10_wrong, rm_X10_blockT]; omega)), (by first | exact Nat.le_of_ble_eq_true rfl | (simp only [rm_X10_wrong, rm_X10_blockT]; omega))⟩) hP hD hK hS hA hev rfl rfl rfl rfl hl.1 rfl (Nat.le_of_ble_eq_true rfl) dX10_block_34 ⟨(by first | exact Nat.le_of_ble_eq_true rfl | (simp only [rm_X10_blockT]; omega)), (by first | exact Nat.le_of_ble_eq_true rfl | (simp only [rm_X10_blockT]; omega))⟩ (fun r u H locs hw hP hD hS => ?_)
      obtain ⟨x23_46, x24_47⟩ := u
      have hw : ((r = some (.int 0) ∧ (x23_46 = (2 : Int32) ∧ x24_47 = x22_1)) ∨ (r = some (.int 1) ∧ (False))) ∧ (True) := hw
      obtain ⟨⟨rfl, hz2_49⟩ | ⟨rfl, hz2_49⟩, hw_48⟩ := hw
      · have hP : va_P (dC, dI) vwCl (mw g h0 b (va_up (va_up (va_up i 22 x22_1) 23 x23_46) 24 x24_47) a) _ := hP
        have hD : va_D _ (mw g h0 b (va_up (va_up (va_up i 22 x22_1) 23 x23_46) 24 x24_47) a) := hD
        refine W.eq (g2 := F0 m 37 ls [.int 0]) rfl ?_
        exact M_z hx hb hr rfl hlocks (x22_1, x23_46, x24_47, (i 25), (i 36), (a 26), (a 27), (a 28), (a 29), (a 30), (a 31), (a 32), (a 33)) hP hD hK hS ⟨Or.inl ⟨rfl, (hmq_10).bk2 hz2_3.2 (by have h9 := hBL.symm.trans c_12; have h9 : nI bl = nI 8 := h9; rw [nI_eq (by omega) (by omega)] at h9; omega) hz2_49.1 (hz2_49.2.trans hw_2)⟩, ⟨dp, (PR.rf hPN), KP3.rf⟩⟩ (by first | exact Nat.le_of_ble_eq_true rfl | (simp only [rm_X10_blockT]; omega)) (by first | exact Nat.le_of_ble_eq_true rfl | (simp only [rm_X10_blockT]; omega)) dX10_block_37
      · have hP : va_P (dC, dI) vwCl (mw g h0 b (va_up (va_up (va_up i 22 x22_1) 23 x23_46) 24 x24_47) a) _ := hP
        have hD : va_D _ (mw g h0 b (va_up (va_up (va_up i 22 x22_1) 23 x23_46) 24 x24_47) a) := hD
        refine W.eq (g2 := F0 m 37 ls [.int 1]) rfl ?_
        exact hz2_49.elim
