theorem nI_2400 {z x : Int32} {n : Nat} (e : z = 2400 + x) (h : x = nI n) : z = nI (2400 + n) := by
  rw [e, h]
  exact nI_add 2400 n
theorem lkm_1 {n : Nat} : lkm 2400 (n + 1) = nI (2400 + n) := if_neg (by omega)
theorem thd_lt {n m : Nat} (h : n < m) : thd n m = n + 1 := if_neg (by omega)
theorem thd_eq {n : Nat} : thd n n = 0 := if_pos rfl

set_option maxHeartbeats 1000000 in
set_option maxRecDepth 100000 in
theorem m_X10_stepT (l : Launch) (dC : Nat → ClassId) (dI : Nat → Nat → Nat) (sa : Nat → Nat) (g : Nat → Nat) (h0 : Nat) (b : Nat → Nat) (j : Nat) (bl : Nat) (dp : Nat → Nat) (ln : Nat) (sq : SG) (T : TT) (i : Nat → Int32) (a : Nat → Nat → Int32) (sz : Nat) (hL : (i 21) = nI ln ∧ ln ≤ 1500) (hM : MI (a 19) ln sq (i 22) (i 23) (i 24)) (hn36 : (i 36) = nI sq.2.1) (hPN : PN (i 36) dp (a 26) (a 27) (a 31) (a 32) (a 33)) (hBL : (i 38) = nI bl) (hj : bl + j = 8) (hn3 : sq.2.1 ≤ 300) (hRM : RM (Kp (a 19) ln) T sq.2.1 (a 26) (a 31) (a 32) (a 33)) (IHS : ∀ j' bl' : Nat, bl' + j' = 8 → j = j' + 1 → ∀ (dp : Nat → Nat) (ln : Nat) (sq : SG) (T : TT) (i : Nat → Int32) (a : Nat → Nat → Int32) (ib : Int32) (sz : Nat) (hL : (i 21) = nI ln ∧ ln ≤ 1500) (hM : MI (a 19) ln sq (i 22) (i 23) (i 24)) (hn36 : (i 36) = nI sq.2.1) (hPN : PN (i 36) dp (a 26) (a 27) (a 31) (a 32) (a 33)) (hBL : (i 38) = nI bl') (hn3 : sq.2.1 ≤ 300) (hRM : RM (Kp (a 19) ln) T sq.2.1 (a 26) (a 31) (a 32) (a 33)), CT l dC dI sa yX10_steps wsX10_steps (rm_X10_stepsT j' bl' dp ln sq T) [.ref h0, .int ib] (mw g h0 b i a) (tyM g) sz (fun (r : Option Value) (u : Int32 × Int32 × Int32 × Int32 × Int32 × (Nat → Int32) × (Nat → Int32) × (Nat → Int32) × (Nat → Int32) × (Nat → Int32) × (Nat → Int32) × (Nat → Int32) × (Nat → Int32)) => match u with | (x22, x23, x24, x25, x36, y26, y27, y28, y29, y30, y31, y32, y33) => (∃ z : Int32, r = some (.int z)) ∧ (∃ dpN : Nat → Nat, PR (i 36) x36 dp dpN (a 26) (a 27) (a 31) (a 32) (a 33) y26 y27 y31 y32 y33 ∧ KP3 (a 28) (a 29) (a 30) y28 y29 y30 ∧ (∀ z : Int32, r = some (.int z) → (z = -2 ∧ ∃ rn : SG, ST (Kp (a 19) ln) (Vp (a 19) ln) (nq (a 19) ln) bl' (if ib = 0 then (0 : Int32) else 125) sq rn ∧ MO rn x23 x24) ∨ (lk (PV x36) dpN bl' z ∧ ∃ (r1 : SG) (TN : TT), EvT (Kp (a 19) ln) (Vp (a 19) ln) (nq (a 19) ln) 0 bl' 0 (sq, T) (r1, TN) ∧ z = lkm 2400 (thd sq.2.1 r1.2.1) ∧ MI (a 19) ln (gpa (Kp (a 19) ln) (nq (a 19) ln) (if ib = 0 then (0 : Int32) else 125) r1) x22 x23 x24 ∧ x36 = nI r1.2.1 ∧ TQ (Kp (a 19) ln) (Vp (a 19) ln) (nq (a 19) ln) TN sq.2.1 r1.2.1 (a 27) (a 28) (a 29) (a 30) y26 y27 y28 y29 y30 y31 y32 y33)))) (fun (u : Int32 × Int32 × Int32 × Int32 × Int32 × (Nat → Int32) × (Nat → Int32) × (Nat → Int32) × (Nat → Int32) × (Nat → Int32) × (Nat → Int32) × (Nat → Int32) × (Nat → Int32)) => match u with | (x22, x23, x24, x25, x36, y26, y27, y28, y29, y30, y31, y32, y33) => mw g h0 b (va_up (va_up (va_up (va_up (va_up i 22 x22) 23 x23) 24 x24) 25 x25) 36 x36) (va_up (va_up (va_up (va_up (va_up (va_up (va_up (va_up a 26 y26) 27 y27) 28 y28) 29 y29) 30 y30) 31 y31) 32 y32) 33 y33)) (fun _ => []) 0 0) : CT l dC dI sa yX10_step wsX10_step (rm_X10_stepT j bl dp ln sq T) [.ref h0] (mw g h0 b i a) (tyM g) sz (fun (r : Option Value) (u : Int32 × Int32 × Int32 × Int32 × Int32 × (Nat → Int32) × (Nat → Int32) × (Nat → Int32) × (Nat → Int32) × (Nat → Int32) × (Nat → Int32) × (Nat → Int32) × (Nat → Int32)) => match u with | (x22, x23, x24, x25, x36, y26, y27, y28, y29, y30, y31, y32, y33) => (∃ z : Int32, r = some (.int z)) ∧ (∃ dpN : Nat → Nat, PR (i 36) x36 dp dpN (a 26) (a 27) (a 31) (a 32) (a 33) y26 y27 y31 y32 y33 ∧ KP3 (a 28) (a 29) (a 30) y28 y29 y30 ∧ (∀ z : Int32, r = some (.int z) → (z = -1 ∧ ∃ rn : SG, SXx (Kp (a 19) ln) (Vp (a 19) ln) (nq (a 19) ln) bl sq rn ∧ MO rn x23 x24) ∨ ((∃ q : Nat, z = nI q ∧ PV x36 q ∧ dpN q = bl) ∧ (i 36).toInt < x36.toInt ∧ z = nI (2400 + sq.2.1) ∧ (1 ≤ Kp (a 19) ln sq.1 ∧ Kp (a 19) ln sq.1 ≤ 12) ∧ ∃ (rn : SG) (TN : TT), EvT (Kp (a 19) ln) (Vp (a 19) ln) (nq (a 19) ln) 1 bl 0 (sq, T) (rn, TN) ∧ MI (a 19) ln rn x22 x23 x24 ∧ x36 = nI rn.2.1 ∧ TQ (Kp (a 19) ln) (Vp (a 19) ln) (nq (a 19) ln) TN sq.2.1 rn.2.1 (a 27) (a 28) (a 29) (a 30) y26 y27 y28 y29 y30 y31 y32 y33)))) (fun (u : Int32 × Int32 × Int32 × Int32 × Int32 × (Nat → Int32) × (Nat → Int32) × (Nat → Int32) × (Nat → Int32) × (Nat → Int32) × (Nat → Int32) × (Nat → Int32) × (Nat → Int32)) => match u with | (x22, x23, x24, x25, x36, y26, y27, y28, y29, y30, y31, y32, y33) => mw g h0 b (va_up (va_up (va_up (va_up (va_up i 22 x22) 23 x23) 24 x24) 25 x25) 36 x36) (va_up (va_up (va_up (va_up (va_up (va_up (va_up (va_up a 26 y26) 27 y27) 28 y28) 29 y29) 30 y30) 31 y31) 32 y32) 33 y33)) (fun _ => []) 0 0 := by
  refine CT.start (cc := cX10_step) (maxL := 3) (ret := (some .int)) (by decide) rfl (Nat.le_of_ble_eq_true rfl) ?_
  intro p e s m below meth c ls hst hP hK hD hev hS hl
  obtain ⟨hx, hb, hr, hml, hts, hown, hlocks, hin⟩ := hst
  have hown : s.vm.findClass RX10 = some m.cls := hown
  have hA : ∀ q : Nat, s.heap.size ≤ q → va_A (mw g h0 b i a) s.heap.size q := fun _ h => Or.inr h
  have hl : lv_has ls 3 [(0, .ref h0)] := hl
  refine lv_aload_n hx hb dX10_step_0 rfl (lv_at hl 0 rfl) ?_
  refine M_V ⟨hx, hb, hml, hown, hts⟩ (m_X10_word l dC dI sa g h0 b ln sq i a  _ hL hM) (cwV 0 hts gX10_step_X10_word rfl rfl rfl (by decide +kernel) ⟨(by first | exact Nat.le_of_ble_eq_true rfl | (simp only [rm_X10_word, rm_X10_stepT]; omega)), (by first | exact Nat.le_of_ble_eq_true rfl | (simp only [rm_X10_word, rm_X10_stepT]; omega))⟩) hP hD hK hS hA hev rfl rfl rfl rfl hl.1 rfl (Nat.le_of_ble_eq_true rfl) dX10_step_1 ⟨(by first | exact Nat.le_of_ble_eq_true rfl | (simp only [rm_X10_stepT]; omega)), (by first | exact Nat.le_of_ble_eq_true rfl | (simp only [rm_X10_stepT]; omega))⟩ (fun r u H locs hw hP hD hS => ?_)
  obtain ⟨x22_1, rfl⟩ : ∃ z, z = u := ⟨_, rfl⟩
  have hw : (∃ z : Int32, r = some (.int z) ∧ (z = cm (Kp (a 19) ln sq.1))) ∧ (x22_1 = nI sq.1) := hw
  obtain ⟨⟨z_3, rfl, hz_z_3⟩, hw_2⟩ := hw
  have hP : va_P (dC, dI) vwCl (mw g h0 b (va_up i 22 x22_1) a) _ := hP
  have hD : va_D _ (mw g h0 b (va_up i 22 x22_1) a) := hD
  refine W.eq (g2 := F0 m 4 ls [.int z_3]) rfl ?_
  have hmq_4 : MI (a 19) ln sq x22_1 (i 23) (i 24) := (hM).sk hw_2
  refine lv_istore_n (lv' := [(1, .int z_3), (0, .ref h0)]) hx hb dX10_step_4 rfl hl (by decide) rfl (fun ls hl => ?_)
  refine lv_iload_n hx hb dX10_step_5 rfl (lv_at hl 0 rfl) ?_
  refine lv_iconst (v := (-1)) hx hb dX10_step_6 (by decide) ?_
  refine lv_icmp_eq (tgt := 16) hx hb dX10_step_7 (by decide) (fun c_5 => ?_) (fun c_5 => ?_)
  · have nc_5 := eq_i c_5
    have lc_5 : ((-1) : Int32).toInt = -1 := by decide
    refine lv_aload_n hx hb dX10_step_16 rfl (lv_at hl 1 rfl) ?_
    refine lv_iconst (v := 1) hx hb dX10_step_17 (by decide) ?_
    refine lv_aload_n hx hb dX10_step_18 rfl (lv_at hl 1 rfl) ?_
    refine va_get (D := (dC, dI)) (ci := 10) (v := .int x22_1) (C := RX10) (T := TX10) (N := 51) hx hb hts inw_X10_step_10 hown hK hP 0 rfl rfl 22 (by decide) (hts (.fieldLink RX10 168 "VatHouseModel" "at" "I") (List.mem_of_getElem? (i := 1) (by exact rfl))) (fun _ h9 => h9) rfl dX10_step_19 ?_
    refine M_V ⟨hx, hb, hml, hown, hts⟩ (m_X10_wrong l dC dI sa g h0 b (va_up i 22 x22_1) a (1 : Int32) x22_1 _ (hmq_4).1) (cwV 2 hts gX10_step_X10_wrong rfl rfl rfl (by decide +kernel) ⟨(by first | exact Nat.le_of_ble_eq_true rfl | (simp only [rm_X10_wrong, rm_X10_stepT]; omega)), (by first | exact Nat.le_of_ble_eq_true rfl | (simp only [rm_X10_wrong, rm_X10_stepT]; omega))⟩) hP hD hK hS hA hev rfl rfl rfl rfl hl.1 rfl (Nat.le_of_ble_eq_true rfl) dX10_step_22 ⟨(by first | exact Nat.le_of_ble_eq_true rfl | (simp only [rm_X10_stepT]; omega)), (by first | exact Nat.le_of_ble_eq_true rfl | (simp only [rm_X10_stepT]; omega))⟩ (fun r u H locs hw hP hD hS => ?_)
    obtain ⟨x23_6, x24_7⟩ := u
    have hw : ((r = some (.int 0) ∧ (x23_6 = (1 : Int32) ∧ x24_7 = x22_1)) ∨ (r = some (.int 1) ∧ (False))) ∧ (True) := hw
    obtain ⟨⟨rfl, hz2_9⟩ | ⟨rfl, hz2_9⟩, hw_8⟩ := hw
    · have hP : va_P (dC, dI) vwCl (mw g h0 b (va_up (va_up (va_up i 22 x22_1) 23 x23_6) 24 x24_7) a) _ := hP
      have hD : va_D _ (mw g h0 b (va_up (va_up (va_up i 22 x22_1) 23 x23_6) 24 x24_7) a) := hD
      refine W.eq (g2 := F0 m 25 ls [.int 0]) rfl ?_
      refine lv_pop hx hb dX10_step_25 rfl ?_
      refine lv_iconst (v := (-1)) hx hb dX10_step_26 (by decide) ?_
      exact M_i hx hb hr hlocks (x22_1, x23_6, x24_7, (i 25), (i 36), (a 26), (a 27), (a 28), (a 29), (a 30), (a 31), (a 32), (a 33)) hP hD hK hS ⟨⟨_, rfl⟩, ⟨dp, (PR.rf hPN), KP3.rf, fun z9 h9 => Or.inl ⟨by cases h9; rfl, (hmq_4).st1 (d := bl) (st_no hz_z_3 (Or.inl c_5)) hz2_9.1 (hz2_9.2.trans hw_2)⟩⟩⟩ (by first | exact Nat.le_of_ble_eq_true rfl | (simp only [rm_X10_stepT]; omega)) (by first | exact Nat.le_of_ble_eq_true rfl | (simp only [rm_X10_stepT]; omega)) dX10_step_27
    · have hP : va_P (dC, dI) vwCl (mw g h0 b (va_up (va_up (va_up i 22 x22_1) 23 x23_6) 24 x24_7) a) _ := hP
      have hD : va_D _ (mw g h0 b (va_up (va_up (va_up i 22 x22_1) 23 x23_6) 24 x24_7) a) := hD
      refine W.eq (g2 := F0 m 25 ls [.int 1]) rfl ?_
      exact hz2_9.elim
  · have nc_5 := ne_i c_5
    have lc_5 : ((-1) : Int32).toInt = -1 := by decide
    refine lv_iload_n hx hb dX10_step_10 rfl (lv_at hl 0 rfl) ?_
    refine lv_bipush (v := 11) hx hb dX10_step_11 (by decide) ?_
    refine lv_icmp_le (tgt := 28) hx hb dX10_step_13 (by decide) (fun c_10 => ?_) (fun c_10 => ?_)
    · have nc_10 := le_i c_10
      have lc_10 : (11 : Int32).toInt = 11 := by decide
      obtain ⟨hrg, hw1⟩ := st_yes hz_z_3 c_5 c_10
      refine lv_aload_n hx hb dX10_step_28 rfl (lv_at hl 1 rfl) ?_
      refine va_get (D := (dC, dI)) (ci := 10) (v := .int (i 36)) (C := RX10) (T := TX10) (N := 51) hx hb hts inw_X10_step_10 hown hK hP 0 rfl rfl 36 (by decide) (hts (.fieldLink RX10 249 "VatHouseModel" "nodes" "I") (List.mem_of_getElem? (i := 2) (by exact rfl))) (fun _ h9 => h9) rfl dX10_step_29 ?_
      refine lv_sipush (v := 300) hx hb dX10_step_32 (by decide) ?_
      refine lv_icmp_ne (tgt := 50) hx hb dX10_step_35 (by decide) (fun c_11 => ?_) (fun c_11 => ?_)
      · have nc_11 := ne_i c_11
        have lc_11 : (300 : Int32).toInt = 300 := by decide
        refine lv_sipush (v := 2400) hx hb dX10_step_50 (by decide) ?_
        refine lv_aload_n hx hb dX10_step_53 rfl (lv_at hl 1 rfl) ?_
        refine va_get (D := (dC, dI)) (ci := 10) (v := .int (i 36)) (C := RX10) (T := TX10) (N := 51) hx hb hts inw_X10_step_10 hown hK hP 0 rfl rfl 36 (by decide) (hts (.fieldLink RX10 249 "VatHouseModel" "nodes" "I") (List.mem_of_getElem? (i := 2) (by exact rfl))) (fun _ h9 => h9) rfl dX10_step_54 ?_
        refine lv_iadd hx hb dX10_step_57 ?_
        refine lv_topi (fun z_12 ez_12 => ?_)
        refine lv_istore_n (lv' := [(2, .int z_12), (1, .int z_3), (0, .ref h0)]) hx hb dX10_step_58 rfl hl (by decide) rfl (fun ls hl => ?_)
        refine lv_aload_n hx hb dX10_step_59 rfl (lv_at hl 2 rfl) ?_
        refine lv_dup hx hb dX10_step_60 rfl ?_
        refine va_get (D := (dC, dI)) (ci := 10) (v := .int (i 36)) (C := RX10) (T := TX10) (N := 51) hx hb hts inw_X10_step_10 hown hK hP 0 rfl rfl 36 (by decide) (hts (.fieldLink RX10 249 "VatHouseModel" "nodes" "I") (List.mem_of_getElem? (i := 2) (by exact rfl))) (fun _ h9 => h9) rfl dX10_step_61 ?_
        refine lv_iconst (v := 1) hx hb dX10_step_64 (by decide) ?_
        refine lv_iadd hx hb dX10_step_65 ?_
        refine lv_topi (fun z_13 ez_13 => ?_)
        refine va_put (D := (dC, dI)) (ci := 10) (v := .int z_13) (ty := .int) (C := RX10) (T := TX10) (N := 51) hx hb hts inw_X10_step_10 tyX10 tyX10_ok nmX10 hown hK hP hD hS 0 rfl rfl 36 (by decide) (hts (.fieldLink RX10 249 "VatHouseModel" "nodes" "I") (List.mem_of_getElem? (i := 2) (by exact rfl))) (fun _ h9 => h9) rfl (tyX10_ok 36 (by decide)) rfl rfl (Nat.le_of_ble_eq_true rfl) dX10_step_66 (fun H locs hP hD hS => ?_)
        have hP : va_P (dC, dI) vwCl (mw g h0 b (va_up (va_up i 22 x22_1) 36 z_13) a) _ := hP
        have hD : va_D _ (mw g h0 b (va_up (va_up i 22 x22_1) 36 z_13) a) := hD
        obtain ⟨h300, hg36⟩ := n36_lt hn36 hn3 c_11 ez_13
        obtain ⟨q, hq, hVq, hdq, hnn, hp0⟩ := PN.new (w := z_3) (bl := bl) hPN (by omega) ez_12 ez_13 (fun h9 => c_11 (Int32.toInt_inj.mp (h9.trans (by decide))))
        have hk : vp_in z_12 2700 := by rw [hq]; exact vp_in_nI (by have := hVq.2; have := hp0.2.1.2.1; omega) (by decide)
        have hnk : ¬ z_12 = -1 := fun h9 => by rw [h9] at hq; exact (nq_ne hq hVq hp0.2.1.2.1).1 rfl
        refine lv_aload_n hx hb dX10_step_69 rfl (lv_at hl 2 rfl) ?_
        refine va_get (D := (dC, dI)) (ci := 10) (v := .ref (b 26)) (C := RX10) (T := TX10) (N := 51) hx hb hts inw_X10_step_10 hown hK hP 0 rfl rfl 26 (by decide) (hts (.fieldLink RX10 60 "VatHouseModel" "kind" "[I") (List.mem_of_getElem? (i := 3) (by exact rfl))) (fun _ h9 => h9) rfl dX10_step_70 ?_
        refine lv_iload_n hx hb dX10_step_73 rfl (lv_at hl 0 rfl) ?_
        refine lv_iload_n hx hb dX10_step_74 rfl (lv_at hl 1 rfl) ?_
        refine va_iast hx hb hK hP hD hS 16 15 rfl rfl (by assumption) dX10_step_75 (fun H locs hP hD hS => ?_)
        have hP : va_P (dC, dI) vwCl (mw g h0 b (va_up (va_up i 22 x22_1) 36 z_13) (va_up a 26 (upd (a 26) z_12.toNatClampNeg z_3))) _ := hP
        have hD : va_D _ (mw g h0 b (va_up (va_up i 22 x22_1) 36 z_13) (va_up a 26 (upd (a 26) z_12.toNatClampNeg z_3))) := hD
        obtain ⟨f_14, ef_14⟩ : ∃ z, z = (upd (a 26) z_12.toNatClampNeg z_3) := ⟨_, rfl⟩
        rw [← ef_14] at hP hD
        refine lv_aload_n hx hb dX10_step_76 rfl (lv_at hl 2 rfl) ?_
        refine va_get (D := (dC, dI)) (ci := 10) (v := .ref (b 27)) (C := RX10) (T := TX10) (N := 51) hx hb hts inw_X10_step_10 hown hK hP 0 rfl rfl 27 (by decide) (hts (.fieldLink RX10 63 "VatHouseModel" "one" "[I") (List.mem_of_getElem? (i := 4) (by exact rfl))) (fun _ h9 => h9) rfl dX10_step_77 ?_
        refine lv_iload_n hx hb dX10_step_80 rfl (lv_at hl 0 rfl) ?_
        refine lv_iconst (v := 0) hx hb dX10_step_81 (by decide) ?_
        refine va_iast hx hb hK hP hD hS 17 16 rfl rfl (by assumption) dX10_step_82 (fun H locs hP hD hS => ?_)
        have hP : va_P (dC, dI) vwCl (mw g h0 b (va_up (va_up i 22 x22_1) 36 z_13) (va_up (va_up a 26 f_14) 27 (upd (a 27) z_12.toNatClampNeg (0 : Int32)))) _ := hP
        have hD : va_D _ (mw g h0 b (va_up (va_up i 22 x22_1) 36 z_13) (va_up (va_up a 26 f_14) 27 (upd (a 27) z_12.toNatClampNeg (0 : Int32)))) := hD
        obtain ⟨f_15, ef_15⟩ : ∃ z, z = (upd (a 27) z_12.toNatClampNeg (0 : Int32)) := ⟨_, rfl⟩
        rw [← ef_15] at hP hD
        refine lv_aload_n hx hb dX10_step_83 rfl (lv_at hl 2 rfl) ?_
        refine va_get (D := (dC, dI)) (ci := 10) (v := .ref (b 28)) (C := RX10) (T := TX10) (N := 51) hx hb hts inw_X10_step_10 hown hK hP 0 rfl rfl 28 (by decide) (hts (.fieldLink RX10 66 "VatHouseModel" "two" "[I") (List.mem_of_getElem? (i := 5) (by exact rfl))) (fun _ h9 => h9) rfl dX10_step_84 ?_
        refine lv_iload_n hx hb dX10_step_87 rfl (lv_at hl 0 rfl) ?_
        refine lv_iconst (v := 0) hx hb dX10_step_88 (by decide) ?_
        refine va_iast hx hb hK hP hD hS 18 17 rfl rfl (by assumption) dX10_step_89 (fun H locs hP hD hS => ?_)
        have hP : va_P (dC, dI) vwCl (mw g h0 b (va_up (va_up i 22 x22_1) 36 z_13) (va_up (va_up (va_up a 26 f_14) 27 f_15) 28 (upd (a 28) z_12.toNatClampNeg (0 : Int32)))) _ := hP
        have hD : va_D _ (mw g h0 b (va_up (va_up i 22 x22_1) 36 z_13) (va_up (va_up (va_up a 26 f_14) 27 f_15) 28 (upd (a 28) z_12.toNatClampNeg (0 : Int32)))) := hD
        obtain ⟨f_16, ef_16⟩ : ∃ z, z = (upd (a 28) z_12.toNatClampNeg (0 : Int32)) := ⟨_, rfl⟩
        rw [← ef_16] at hP hD
        refine lv_aload_n hx hb dX10_step_90 rfl (lv_at hl 2 rfl) ?_
        refine va_get (D := (dC, dI)) (ci := 10) (v := .ref (b 31)) (C := RX10) (T := TX10) (N := 51) hx hb hts inw_X10_step_10 hown hK hP 0 rfl rfl 31 (by decide) (hts (.fieldLink RX10 75 "VatHouseModel" "inner" "[I") (List.mem_of_getElem? (i := 6) (by exact rfl))) (fun _ h9 => h9) rfl dX10_step_91 ?_
        refine lv_iload_n hx hb dX10_step_94 rfl (lv_at hl 0 rfl) ?_
        refine lv_iconst (v := (-1)) hx hb dX10_step_95 (by decide) ?_
        refine va_iast hx hb hK hP hD hS 21 20 rfl rfl (by assumption) dX10_step_96 (fun H locs hP hD hS => ?_)
        have hP : va_P (dC, dI) vwCl (mw g h0 b (va_up (va_up i 22 x22_1) 36 z_13) (va_up (va_up (va_up (va_up a 26 f_14) 27 f_15) 28 f_16) 31 (upd (a 31) z_12.toNatClampNeg ((-1) : Int32)))) _ := hP
        have hD : va_D _ (mw g h0 b (va_up (va_up i 22 x22_1) 36 z_13) (va_up (va_up (va_up (va_up a 26 f_14) 27 f_15) 28 f_16) 31 (upd (a 31) z_12.toNatClampNeg ((-1) : Int32)))) := hD
        obtain ⟨f_17, ef_17⟩ : ∃ z, z = (upd (a 31) z_12.toNatClampNeg ((-1) : Int32)) := ⟨_, rfl⟩
        rw [← ef_17] at hP hD
        refine lv_aload_n hx hb dX10_step_97 rfl (lv_at hl 2 rfl) ?_
        refine va_get (D := (dC, dI)) (ci := 10) (v := .ref (b 32)) (C := RX10) (T := TX10) (N := 51) hx hb hts inw_X10_step_10 hown hK hP 0 rfl rfl 32 (by decide) (hts (.fieldLink RX10 78 "VatHouseModel" "other" "[I") (List.mem_of_getElem? (i := 7) (by exact rfl))) (fun _ h9 => h9) rfl dX10_step_98 ?_
        refine lv_iload_n hx hb dX10_step_101 rfl (lv_at hl 0 rfl) ?_
        refine lv_iconst (v := (-1)) hx hb dX10_step_102 (by decide) ?_
        refine va_iast hx hb hK hP hD hS 22 21 rfl rfl (by assumption) dX10_step_103 (fun H locs hP hD hS => ?_)
        have hP : va_P (dC, dI) vwCl (mw g h0 b (va_up (va_up i 22 x22_1) 36 z_13) (va_up (va_up (va_up (va_up (va_up a 26 f_14) 27 f_15) 28 f_16) 31 f_17) 32 (upd (a 32) z_12.toNatClampNeg ((-1) : Int32)))) _ := hP
        have hD : va_D _ (mw g h0 b (va_up (va_up i 22 x22_1) 36 z_13) (va_up (va_up (va_up (va_up (va_up a 26 f_14) 27 f_15) 28 f_16) 31 f_17) 32 (upd (a 32) z_12.toNatClampNeg ((-1) : Int32)))) := hD
        obtain ⟨f_18, ef_18⟩ : ∃ z, z = (upd (a 32) z_12.toNatClampNeg ((-1) : Int32)) := ⟨_, rfl⟩
        rw [← ef_18] at hP hD
        refine lv_aload_n hx hb dX10_step_104 rfl (lv_at hl 2 rfl) ?_
        refine va_get (D := (dC, dI)) (ci := 10) (v := .ref (b 33)) (C := RX10) (T := TX10) (N := 51) hx hb hts inw_X10_step_10 hown hK hP 0 rfl rfl 33 (by decide) (hts (.fieldLink RX10 81 "VatHouseModel" "next" "[I") (List.mem_of_getElem? (i := 8) (by exact rfl))) (fun _ h9 => h9) rfl dX10_step_105 ?_
        refine lv_iload_n hx hb dX10_step_108 rfl (lv_at hl 0 rfl) ?_
        refine lv_iconst (v := (-1)) hx hb dX10_step_109 (by decide) ?_
        refine va_iast hx hb hK hP hD hS 23 22 rfl rfl (by assumption) dX10_step_110 (fun H locs hP hD hS => ?_)
        have hP : va_P (dC, dI) vwCl (mw g h0 b (va_up (va_up i 22 x22_1) 36 z_13) (va_up (va_up (va_up (va_up (va_up (va_up a 26 f_14) 27 f_15) 28 f_16) 31 f_17) 32 f_18) 33 (upd (a 33) z_12.toNatClampNeg ((-1) : Int32)))) _ := hP
        have hD : va_D _ (mw g h0 b (va_up (va_up i 22 x22_1) 36 z_13) (va_up (va_up (va_up (va_up (va_up (va_up a 26 f_14) 27 f_15) 28 f_16) 31 f_17) 32 f_18) 33 (upd (a 33) z_12.toNatClampNeg ((-1) : Int32)))) := hD
        obtain ⟨f_19, ef_19⟩ : ∃ z, z = (upd (a 33) z_12.toNatClampNeg ((-1) : Int32)) := ⟨_, rfl⟩
        rw [← ef_19] at hP hD
        rw [← ef_14, ← ef_15, ← ef_17, ← ef_18, ← ef_19] at hp0
        have hpr_20 := PR.tr (PR.rf hPN) hp0
        have hzk := nI_2400 ez_12 hn36
        have hzc : z_12.toNatClampNeg = 2400 + sq.2.1 := by rw [hzk]; exact nI_clamp (by omega)
        have hRM2 := RM.new (p := sq.1) hRM hzc hzc hzc hzc hw1
        rw [← ef_14, ← ef_17, ← ef_18, ← ef_19] at hRM2
        have hKP : KP4 sq.2.1 (a 27) (a 28) (a 29) (a 30) f_15 f_16 (a 29) (a 30) := fun j9 hj9 => ⟨kp_u hzc ef_15 j9 hj9, kp_u hzc ef_16 j9 hj9, rfl, rfl⟩
        have hk9 : KP3 (a 28) (a 29) (a 30) f_16 (a 29) (a 30) := fun x9 hx9 => ⟨by rw [ef_16]; exact if_neg (by omega), rfl, rfl⟩
        refine lv_aload_n hx hb dX10_step_111 rfl (lv_at hl 2 rfl) ?_
        refine lv_iload_n hx hb dX10_step_112 rfl (lv_at hl 1 rfl) ?_
        obtain ⟨kq, hkq⟩ := cm_k hz_z_3 c_5
        have hqlt := (wd_at hkq.2.1 hkq.2.2).1
        refine M_V ⟨hx, hb, hml, hown, hts⟩ (m_X10_pass l dC dI sa g h0 b ln sq kq (va_up (va_up i 22 x22_1) 36 z_13) (va_up (va_up (va_up (va_up (va_up (va_up a 26 f_14) 27 f_15) 28 f_16) 31 f_17) 32 f_18) 33 f_19) z_3 _ hw_2 hkq) (cwV 1 hts gX10_step_X10_pass rfl rfl rfl (by decide +kernel) ⟨(by first | exact Nat.le_of_ble_eq_true rfl | (simp only [rm_X10_pass, rm_X10_stepT]; omega)), (by first | exact Nat.le_of_ble_eq_true rfl | (simp only [rm_X10_pass, rm_X10_stepT]; omega))⟩) hP hD hK hS hA hev rfl rfl rfl rfl hl.1 rfl (Nat.le_of_ble_eq_true rfl) dX10_step_113 ⟨(by first | exact Nat.le_of_ble_eq_true rfl | (simp only [rm_X10_stepT]; omega)), (by first | exact Nat.le_of_ble_eq_true rfl | (simp only [rm_X10_stepT]; omega))⟩ (fun r u H locs hw hP hD hS => ?_)
        obtain ⟨x22_21, rfl⟩ : ∃ z, z = u := ⟨_, rfl⟩
        have hw : (r = none) ∧ (x22_21 = nI (nx (a 19) ln sq.1)) := hw
        obtain ⟨rfl, hw_22⟩ := hw
        have hP : va_P (dC, dI) vwCl (mw g h0 b (va_up (va_up i 22 x22_21) 36 z_13) (va_up (va_up (va_up (va_up (va_up (va_up a 26 f_14) 27 f_15) 28 f_16) 31 f_17) 32 f_18) 33 f_19)) _ := hP
        have hD : va_D _ (mw g h0 b (va_up (va_up i 22 x22_21) 36 z_13) (va_up (va_up (va_up (va_up (va_up (va_up a 26 f_14) 27 f_15) 28 f_16) 31 f_17) 32 f_18) 33 f_19)) := hD
        refine W.eq (g2 := F0 m 116 ls []) rfl ?_
        have hmq_23 : MI (a 19) ln (gad (nq (a 19) ln) sq) x22_21 (i 23) (i 24) := (hmq_4).gad hqlt hw_22
        refine lv_aload_n hx hb dX10_step_116 rfl (lv_at hl 2 rfl) ?_
        refine lv_iload_n hx hb dX10_step_117 rfl (lv_at hl 0 rfl) ?_
        refine M_V ⟨hx, hb, hml, hown, hts⟩ (m_X10_restT l dC dI sa g h0 b j bl (va_up dp q bl) ln (gad (nq (a 19) ln) sq) (tnew T sq.2.1 sq.1) sq.2.1 (Kp (a 19) ln sq.1) (va_up (va_up i 22 x22_21) 36 z_13) (va_up (va_up (va_up (va_up (va_up (va_up a 26 f_14) 27 f_15) 28 f_16) 31 f_17) 32 f_18) 33 f_19) z_12 _ hL hmq_23 hg36 hp0.2.1 hBL hj (show sq.2.1 + 1 ≤ 300 by omega) hRM2 (show ∃ q0 : Nat, z_12 = nI q0 ∧ PV z_13 q0 ∧ (va_up dp q bl) q0 = bl from ⟨q, hq, hVq, hdq⟩) (⟨by rw [ef_14]; exact (if_pos rfl).trans hw1, hrg.1, hrg.2⟩) (⟨hzk, rfl⟩) (⟨congrArg (Kp (a 19) ln) (show (tnew T sq.2.1 sq.1) 0 sq.2.1 = sq.1 from tnew_at.trans (if_pos rfl)), congrArg (nq (a 19) ln) (show sq.1 = (tnew T sq.2.1 sq.1) 0 sq.2.1 from (tnew_at.trans (if_pos rfl)).symm)⟩) IHS) (cwV 1 hts gX10_step_X10_rest rfl rfl rfl (by decide +kernel) ⟨(by first | exact Nat.le_of_ble_eq_true rfl | (simp only [rm_X10_restT, rm_X10_stepT]; omega)), (by first | exact Nat.le_of_ble_eq_true rfl | (simp only [rm_X10_restT, rm_X10_stepT]; omega))⟩) hP hD hK hS hA hev rfl rfl rfl rfl hl.1 rfl (Nat.le_of_ble_eq_true rfl) dX10_step_118 ⟨(by first | exact Nat.le_of_ble_eq_true rfl | (simp only [rm_X10_stepT]; omega)), (by first | exact Nat.le_of_ble_eq_true rfl | (simp only [rm_X10_stepT]; omega))⟩ (fun r u H locs hw hP hD hS => ?_)
        obtain ⟨x22_24, x23_25, x24_26, x25_27, x36_28, y26_29, y27_30, y28_31, y29_32, y30_33, y31_34, y32_35, y33_36⟩ := u
        have hw : ((r = some (.int 0) ∧ (∃ rn : SG, RSx (Kp (a 19) ln) (Vp (a 19) ln) (nq (a 19) ln) (Kp (a 19) ln sq.1) bl (gad (nq (a 19) ln) sq) rn ∧ MO rn x23_25 x24_26)) ∨ (r = some (.int 1) ∧ (∃ (rn : SG) (TN : TT), RST (Kp (a 19) ln) (Vp (a 19) ln) (nq (a 19) ln) (Kp (a 19) ln sq.1) bl sq.2.1 ((gad (nq (a 19) ln) sq), (tnew T sq.2.1 sq.1)) (rn, TN) ∧ MI (a 19) ln rn x22_24 x23_25 x24_26 ∧ x36_28 = nI rn.2.1 ∧ TQ (Kp (a 19) ln) (Vp (a 19) ln) (nq (a 19) ln) TN sq.2.1 rn.2.1 f_15 f_16 (a 29) (a 30) y26_29 y27_30 y28_31 y29_32 y30_33 y31_34 y32_35 y33_36))) ∧ (∃ dpN : Nat → Nat, PR z_13 x36_28 (va_up dp q bl) dpN f_14 f_15 f_17 f_18 f_19 y26_29 y27_30 y31_34 y32_35 y33_36 ∧ KP3 f_16 (a 29) (a 30) y28_31 y29_32 y30_33) := hw
        obtain ⟨⟨rfl, hz2_38⟩ | ⟨rfl, hz2_38⟩, hw_37⟩ := hw
        · have hP : va_P (dC, dI) vwCl (mw g h0 b (va_up (va_up (va_up (va_up (va_up i 22 x22_24) 23 x23_25) 24 x24_26) 25 x25_27) 36 x36_28) (va_up (va_up (va_up (va_up (va_up (va_up (va_up (va_up a 26 y26_29) 27 y27_30) 28 y28_31) 29 y29_32) 30 y30_33) 31 y31_34) 32 y32_35) 33 y33_36)) _ := hP
          have hD : va_D _ (mw g h0 b (va_up (va_up (va_up (va_up (va_up i 22 x22_24) 23 x23_25) 24 x24_26) 25 x25_27) 36 x36_28) (va_up (va_up (va_up (va_up (va_up (va_up (va_up (va_up a 26 y26_29) 27 y27_30) 28 y28_31) 29 y29_32) 30 y30_33) 31 y31_34) 32 y32_35) 33 y33_36)) := hD
          refine W.eq (g2 := F0 m 121 ls [.int 0]) rfl ?_
          obtain ⟨dp_40, hPR_39, hk3_42⟩ := hw_37
          have thk3_42 := KP3.tr hk9 hk3_42
          have hpr_43 := PR.tr hpr_20 hPR_39
          refine lv_if_eq (tgt := 128) hx hb dX10_step_121 (by decide) (fun _ => ?_) (fun c_44 => absurd c_44 (by decide))
          refine lv_iconst (v := (-1)) hx hb dX10_step_128 (by decide) ?_
          exact M_i hx hb hr hlocks (x22_24, x23_25, x24_26, x25_27, x36_28, y26_29, y27_30, y28_31, y29_32, y30_33, y31_34, y32_35, y33_36) hP hD hK hS ⟨⟨_, rfl⟩, ⟨dp_40, hpr_43, thk3_42, fun z9 h9 => Or.inl ⟨by cases h9; rfl, (by obtain ⟨rn, h1, h2⟩ := hz2_38; exact ⟨rn, Or.inl ⟨hrg, RSx.ev h300 h1⟩, h2⟩)⟩⟩⟩ (by first | exact Nat.le_of_ble_eq_true rfl | (simp only [rm_X10_stepT]; omega)) (by first | exact Nat.le_of_ble_eq_true rfl | (simp only [rm_X10_stepT]; omega)) dX10_step_129
        · have hP : va_P (dC, dI) vwCl (mw g h0 b (va_up (va_up (va_up (va_up (va_up i 22 x22_24) 23 x23_25) 24 x24_26) 25 x25_27) 36 x36_28) (va_up (va_up (va_up (va_up (va_up (va_up (va_up (va_up a 26 y26_29) 27 y27_30) 28 y28_31) 29 y29_32) 30 y30_33) 31 y31_34) 32 y32_35) 33 y33_36)) _ := hP
          have hD : va_D _ (mw g h0 b (va_up (va_up (va_up (va_up (va_up i 22 x22_24) 23 x23_25) 24 x24_26) 25 x25_27) 36 x36_28) (va_up (va_up (va_up (va_up (va_up (va_up (va_up (va_up a 26 y26_29) 27 y27_30) 28 y28_31) 29 y29_32) 30 y30_33) 31 y31_34) 32 y32_35) 33 y33_36)) := hD
          refine W.eq (g2 := F0 m 121 ls [.int 1]) rfl ?_
          obtain ⟨dp_46, hPR_45, hk3_48⟩ := hw_37
          have thk3_48 := KP3.tr hk9 hk3_48
          have hpr_49 := PR.tr hpr_20 hPR_45
          refine lv_if_eq (tgt := 128) hx hb dX10_step_121 (by decide) (fun c_50 => absurd c_50 (by decide)) (fun _ => ?_)
          refine lv_iload_n hx hb dX10_step_124 rfl (lv_at hl 0 rfl) ?_
          refine lv_goto (tgt := 129) hx hb dX10_step_125 (by decide) ?_
          exact M_i hx hb hr hlocks (x22_24, x23_25, x24_26, x25_27, x36_28, y26_29, y27_30, y28_31, y29_32, y30_33, y31_34, y32_35, y33_36) hP hD hK hS ⟨⟨_, rfl⟩, ⟨dp_46, hpr_49, thk3_48, fun z9 h9 => by cases h9; exact Or.inr ⟨⟨q, hq, PR.nd hPR_45 hVq hdq⟩, (by have := hPR_45.2.2.2; omega), hzk, hrg, by obtain ⟨rn, TN, h1, h2, h3, h4⟩ := hz2_38; exact ⟨rn, TN, RST.ev h300 h1, h2, h3, h4.kp hKP⟩⟩⟩⟩ (by first | exact Nat.le_of_ble_eq_true rfl | (simp only [rm_X10_stepT]; omega)) (by first | exact Nat.le_of_ble_eq_true rfl | (simp only [rm_X10_stepT]; omega)) dX10_step_129
      · have nc_11 := eq_i c_11
        have lc_11 : (300 : Int32).toInt = 300 := by decide
        refine lv_aload_n hx hb dX10_step_38 rfl (lv_at hl 1 rfl) ?_
        refine lv_iconst (v := 2) hx hb dX10_step_39 (by decide) ?_
        refine lv_aload_n hx hb dX10_step_40 rfl (lv_at hl 1 rfl) ?_
        refine va_get (D := (dC, dI)) (ci := 10) (v := .int x22_1) (C := RX10) (T := TX10) (N := 51) hx hb hts inw_X10_step_10 hown hK hP 0 rfl rfl 22 (by decide) (hts (.fieldLink RX10 168 "VatHouseModel" "at" "I") (List.mem_of_getElem? (i := 1) (by exact rfl))) (fun _ h9 => h9) rfl dX10_step_41 ?_
        refine M_V ⟨hx, hb, hml, hown, hts⟩ (m_X10_wrong l dC dI sa g h0 b (va_up i 22 x22_1) a (2 : Int32) x22_1 _ (hmq_4).1) (cwV 2 hts gX10_step_X10_wrong rfl rfl rfl (by decide +kernel) ⟨(by first | exact Nat.le_of_ble_eq_true rfl | (simp only [rm_X10_wrong, rm_X10_stepT]; omega)), (by first | exact Nat.le_of_ble_eq_true rfl | (simp only [rm_X10_wrong, rm_X10_stepT]; omega))⟩) hP hD hK hS hA hev rfl rfl rfl rfl hl.1 rfl (Nat.le_of_ble_eq_true rfl) dX10_step_44 ⟨(by first | exact Nat.le_of_ble_eq_true rfl | (simp only [rm_X10_stepT]; omega)), (by first | exact Nat.le_of_ble_eq_true rfl | (simp only [rm_X10_stepT]; omega))⟩ (fun r u H locs hw hP hD hS => ?_)
        obtain ⟨x23_51, x24_52⟩ := u
        have hw : ((r = some (.int 0) ∧ (x23_51 = (2 : Int32) ∧ x24_52 = x22_1)) ∨ (r = some (.int 1) ∧ (False))) ∧ (True) := hw
        obtain ⟨⟨rfl, hz2_54⟩ | ⟨rfl, hz2_54⟩, hw_53⟩ := hw
        · have hP : va_P (dC, dI) vwCl (mw g h0 b (va_up (va_up (va_up i 22 x22_1) 23 x23_51) 24 x24_52) a) _ := hP
          have hD : va_D _ (mw g h0 b (va_up (va_up (va_up i 22 x22_1) 23 x23_51) 24 x24_52) a) := hD
          refine W.eq (g2 := F0 m 47 ls [.int 0]) rfl ?_
          refine lv_pop hx hb dX10_step_47 rfl ?_
          refine lv_iconst (v := (-1)) hx hb dX10_step_48 (by decide) ?_
          exact M_i hx hb hr hlocks (x22_1, x23_51, x24_52, (i 25), (i 36), (a 26), (a 27), (a 28), (a 29), (a 30), (a 31), (a 32), (a 33)) hP hD hK hS ⟨⟨_, rfl⟩, ⟨dp, (PR.rf hPN), KP3.rf, fun z9 h9 => Or.inl ⟨by cases h9; rfl, (hmq_4).st2 (d := bl) hrg hn36 hn3 c_11 hz2_54.1 (hz2_54.2.trans hw_2)⟩⟩⟩ (by first | exact Nat.le_of_ble_eq_true rfl | (simp only [rm_X10_stepT]; omega)) (by first | exact Nat.le_of_ble_eq_true rfl | (simp only [rm_X10_stepT]; omega)) dX10_step_49
        · have hP : va_P (dC, dI) vwCl (mw g h0 b (va_up (va_up (va_up i 22 x22_1) 23 x23_51) 24 x24_52) a) _ := hP
          have hD : va_D _ (mw g h0 b (va_up (va_up (va_up i 22 x22_1) 23 x23_51) 24 x24_52) a) := hD
          refine W.eq (g2 := F0 m 47 ls [.int 1]) rfl ?_
          exact hz2_54.elim
    · have nc_10 := nle_i c_10
      have lc_10 : (11 : Int32).toInt = 11 := by decide
      refine lv_aload_n hx hb dX10_step_16 rfl (lv_at hl 1 rfl) ?_
      refine lv_iconst (v := 1) hx hb dX10_step_17 (by decide) ?_
      refine lv_aload_n hx hb dX10_step_18 rfl (lv_at hl 1 rfl) ?_
      refine va_get (D := (dC, dI)) (ci := 10) (v := .int x22_1) (C := RX10) (T := TX10) (N := 51) hx hb hts inw_X10_step_10 hown hK hP 0 rfl rfl 22 (by decide) (hts (.fieldLink RX10 168 "VatHouseModel" "at" "I") (List.mem_of_getElem? (i := 1) (by exact rfl))) (fun _ h9 => h9) rfl dX10_step_19 ?_
      refine M_V ⟨hx, hb, hml, hown, hts⟩ (m_X10_wrong l dC dI sa g h0 b (va_up i 22 x22_1) a (1 : Int32) x22_1 _ (hmq_4).1) (cwV 2 hts gX10_step_X10_wrong rfl rfl rfl (by decide +kernel) ⟨(by first | exact Nat.le_of_ble_eq_true rfl | (simp only [rm_X10_wrong, rm_X10_stepT]; omega)), (by first | exact Nat.le_of_ble_eq_true rfl | (simp only [rm_X10_wrong, rm_X10_stepT]; omega))⟩) hP hD hK hS hA hev rfl rfl rfl rfl hl.1 rfl (Nat.le_of_ble_eq_true rfl) dX10_step_22 ⟨(by first | exact Nat.le_of_ble_eq_true rfl | (simp only [rm_X10_stepT]; omega)), (by first | exact Nat.le_of_ble_eq_true rfl | (simp only [rm_X10_stepT]; omega))⟩ (fun r u H locs hw hP hD hS => ?_)
      obtain ⟨x23_55, x24_56⟩ := u
      have hw : ((r = some (.int 0) ∧ (x23_55 = (1 : Int32) ∧ x24_56 = x22_1)) ∨ (r = some (.int 1) ∧ (False))) ∧ (True) := hw
      obtain ⟨⟨rfl, hz2_58⟩ | ⟨rfl, hz2_58⟩, hw_57⟩ := hw
      · have hP : va_P (dC, dI) vwCl (mw g h0 b (va_up (va_up (va_up i 22 x22_1) 23 x23_55) 24 x24_56) a) _ := hP
        have hD : va_D _ (mw g h0 b (va_up (va_up (va_up i 22 x22_1) 23 x23_55) 24 x24_56) a) := hD
        refine W.eq (g2 := F0 m 25 ls [.int 0]) rfl ?_
        refine lv_pop hx hb dX10_step_25 rfl ?_
        refine lv_iconst (v := (-1)) hx hb dX10_step_26 (by decide) ?_
        exact M_i hx hb hr hlocks (x22_1, x23_55, x24_56, (i 25), (i 36), (a 26), (a 27), (a 28), (a 29), (a 30), (a 31), (a 32), (a 33)) hP hD hK hS ⟨⟨_, rfl⟩, ⟨dp, (PR.rf hPN), KP3.rf, fun z9 h9 => Or.inl ⟨by cases h9; rfl, (hmq_4).st1 (d := bl) (st_no hz_z_3 (Or.inr c_10)) hz2_58.1 (hz2_58.2.trans hw_2)⟩⟩⟩ (by first | exact Nat.le_of_ble_eq_true rfl | (simp only [rm_X10_stepT]; omega)) (by first | exact Nat.le_of_ble_eq_true rfl | (simp only [rm_X10_stepT]; omega)) dX10_step_27
      · have hP : va_P (dC, dI) vwCl (mw g h0 b (va_up (va_up (va_up i 22 x22_1) 23 x23_55) 24 x24_56) a) _ := hP
        have hD : va_D _ (mw g h0 b (va_up (va_up (va_up i 22 x22_1) 23 x23_55) 24 x24_56) a) := hD
        refine W.eq (g2 := F0 m 25 ls [.int 1]) rfl ?_
        exact hz2_58.elim

set_option maxHeartbeats 1000000 in
set_option maxRecDepth 100000 in
theorem m_X10_stepsT (l : Launch) (dC : Nat → ClassId) (dI : Nat → Nat → Nat) (sa : Nat → Nat) (g : Nat → Nat) (h0 : Nat) (b : Nat → Nat) (j : Nat) (bl : Nat) (dp : Nat → Nat) (ln : Nat) (sq : SG) (T : TT) (i : Nat → Int32) (a : Nat → Nat → Int32) (ib : Int32) (sz : Nat) (hL : (i 21) = nI ln ∧ ln ≤ 1500) (hM : MI (a 19) ln sq (i 22) (i 23) (i 24)) (hn36 : (i 36) = nI sq.2.1) (hPN : PN (i 36) dp (a 26) (a 27) (a 31) (a 32) (a 33)) (hBL : (i 38) = nI bl) (hj : bl + j = 8) (hn3 : sq.2.1 ≤ 300) (hRM : RM (Kp (a 19) ln) T sq.2.1 (a 26) (a 31) (a 32) (a 33)) (IHS : ∀ j' bl' : Nat, bl' + j' = 8 → j = j' + 1 → ∀ (dp : Nat → Nat) (ln : Nat) (sq : SG) (T : TT) (i : Nat → Int32) (a : Nat → Nat → Int32) (ib : Int32) (sz : Nat) (hL : (i 21) = nI ln ∧ ln ≤ 1500) (hM : MI (a 19) ln sq (i 22) (i 23) (i 24)) (hn36 : (i 36) = nI sq.2.1) (hPN : PN (i 36) dp (a 26) (a 27) (a 31) (a 32) (a 33)) (hBL : (i 38) = nI bl') (hn3 : sq.2.1 ≤ 300) (hRM : RM (Kp (a 19) ln) T sq.2.1 (a 26) (a 31) (a 32) (a 33)), CT l dC dI sa yX10_steps wsX10_steps (rm_X10_stepsT j' bl' dp ln sq T) [.ref h0, .int ib] (mw g h0 b i a) (tyM g) sz (fun (r : Option Value) (u : Int32 × Int32 × Int32 × Int32 × Int32 × (Nat → Int32) × (Nat → Int32) × (Nat → Int32) × (Nat → Int32) × (Nat → Int32) × (Nat → Int32) × (Nat → Int32) × (Nat → Int32)) => match u with | (x22, x23, x24, x25, x36, y26, y27, y28, y29, y30, y31, y32, y33) => (∃ z : Int32, r = some (.int z)) ∧ (∃ dpN : Nat → Nat, PR (i 36) x36 dp dpN (a 26) (a 27) (a 31) (a 32) (a 33) y26 y27 y31 y32 y33 ∧ KP3 (a 28) (a 29) (a 30) y28 y29 y30 ∧ (∀ z : Int32, r = some (.int z) → (z = -2 ∧ ∃ rn : SG, ST (Kp (a 19) ln) (Vp (a 19) ln) (nq (a 19) ln) bl' (if ib = 0 then (0 : Int32) else 125) sq rn ∧ MO rn x23 x24) ∨ (lk (PV x36) dpN bl' z ∧ ∃ (r1 : SG) (TN : TT), EvT (Kp (a 19) ln) (Vp (a 19) ln) (nq (a 19) ln) 0 bl' 0 (sq, T) (r1, TN) ∧ z = lkm 2400 (thd sq.2.1 r1.2.1) ∧ MI (a 19) ln (gpa (Kp (a 19) ln) (nq (a 19) ln) (if ib = 0 then (0 : Int32) else 125) r1) x22 x23 x24 ∧ x36 = nI r1.2.1 ∧ TQ (Kp (a 19) ln) (Vp (a 19) ln) (nq (a 19) ln) TN sq.2.1 r1.2.1 (a 27) (a 28) (a 29) (a 30) y26 y27 y28 y29 y30 y31 y32 y33)))) (fun (u : Int32 × Int32 × Int32 × Int32 × Int32 × (Nat → Int32) × (Nat → Int32) × (Nat → Int32) × (Nat → Int32) × (Nat → Int32) × (Nat → Int32) × (Nat → Int32) × (Nat → Int32)) => match u with | (x22, x23, x24, x25, x36, y26, y27, y28, y29, y30, y31, y32, y33) => mw g h0 b (va_up (va_up (va_up (va_up (va_up i 22 x22) 23 x23) 24 x24) 25 x25) 36 x36) (va_up (va_up (va_up (va_up (va_up (va_up (va_up (va_up a 26 y26) 27 y27) 28 y28) 29 y29) 30 y30) 31 y31) 32 y32) 33 y33)) (fun _ => []) 0 0) : CT l dC dI sa yX10_steps wsX10_steps (rm_X10_stepsT j bl dp ln sq T) [.ref h0, .int ib] (mw g h0 b i a) (tyM g) sz (fun (r : Option Value) (u : Int32 × Int32 × Int32 × Int32 × Int32 × (Nat → Int32) × (Nat → Int32) × (Nat → Int32) × (Nat → Int32) × (Nat → Int32) × (Nat → Int32) × (Nat → Int32) × (Nat → Int32)) => match u with | (x22, x23, x24, x25, x36, y26, y27, y28, y29, y30, y31, y32, y33) => (∃ z : Int32, r = some (.int z)) ∧ (∃ dpN : Nat → Nat, PR (i 36) x36 dp dpN (a 26) (a 27) (a 31) (a 32) (a 33) y26 y27 y31 y32 y33 ∧ KP3 (a 28) (a 29) (a 30) y28 y29 y30 ∧ (∀ z : Int32, r = some (.int z) → (z = -2 ∧ ∃ rn : SG, ST (Kp (a 19) ln) (Vp (a 19) ln) (nq (a 19) ln) bl (if ib = 0 then (0 : Int32) else 125) sq rn ∧ MO rn x23 x24) ∨ (lk (PV x36) dpN bl z ∧ ∃ (r1 : SG) (TN : TT), EvT (Kp (a 19) ln) (Vp (a 19) ln) (nq (a 19) ln) 0 bl 0 (sq, T) (r1, TN) ∧ z = lkm 2400 (thd sq.2.1 r1.2.1) ∧ MI (a 19) ln (gpa (Kp (a 19) ln) (nq (a 19) ln) (if ib = 0 then (0 : Int32) else 125) r1) x22 x23 x24 ∧ x36 = nI r1.2.1 ∧ TQ (Kp (a 19) ln) (Vp (a 19) ln) (nq (a 19) ln) TN sq.2.1 r1.2.1 (a 27) (a 28) (a 29) (a 30) y26 y27 y28 y29 y30 y31 y32 y33)))) (fun (u : Int32 × Int32 × Int32 × Int32 × Int32 × (Nat → Int32) × (Nat → Int32) × (Nat → Int32) × (Nat → Int32) × (Nat → Int32) × (Nat → Int32) × (Nat → Int32) × (Nat → Int32)) => match u with | (x22, x23, x24, x25, x36, y26, y27, y28, y29, y30, y31, y32, y33) => mw g h0 b (va_up (va_up (va_up (va_up (va_up i 22 x22) 23 x23) 24 x24) 25 x25) 36 x36) (va_up (va_up (va_up (va_up (va_up (va_up (va_up (va_up a 26 y26) 27 y27) 28 y28) 29 y29) 30 y30) 31 y31) 32 y32) 33 y33)) (fun _ => []) 0 0 := by
  refine CT.start (cc := cX10_steps) (maxL := 5) (ret := (some .int)) (by decide) rfl (Nat.le_of_ble_eq_true rfl) ?_
  intro p e s m below meth c ls hst hP hK hD hev hS hl
  obtain ⟨hx, hb, hr, hml, hts, hown, hlocks, hin⟩ := hst
  have hown : s.vm.findClass RX10 = some m.cls := hown
  have hA : ∀ q : Nat, s.heap.size ≤ q → va_A (mw g h0 b i a) s.heap.size q := fun _ h => Or.inr h
  have hl : lv_has ls 5 [(0, .ref h0), (1, .int ib)] := hl
  refine lv_iconst (v := (-1)) hx hb dX10_steps_0 (by decide) ?_
  refine lv_istore_n (lv' := [(2, .int (-1)), (0, .ref h0), (1, .int ib)]) hx hb dX10_steps_1 rfl hl (by decide) rfl (fun ls hl => ?_)
  refine lv_iconst (v := (-1)) hx hb dX10_steps_2 (by decide) ?_
  refine lv_istore_n (lv' := [(3, .int (-1)), (2, .int (-1)), (0, .ref h0), (1, .int ib)]) hx hb dX10_steps_3 rfl hl (by decide) rfl (fun ls hl => ?_)
  refine lv_aload_n hx hb dX10_steps_4 rfl (lv_at hl 2 rfl) ?_
  refine M_V ⟨hx, hb, hml, hown, hts⟩ (m_X10_skip l dC dI sa g h0 b ln sq i a  _ hL hM) (cwV 0 hts gX10_steps_X10_skip rfl rfl rfl (by decide +kernel) ⟨(by first | exact Nat.le_of_ble_eq_true rfl | (simp only [rm_X10_skip, rm_X10_stepsT]; omega)), (by first | exact Nat.le_of_ble_eq_true rfl | (simp only [rm_X10_skip, rm_X10_stepsT]; omega))⟩) hP hD hK hS hA hev rfl rfl rfl rfl hl.1 rfl (Nat.le_of_ble_eq_true rfl) dX10_steps_5 ⟨(by first | exact Nat.le_of_ble_eq_true rfl | (simp only [rm_X10_stepsT]; omega)), (by first | exact Nat.le_of_ble_eq_true rfl | (simp only [rm_X10_stepsT]; omega))⟩ (fun r u H locs hw hP hD hS => ?_)
  obtain ⟨x22_1, rfl⟩ : ∃ z, z = u := ⟨_, rfl⟩
  have hw : (r = none) ∧ (x22_1 = nI sq.1) := hw
  obtain ⟨rfl, hw_2⟩ := hw
  have hP : va_P (dC, dI) vwCl (mw g h0 b (va_up i 22 x22_1) a) _ := hP
  have hD : va_D _ (mw g h0 b (va_up i 22 x22_1) a) := hD
  refine W.eq (g2 := F0 m 8 ls []) rfl ?_
  have hmq_3 : MI (a 19) ln sq x22_1 (i 23) (i 24) := (hM).sk hw_2
  have lp : ∀ (n : Nat) (hh : Int32) (la : Int32) (l22 : Int32) (l23 : Int32) (l24 : Int32) (l25 : Int32) (l36 : Int32) (l26 : Nat → Int32) (l27 : Nat → Int32) (l28 : Nat → Int32) (l29 : Nat → Int32) (l30 : Nat → Int32) (l31 : Nat → Int32) (l32 : Nat → Int32) (l33 : Nat → Int32) (H : Heap) (locs : List Loc) (ls : Array Slot), ((300 - l36.toInt).toNat < n) → (∃ (q1 : SG) (T1 : TT) (la9 : Nat), MI (a 19) ln q1 l22 l23 l24 ∧ l22 = nI q1.1 ∧ (l36 = nI q1.2.1 ∧ q1.2.1 ≤ 300 ∧ sq.2.1 ≤ q1.2.1) ∧ (∀ r9 : SG, Ev (Kp (a 19) ln) (Vp (a 19) ln) (nq (a 19) ln) 0 bl q1 r9 → Ev (Kp (a 19) ln) (Vp (a 19) ln) (nq (a 19) ln) 0 bl sq r9) ∧ (∀ w9 : SGT, EvT (Kp (a 19) ln) (Vp (a 19) ln) (nq (a 19) ln) 0 bl la9 (q1, T1) w9 → EvT (Kp (a 19) ln) (Vp (a 19) ln) (nq (a 19) ln) 0 bl 0 (sq, T) w9) ∧ la = lkm 2400 la9 ∧ hh = lkm 2400 (thd sq.2.1 q1.2.1) ∧ ((la9 = 0 ∧ q1.2.1 = sq.2.1) ∨ ∃ k9 : Nat, la9 = k9 + 1 ∧ sq.2.1 ≤ k9 ∧ k9 < q1.2.1) ∧ TQ (Kp (a 19) ln) (Vp (a 19) ln) (nq (a 19) ln) T1 sq.2.1 q1.2.1 (a 27) (a 28) (a 29) (a 30) l26 l27 l28 l29 l30 l31 l32 l33) → (KP3 (a 28) (a 29) (a 30) l28 l29 l30) → (∃ dp1 : Nat → Nat, PR (i 36) l36 dp dp1 (a 26) (a 27) (a 31) (a 32) (a 33) l26 l27 l31 l32 l33 ∧ lk (PV l36) dp1 bl hh ∧ lk (PV l36) dp1 bl la) → va_P (dC, dI) vwCl (mw g h0 b (va_up (va_up (va_up (va_up (va_up i 22 l22) 23 l23) 24 l24) 25 l25) 36 l36) (va_up (va_up (va_up (va_up (va_up (va_up (va_up (va_up a 26 l26) 27 l27) 28 l28) 29 l29) 30 l30) 31 l31) 32 l32) 33 l33)) H → va_D (va_A (mw g h0 b i a) s.heap.size) (mw g h0 b (va_up (va_up (va_up (va_up (va_up i 22 l22) 23 l23) 24 l24) 25 l25) 36 l36) (va_up (va_up (va_up (va_up (va_up (va_up (va_up (va_up a 26 l26) 27 l27) 28 l28) 29 l29) 30 l30) 31 l31) 32 l32) 33 l33)) → va_S (va_A (mw g h0 b i a) s.heap.size) s.heap H locs → lv_has ls 5 [(2, .int hh), (3, .int la), (0, .ref h0), (1, .int ib)] → W p l e (rm_X10_stepsT j bl dp ln sq T) s m [.ref h0, .int ib].toArray below meth c H locs 0 0 (MQ below (Qg (fun (r : Option Value) (u : Int32 × Int32 × Int32 × Int32 × Int32 × (Nat → Int32) × (Nat → Int32) × (Nat → Int32) × (Nat → Int32) × (Nat → Int32) × (Nat → Int32) × (Nat → Int32) × (Nat → Int32)) => match u with | (x22, x23, x24, x25, x36, y26, y27, y28, y29, y30, y31, y32, y33) => (∃ z : Int32, r = some (.int z)) ∧ (∃ dpN : Nat → Nat, PR (i 36) x36 dp dpN (a 26) (a 27) (a 31) (a 32) (a 33) y26 y27 y31 y32 y33 ∧ KP3 (a 28) (a 29) (a 30) y28 y29 y30 ∧ (∀ z : Int32, r = some (.int z) → (z = -2 ∧ ∃ rn : SG, ST (Kp (a 19) ln) (Vp (a 19) ln) (nq (a 19) ln) bl (if ib = 0 then (0 : Int32) else 125) sq rn ∧ MO rn x23 x24) ∨ (lk (PV x36) dpN bl z ∧ ∃ (r1 : SG) (TN : TT), EvT (Kp (a 19) ln) (Vp (a 19) ln) (nq (a 19) ln) 0 bl 0 (sq, T) (r1, TN) ∧ z = lkm 2400 (thd sq.2.1 r1.2.1) ∧ MI (a 19) ln (gpa (Kp (a 19) ln) (nq (a 19) ln) (if ib = 0 then (0 : Int32) else 125) r1) x22 x23 x24 ∧ x36 = nI r1.2.1 ∧ TQ (Kp (a 19) ln) (Vp (a 19) ln) (nq (a 19) ln) TN sq.2.1 r1.2.1 (a 27) (a 28) (a 29) (a 30) y26 y27 y28 y29 y30 y31 y32 y33)))) (fun u t => QW dC dI (va_A (mw g h0 b i a) s.heap.size) ((fun (u : Int32 × Int32 × Int32 × Int32 × Int32 × (Nat → Int32) × (Nat → Int32) × (Nat → Int32) × (Nat → Int32) × (Nat → Int32) × (Nat → Int32) × (Nat → Int32) × (Nat → Int32)) => match u with | (x22, x23, x24, x25, x36, y26, y27, y28, y29, y30, y31, y32, y33) => mw g h0 b (va_up (va_up (va_up (va_up (va_up i 22 x22) 23 x23) 24 x24) 25 x25) 36 x36) (va_up (va_up (va_up (va_up (va_up (va_up (va_up (va_up a 26 y26) 27 y27) 28 y28) 29 y29) 30 y30) 31 y31) 32 y32) 33 y33)) u) [] t) (va_A (mw g h0 b i a) s.heap.size)) [.ref h0, .int ib].toArray s 0 0 (va_A (mw g h0 b i a) s.heap.size)) (F0 m 8 ls []) := by
    intro n
    induction n with
    | zero => intro hh la l22 l23 l24 l25 l36 l26 l27 l28 l29 l30 l31 l32 l33 H locs ls hm hR hk3l hpr hP hD hS hl; exact absurd hm (by omega)
    | succ n ih =>
      intro hh la l22 l23 l24 l25 l36 l26 l27 l28 l29 l30 l31 l32 l33 H locs ls hm hR hk3l hpr hP hD hS hl
      refine lv_iload_n hx hb dX10_steps_8 rfl (lv_at hl 3 rfl) ?_
      obtain ⟨dp1, hpr1, hlk1, hlk2⟩ := hpr
      obtain ⟨q1, T1, la9, hm1, hq1, ⟨h361, hb3, hns⟩, hall, hallT, hla9, hhh, hcs, htq1⟩ := hR
      have hn31 : q1.2.1 ≤ 300 := hb3
      refine lv_if_eq (tgt := 24) hx hb dX10_steps_9 (by decide) (fun c_4 => ?_) (fun c_4 => ?_)
      · have nc_4 := eq_i c_4
        have lc_4 : (0 : Int32).toInt = 0 := by decide
        refine lv_aload_n hx hb dX10_steps_24 rfl (lv_at hl 2 rfl) ?_
        refine va_get (D := (dC, dI)) (ci := 10) (v := .int l22) (C := RX10) (T := TX10) (N := 51) hx hb hts inw_X10_steps_10 hown hK hP 0 rfl rfl 22 (by decide) (hts (.fieldLink RX10 168 "VatHouseModel" "at" "I") (List.mem_of_getElem? (i := 1) (by exact rfl))) (fun _ h9 => h9) rfl dX10_steps_25 ?_
        refine lv_aload_n hx hb dX10_steps_28 rfl (lv_at hl 2 rfl) ?_
        refine va_get (D := (dC, dI)) (ci := 10) (v := .int (i 21)) (C := RX10) (T := TX10) (N := 51) hx hb hts inw_X10_steps_10 hown hK hP 0 rfl rfl 21 (by decide) (hts (.fieldLink RX10 171 "VatHouseModel" "size" "I") (List.mem_of_getElem? (i := 2) (by exact rfl))) (fun _ h9 => h9) rfl dX10_steps_29 ?_
        refine lv_icmp_ge (tgt := 79) hx hb dX10_steps_32 (by decide) (fun c_5 => ?_) (fun c_5 => ?_)
        · have nc_5 := le_i c_5
          refine lv_iload_n hx hb dX10_steps_79 rfl (lv_at hl 3 rfl) ?_
          refine lv_if_eq (tgt := 93) hx hb dX10_steps_80 (by decide) (fun c_6 => ?_) (fun c_6 => ?_)
          · have nc_6 := eq_i c_6
            have lc_6 : (0 : Int32).toInt = 0 := by decide
            refine lv_iload_n hx hb dX10_steps_93 rfl (lv_at hl 0 rfl) ?_
            exact M_i hx hb hr hlocks (l22, l23, l24, l25, l36, l26, l27, l28, l29, l30, l31, l32, l33) hP hD hK hS ⟨⟨_, rfl⟩, ⟨dp1, hpr1, hk3l, fun z9 h9 => by cases h9; have hge := (pl_ge hq1 hL.1 (by have := hm1.q.1; have := hL.2; omega) (by have := hL.2; omega) c_5); have hend := ST.end0 hm1 hall hge; exact Or.inr ⟨hlk1, q1, T1, (hallT _ (EvT.stop fun g => by have g2 := g.2; rw [show Kp (a 19) ln (q1, T1).1.1 = 0 from Kp_0.mpr hge] at g2; exact absurd g2 (by decide))), hhh, (by rw [if_pos c_4]; exact hend.2), h361, htq1⟩⟩⟩ (by first | exact Nat.le_of_ble_eq_true rfl | (simp only [rm_X10_stepsT]; omega)) (by first | exact Nat.le_of_ble_eq_true rfl | (simp only [rm_X10_stepsT]; omega)) dX10_steps_94
          · have nc_6 := ne_i c_6
            have lc_6 : (0 : Int32).toInt = 0 := by decide
            exact absurd c_4 c_6
        · have nc_5 := nle_i c_5
          refine lv_aload_n hx hb dX10_steps_35 rfl (lv_at hl 2 rfl) ?_
          have hKc : ¬ Kp (a 19) ln q1.1 = 0 := fun h9 => absurd (Kp_0.mp h9) (Nat.not_le.mpr (pl_lt hq1 hL.1 (by have := hm1.q.1; have := hL.2; omega) (by have := hL.2; omega) c_5))
          refine M_V ⟨hx, hb, hml, hown, hts⟩ (m_X10_stepT l dC dI sa g h0 b j bl dp1 ln q1 T1 (va_up (va_up (va_up (va_up (va_up i 22 l22) 23 l23) 24 l24) 25 l25) 36 l36) (va_up (va_up (va_up (va_up (va_up (va_up (va_up (va_up a 26 l26) 27 l27) 28 l28) 29 l29) 30 l30) 31 l31) 32 l32) 33 l33)  _ hL hm1 h361 hpr1.2.1 hBL hj hn31 htq1.1 IHS) (cwV 0 hts gX10_steps_X10_step rfl rfl rfl (by decide +kernel) ⟨(by first | exact Nat.le_of_ble_eq_true rfl | (simp only [rm_X10_stepT, rm_X10_stepsT]; omega)), (by first | exact Nat.le_of_ble_eq_true rfl | (simp only [rm_X10_stepT, rm_X10_stepsT]; omega))⟩) hP hD hK hS hA hev rfl rfl rfl rfl hl.1 rfl (Nat.le_of_ble_eq_true rfl) dX10_steps_36 ⟨(by first | exact Nat.le_of_ble_eq_true rfl | (simp only [rm_X10_stepsT]; omega)), (by first | exact Nat.le_of_ble_eq_true rfl | (simp only [rm_X10_stepsT]; omega))⟩ (fun r u H locs hw hP hD hS => ?_)
          obtain ⟨x22_7, x23_8, x24_9, x25_10, x36_11, y26_12, y27_13, y28_14, y29_15, y30_16, y31_17, y32_18, y33_19⟩ := u
          have hw : (∃ z : Int32, r = some (.int z)) ∧ (∃ dpN : Nat → Nat, PR l36 x36_11 dp1 dpN l26 l27 l31 l32 l33 y26_12 y27_13 y31_17 y32_18 y33_19 ∧ KP3 l28 l29 l30 y28_14 y29_15 y30_16 ∧ (∀ z : Int32, r = some (.int z) → (z = -1 ∧ ∃ rn : SG, SXx (Kp (a 19) ln) (Vp (a 19) ln) (nq (a 19) ln) bl q1 rn ∧ MO rn x23_8 x24_9) ∨ ((∃ q : Nat, z = nI q ∧ PV x36_11 q ∧ dpN q = bl) ∧ l36.toInt < x36_11.toInt ∧ z = nI (2400 + q1.2.1) ∧ (1 ≤ Kp (a 19) ln q1.1 ∧ Kp (a 19) ln q1.1 ≤ 12) ∧ ∃ (rn : SG) (TN : TT), EvT (Kp (a 19) ln) (Vp (a 19) ln) (nq (a 19) ln) 1 bl 0 (q1, T1) (rn, TN) ∧ MI (a 19) ln rn x22_7 x23_8 x24_9 ∧ x36_11 = nI rn.2.1 ∧ TQ (Kp (a 19) ln) (Vp (a 19) ln) (nq (a 19) ln) TN q1.2.1 rn.2.1 l27 l28 l29 l30 y26_12 y27_13 y28_14 y29_15 y30_16 y31_17 y32_18 y33_19))) := hw
          obtain ⟨⟨z_21, rfl⟩, hw_20⟩ := hw
          have hP : va_P (dC, dI) vwCl (mw g h0 b (va_up (va_up (va_up (va_up (va_up i 22 x22_7) 23 x23_8) 24 x24_9) 25 x25_10) 36 x36_11) (va_up (va_up (va_up (va_up (va_up (va_up (va_up (va_up a 26 y26_12) 27 y27_13) 28 y28_14) 29 y29_15) 30 y30_16) 31 y31_17) 32 y32_18) 33 y33_19)) _ := hP
          have hD : va_D _ (mw g h0 b (va_up (va_up (va_up (va_up (va_up i 22 x22_7) 23 x23_8) 24 x24_9) 25 x25_10) 36 x36_11) (va_up (va_up (va_up (va_up (va_up (va_up (va_up (va_up a 26 y26_12) 27 y27_13) 28 y28_14) 29 y29_15) 30 y30_16) 31 y31_17) 32 y32_18) 33 y33_19)) := hD
          refine W.eq (g2 := F0 m 39 ls [.int z_21]) rfl ?_
          obtain ⟨dp_23, hPR_22, hk3_25, hres_24⟩ := hw_20
          have thk3_25 := KP3.tr hk3l hk3_25
          have hres_24 := hres_24 _ rfl
          have hpr_26 := PR.tr hpr1 hPR_22
          refine lv_istore (lv' := [(4, .int z_21), (2, .int hh), (3, .int la), (0, .ref h0), (1, .int ib)]) hx hb dX10_steps_39 hl (by decide) rfl (fun ls hl => ?_)
          refine lv_iload hx hb dX10_steps_41 (lv_at hl 0 rfl) ?_
          refine lv_iconst (v := (-1)) hx hb dX10_steps_43 (by decide) ?_
          refine lv_icmp_ne (tgt := 50) hx hb dX10_steps_44 (by decide) (fun c_27 => ?_) (fun c_27 => ?_)
          · have nc_27 := ne_i c_27
            have lc_27 : ((-1) : Int32).toInt = -1 := by decide
            obtain ⟨⟨qk, hk1, hk2, hk3⟩, hlt, hzn, hrg1, rn, TN, hevt, hmr, h36r, htq2⟩ := hres_24.resolve_left (fun h9 => c_27 h9.1)
            have h300 := hPR_22.2.1.2.1
            have hnd1 := hevt.nd
            have hnlt : q1.2.1 + 1 ≤ rn.2.1 := hnd1.2.1 rfl hmr.2.1
            have hrn3 : rn.2.1 ≤ 300 := hnd1.2.2 hb3
            have htr := TQ.tr htq1 htq2 (fun j9 hj9 => hevt.t0 j9 hj9) hns
            refine lv_iload_n hx hb dX10_steps_50 rfl (lv_at hl 2 rfl) ?_
            refine lv_iconst (v := (-1)) hx hb dX10_steps_51 (by decide) ?_
            refine lv_icmp_ne (tgt := 61) hx hb dX10_steps_52 (by decide) (fun c_28 => ?_) (fun c_28 => ?_)
            · have nc_28 := ne_i c_28
              have lc_28 : ((-1) : Int32).toInt = -1 := by decide
              obtain ⟨ql, hl1, hl2, hl3⟩ := hlk2.node c_28
              have hndl := PR.nd hPR_22 hl2 hl3
              have hkl : vp_in la 2700 := lk.in hpr1.2.1.2.2 hlk2 c_28
              obtain ⟨k9, hk9, hk9a, hk9b⟩ := hcs.resolve_left (fun h9 => c_28 (by rw [hla9, h9.1]; rfl))
              have hlc : la.toNatClampNeg = 2400 + k9 := by rw [hla9, hk9, lkm_1]; exact nI_clamp (by omega)
              refine lv_aload_n hx hb dX10_steps_61 rfl (lv_at hl 3 rfl) ?_
              refine va_get (D := (dC, dI)) (ci := 10) (v := .ref (b 33)) (C := RX10) (T := TX10) (N := 51) hx hb hts inw_X10_steps_10 hown hK hP 0 rfl rfl 33 (by decide) (hts (.fieldLink RX10 81 "VatHouseModel" "next" "[I") (List.mem_of_getElem? (i := 3) (by exact rfl))) (fun _ h9 => h9) rfl dX10_steps_62 ?_
              refine lv_iload_n hx hb dX10_steps_65 rfl (lv_at hl 2 rfl) ?_
              refine lv_iload hx hb dX10_steps_66 (lv_at hl 0 rfl) ?_
              refine va_iast hx hb hK hP hD hS 23 22 rfl rfl (by assumption) dX10_steps_68 (fun H locs hP hD hS => ?_)
              have hP : va_P (dC, dI) vwCl (mw g h0 b (va_up (va_up (va_up (va_up (va_up i 22 x22_7) 23 x23_8) 24 x24_9) 25 x25_10) 36 x36_11) (va_up (va_up (va_up (va_up (va_up (va_up (va_up (va_up a 26 y26_12) 27 y27_13) 28 y28_14) 29 y29_15) 30 y30_16) 31 y31_17) 32 y32_18) 33 (upd y33_19 la.toNatClampNeg z_21))) _ := hP
              have hD : va_D _ (mw g h0 b (va_up (va_up (va_up (va_up (va_up i 22 x22_7) 23 x23_8) 24 x24_9) 25 x25_10) 36 x36_11) (va_up (va_up (va_up (va_up (va_up (va_up (va_up (va_up a 26 y26_12) 27 y27_13) 28 y28_14) 29 y29_15) 30 y30_16) 31 y31_17) 32 y32_18) 33 (upd y33_19 la.toNatClampNeg z_21))) := hD
              obtain ⟨f_29, ef_29⟩ : ∃ z, z = (upd y33_19 la.toNatClampNeg z_21) := ⟨_, rfl⟩
              rw [← ef_29] at hP hD
              have hpn := PN.next hPR_22.2.1 hl1 hndl.1 (Or.inr ⟨qk, hk1, hk2, hk3.trans hndl.2.symm⟩)
              rw [← ef_29] at hpn
              have hpr_30 := PR.tr hpr_26 hpn
              have htn := TQ.nxt htr hk9 hlc hzn
              rw [← ef_29] at htn
              refine lv_iload hx hb dX10_steps_69 (lv_at hl 0 rfl) ?_
              refine lv_istore_n (lv' := [(3, .int z_21), (4, .int z_21), (2, .int hh), (0, .ref h0), (1, .int ib)]) hx hb dX10_steps_71 rfl hl (by decide) rfl (fun ls hl => ?_)
              refine lv_aload_n hx hb dX10_steps_72 rfl (lv_at hl 3 rfl) ?_
              refine M_V ⟨hx, hb, hml, hown, hts⟩ (m_X10_skip l dC dI sa g h0 b ln rn (va_up (va_up (va_up (va_up (va_up i 22 x22_7) 23 x23_8) 24 x24_9) 25 x25_10) 36 x36_11) (va_up (va_up (va_up (va_up (va_up (va_up (va_up (va_up a 26 y26_12) 27 y27_13) 28 y28_14) 29 y29_15) 30 y30_16) 31 y31_17) 32 y32_18) 33 f_29)  _ hL hmr) (cwV 0 hts gX10_steps_X10_skip rfl rfl rfl (by decide +kernel) ⟨(by first | exact Nat.le_of_ble_eq_true rfl | (simp only [rm_X10_skip, rm_X10_stepsT]; omega)), (by first | exact Nat.le_of_ble_eq_true rfl | (simp only [rm_X10_skip, rm_X10_stepsT]; omega))⟩) hP hD hK hS hA hev rfl rfl rfl rfl hl.1 rfl (Nat.le_of_ble_eq_true rfl) dX10_steps_73 ⟨(by first | exact Nat.le_of_ble_eq_true rfl | (simp only [rm_X10_stepsT]; omega)), (by first | exact Nat.le_of_ble_eq_true rfl | (simp only [rm_X10_stepsT]; omega))⟩ (fun r u H locs hw hP hD hS => ?_)
              obtain ⟨x22_31, rfl⟩ : ∃ z, z = u := ⟨_, rfl⟩
              have hw : (r = none) ∧ (x22_31 = nI rn.1) := hw
              obtain ⟨rfl, hw_32⟩ := hw
              have hP : va_P (dC, dI) vwCl (mw g h0 b (va_up (va_up (va_up (va_up (va_up i 22 x22_31) 23 x23_8) 24 x24_9) 25 x25_10) 36 x36_11) (va_up (va_up (va_up (va_up (va_up (va_up (va_up (va_up a 26 y26_12) 27 y27_13) 28 y28_14) 29 y29_15) 30 y30_16) 31 y31_17) 32 y32_18) 33 f_29)) _ := hP
              have hD : va_D _ (mw g h0 b (va_up (va_up (va_up (va_up (va_up i 22 x22_31) 23 x23_8) 24 x24_9) 25 x25_10) 36 x36_11) (va_up (va_up (va_up (va_up (va_up (va_up (va_up (va_up a 26 y26_12) 27 y27_13) 28 y28_14) 29 y29_15) 30 y30_16) 31 y31_17) 32 y32_18) 33 f_29)) := hD
              refine W.eq (g2 := F0 m 76 ls []) rfl ?_
              have hmq_33 : MI (a 19) ln rn x22_31 x23_8 x24_9 := (hmr).sk hw_32
              refine lv_goto (tgt := 8) hx hb dX10_steps_76 (by decide) ?_
              exact ih hh z_21 x22_31 x23_8 x24_9 x25_10 x36_11 y26_12 y27_13 y28_14 y29_15 y30_16 y31_17 y32_18 f_29 _ _ _ (nx300 hm hlt h300) (⟨rn, tnx TN la9 q1.2.1, q1.2.1 + 1, hmq_33, hw_32, ⟨h36r, hrn3, by omega⟩, ST.go hm1 hall (Or.inl ⟨hrg1, hevt.ev⟩) hmr.2.1, fun w9 h9 => hallT w9 (EvT.go ⟨hm1.2.1, hrg1⟩ hevt h9), (by rw [lkm_1]; exact hzn), (by rw [hhh, thd_lt (by omega : sq.2.1 < q1.2.1), thd_lt (by omega : sq.2.1 < rn.2.1)]), Or.inr ⟨q1.2.1, rfl, hns, by omega⟩, htn⟩) (thk3_25) (⟨dp_23, hpr_30, PR.lk hPR_22 hlk1, (Or.inr ⟨qk, hk1, hk2, hk3⟩)⟩) hP hD hS (lv_sub hl [2, 0, 3, 4] rfl)
            · have nc_28 := eq_i c_28
              have lc_28 : ((-1) : Int32).toInt = -1 := by decide
              refine lv_iload hx hb dX10_steps_55 (lv_at hl 0 rfl) ?_
              refine lv_istore_n (lv' := [(2, .int z_21), (4, .int z_21), (3, .int la), (0, .ref h0), (1, .int ib)]) hx hb dX10_steps_57 rfl hl (by decide) rfl (fun ls hl => ?_)
              refine lv_goto (tgt := 69) hx hb dX10_steps_58 (by decide) ?_
              have hl0 : la9 = 0 ∧ q1.2.1 = sq.2.1 := by rcases hcs with h9 | ⟨k9, g1, g2, g3⟩; (exact h9); (exact absurd c_28 (by rw [hla9, g1, lkm_1]; exact nI_m1 (by omega)))
              have htn := TQ.n0 (x := q1.2.1) htr
              rw [← hl0.1] at htn
              refine lv_iload hx hb dX10_steps_69 (lv_at hl 1 rfl) ?_
              refine lv_istore_n (lv' := [(3, .int z_21), (2, .int z_21), (4, .int z_21), (0, .ref h0), (1, .int ib)]) hx hb dX10_steps_71 rfl hl (by decide) rfl (fun ls hl => ?_)
              refine lv_aload_n hx hb dX10_steps_72 rfl (lv_at hl 3 rfl) ?_
              refine M_V ⟨hx, hb, hml, hown, hts⟩ (m_X10_skip l dC dI sa g h0 b ln rn (va_up (va_up (va_up (va_up (va_up i 22 x22_7) 23 x23_8) 24 x24_9) 25 x25_10) 36 x36_11) (va_up (va_up (va_up (va_up (va_up (va_up (va_up (va_up a 26 y26_12) 27 y27_13) 28 y28_14) 29 y29_15) 30 y30_16) 31 y31_17) 32 y32_18) 33 y33_19)  _ hL hmr) (cwV 0 hts gX10_steps_X10_skip rfl rfl rfl (by decide +kernel) ⟨(by first | exact Nat.le_of_ble_eq_true rfl | (simp only [rm_X10_skip, rm_X10_stepsT]; omega)), (by first | exact Nat.le_of_ble_eq_true rfl | (simp only [rm_X10_skip, rm_X10_stepsT]; omega))⟩) hP hD hK hS hA hev rfl rfl rfl rfl hl.1 rfl (Nat.le_of_ble_eq_true rfl) dX10_steps_73 ⟨(by first | exact Nat.le_of_ble_eq_true rfl | (simp only [rm_X10_stepsT]; omega)), (by first | exact Nat.le_of_ble_eq_true rfl | (simp only [rm_X10_stepsT]; omega))⟩ (fun r u H locs hw hP hD hS => ?_)
              obtain ⟨x22_34, rfl⟩ : ∃ z, z = u := ⟨_, rfl⟩
              have hw : (r = none) ∧ (x22_34 = nI rn.1) := hw
              obtain ⟨rfl, hw_35⟩ := hw
              have hP : va_P (dC, dI) vwCl (mw g h0 b (va_up (va_up (va_up (va_up (va_up i 22 x22_34) 23 x23_8) 24 x24_9) 25 x25_10) 36 x36_11) (va_up (va_up (va_up (va_up (va_up (va_up (va_up (va_up a 26 y26_12) 27 y27_13) 28 y28_14) 29 y29_15) 30 y30_16) 31 y31_17) 32 y32_18) 33 y33_19)) _ := hP
              have hD : va_D _ (mw g h0 b (va_up (va_up (va_up (va_up (va_up i 22 x22_34) 23 x23_8) 24 x24_9) 25 x25_10) 36 x36_11) (va_up (va_up (va_up (va_up (va_up (va_up (va_up (va_up a 26 y26_12) 27 y27_13) 28 y28_14) 29 y29_15) 30 y30_16) 31 y31_17) 32 y32_18) 33 y33_19)) := hD
              refine W.eq (g2 := F0 m 76 ls []) rfl ?_
              have hmq_36 : MI (a 19) ln rn x22_34 x23_8 x24_9 := (hmr).sk hw_35
              refine lv_goto (tgt := 8) hx hb dX10_steps_76 (by decide) ?_
              exact ih z_21 z_21 x22_34 x23_8 x24_9 x25_10 x36_11 y26_12 y27_13 y28_14 y29_15 y30_16 y31_17 y32_18 y33_19 _ _ _ (nx300 hm hlt h300) (⟨rn, tnx TN la9 q1.2.1, q1.2.1 + 1, hmq_36, hw_35, ⟨h36r, hrn3, by omega⟩, ST.go hm1 hall (Or.inl ⟨hrg1, hevt.ev⟩) hmr.2.1, fun w9 h9 => hallT w9 (EvT.go ⟨hm1.2.1, hrg1⟩ hevt h9), (by rw [lkm_1]; exact hzn), (by rw [thd_lt (by omega : sq.2.1 < rn.2.1), lkm_1, hzn, hl0.2]), Or.inr ⟨q1.2.1, rfl, hns, by omega⟩, htn⟩) (thk3_25) (⟨dp_23, hpr_26, (Or.inr ⟨qk, hk1, hk2, hk3⟩), (Or.inr ⟨qk, hk1, hk2, hk3⟩)⟩) hP hD hS (lv_sub hl [1, 0, 3, 4] rfl)
          · have nc_27 := eq_i c_27
            have lc_27 : ((-1) : Int32).toInt = -1 := by decide
            refine lv_bipush (v := (-2)) hx hb dX10_steps_47 (by decide) ?_
            exact M_i hx hb hr hlocks (x22_7, x23_8, x24_9, x25_10, x36_11, y26_12, y27_13, y28_14, y29_15, y30_16, y31_17, y32_18, y33_19) hP hD hK hS ⟨⟨_, rfl⟩, ⟨dp_23, hpr_26, thk3_25, fun z9 h9 => Or.inl ⟨by cases h9; rfl, by rw [if_pos c_4]; rcases hres_24 with ⟨-, rn, h1, h2⟩ | ⟨⟨q9, g1, g2, g3⟩, -⟩; exact ST.no hm1 hall hKc h1 h2; exact absurd c_27 (nq_ne g1 g2 hPR_22.2.1.2.1).1⟩⟩⟩ (by first | exact Nat.le_of_ble_eq_true rfl | (simp only [rm_X10_stepsT]; omega)) (by first | exact Nat.le_of_ble_eq_true rfl | (simp only [rm_X10_stepsT]; omega)) dX10_steps_49
      · have nc_4 := ne_i c_4
        have lc_4 : (0 : Int32).toInt = 0 := by decide
        refine lv_aload_n hx hb dX10_steps_12 rfl (lv_at hl 2 rfl) ?_
        refine lv_bipush (v := 125) hx hb dX10_steps_13 (by decide) ?_
        refine M_V ⟨hx, hb, hml, hown, hts⟩ (m_X10_isSign l dC dI sa g h0 b ln q1 (va_up (va_up (va_up (va_up (va_up i 22 l22) 23 l23) 24 l24) 25 l25) 36 l36) (va_up (va_up (va_up (va_up (va_up (va_up (va_up (va_up a 26 l26) 27 l27) 28 l28) 29 l29) 30 l30) 31 l31) 32 l32) 33 l33) (125 : Int32) _ hL hm1 (by decide)) (cwV 1 hts gX10_steps_X10_isSign rfl rfl rfl (by decide +kernel) ⟨(by first | exact Nat.le_of_ble_eq_true rfl | (simp only [rm_X10_isSign, rm_X10_stepsT]; omega)), (by first | exact Nat.le_of_ble_eq_true rfl | (simp only [rm_X10_isSign, rm_X10_stepsT]; omega))⟩) hP hD hK hS hA hev rfl rfl rfl rfl hl.1 rfl (Nat.le_of_ble_eq_true rfl) dX10_steps_15 ⟨(by first | exact Nat.le_of_ble_eq_true rfl | (simp only [rm_X10_stepsT]; omega)), (by first | exact Nat.le_of_ble_eq_true rfl | (simp only [rm_X10_stepsT]; omega))⟩ (fun r u H locs hw hP hD hS => ?_)
        obtain ⟨x22_37, rfl⟩ : ∃ z, z = u := ⟨_, rfl⟩
        have hw : ((r = some (.int 0) ∧ (¬ Kp (a 19) ln q1.1 = (125 : Int32))) ∨ (r = some (.int 1) ∧ (q1.1 < ln ∧ Kp (a 19) ln q1.1 = (125 : Int32)))) ∧ (x22_37 = nI q1.1) := hw
        obtain ⟨⟨rfl, hz2_39⟩ | ⟨rfl, hz2_39⟩, hw_38⟩ := hw
        · have hP : va_P (dC, dI) vwCl (mw g h0 b (va_up (va_up (va_up (va_up (va_up i 22 x22_37) 23 l23) 24 l24) 25 l25) 36 l36) (va_up (va_up (va_up (va_up (va_up (va_up (va_up (va_up a 26 l26) 27 l27) 28 l28) 29 l29) 30 l30) 31 l31) 32 l32) 33 l33)) _ := hP
          have hD : va_D _ (mw g h0 b (va_up (va_up (va_up (va_up (va_up i 22 x22_37) 23 l23) 24 l24) 25 l25) 36 l36) (va_up (va_up (va_up (va_up (va_up (va_up (va_up (va_up a 26 l26) 27 l27) 28 l28) 29 l29) 30 l30) 31 l31) 32 l32) 33 l33)) := hD
          refine W.eq (g2 := F0 m 18 ls [.int 0]) rfl ?_
          have hmq_40 : MI (a 19) ln q1 x22_37 l23 l24 := (hm1).sk hw_38
          refine lv_if_ne (tgt := 79) hx hb dX10_steps_18 (by decide) (fun c_41 => absurd c_41 (by decide)) (fun _ => ?_)
          refine lv_goto (tgt := 35) hx hb dX10_steps_21 (by decide) ?_
          refine lv_aload_n hx hb dX10_steps_35 rfl (lv_at hl 2 rfl) ?_
          have hKc : ¬ Kp (a 19) ln q1.1 = 125 := hz2_39
          refine M_V ⟨hx, hb, hml, hown, hts⟩ (m_X10_stepT l dC dI sa g h0 b j bl dp1 ln q1 T1 (va_up (va_up (va_up (va_up (va_up i 22 x22_37) 23 l23) 24 l24) 25 l25) 36 l36) (va_up (va_up (va_up (va_up (va_up (va_up (va_up (va_up a 26 l26) 27 l27) 28 l28) 29 l29) 30 l30) 31 l31) 32 l32) 33 l33)  _ hL hmq_40 h361 hpr1.2.1 hBL hj hn31 htq1.1 IHS) (cwV 0 hts gX10_steps_X10_step rfl rfl rfl (by decide +kernel) ⟨(by first | exact Nat.le_of_ble_eq_true rfl | (simp only [rm_X10_stepT, rm_X10_stepsT]; omega)), (by first | exact Nat.le_of_ble_eq_true rfl | (simp only [rm_X10_stepT, rm_X10_stepsT]; omega))⟩) hP hD hK hS hA hev rfl rfl rfl rfl hl.1 rfl (Nat.le_of_ble_eq_true rfl) dX10_steps_36 ⟨(by first | exact Nat.le_of_ble_eq_true rfl | (simp only [rm_X10_stepsT]; omega)), (by first | exact Nat.le_of_ble_eq_true rfl | (simp only [rm_X10_stepsT]; omega))⟩ (fun r u H locs hw hP hD hS => ?_)
          obtain ⟨x22_42, x23_43, x24_44, x25_45, x36_46, y26_47, y27_48, y28_49, y29_50, y30_51, y31_52, y32_53, y33_54⟩ := u
          have hw : (∃ z : Int32, r = some (.int z)) ∧ (∃ dpN : Nat → Nat, PR l36 x36_46 dp1 dpN l26 l27 l31 l32 l33 y26_47 y27_48 y31_52 y32_53 y33_54 ∧ KP3 l28 l29 l30 y28_49 y29_50 y30_51 ∧ (∀ z : Int32, r = some (.int z) → (z = -1 ∧ ∃ rn : SG, SXx (Kp (a 19) ln) (Vp (a 19) ln) (nq (a 19) ln) bl q1 rn ∧ MO rn x23_43 x24_44) ∨ ((∃ q : Nat, z = nI q ∧ PV x36_46 q ∧ dpN q = bl) ∧ l36.toInt < x36_46.toInt ∧ z = nI (2400 + q1.2.1) ∧ (1 ≤ Kp (a 19) ln q1.1 ∧ Kp (a 19) ln q1.1 ≤ 12) ∧ ∃ (rn : SG) (TN : TT), EvT (Kp (a 19) ln) (Vp (a 19) ln) (nq (a 19) ln) 1 bl 0 (q1, T1) (rn, TN) ∧ MI (a 19) ln rn x22_42 x23_43 x24_44 ∧ x36_46 = nI rn.2.1 ∧ TQ (Kp (a 19) ln) (Vp (a 19) ln) (nq (a 19) ln) TN q1.2.1 rn.2.1 l27 l28 l29 l30 y26_47 y27_48 y28_49 y29_50 y30_51 y31_52 y32_53 y33_54))) := hw
          obtain ⟨⟨z_56, rfl⟩, hw_55⟩ := hw
          have hP : va_P (dC, dI) vwCl (mw g h0 b (va_up (va_up (va_up (va_up (va_up i 22 x22_42) 23 x23_43) 24 x24_44) 25 x25_45) 36 x36_46) (va_up (va_up (va_up (va_up (va_up (va_up (va_up (va_up a 26 y26_47) 27 y27_48) 28 y28_49) 29 y29_50) 30 y30_51) 31 y31_52) 32 y32_53) 33 y33_54)) _ := hP
          have hD : va_D _ (mw g h0 b (va_up (va_up (va_up (va_up (va_up i 22 x22_42) 23 x23_43) 24 x24_44) 25 x25_45) 36 x36_46) (va_up (va_up (va_up (va_up (va_up (va_up (va_up (va_up a 26 y26_47) 27 y27_48) 28 y28_49) 29 y29_50) 30 y30_51) 31 y31_52) 32 y32_53) 33 y33_54)) := hD
          refine W.eq (g2 := F0 m 39 ls [.int z_56]) rfl ?_
          obtain ⟨dp_58, hPR_57, hk3_60, hres_59⟩ := hw_55
          have thk3_60 := KP3.tr hk3l hk3_60
          have hres_59 := hres_59 _ rfl
          have hpr_61 := PR.tr hpr1 hPR_57
          refine lv_istore (lv' := [(4, .int z_56), (2, .int hh), (3, .int la), (0, .ref h0), (1, .int ib)]) hx hb dX10_steps_39 hl (by decide) rfl (fun ls hl => ?_)
          refine lv_iload hx hb dX10_steps_41 (lv_at hl 0 rfl) ?_
          refine lv_iconst (v := (-1)) hx hb dX10_steps_43 (by decide) ?_
          refine lv_icmp_ne (tgt := 50) hx hb dX10_steps_44 (by decide) (fun c_62 => ?_) (fun c_62 => ?_)
          · have nc_62 := ne_i c_62
            have lc_62 : ((-1) : Int32).toInt = -1 := by decide
            obtain ⟨⟨qk, hk1, hk2, hk3⟩, hlt, hzn, hrg1, rn, TN, hevt, hmr, h36r, htq2⟩ := hres_59.resolve_left (fun h9 => c_62 h9.1)
            have h300 := hPR_57.2.1.2.1
            have hnd1 := hevt.nd
            have hnlt : q1.2.1 + 1 ≤ rn.2.1 := hnd1.2.1 rfl hmr.2.1
            have hrn3 : rn.2.1 ≤ 300 := hnd1.2.2 hb3
            have htr := TQ.tr htq1 htq2 (fun j9 hj9 => hevt.t0 j9 hj9) hns
            refine lv_iload_n hx hb dX10_steps_50 rfl (lv_at hl 2 rfl) ?_
            refine lv_iconst (v := (-1)) hx hb dX10_steps_51 (by decide) ?_
            refine lv_icmp_ne (tgt := 61) hx hb dX10_steps_52 (by decide) (fun c_63 => ?_) (fun c_63 => ?_)
            · have nc_63 := ne_i c_63
              have lc_63 : ((-1) : Int32).toInt = -1 := by decide
              obtain ⟨ql, hl1, hl2, hl3⟩ := hlk2.node c_63
              have hndl := PR.nd hPR_57 hl2 hl3
              have hkl : vp_in la 2700 := lk.in hpr1.2.1.2.2 hlk2 c_63
              obtain ⟨k9, hk9, hk9a, hk9b⟩ := hcs.resolve_left (fun h9 => c_63 (by rw [hla9, h9.1]; rfl))
              have hlc : la.toNatClampNeg = 2400 + k9 := by rw [hla9, hk9, lkm_1]; exact nI_clamp (by omega)
              refine lv_aload_n hx hb dX10_steps_61 rfl (lv_at hl 3 rfl) ?_
              refine va_get (D := (dC, dI)) (ci := 10) (v := .ref (b 33)) (C := RX10) (T := TX10) (N := 51) hx hb hts inw_X10_steps_10 hown hK hP 0 rfl rfl 33 (by decide) (hts (.fieldLink RX10 81 "VatHouseModel" "next" "[I") (List.mem_of_getElem? (i := 3) (by exact rfl))) (fun _ h9 => h9) rfl dX10_steps_62 ?_
              refine lv_iload_n hx hb dX10_steps_65 rfl (lv_at hl 2 rfl) ?_
              refine lv_iload hx hb dX10_steps_66 (lv_at hl 0 rfl) ?_
              refine va_iast hx hb hK hP hD hS 23 22 rfl rfl (by assumption) dX10_steps_68 (fun H locs hP hD hS => ?_)
              have hP : va_P (dC, dI) vwCl (mw g h0 b (va_up (va_up (va_up (va_up (va_up i 22 x22_42) 23 x23_43) 24 x24_44) 25 x25_45) 36 x36_46) (va_up (va_up (va_up (va_up (va_up (va_up (va_up (va_up a 26 y26_47) 27 y27_48) 28 y28_49) 29 y29_50) 30 y30_51) 31 y31_52) 32 y32_53) 33 (upd y33_54 la.toNatClampNeg z_56))) _ := hP
              have hD : va_D _ (mw g h0 b (va_up (va_up (va_up (va_up (va_up i 22 x22_42) 23 x23_43) 24 x24_44) 25 x25_45) 36 x36_46) (va_up (va_up (va_up (va_up (va_up (va_up (va_up (va_up a 26 y26_47) 27 y27_48) 28 y28_49) 29 y29_50) 30 y30_51) 31 y31_52) 32 y32_53) 33 (upd y33_54 la.toNatClampNeg z_56))) := hD
              obtain ⟨f_64, ef_64⟩ : ∃ z, z = (upd y33_54 la.toNatClampNeg z_56) := ⟨_, rfl⟩
              rw [← ef_64] at hP hD
              have hpn := PN.next hPR_57.2.1 hl1 hndl.1 (Or.inr ⟨qk, hk1, hk2, hk3.trans hndl.2.symm⟩)
              rw [← ef_64] at hpn
              have hpr_65 := PR.tr hpr_61 hpn
              have htn := TQ.nxt htr hk9 hlc hzn
              rw [← ef_64] at htn
              refine lv_iload hx hb dX10_steps_69 (lv_at hl 0 rfl) ?_
              refine lv_istore_n (lv' := [(3, .int z_56), (4, .int z_56), (2, .int hh), (0, .ref h0), (1, .int ib)]) hx hb dX10_steps_71 rfl hl (by decide) rfl (fun ls hl => ?_)
              refine lv_aload_n hx hb dX10_steps_72 rfl (lv_at hl 3 rfl) ?_
              refine M_V ⟨hx, hb, hml, hown, hts⟩ (m_X10_skip l dC dI sa g h0 b ln rn (va_up (va_up (va_up (va_up (va_up i 22 x22_42) 23 x23_43) 24 x24_44) 25 x25_45) 36 x36_46) (va_up (va_up (va_up (va_up (va_up (va_up (va_up (va_up a 26 y26_47) 27 y27_48) 28 y28_49) 29 y29_50) 30 y30_51) 31 y31_52) 32 y32_53) 33 f_64)  _ hL hmr) (cwV 0 hts gX10_steps_X10_skip rfl rfl rfl (by decide +kernel) ⟨(by first | exact Nat.le_of_ble_eq_true rfl | (simp only [rm_X10_skip, rm_X10_stepsT]; omega)), (by first | exact Nat.le_of_ble_eq_true rfl | (simp only [rm_X10_skip, rm_X10_stepsT]; omega))⟩) hP hD hK hS hA hev rfl rfl rfl rfl hl.1 rfl (Nat.le_of_ble_eq_true rfl) dX10_steps_73 ⟨(by first | exact Nat.le_of_ble_eq_true rfl | (simp only [rm_X10_stepsT]; omega)), (by first | exact Nat.le_of_ble_eq_true rfl | (simp only [rm_X10_stepsT]; omega))⟩ (fun r u H locs hw hP hD hS => ?_)
              obtain ⟨x22_66, rfl⟩ : ∃ z, z = u := ⟨_, rfl⟩
              have hw : (r = none) ∧ (x22_66 = nI rn.1) := hw
              obtain ⟨rfl, hw_67⟩ := hw
              have hP : va_P (dC, dI) vwCl (mw g h0 b (va_up (va_up (va_up (va_up (va_up i 22 x22_66) 23 x23_43) 24 x24_44) 25 x25_45) 36 x36_46) (va_up (va_up (va_up (va_up (va_up (va_up (va_up (va_up a 26 y26_47) 27 y27_48) 28 y28_49) 29 y29_50) 30 y30_51) 31 y31_52) 32 y32_53) 33 f_64)) _ := hP
              have hD : va_D _ (mw g h0 b (va_up (va_up (va_up (va_up (va_up i 22 x22_66) 23 x23_43) 24 x24_44) 25 x25_45) 36 x36_46) (va_up (va_up (va_up (va_up (va_up (va_up (va_up (va_up a 26 y26_47) 27 y27_48) 28 y28_49) 29 y29_50) 30 y30_51) 31 y31_52) 32 y32_53) 33 f_64)) := hD
              refine W.eq (g2 := F0 m 76 ls []) rfl ?_
              have hmq_68 : MI (a 19) ln rn x22_66 x23_43 x24_44 := (hmr).sk hw_67
              refine lv_goto (tgt := 8) hx hb dX10_steps_76 (by decide) ?_
              exact ih hh z_56 x22_66 x23_43 x24_44 x25_45 x36_46 y26_47 y27_48 y28_49 y29_50 y30_51 y31_52 y32_53 f_64 _ _ _ (nx300 hm hlt h300) (⟨rn, tnx TN la9 q1.2.1, q1.2.1 + 1, hmq_68, hw_67, ⟨h36r, hrn3, by omega⟩, ST.go hm1 hall (Or.inl ⟨hrg1, hevt.ev⟩) hmr.2.1, fun w9 h9 => hallT w9 (EvT.go ⟨hm1.2.1, hrg1⟩ hevt h9), (by rw [lkm_1]; exact hzn), (by rw [hhh, thd_lt (by omega : sq.2.1 < q1.2.1), thd_lt (by omega : sq.2.1 < rn.2.1)]), Or.inr ⟨q1.2.1, rfl, hns, by omega⟩, htn⟩) (thk3_60) (⟨dp_58, hpr_65, PR.lk hPR_57 hlk1, (Or.inr ⟨qk, hk1, hk2, hk3⟩)⟩) hP hD hS (lv_sub hl [2, 0, 3, 4] rfl)
            · have nc_63 := eq_i c_63
              have lc_63 : ((-1) : Int32).toInt = -1 := by decide
              refine lv_iload hx hb dX10_steps_55 (lv_at hl 0 rfl) ?_
              refine lv_istore_n (lv' := [(2, .int z_56), (4, .int z_56), (3, .int la), (0, .ref h0), (1, .int ib)]) hx hb dX10_steps_57 rfl hl (by decide) rfl (fun ls hl => ?_)
              refine lv_goto (tgt := 69) hx hb dX10_steps_58 (by decide) ?_
              have hl0 : la9 = 0 ∧ q1.2.1 = sq.2.1 := by rcases hcs with h9 | ⟨k9, g1, g2, g3⟩; (exact h9); (exact absurd c_63 (by rw [hla9, g1, lkm_1]; exact nI_m1 (by omega)))
              have htn := TQ.n0 (x := q1.2.1) htr
              rw [← hl0.1] at htn
              refine lv_iload hx hb dX10_steps_69 (lv_at hl 1 rfl) ?_
              refine lv_istore_n (lv' := [(3, .int z_56), (2, .int z_56), (4, .int z_56), (0, .ref h0), (1, .int ib)]) hx hb dX10_steps_71 rfl hl (by decide) rfl (fun ls hl => ?_)
              refine lv_aload_n hx hb dX10_steps_72 rfl (lv_at hl 3 rfl) ?_
              refine M_V ⟨hx, hb, hml, hown, hts⟩ (m_X10_skip l dC dI sa g h0 b ln rn (va_up (va_up (va_up (va_up (va_up i 22 x22_42) 23 x23_43) 24 x24_44) 25 x25_45) 36 x36_46) (va_up (va_up (va_up (va_up (va_up (va_up (va_up (va_up a 26 y26_47) 27 y27_48) 28 y28_49) 29 y29_50) 30 y30_51) 31 y31_52) 32 y32_53) 33 y33_54)  _ hL hmr) (cwV 0 hts gX10_steps_X10_skip rfl rfl rfl (by decide +kernel) ⟨(by first | exact Nat.le_of_ble_eq_true rfl | (simp only [rm_X10_skip, rm_X10_stepsT]; omega)), (by first | exact Nat.le_of_ble_eq_true rfl | (simp only [rm_X10_skip, rm_X10_stepsT]; omega))⟩) hP hD hK hS hA hev rfl rfl rfl rfl hl.1 rfl (Nat.le_of_ble_eq_true rfl) dX10_steps_73 ⟨(by first | exact Nat.le_of_ble_eq_true rfl | (simp only [rm_X10_stepsT]; omega)), (by first | exact Nat.le_of_ble_eq_true rfl | (simp only [rm_X10_stepsT]; omega))⟩ (fun r u H locs hw hP hD hS => ?_)
              obtain ⟨x22_69, rfl⟩ : ∃ z, z = u := ⟨_, rfl⟩
              have hw : (r = none) ∧ (x22_69 = nI rn.1) := hw
              obtain ⟨rfl, hw_70⟩ := hw
              have hP : va_P (dC, dI) vwCl (mw g h0 b (va_up (va_up (va_up (va_up (va_up i 22 x22_69) 23 x23_43) 24 x24_44) 25 x25_45) 36 x36_46) (va_up (va_up (va_up (va_up (va_up (va_up (va_up (va_up a 26 y26_47) 27 y27_48) 28 y28_49) 29 y29_50) 30 y30_51) 31 y31_52) 32 y32_53) 33 y33_54)) _ := hP
              have hD : va_D _ (mw g h0 b (va_up (va_up (va_up (va_up (va_up i 22 x22_69) 23 x23_43) 24 x24_44) 25 x25_45) 36 x36_46) (va_up (va_up (va_up (va_up (va_up (va_up (va_up (va_up a 26 y26_47) 27 y27_48) 28 y28_49) 29 y29_50) 30 y30_51) 31 y31_52) 32 y32_53) 33 y33_54)) := hD
              refine W.eq (g2 := F0 m 76 ls []) rfl ?_
              have hmq_71 : MI (a 19) ln rn x22_69 x23_43 x24_44 := (hmr).sk hw_70
              refine lv_goto (tgt := 8) hx hb dX10_steps_76 (by decide) ?_
              exact ih z_56 z_56 x22_69 x23_43 x24_44 x25_45 x36_46 y26_47 y27_48 y28_49 y29_50 y30_51 y31_52 y32_53 y33_54 _ _ _ (nx300 hm hlt h300) (⟨rn, tnx TN la9 q1.2.1, q1.2.1 + 1, hmq_71, hw_70, ⟨h36r, hrn3, by omega⟩, ST.go hm1 hall (Or.inl ⟨hrg1, hevt.ev⟩) hmr.2.1, fun w9 h9 => hallT w9 (EvT.go ⟨hm1.2.1, hrg1⟩ hevt h9), (by rw [lkm_1]; exact hzn), (by rw [thd_lt (by omega : sq.2.1 < rn.2.1), lkm_1, hzn, hl0.2]), Or.inr ⟨q1.2.1, rfl, hns, by omega⟩, htn⟩) (thk3_60) (⟨dp_58, hpr_61, (Or.inr ⟨qk, hk1, hk2, hk3⟩), (Or.inr ⟨qk, hk1, hk2, hk3⟩)⟩) hP hD hS (lv_sub hl [1, 0, 3, 4] rfl)
          · have nc_62 := eq_i c_62
            have lc_62 : ((-1) : Int32).toInt = -1 := by decide
            refine lv_bipush (v := (-2)) hx hb dX10_steps_47 (by decide) ?_
            exact M_i hx hb hr hlocks (x22_42, x23_43, x24_44, x25_45, x36_46, y26_47, y27_48, y28_49, y29_50, y30_51, y31_52, y32_53, y33_54) hP hD hK hS ⟨⟨_, rfl⟩, ⟨dp_58, hpr_61, thk3_60, fun z9 h9 => Or.inl ⟨by cases h9; rfl, by rw [if_neg c_4]; rcases hres_59 with ⟨-, rn, h1, h2⟩ | ⟨⟨q9, g1, g2, g3⟩, -⟩; exact ST.no hm1 hall hKc h1 h2; exact absurd c_62 (nq_ne g1 g2 hPR_57.2.1.2.1).1⟩⟩⟩ (by first | exact Nat.le_of_ble_eq_true rfl | (simp only [rm_X10_stepsT]; omega)) (by first | exact Nat.le_of_ble_eq_true rfl | (simp only [rm_X10_stepsT]; omega)) dX10_steps_49
        · have hP : va_P (dC, dI) vwCl (mw g h0 b (va_up (va_up (va_up (va_up (va_up i 22 x22_37) 23 l23) 24 l24) 25 l25) 36 l36) (va_up (va_up (va_up (va_up (va_up (va_up (va_up (va_up a 26 l26) 27 l27) 28 l28) 29 l29) 30 l30) 31 l31) 32 l32) 33 l33)) _ := hP
          have hD : va_D _ (mw g h0 b (va_up (va_up (va_up (va_up (va_up i 22 x22_37) 23 l23) 24 l24) 25 l25) 36 l36) (va_up (va_up (va_up (va_up (va_up (va_up (va_up (va_up a 26 l26) 27 l27) 28 l28) 29 l29) 30 l30) 31 l31) 32 l32) 33 l33)) := hD
          refine W.eq (g2 := F0 m 18 ls [.int 1]) rfl ?_
          have hmq_72 : MI (a 19) ln q1 x22_37 l23 l24 := (hm1).sk hw_38
          refine lv_if_ne (tgt := 79) hx hb dX10_steps_18 (by decide) (fun _ => ?_) (fun c_73 => absurd c_73 (by decide))
          refine lv_iload_n hx hb dX10_steps_79 rfl (lv_at hl 3 rfl) ?_
          refine lv_if_eq (tgt := 93) hx hb dX10_steps_80 (by decide) (fun c_74 => ?_) (fun c_74 => ?_)
          · have nc_74 := eq_i c_74
            have lc_74 : (0 : Int32).toInt = 0 := by decide
            exact absurd c_74 c_4
          · have nc_74 := ne_i c_74
            have lc_74 : (0 : Int32).toInt = 0 := by decide
            refine lv_aload_n hx hb dX10_steps_83 rfl (lv_at hl 2 rfl) ?_
            refine lv_dup hx hb dX10_steps_84 rfl ?_
            refine va_get (D := (dC, dI)) (ci := 10) (v := .int x22_37) (C := RX10) (T := TX10) (N := 51) hx hb hts inw_X10_steps_10 hown hK hP 0 rfl rfl 22 (by decide) (hts (.fieldLink RX10 168 "VatHouseModel" "at" "I") (List.mem_of_getElem? (i := 1) (by exact rfl))) (fun _ h9 => h9) rfl dX10_steps_85 ?_
            refine lv_iconst (v := 1) hx hb dX10_steps_88 (by decide) ?_
            refine lv_iadd hx hb dX10_steps_89 ?_
            refine lv_topi (fun z_75 ez_75 => ?_)
            refine va_put (D := (dC, dI)) (ci := 10) (v := .int z_75) (ty := .int) (C := RX10) (T := TX10) (N := 51) hx hb hts inw_X10_steps_10 tyX10 tyX10_ok nmX10 hown hK hP hD hS 0 rfl rfl 22 (by decide) (hts (.fieldLink RX10 168 "VatHouseModel" "at" "I") (List.mem_of_getElem? (i := 1) (by exact rfl))) (fun _ h9 => h9) rfl (tyX10_ok 22 (by decide)) rfl rfl (Nat.le_of_ble_eq_true rfl) dX10_steps_90 (fun H locs hP hD hS => ?_)
            have hP : va_P (dC, dI) vwCl (mw g h0 b (va_up (va_up (va_up (va_up (va_up i 22 z_75) 23 l23) 24 l24) 25 l25) 36 l36) (va_up (va_up (va_up (va_up (va_up (va_up (va_up (va_up a 26 l26) 27 l27) 28 l28) 29 l29) 30 l30) 31 l31) 32 l32) 33 l33)) _ := hP
            have hD : va_D _ (mw g h0 b (va_up (va_up (va_up (va_up (va_up i 22 z_75) 23 l23) 24 l24) 25 l25) 36 l36) (va_up (va_up (va_up (va_up (va_up (va_up (va_up (va_up a 26 l26) 27 l27) 28 l28) 29 l29) 30 l30) 31 l31) 32 l32) 33 l33)) := hD
            refine lv_iload_n hx hb dX10_steps_93 rfl (lv_at hl 0 rfl) ?_
            exact M_i hx hb hr hlocks (z_75, l23, l24, l25, l36, l26, l27, l28, l29, l30, l31, l32, l33) hP hD hK hS ⟨⟨_, rfl⟩, ⟨dp1, hpr1, hk3l, fun z9 h9 => by cases h9; exact Or.inr ⟨hlk1, q1, T1, (hallT _ (EvT.stop fun g => by have g2 := g.2; rw [show Kp (a 19) ln (q1, T1).1.1 = 125 from hz2_39.2] at g2; exact absurd g2 (by decide))), hhh, (by rw [if_neg c_4]; exact (hmq_72).pass hz2_39.2 hz2_39.1 (by rw [ez_75, hw_38, nx_sign (by decide) ((Kp_sign (by decide)).mp hz2_39.2).2]; exact nI_1 _)), h361, htq1⟩⟩⟩ (by first | exact Nat.le_of_ble_eq_true rfl | (simp only [rm_X10_stepsT]; omega)) (by first | exact Nat.le_of_ble_eq_true rfl | (simp only [rm_X10_stepsT]; omega)) dX10_steps_94
  exact lp ((300 - (i 36).toInt).toNat + 1) ((-1) : Int32) ((-1) : Int32) x22_1 (i 23) (i 24) (i 25) (i 36) (a 26) (a 27) (a 28) (a 29) (a 30) (a 31) (a 32) (a 33) _ _ _ (by omega) (⟨sq, T, 0, hmq_3, hw_2, ⟨hn36, hn3, Nat.le_refl _⟩, fun _ h9 => h9, fun _ h9 => h9, rfl, (by rw [thd_eq]; rfl), Or.inl ⟨rfl, rfl⟩, TQ.rf hRM⟩) (KP3.rf) (⟨dp, PR.rf hPN, Or.inl rfl, Or.inl rfl⟩) hP hD hS (lv_sub hl [1, 0, 2, 3] rfl)

theorem X10_stepsT_all (l : Launch) (dC : Nat → ClassId) (dI : Nat → Nat → Nat) (sa : Nat → Nat) (g : Nat → Nat) (h0 : Nat) (b : Nat → Nat) : ∀ (j bl : Nat), bl + j = 8 → ∀ (dp : Nat → Nat) (ln : Nat) (sq : SG) (T : TT) (i : Nat → Int32) (a : Nat → Nat → Int32) (ib : Int32) (sz : Nat) (hL : (i 21) = nI ln ∧ ln ≤ 1500) (hM : MI (a 19) ln sq (i 22) (i 23) (i 24)) (hn36 : (i 36) = nI sq.2.1) (hPN : PN (i 36) dp (a 26) (a 27) (a 31) (a 32) (a 33)) (hBL : (i 38) = nI bl) (hn3 : sq.2.1 ≤ 300) (hRM : RM (Kp (a 19) ln) T sq.2.1 (a 26) (a 31) (a 32) (a 33)), CT l dC dI sa yX10_steps wsX10_steps (rm_X10_stepsT j bl dp ln sq T) [.ref h0, .int ib] (mw g h0 b i a) (tyM g) sz (fun (r : Option Value) (u : Int32 × Int32 × Int32 × Int32 × Int32 × (Nat → Int32) × (Nat → Int32) × (Nat → Int32) × (Nat → Int32) × (Nat → Int32) × (Nat → Int32) × (Nat → Int32) × (Nat → Int32)) => match u with | (x22, x23, x24, x25, x36, y26, y27, y28, y29, y30, y31, y32, y33) => (∃ z : Int32, r = some (.int z)) ∧ (∃ dpN : Nat → Nat, PR (i 36) x36 dp dpN (a 26) (a 27) (a 31) (a 32) (a 33) y26 y27 y31 y32 y33 ∧ KP3 (a 28) (a 29) (a 30) y28 y29 y30 ∧ (∀ z : Int32, r = some (.int z) → (z = -2 ∧ ∃ rn : SG, ST (Kp (a 19) ln) (Vp (a 19) ln) (nq (a 19) ln) bl (if ib = 0 then (0 : Int32) else 125) sq rn ∧ MO rn x23 x24) ∨ (lk (PV x36) dpN bl z ∧ ∃ (r1 : SG) (TN : TT), EvT (Kp (a 19) ln) (Vp (a 19) ln) (nq (a 19) ln) 0 bl 0 (sq, T) (r1, TN) ∧ z = lkm 2400 (thd sq.2.1 r1.2.1) ∧ MI (a 19) ln (gpa (Kp (a 19) ln) (nq (a 19) ln) (if ib = 0 then (0 : Int32) else 125) r1) x22 x23 x24 ∧ x36 = nI r1.2.1 ∧ TQ (Kp (a 19) ln) (Vp (a 19) ln) (nq (a 19) ln) TN sq.2.1 r1.2.1 (a 27) (a 28) (a 29) (a 30) y26 y27 y28 y29 y30 y31 y32 y33)))) (fun (u : Int32 × Int32 × Int32 × Int32 × Int32 × (Nat → Int32) × (Nat → Int32) × (Nat → Int32) × (Nat → Int32) × (Nat → Int32) × (Nat → Int32) × (Nat → Int32) × (Nat → Int32)) => match u with | (x22, x23, x24, x25, x36, y26, y27, y28, y29, y30, y31, y32, y33) => mw g h0 b (va_up (va_up (va_up (va_up (va_up i 22 x22) 23 x23) 24 x24) 25 x25) 36 x36) (va_up (va_up (va_up (va_up (va_up (va_up (va_up (va_up a 26 y26) 27 y27) 28 y28) 29 y29) 30 y30) 31 y31) 32 y32) 33 y33)) (fun _ => []) 0 0 := by
  intro j
  induction j with
  | zero => exact fun bl hj dp ln sq T i a ib sz hL hM hn36 hPN hBL hn3 hRM => m_X10_stepsT l dC dI sa g h0 b 0 bl dp ln sq T i a ib sz hL hM hn36 hPN hBL hj hn3 hRM (fun j' d' _ h => absurd h (by omega))
  | succ j ih =>
    exact fun bl hj dp ln sq T i a ib sz hL hM hn36 hPN hBL hn3 hRM => m_X10_stepsT l dC dI sa g h0 b (j + 1) bl dp ln sq T i a ib sz hL hM hn36 hPN hBL hj hn3 hRM (fun j' d' hd' h => by
      obtain rfl : j = j' := by omega
      exact ih d' hd')
