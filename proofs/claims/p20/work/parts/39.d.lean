set_option maxHeartbeats 1000000 in
set_option maxRecDepth 100000 in
theorem m_X10_restT (l : Launch) (dC : Nat → ClassId) (dI : Nat → Nat → Nat) (sa : Nat → Nat) (g : Nat → Nat) (h0 : Nat) (b : Nat → Nat) (j : Nat) (bl : Nat) (dp : Nat → Nat) (ln : Nat) (sq : SG) (T : TT) (k0 : Nat) (cw : Int32) (i : Nat → Int32) (a : Nat → Nat → Int32) (kk : Int32) (sz : Nat) (hL : (i 21) = nI ln ∧ ln ≤ 1500) (hM : MI (a 19) ln sq (i 22) (i 23) (i 24)) (hn36 : (i 36) = nI sq.2.1) (hPN : PN (i 36) dp (a 26) (a 27) (a 31) (a 32) (a 33)) (hBL : (i 38) = nI bl) (hj : bl + j = 8) (hn3 : sq.2.1 ≤ 300) (hRM : RM (Kp (a 19) ln) T sq.2.1 (a 26) (a 31) (a 32) (a 33)) (hnode : ∃ q0 : Nat, kk = nI q0 ∧ PV (i 36) q0 ∧ dp q0 = bl) (hcw : (a 26) kk.toNatClampNeg = cw - 1 ∧ 1 ≤ cw ∧ cw ≤ 12) (hkr : kk = nI (2400 + k0) ∧ sq.2.1 = k0 + 1) (hp9 : Kp (a 19) ln (T 0 k0) = cw ∧ sq.1 = nq (a 19) ln (T 0 k0)) (IHS : ∀ j' bl' : Nat, bl' + j' = 8 → j = j' + 1 → ∀ (dp : Nat → Nat) (ln : Nat) (sq : SG) (T : TT) (i : Nat → Int32) (a : Nat → Nat → Int32) (ib : Int32) (sz : Nat) (hL : (i 21) = nI ln ∧ ln ≤ 1500) (hM : MI (a 19) ln sq (i 22) (i 23) (i 24)) (hn36 : (i 36) = nI sq.2.1) (hPN : PN (i 36) dp (a 26) (a 27) (a 31) (a 32) (a 33)) (hBL : (i 38) = nI bl') (hn3 : sq.2.1 ≤ 300) (hRM : RM (Kp (a 19) ln) T sq.2.1 (a 26) (a 31) (a 32) (a 33)), CT l dC dI sa yX10_steps wsX10_steps (rm_X10_stepsT j' bl' dp ln sq T) [.ref h0, .int ib] (mw g h0 b i a) (tyM g) sz (fun (r : Option Value) (u : Int32 × Int32 × Int32 × Int32 × Int32 × (Nat → Int32) × (Nat → Int32) × (Nat → Int32) × (Nat → Int32) × (Nat → Int32) × (Nat → Int32) × (Nat → Int32) × (Nat → Int32)) => match u with | (x22, x23, x24, x25, x36, y26, y27, y28, y29, y30, y31, y32, y33) => (∃ z : Int32, r = some (.int z)) ∧ (∃ dpN : Nat → Nat, PR (i 36) x36 dp dpN (a 26) (a 27) (a 31) (a 32) (a 33) y26 y27 y31 y32 y33 ∧ KP3 (a 28) (a 29) (a 30) y28 y29 y30 ∧ (∀ z : Int32, r = some (.int z) → (z = -2 ∧ ∃ rn : SG, ST (Kp (a 19) ln) (Vp (a 19) ln) (nq (a 19) ln) bl' (if ib = 0 then (0 : Int32) else 125) sq rn ∧ MO rn x23 x24) ∨ (lk (PV x36) dpN bl' z ∧ ∃ (r1 : SG) (TN : TT), EvT (Kp (a 19) ln) (Vp (a 19) ln) (nq (a 19) ln) 0 bl' 0 (sq, T) (r1, TN) ∧ z = lkm 2400 (thd sq.2.1 r1.2.1) ∧ MI (a 19) ln (gpa (Kp (a 19) ln) (nq (a 19) ln) (if ib = 0 then (0 : Int32) else 125) r1) x22 x23 x24 ∧ x36 = nI r1.2.1 ∧ TQ (Kp (a 19) ln) (Vp (a 19) ln) (nq (a 19) ln) TN sq.2.1 r1.2.1 (a 27) (a 28) (a 29) (a 30) y26 y27 y28 y29 y30 y31 y32 y33)))) (fun (u : Int32 × Int32 × Int32 × Int32 × Int32 × (Nat → Int32) × (Nat → Int32) × (Nat → Int32) × (Nat → Int32) × (Nat → Int32) × (Nat → Int32) × (Nat → Int32) × (Nat → Int32)) => match u with | (x22, x23, x24, x25, x36, y26, y27, y28, y29, y30, y31, y32, y33) => mw g h0 b (va_up (va_up (va_up (va_up (va_up i 22 x22) 23 x23) 24 x24) 25 x25) 36 x36) (va_up (va_up (va_up (va_up (va_up (va_up (va_up (va_up a 26 y26) 27 y27) 28 y28) 29 y29) 30 y30) 31 y31) 32 y32) 33 y33)) (fun _ => []) 0 0) : CT l dC dI sa yX10_rest wsX10_rest (rm_X10_restT j bl dp ln sq T k0 cw) [.ref h0, .int kk] (mw g h0 b i a) (tyM g) sz (fun (r : Option Value) (u : Int32 × Int32 × Int32 × Int32 × Int32 × (Nat → Int32) × (Nat → Int32) × (Nat → Int32) × (Nat → Int32) × (Nat → Int32) × (Nat → Int32) × (Nat → Int32) × (Nat → Int32)) => match u with | (x22, x23, x24, x25, x36, y26, y27, y28, y29, y30, y31, y32, y33) => ((r = some (.int 0) ∧ (∃ rn : SG, RSx (Kp (a 19) ln) (Vp (a 19) ln) (nq (a 19) ln) cw bl sq rn ∧ MO rn x23 x24)) ∨ (r = some (.int 1) ∧ (∃ (rn : SG) (TN : TT), RST (Kp (a 19) ln) (Vp (a 19) ln) (nq (a 19) ln) cw bl k0 (sq, T) (rn, TN) ∧ MI (a 19) ln rn x22 x23 x24 ∧ x36 = nI rn.2.1 ∧ TQ (Kp (a 19) ln) (Vp (a 19) ln) (nq (a 19) ln) TN k0 rn.2.1 (a 27) (a 28) (a 29) (a 30) y26 y27 y28 y29 y30 y31 y32 y33))) ∧ (∃ dpN : Nat → Nat, PR (i 36) x36 dp dpN (a 26) (a 27) (a 31) (a 32) (a 33) y26 y27 y31 y32 y33 ∧ KP3 (a 28) (a 29) (a 30) y28 y29 y30)) (fun (u : Int32 × Int32 × Int32 × Int32 × Int32 × (Nat → Int32) × (Nat → Int32) × (Nat → Int32) × (Nat → Int32) × (Nat → Int32) × (Nat → Int32) × (Nat → Int32) × (Nat → Int32)) => match u with | (x22, x23, x24, x25, x36, y26, y27, y28, y29, y30, y31, y32, y33) => mw g h0 b (va_up (va_up (va_up (va_up (va_up i 22 x22) 23 x23) 24 x24) 25 x25) 36 x36) (va_up (va_up (va_up (va_up (va_up (va_up (va_up (va_up a 26 y26) 27 y27) 28 y28) 29 y29) 30 y30) 31 y31) 32 y32) 33 y33)) (fun _ => []) 0 0 := by
  refine CT.start (cc := cX10_rest) (maxL := 2) (ret := (some .boolean)) (by decide) rfl (Nat.le_of_ble_eq_true rfl) ?_
  intro p e s m below meth c ls hst hP hK hD hev hS hl
  obtain ⟨hx, hb, hr, hml, hts, hown, hlocks, hin⟩ := hst
  have hown : s.vm.findClass RX10 = some m.cls := hown
  have hA : ∀ q : Nat, s.heap.size ≤ q → va_A (mw g h0 b i a) s.heap.size q := fun _ h => Or.inr h
  have hl : lv_has ls 2 [(0, .ref h0), (1, .int kk)] := hl
  obtain ⟨q, hq, hVq, hdq⟩ := hnode
  have hq27 := (hPN.2.2 q hVq).1
  have hkq : kk.toNatClampNeg = q := by rw [hq]; exact nI_clamp (by omega)
  have hk : vp_in kk 2700 := by rw [hq]; exact vp_in_nI hq27 (by decide)
  have hky : kk.toNatClampNeg = 2400 + k0 := by rw [hkr.1]; exact nI_clamp (by have := hn3; have := hkr.2; omega)
  refine lv_aload_n hx hb dX10_rest_0 rfl (lv_at hl 0 rfl) ?_
  refine va_get (D := (dC, dI)) (ci := 10) (v := .ref (b 26)) (C := RX10) (T := TX10) (N := 51) hx hb hts inw_X10_rest_10 hown hK hP 0 rfl rfl 26 (by decide) (hts (.fieldLink RX10 60 "VatHouseModel" "kind" "[I") (List.mem_of_getElem? (i := 1) (by exact rfl))) (fun _ h9 => h9) rfl dX10_rest_1 ?_
  refine lv_iload_n hx hb dX10_rest_4 rfl (lv_at hl 1 rfl) ?_
  refine va_iald hx hb hK hP 16 15 rfl rfl (by assumption) dX10_rest_5 ?_
  refine lv_topi (fun z_1 ez_1 => ?_)
  have ez_1 : z_1 = (a 26) kk.toNatClampNeg := ez_1
  by_cases c_2 : z_1 = 0
  · refine lv_tableIn (tgt := 64) hx hb dX10_rest_6 (by rw [c_2]; decide) (by rw [c_2]; decide) (by rw [c_2]; rfl) (by decide) ?_
    obtain rfl : cw = 1 := (cw_is hcw.1 ez_1 c_2).trans (by decide)
    have hpl : gpl (Kp (a 19) ln) (Vp (a 19) ln) (nq (a 19) ln) 1 sq = (gnu (Kp (a 19) ln) (Vp (a 19) ln) (nq (a 19) ln) 1 20 (gnu (Kp (a 19) ln) (Vp (a 19) ln) (nq (a 19) ln) 0 5 sq)) := rfl
    refine lv_aload_n hx hb dX10_rest_64 rfl (lv_at hl 0 rfl) ?_
    refine lv_iload_n hx hb dX10_rest_65 rfl (lv_at hl 1 rfl) ?_
    refine lv_iconst (v := 5) hx hb dX10_rest_66 (by decide) ?_
    refine lv_bipush (v := 20) hx hb dX10_rest_67 (by decide) ?_
    refine M_V ⟨hx, hb, hml, hown, hts⟩ (m_X10_numbersT l dC dI sa g h0 b ln sq i a kk (5 : Int32) (20 : Int32) _ hL hM hk) (cwV 3 hts gX10_rest_X10_numbers rfl rfl rfl (by decide +kernel) ⟨(by first | exact Nat.le_of_ble_eq_true rfl | (simp only [rm_X10_numbersT, rm_X10_restT]; omega)), (by first | exact Nat.le_of_ble_eq_true rfl | (simp only [rm_X10_numbersT, rm_X10_restT]; omega))⟩) hP hD hK hS hA hev rfl rfl rfl rfl hl.1 rfl (Nat.le_of_ble_eq_true rfl) dX10_rest_69 ⟨(by first | exact Nat.le_of_ble_eq_true rfl | (simp only [rm_X10_restT]; omega)), (by first | exact Nat.le_of_ble_eq_true rfl | (simp only [rm_X10_restT]; omega))⟩ (fun r u H locs hw hP hD hS => ?_)
    obtain ⟨x22_3, x23_4, x24_5, x25_6, y27_7, y28_8⟩ := u
    have hw : ((r = some (.int 0) ∧ (MO (gnu (Kp (a 19) ln) (Vp (a 19) ln) (nq (a 19) ln) 1 (20 : Int32) (gnu (Kp (a 19) ln) (Vp (a 19) ln) (nq (a 19) ln) 0 (5 : Int32) sq)) x23_4 x24_5)) ∨ (r = some (.int 1) ∧ (MI (a 19) ln (gnu (Kp (a 19) ln) (Vp (a 19) ln) (nq (a 19) ln) 1 (20 : Int32) (gnu (Kp (a 19) ln) (Vp (a 19) ln) (nq (a 19) ln) 0 (5 : Int32) sq)) x22_3 x23_4 x24_5 ∧ y27_7 = upd (a 27) kk.toNatClampNeg (Vp (a 19) ln sq.1) ∧ y28_8 = upd (a 28) kk.toNatClampNeg (Vp (a 19) ln (gnu (Kp (a 19) ln) (Vp (a 19) ln) (nq (a 19) ln) 0 (5 : Int32) sq).1)))) ∧ ((y27_7 = (a 27) ∨ ∃ v : Int32, (0 : Int32).toInt ≤ v.toInt ∧ v.toInt ≤ (5 : Int32).toInt ∧ y27_7 = upd (a 27) kk.toNatClampNeg v) ∧ (∀ x9 : Nat, ¬ x9 = kk.toNatClampNeg → y28_8 x9 = (a 28) x9 ∧ (a 29) x9 = (a 29) x9 ∧ (a 30) x9 = (a 30) x9)) := hw
    obtain ⟨⟨rfl, hz2_10⟩ | ⟨rfl, hz2_10⟩, hw_9⟩ := hw
    · have hP : va_P (dC, dI) vwCl (mw g h0 b (va_up (va_up (va_up (va_up i 22 x22_3) 23 x23_4) 24 x24_5) 25 x25_6) (va_up (va_up a 27 y27_7) 28 y28_8)) _ := hP
      have hD : va_D _ (mw g h0 b (va_up (va_up (va_up (va_up i 22 x22_3) 23 x23_4) 24 x24_5) 25 x25_6) (va_up (va_up a 27 y27_7) 28 y28_8)) := hD
      refine W.eq (g2 := F0 m 72 ls [.int 0]) rfl ?_
      have hp_11 := PN.set hPN hq hVq (show y27_7 = (a 27) ∨ ∃ v : Int32, (0 : Int32).toInt ≤ v.toInt ∧ v.toInt ≤ ((5 : Int32) : Int32).toInt ∧ y27_7 = upd (a 27) kk.toNatClampNeg v from hw_9.1) (fun _ => by decide)
      have hpr_12 := PR.tr (PR.rf hPN) hp_11
      refine lv_if_eq (tgt := 88) hx hb dX10_rest_72 (by decide) (fun _ => ?_) (fun c_13 => absurd c_13 (by decide))
      refine lv_iconst (v := 0) hx hb dX10_rest_88 (by decide) ?_
      exact M_z hx hb hr rfl hlocks (x22_3, x23_4, x24_5, x25_6, (i 36), (a 26), y27_7, y28_8, (a 29), (a 30), (a 31), (a 32), (a 33)) hP hD hK hS ⟨Or.inl ⟨rfl, ⟨_, Or.inl ⟨by decide, rfl⟩, by rw [hpl]; exact (hz2_10).pa⟩⟩, ⟨dp, hpr_12, (fun x9 hx9 => hw_9.2 x9 (by omega))⟩⟩ (by first | exact Nat.le_of_ble_eq_true rfl | (simp only [rm_X10_restT]; omega)) (by first | exact Nat.le_of_ble_eq_true rfl | (simp only [rm_X10_restT]; omega)) dX10_rest_89
    · have hP : va_P (dC, dI) vwCl (mw g h0 b (va_up (va_up (va_up (va_up i 22 x22_3) 23 x23_4) 24 x24_5) 25 x25_6) (va_up (va_up a 27 y27_7) 28 y28_8)) _ := hP
      have hD : va_D _ (mw g h0 b (va_up (va_up (va_up (va_up i 22 x22_3) 23 x23_4) 24 x24_5) 25 x25_6) (va_up (va_up a 27 y27_7) 28 y28_8)) := hD
      refine W.eq (g2 := F0 m 72 ls [.int 1]) rfl ?_
      have hp_14 := PN.set hPN hq hVq (show y27_7 = (a 27) ∨ ∃ v : Int32, (0 : Int32).toInt ≤ v.toInt ∧ v.toInt ≤ ((5 : Int32) : Int32).toInt ∧ y27_7 = upd (a 27) kk.toNatClampNeg v from hw_9.1) (fun _ => by decide)
      have hpr_15 := PR.tr (PR.rf hPN) hp_14
      have hmq_16 : MI (a 19) ln (gnu (Kp (a 19) ln) (Vp (a 19) ln) (nq (a 19) ln) 1 (20 : Int32) (gnu (Kp (a 19) ln) (Vp (a 19) ln) (nq (a 19) ln) 0 (5 : Int32) sq)) x22_3 x23_4 x24_5 := hz2_10.1
      have htq_17 : TQ (Kp (a 19) ln) (Vp (a 19) ln) (nq (a 19) ln) T k0 sq.2.1 (a 27) (a 28) (a 29) (a 30) (a 26) y27_7 y28_8 (a 29) (a 30) (a 31) (a 32) (a 33) := by rw [hkr.2]; exact TQ.ct (by have h9 := hRM; rw [hkr.2] at h9; exact h9) (fun j9 hj9 => ⟨kp_u hky hz2_10.2.1 j9 hj9, kp_u hky hz2_10.2.2 j9 hj9, rfl, rfl⟩) (ct_2 (Or.inl hp9.1) (by rw [at_u hky hz2_10.2.1, hp9.2]) (by rw [at_u hky hz2_10.2.2, (gnu_ok (gnu_ok hz2_10.1.2.1).1).2.1, hp9.2]))
      refine lv_if_eq (tgt := 88) hx hb dX10_rest_72 (by decide) (fun c_18 => absurd c_18 (by decide)) (fun _ => ?_)
      refine lv_aload_n hx hb dX10_rest_75 rfl (lv_at hl 0 rfl) ?_
      refine lv_bipush (v := 59) hx hb dX10_rest_76 (by decide) ?_
      refine M_V ⟨hx, hb, hml, hown, hts⟩ (m_X10_need l dC dI sa g h0 b ln (gnu (Kp (a 19) ln) (Vp (a 19) ln) (nq (a 19) ln) 1 (20 : Int32) (gnu (Kp (a 19) ln) (Vp (a 19) ln) (nq (a 19) ln) 0 (5 : Int32) sq)) (va_up (va_up (va_up (va_up i 22 x22_3) 23 x23_4) 24 x24_5) 25 x25_6) (va_up (va_up a 27 y27_7) 28 y28_8) (59 : Int32) _ hL hmq_16 (by decide)) (cwV 1 hts gX10_rest_X10_need rfl rfl rfl (by decide +kernel) ⟨(by first | exact Nat.le_of_ble_eq_true rfl | (simp only [rm_X10_need, rm_X10_restT]; omega)), (by first | exact Nat.le_of_ble_eq_true rfl | (simp only [rm_X10_need, rm_X10_restT]; omega))⟩) hP hD hK hS hA hev rfl rfl rfl rfl hl.1 rfl (Nat.le_of_ble_eq_true rfl) dX10_rest_78 ⟨(by first | exact Nat.le_of_ble_eq_true rfl | (simp only [rm_X10_restT]; omega)), (by first | exact Nat.le_of_ble_eq_true rfl | (simp only [rm_X10_restT]; omega))⟩ (fun r u H locs hw hP hD hS => ?_)
      obtain ⟨x22_19, x23_20, x24_21⟩ := u
      have hw : ((r = some (.int 0) ∧ (MO (gpa (Kp (a 19) ln) (nq (a 19) ln) (59 : Int32) (gnu (Kp (a 19) ln) (Vp (a 19) ln) (nq (a 19) ln) 1 (20 : Int32) (gnu (Kp (a 19) ln) (Vp (a 19) ln) (nq (a 19) ln) 0 (5 : Int32) sq))) x23_20 x24_21)) ∨ (r = some (.int 1) ∧ (MI (a 19) ln (gpa (Kp (a 19) ln) (nq (a 19) ln) (59 : Int32) (gnu (Kp (a 19) ln) (Vp (a 19) ln) (nq (a 19) ln) 1 (20 : Int32) (gnu (Kp (a 19) ln) (Vp (a 19) ln) (nq (a 19) ln) 0 (5 : Int32) sq))) x22_19 x23_20 x24_21))) ∧ (True) := hw
      obtain ⟨⟨rfl, hz2_23⟩ | ⟨rfl, hz2_23⟩, hw_22⟩ := hw
      · have hP : va_P (dC, dI) vwCl (mw g h0 b (va_up (va_up (va_up (va_up i 22 x22_19) 23 x23_20) 24 x24_21) 25 x25_6) (va_up (va_up a 27 y27_7) 28 y28_8)) _ := hP
        have hD : va_D _ (mw g h0 b (va_up (va_up (va_up (va_up i 22 x22_19) 23 x23_20) 24 x24_21) 25 x25_6) (va_up (va_up a 27 y27_7) 28 y28_8)) := hD
        refine W.eq (g2 := F0 m 81 ls [.int 0]) rfl ?_
        refine lv_if_eq (tgt := 88) hx hb dX10_rest_81 (by decide) (fun _ => ?_) (fun c_24 => absurd c_24 (by decide))
        refine lv_iconst (v := 0) hx hb dX10_rest_88 (by decide) ?_
        exact M_z hx hb hr rfl hlocks (x22_19, x23_20, x24_21, x25_6, (i 36), (a 26), y27_7, y28_8, (a 29), (a 30), (a 31), (a 32), (a 33)) hP hD hK hS ⟨Or.inl ⟨rfl, ⟨_, Or.inl ⟨by decide, rfl⟩, by rw [hpl]; exact hz2_23⟩⟩, ⟨dp, hpr_15, (fun x9 hx9 => hw_9.2 x9 (by omega))⟩⟩ (by first | exact Nat.le_of_ble_eq_true rfl | (simp only [rm_X10_restT]; omega)) (by first | exact Nat.le_of_ble_eq_true rfl | (simp only [rm_X10_restT]; omega)) dX10_rest_89
      · have hP : va_P (dC, dI) vwCl (mw g h0 b (va_up (va_up (va_up (va_up i 22 x22_19) 23 x23_20) 24 x24_21) 25 x25_6) (va_up (va_up a 27 y27_7) 28 y28_8)) _ := hP
        have hD : va_D _ (mw g h0 b (va_up (va_up (va_up (va_up i 22 x22_19) 23 x23_20) 24 x24_21) 25 x25_6) (va_up (va_up a 27 y27_7) 28 y28_8)) := hD
        refine W.eq (g2 := F0 m 81 ls [.int 1]) rfl ?_
        have hmq_25 : MI (a 19) ln (gpa (Kp (a 19) ln) (nq (a 19) ln) (59 : Int32) (gnu (Kp (a 19) ln) (Vp (a 19) ln) (nq (a 19) ln) 1 (20 : Int32) (gnu (Kp (a 19) ln) (Vp (a 19) ln) (nq (a 19) ln) 0 (5 : Int32) sq))) x22_19 x23_20 x24_21 := hz2_23
        refine lv_if_eq (tgt := 88) hx hb dX10_rest_81 (by decide) (fun c_26 => absurd c_26 (by decide)) (fun _ => ?_)
        refine lv_iconst (v := 1) hx hb dX10_rest_84 (by decide) ?_
        refine lv_goto (tgt := 89) hx hb dX10_rest_85 (by decide) ?_
        exact M_z hx hb hr rfl hlocks (x22_19, x23_20, x24_21, x25_6, (i 36), (a 26), y27_7, y28_8, (a 29), (a 30), (a 31), (a 32), (a 33)) hP hD hK hS ⟨Or.inr ⟨rfl, ⟨_, T, Or.inl ⟨by decide, rfl⟩, (by rw [hpl]; exact hmq_25), (by rw [gpa_nd, gpl_nd]; exact hn36), (by rw [gpa_nd, gpl_nd]; exact htq_17)⟩⟩, ⟨dp, hpr_15, (fun x9 hx9 => hw_9.2 x9 (by omega))⟩⟩ (by first | exact Nat.le_of_ble_eq_true rfl | (simp only [rm_X10_restT]; omega)) (by first | exact Nat.le_of_ble_eq_true rfl | (simp only [rm_X10_restT]; omega)) dX10_rest_89
  by_cases c_27 : z_1 = 1
  · refine lv_tableIn (tgt := 117) hx hb dX10_rest_6 (by rw [c_27]; decide) (by rw [c_27]; decide) (by rw [c_27]; rfl) (by decide) ?_
    obtain rfl : cw = 2 := (cw_is hcw.1 ez_1 c_27).trans (by decide)
    have hpl : gpl (Kp (a 19) ln) (Vp (a 19) ln) (nq (a 19) ln) 2 sq = sq := rfl
    have htq_28 : TQ (Kp (a 19) ln) (Vp (a 19) ln) (nq (a 19) ln) T k0 sq.2.1 (a 27) (a 28) (a 29) (a 30) (a 26) (a 27) (a 28) (a 29) (a 30) (a 31) (a 32) (a 33) := by rw [hkr.2]; exact TQ.ct (by have h9 := hRM; rw [hkr.2] at h9; exact h9) KP4.rf (ct_0 (Or.inl hp9.1))
    refine lv_aload_n hx hb dX10_rest_117 rfl (lv_at hl 0 rfl) ?_
    refine lv_bipush (v := 59) hx hb dX10_rest_118 (by decide) ?_
    refine M_V ⟨hx, hb, hml, hown, hts⟩ (m_X10_need l dC dI sa g h0 b ln sq i a (59 : Int32) _ hL hM (by decide)) (cwV 1 hts gX10_rest_X10_need rfl rfl rfl (by decide +kernel) ⟨(by first | exact Nat.le_of_ble_eq_true rfl | (simp only [rm_X10_need, rm_X10_restT]; omega)), (by first | exact Nat.le_of_ble_eq_true rfl | (simp only [rm_X10_need, rm_X10_restT]; omega))⟩) hP hD hK hS hA hev rfl rfl rfl rfl hl.1 rfl (Nat.le_of_ble_eq_true rfl) dX10_rest_120 ⟨(by first | exact Nat.le_of_ble_eq_true rfl | (simp only [rm_X10_restT]; omega)), (by first | exact Nat.le_of_ble_eq_true rfl | (simp only [rm_X10_restT]; omega))⟩ (fun r u H locs hw hP hD hS => ?_)
    obtain ⟨x22_29, x23_30, x24_31⟩ := u
    have hw : ((r = some (.int 0) ∧ (MO (gpa (Kp (a 19) ln) (nq (a 19) ln) (59 : Int32) sq) x23_30 x24_31)) ∨ (r = some (.int 1) ∧ (MI (a 19) ln (gpa (Kp (a 19) ln) (nq (a 19) ln) (59 : Int32) sq) x22_29 x23_30 x24_31))) ∧ (True) := hw
    obtain ⟨⟨rfl, hz2_33⟩ | ⟨rfl, hz2_33⟩, hw_32⟩ := hw
    · have hP : va_P (dC, dI) vwCl (mw g h0 b (va_up (va_up (va_up i 22 x22_29) 23 x23_30) 24 x24_31) a) _ := hP
      have hD : va_D _ (mw g h0 b (va_up (va_up (va_up i 22 x22_29) 23 x23_30) 24 x24_31) a) := hD
      refine W.eq (g2 := F0 m 123 ls [.int 0]) rfl ?_
      exact M_z hx hb hr rfl hlocks (x22_29, x23_30, x24_31, (i 25), (i 36), (a 26), (a 27), (a 28), (a 29), (a 30), (a 31), (a 32), (a 33)) hP hD hK hS ⟨Or.inl ⟨rfl, ⟨_, Or.inl ⟨by decide, rfl⟩, by rw [hpl]; exact hz2_33⟩⟩, ⟨dp, (PR.rf hPN), KP3.rf⟩⟩ (by first | exact Nat.le_of_ble_eq_true rfl | (simp only [rm_X10_restT]; omega)) (by first | exact Nat.le_of_ble_eq_true rfl | (simp only [rm_X10_restT]; omega)) dX10_rest_123
    · have hP : va_P (dC, dI) vwCl (mw g h0 b (va_up (va_up (va_up i 22 x22_29) 23 x23_30) 24 x24_31) a) _ := hP
      have hD : va_D _ (mw g h0 b (va_up (va_up (va_up i 22 x22_29) 23 x23_30) 24 x24_31) a) := hD
      refine W.eq (g2 := F0 m 123 ls [.int 1]) rfl ?_
      have hmq_34 : MI (a 19) ln (gpa (Kp (a 19) ln) (nq (a 19) ln) (59 : Int32) sq) x22_29 x23_30 x24_31 := hz2_33
      exact M_z hx hb hr rfl hlocks (x22_29, x23_30, x24_31, (i 25), (i 36), (a 26), (a 27), (a 28), (a 29), (a 30), (a 31), (a 32), (a 33)) hP hD hK hS ⟨Or.inr ⟨rfl, ⟨_, T, Or.inl ⟨by decide, rfl⟩, (by rw [hpl]; exact hmq_34), (by rw [gpa_nd, gpl_nd]; exact hn36), (by rw [gpa_nd, gpl_nd]; exact htq_28)⟩⟩, ⟨dp, (PR.rf hPN), KP3.rf⟩⟩ (by first | exact Nat.le_of_ble_eq_true rfl | (simp only [rm_X10_restT]; omega)) (by first | exact Nat.le_of_ble_eq_true rfl | (simp only [rm_X10_restT]; omega)) dX10_rest_123
  by_cases c_35 : z_1 = 2
  · refine lv_tableIn (tgt := 117) hx hb dX10_rest_6 (by rw [c_35]; decide) (by rw [c_35]; decide) (by rw [c_35]; rfl) (by decide) ?_
    obtain rfl : cw = 3 := (cw_is hcw.1 ez_1 c_35).trans (by decide)
    have hpl : gpl (Kp (a 19) ln) (Vp (a 19) ln) (nq (a 19) ln) 3 sq = sq := rfl
    have htq_36 : TQ (Kp (a 19) ln) (Vp (a 19) ln) (nq (a 19) ln) T k0 sq.2.1 (a 27) (a 28) (a 29) (a 30) (a 26) (a 27) (a 28) (a 29) (a 30) (a 31) (a 32) (a 33) := by rw [hkr.2]; exact TQ.ct (by have h9 := hRM; rw [hkr.2] at h9; exact h9) KP4.rf (ct_0 (Or.inr (Or.inl hp9.1)))
    refine lv_aload_n hx hb dX10_rest_117 rfl (lv_at hl 0 rfl) ?_
    refine lv_bipush (v := 59) hx hb dX10_rest_118 (by decide) ?_
    refine M_V ⟨hx, hb, hml, hown, hts⟩ (m_X10_need l dC dI sa g h0 b ln sq i a (59 : Int32) _ hL hM (by decide)) (cwV 1 hts gX10_rest_X10_need rfl rfl rfl (by decide +kernel) ⟨(by first | exact Nat.le_of_ble_eq_true rfl | (simp only [rm_X10_need, rm_X10_restT]; omega)), (by first | exact Nat.le_of_ble_eq_true rfl | (simp only [rm_X10_need, rm_X10_restT]; omega))⟩) hP hD hK hS hA hev rfl rfl rfl rfl hl.1 rfl (Nat.le_of_ble_eq_true rfl) dX10_rest_120 ⟨(by first | exact Nat.le_of_ble_eq_true rfl | (simp only [rm_X10_restT]; omega)), (by first | exact Nat.le_of_ble_eq_true rfl | (simp only [rm_X10_restT]; omega))⟩ (fun r u H locs hw hP hD hS => ?_)
    obtain ⟨x22_37, x23_38, x24_39⟩ := u
    have hw : ((r = some (.int 0) ∧ (MO (gpa (Kp (a 19) ln) (nq (a 19) ln) (59 : Int32) sq) x23_38 x24_39)) ∨ (r = some (.int 1) ∧ (MI (a 19) ln (gpa (Kp (a 19) ln) (nq (a 19) ln) (59 : Int32) sq) x22_37 x23_38 x24_39))) ∧ (True) := hw
    obtain ⟨⟨rfl, hz2_41⟩ | ⟨rfl, hz2_41⟩, hw_40⟩ := hw
    · have hP : va_P (dC, dI) vwCl (mw g h0 b (va_up (va_up (va_up i 22 x22_37) 23 x23_38) 24 x24_39) a) _ := hP
      have hD : va_D _ (mw g h0 b (va_up (va_up (va_up i 22 x22_37) 23 x23_38) 24 x24_39) a) := hD
      refine W.eq (g2 := F0 m 123 ls [.int 0]) rfl ?_
      exact M_z hx hb hr rfl hlocks (x22_37, x23_38, x24_39, (i 25), (i 36), (a 26), (a 27), (a 28), (a 29), (a 30), (a 31), (a 32), (a 33)) hP hD hK hS ⟨Or.inl ⟨rfl, ⟨_, Or.inl ⟨by decide, rfl⟩, by rw [hpl]; exact hz2_41⟩⟩, ⟨dp, (PR.rf hPN), KP3.rf⟩⟩ (by first | exact Nat.le_of_ble_eq_true rfl | (simp only [rm_X10_restT]; omega)) (by first | exact Nat.le_of_ble_eq_true rfl | (simp only [rm_X10_restT]; omega)) dX10_rest_123
    · have hP : va_P (dC, dI) vwCl (mw g h0 b (va_up (va_up (va_up i 22 x22_37) 23 x23_38) 24 x24_39) a) _ := hP
      have hD : va_D _ (mw g h0 b (va_up (va_up (va_up i 22 x22_37) 23 x23_38) 24 x24_39) a) := hD
      refine W.eq (g2 := F0 m 123 ls [.int 1]) rfl ?_
      have hmq_42 : MI (a 19) ln (gpa (Kp (a 19) ln) (nq (a 19) ln) (59 : Int32) sq) x22_37 x23_38 x24_39 := hz2_41
      exact M_z hx hb hr rfl hlocks (x22_37, x23_38, x24_39, (i 25), (i 36), (a 26), (a 27), (a 28), (a 29), (a 30), (a 31), (a 32), (a 33)) hP hD hK hS ⟨Or.inr ⟨rfl, ⟨_, T, Or.inl ⟨by decide, rfl⟩, (by rw [hpl]; exact hmq_42), (by rw [gpa_nd, gpl_nd]; exact hn36), (by rw [gpa_nd, gpl_nd]; exact htq_36)⟩⟩, ⟨dp, (PR.rf hPN), KP3.rf⟩⟩ (by first | exact Nat.le_of_ble_eq_true rfl | (simp only [rm_X10_restT]; omega)) (by first | exact Nat.le_of_ble_eq_true rfl | (simp only [rm_X10_restT]; omega)) dX10_rest_123
  by_cases c_43 : z_1 = 3
  · refine lv_tableIn (tgt := 124) hx hb dX10_rest_6 (by rw [c_43]; decide) (by rw [c_43]; decide) (by rw [c_43]; rfl) (by decide) ?_
    obtain rfl : cw = 4 := (cw_is hcw.1 ez_1 c_43).trans (by decide)
    have hpl : gpl (Kp (a 19) ln) (Vp (a 19) ln) (nq (a 19) ln) 4 sq = (gnu (Kp (a 19) ln) (Vp (a 19) ln) (nq (a 19) ln) 1 200 sq) := rfl
    refine lv_aload_n hx hb dX10_rest_124 rfl (lv_at hl 0 rfl) ?_
    refine lv_iload_n hx hb dX10_rest_125 rfl (lv_at hl 1 rfl) ?_
    refine lv_iconst (v := 1) hx hb dX10_rest_126 (by decide) ?_
    refine lv_sipush (v := 200) hx hb dX10_rest_127 (by decide) ?_
    refine M_V ⟨hx, hb, hml, hown, hts⟩ (m_X10_single l dC dI sa g h0 b ln sq i a kk (1 : Int32) (200 : Int32) _ hL hM hk) (cwV 3 hts gX10_rest_X10_single rfl rfl rfl (by decide +kernel) ⟨(by first | exact Nat.le_of_ble_eq_true rfl | (simp only [rm_X10_single, rm_X10_restT]; omega)), (by first | exact Nat.le_of_ble_eq_true rfl | (simp only [rm_X10_single, rm_X10_restT]; omega))⟩) hP hD hK hS hA hev rfl rfl rfl rfl hl.1 rfl (Nat.le_of_ble_eq_true rfl) dX10_rest_130 ⟨(by first | exact Nat.le_of_ble_eq_true rfl | (simp only [rm_X10_restT]; omega)), (by first | exact Nat.le_of_ble_eq_true rfl | (simp only [rm_X10_restT]; omega))⟩ (fun r u H locs hw hP hD hS => ?_)
    obtain ⟨x22_44, x23_45, x24_46, x25_47, y27_48⟩ := u
    have hw : ((r = some (.int 0) ∧ (MO (gnu (Kp (a 19) ln) (Vp (a 19) ln) (nq (a 19) ln) (1 : Int32) (200 : Int32) sq) x23_45 x24_46 ∧ y27_48 = (a 27))) ∨ (r = some (.int 1) ∧ (MI (a 19) ln (gnu (Kp (a 19) ln) (Vp (a 19) ln) (nq (a 19) ln) (1 : Int32) (200 : Int32) sq) x22_44 x23_45 x24_46 ∧ (1 : Int32).toInt ≤ (Vp (a 19) ln sq.1).toInt ∧ (Vp (a 19) ln sq.1).toInt ≤ (200 : Int32).toInt ∧ y27_48 = upd (a 27) kk.toNatClampNeg (Vp (a 19) ln sq.1)))) ∧ (True) := hw
    obtain ⟨⟨rfl, hz2_50⟩ | ⟨rfl, hz2_50⟩, hw_49⟩ := hw
    · have hP : va_P (dC, dI) vwCl (mw g h0 b (va_up (va_up (va_up (va_up i 22 x22_44) 23 x23_45) 24 x24_46) 25 x25_47) (va_up a 27 y27_48)) _ := hP
      have hD : va_D _ (mw g h0 b (va_up (va_up (va_up (va_up i 22 x22_44) 23 x23_45) 24 x24_46) 25 x25_47) (va_up a 27 y27_48)) := hD
      refine W.eq (g2 := F0 m 133 ls [.int 0]) rfl ?_
      have hp_51 := PN.set hPN hq hVq (show y27_48 = (a 27) ∨ ∃ v : Int32, ((1 : Int32) : Int32).toInt ≤ v.toInt ∧ v.toInt ≤ ((200 : Int32) : Int32).toInt ∧ y27_48 = upd (a 27) kk.toNatClampNeg v from Or.inl hz2_50.2) (fun h9 => absurd h9 (by rw [← hkq, ← ez_1, c_43]; decide))
      have hpr_52 := PR.tr (PR.rf hPN) hp_51
      refine lv_if_eq (tgt := 149) hx hb dX10_rest_133 (by decide) (fun _ => ?_) (fun c_53 => absurd c_53 (by decide))
      refine lv_iconst (v := 0) hx hb dX10_rest_149 (by decide) ?_
      exact M_z hx hb hr rfl hlocks (x22_44, x23_45, x24_46, x25_47, (i 36), (a 26), y27_48, (a 28), (a 29), (a 30), (a 31), (a 32), (a 33)) hP hD hK hS ⟨Or.inl ⟨rfl, ⟨_, Or.inl ⟨by decide, rfl⟩, by rw [hpl]; exact (hz2_50.1).pa⟩⟩, ⟨dp, hpr_52, KP3.rf⟩⟩ (by first | exact Nat.le_of_ble_eq_true rfl | (simp only [rm_X10_restT]; omega)) (by first | exact Nat.le_of_ble_eq_true rfl | (simp only [rm_X10_restT]; omega)) dX10_rest_150
    · have hP : va_P (dC, dI) vwCl (mw g h0 b (va_up (va_up (va_up (va_up i 22 x22_44) 23 x23_45) 24 x24_46) 25 x25_47) (va_up a 27 y27_48)) _ := hP
      have hD : va_D _ (mw g h0 b (va_up (va_up (va_up (va_up i 22 x22_44) 23 x23_45) 24 x24_46) 25 x25_47) (va_up a 27 y27_48)) := hD
      refine W.eq (g2 := F0 m 133 ls [.int 1]) rfl ?_
      have hp_54 := PN.set hPN hq hVq (show y27_48 = (a 27) ∨ ∃ v : Int32, ((1 : Int32) : Int32).toInt ≤ v.toInt ∧ v.toInt ≤ ((200 : Int32) : Int32).toInt ∧ y27_48 = upd (a 27) kk.toNatClampNeg v from Or.inr ⟨_, hz2_50.2.1, hz2_50.2.2.1, hz2_50.2.2.2⟩) (fun h9 => absurd h9 (by rw [← hkq, ← ez_1, c_43]; decide))
      have hpr_55 := PR.tr (PR.rf hPN) hp_54
      have hmq_56 : MI (a 19) ln (gnu (Kp (a 19) ln) (Vp (a 19) ln) (nq (a 19) ln) (1 : Int32) (200 : Int32) sq) x22_44 x23_45 x24_46 := hz2_50.1
      have htq_57 : TQ (Kp (a 19) ln) (Vp (a 19) ln) (nq (a 19) ln) T k0 sq.2.1 (a 27) (a 28) (a 29) (a 30) (a 26) y27_48 (a 28) (a 29) (a 30) (a 31) (a 32) (a 33) := by rw [hkr.2]; exact TQ.ct (by have h9 := hRM; rw [hkr.2] at h9; exact h9) (fun j9 hj9 => ⟨kp_u hky hz2_50.2.2.2 j9 hj9, rfl, rfl, rfl⟩) (ct_1 (Or.inl hp9.1) (by rw [at_u hky hz2_50.2.2.2, hp9.2]))
      refine lv_if_eq (tgt := 149) hx hb dX10_rest_133 (by decide) (fun c_58 => absurd c_58 (by decide)) (fun _ => ?_)
      refine lv_aload_n hx hb dX10_rest_136 rfl (lv_at hl 0 rfl) ?_
      refine lv_bipush (v := 59) hx hb dX10_rest_137 (by decide) ?_
      refine M_V ⟨hx, hb, hml, hown, hts⟩ (m_X10_need l dC dI sa g h0 b ln (gnu (Kp (a 19) ln) (Vp (a 19) ln) (nq (a 19) ln) (1 : Int32) (200 : Int32) sq) (va_up (va_up (va_up (va_up i 22 x22_44) 23 x23_45) 24 x24_46) 25 x25_47) (va_up a 27 y27_48) (59 : Int32) _ hL hmq_56 (by decide)) (cwV 1 hts gX10_rest_X10_need rfl rfl rfl (by decide +kernel) ⟨(by first | exact Nat.le_of_ble_eq_true rfl | (simp only [rm_X10_need, rm_X10_restT]; omega)), (by first | exact Nat.le_of_ble_eq_true rfl | (simp only [rm_X10_need, rm_X10_restT]; omega))⟩) hP hD hK hS hA hev rfl rfl rfl rfl hl.1 rfl (Nat.le_of_ble_eq_true rfl) dX10_rest_139 ⟨(by first | exact Nat.le_of_ble_eq_true rfl | (simp only [rm_X10_restT]; omega)), (by first | exact Nat.le_of_ble_eq_true rfl | (simp only [rm_X10_restT]; omega))⟩ (fun r u H locs hw hP hD hS => ?_)
      obtain ⟨x22_59, x23_60, x24_61⟩ := u
      have hw : ((r = some (.int 0) ∧ (MO (gpa (Kp (a 19) ln) (nq (a 19) ln) (59 : Int32) (gnu (Kp (a 19) ln) (Vp (a 19) ln) (nq (a 19) ln) (1 : Int32) (200 : Int32) sq)) x23_60 x24_61)) ∨ (r = some (.int 1) ∧ (MI (a 19) ln (gpa (Kp (a 19) ln) (nq (a 19) ln) (59 : Int32) (gnu (Kp (a 19) ln) (Vp (a 19) ln) (nq (a 19) ln) (1 : Int32) (200 : Int32) sq)) x22_59 x23_60 x24_61))) ∧ (True) := hw
      obtain ⟨⟨rfl, hz2_63⟩ | ⟨rfl, hz2_63⟩, hw_62⟩ := hw
      · have hP : va_P (dC, dI) vwCl (mw g h0 b (va_up (va_up (va_up (va_up i 22 x22_59) 23 x23_60) 24 x24_61) 25 x25_47) (va_up a 27 y27_48)) _ := hP
        have hD : va_D _ (mw g h0 b (va_up (va_up (va_up (va_up i 22 x22_59) 23 x23_60) 24 x24_61) 25 x25_47) (va_up a 27 y27_48)) := hD
        refine W.eq (g2 := F0 m 142 ls [.int 0]) rfl ?_
        refine lv_if_eq (tgt := 149) hx hb dX10_rest_142 (by decide) (fun _ => ?_) (fun c_64 => absurd c_64 (by decide))
        refine lv_iconst (v := 0) hx hb dX10_rest_149 (by decide) ?_
        exact M_z hx hb hr rfl hlocks (x22_59, x23_60, x24_61, x25_47, (i 36), (a 26), y27_48, (a 28), (a 29), (a 30), (a 31), (a 32), (a 33)) hP hD hK hS ⟨Or.inl ⟨rfl, ⟨_, Or.inl ⟨by decide, rfl⟩, by rw [hpl]; exact hz2_63⟩⟩, ⟨dp, hpr_55, KP3.rf⟩⟩ (by first | exact Nat.le_of_ble_eq_true rfl | (simp only [rm_X10_restT]; omega)) (by first | exact Nat.le_of_ble_eq_true rfl | (simp only [rm_X10_restT]; omega)) dX10_rest_150
      · have hP : va_P (dC, dI) vwCl (mw g h0 b (va_up (va_up (va_up (va_up i 22 x22_59) 23 x23_60) 24 x24_61) 25 x25_47) (va_up a 27 y27_48)) _ := hP
        have hD : va_D _ (mw g h0 b (va_up (va_up (va_up (va_up i 22 x22_59) 23 x23_60) 24 x24_61) 25 x25_47) (va_up a 27 y27_48)) := hD
        refine W.eq (g2 := F0 m 142 ls [.int 1]) rfl ?_
        have hmq_65 : MI (a 19) ln (gpa (Kp (a 19) ln) (nq (a 19) ln) (59 : Int32) (gnu (Kp (a 19) ln) (Vp (a 19) ln) (nq (a 19) ln) (1 : Int32) (200 : Int32) sq)) x22_59 x23_60 x24_61 := hz2_63
        refine lv_if_eq (tgt := 149) hx hb dX10_rest_142 (by decide) (fun c_66 => absurd c_66 (by decide)) (fun _ => ?_)
        refine lv_iconst (v := 1) hx hb dX10_rest_145 (by decide) ?_
        refine lv_goto (tgt := 150) hx hb dX10_rest_146 (by decide) ?_
        exact M_z hx hb hr rfl hlocks (x22_59, x23_60, x24_61, x25_47, (i 36), (a 26), y27_48, (a 28), (a 29), (a 30), (a 31), (a 32), (a 33)) hP hD hK hS ⟨Or.inr ⟨rfl, ⟨_, T, Or.inl ⟨by decide, rfl⟩, (by rw [hpl]; exact hmq_65), (by rw [gpa_nd, gpl_nd]; exact hn36), (by rw [gpa_nd, gpl_nd]; exact htq_57)⟩⟩, ⟨dp, hpr_55, KP3.rf⟩⟩ (by first | exact Nat.le_of_ble_eq_true rfl | (simp only [rm_X10_restT]; omega)) (by first | exact Nat.le_of_ble_eq_true rfl | (simp only [rm_X10_restT]; omega)) dX10_rest_150
  by_cases c_67 : z_1 = 4
  · refine lv_tableIn (tgt := 90) hx hb dX10_rest_6 (by rw [c_67]; decide) (by rw [c_67]; decide) (by rw [c_67]; rfl) (by decide) ?_
    obtain rfl : cw = 5 := (cw_is hcw.1 ez_1 c_67).trans (by decide)
    have hpl : gpl (Kp (a 19) ln) (Vp (a 19) ln) (nq (a 19) ln) 5 sq = (gnu (Kp (a 19) ln) (Vp (a 19) ln) (nq (a 19) ln) 1 1000 (gnu (Kp (a 19) ln) (Vp (a 19) ln) (nq (a 19) ln) 0 5 sq)) := rfl
    refine lv_aload_n hx hb dX10_rest_90 rfl (lv_at hl 0 rfl) ?_
    refine lv_iload_n hx hb dX10_rest_91 rfl (lv_at hl 1 rfl) ?_
    refine lv_iconst (v := 5) hx hb dX10_rest_92 (by decide) ?_
    refine lv_sipush (v := 1000) hx hb dX10_rest_93 (by decide) ?_
    refine M_V ⟨hx, hb, hml, hown, hts⟩ (m_X10_numbersT l dC dI sa g h0 b ln sq i a kk (5 : Int32) (1000 : Int32) _ hL hM hk) (cwV 3 hts gX10_rest_X10_numbers rfl rfl rfl (by decide +kernel) ⟨(by first | exact Nat.le_of_ble_eq_true rfl | (simp only [rm_X10_numbersT, rm_X10_restT]; omega)), (by first | exact Nat.le_of_ble_eq_true rfl | (simp only [rm_X10_numbersT, rm_X10_restT]; omega))⟩) hP hD hK hS hA hev rfl rfl rfl rfl hl.1 rfl (Nat.le_of_ble_eq_true rfl) dX10_rest_96 ⟨(by first | exact Nat.le_of_ble_eq_true rfl | (simp only [rm_X10_restT]; omega)), (by first | exact Nat.le_of_ble_eq_true rfl | (simp only [rm_X10_restT]; omega))⟩ (fun r u H locs hw hP hD hS => ?_)
    obtain ⟨x22_68, x23_69, x24_70, x25_71, y27_72, y28_73⟩ := u
    have hw : ((r = some (.int 0) ∧ (MO (gnu (Kp (a 19) ln) (Vp (a 19) ln) (nq (a 19) ln) 1 (1000 : Int32) (gnu (Kp (a 19) ln) (Vp (a 19) ln) (nq (a 19) ln) 0 (5 : Int32) sq)) x23_69 x24_70)) ∨ (r = some (.int 1) ∧ (MI (a 19) ln (gnu (Kp (a 19) ln) (Vp (a 19) ln) (nq (a 19) ln) 1 (1000 : Int32) (gnu (Kp (a 19) ln) (Vp (a 19) ln) (nq (a 19) ln) 0 (5 : Int32) sq)) x22_68 x23_69 x24_70 ∧ y27_72 = upd (a 27) kk.toNatClampNeg (Vp (a 19) ln sq.1) ∧ y28_73 = upd (a 28) kk.toNatClampNeg (Vp (a 19) ln (gnu (Kp (a 19) ln) (Vp (a 19) ln) (nq (a 19) ln) 0 (5 : Int32) sq).1)))) ∧ ((y27_72 = (a 27) ∨ ∃ v : Int32, (0 : Int32).toInt ≤ v.toInt ∧ v.toInt ≤ (5 : Int32).toInt ∧ y27_72 = upd (a 27) kk.toNatClampNeg v) ∧ (∀ x9 : Nat, ¬ x9 = kk.toNatClampNeg → y28_73 x9 = (a 28) x9 ∧ (a 29) x9 = (a 29) x9 ∧ (a 30) x9 = (a 30) x9)) := hw
    obtain ⟨⟨rfl, hz2_75⟩ | ⟨rfl, hz2_75⟩, hw_74⟩ := hw
    · have hP : va_P (dC, dI) vwCl (mw g h0 b (va_up (va_up (va_up (va_up i 22 x22_68) 23 x23_69) 24 x24_70) 25 x25_71) (va_up (va_up a 27 y27_72) 28 y28_73)) _ := hP
      have hD : va_D _ (mw g h0 b (va_up (va_up (va_up (va_up i 22 x22_68) 23 x23_69) 24 x24_70) 25 x25_71) (va_up (va_up a 27 y27_72) 28 y28_73)) := hD
      refine W.eq (g2 := F0 m 99 ls [.int 0]) rfl ?_
      have hp_76 := PN.set hPN hq hVq (show y27_72 = (a 27) ∨ ∃ v : Int32, (0 : Int32).toInt ≤ v.toInt ∧ v.toInt ≤ ((5 : Int32) : Int32).toInt ∧ y27_72 = upd (a 27) kk.toNatClampNeg v from hw_74.1) (fun _ => by decide)
      have hpr_77 := PR.tr (PR.rf hPN) hp_76
      refine lv_if_eq (tgt := 115) hx hb dX10_rest_99 (by decide) (fun _ => ?_) (fun c_78 => absurd c_78 (by decide))
      refine lv_iconst (v := 0) hx hb dX10_rest_115 (by decide) ?_
      exact M_z hx hb hr rfl hlocks (x22_68, x23_69, x24_70, x25_71, (i 36), (a 26), y27_72, y28_73, (a 29), (a 30), (a 31), (a 32), (a 33)) hP hD hK hS ⟨Or.inl ⟨rfl, ⟨_, Or.inl ⟨by decide, rfl⟩, by rw [hpl]; exact (hz2_75).pa⟩⟩, ⟨dp, hpr_77, (fun x9 hx9 => hw_74.2 x9 (by omega))⟩⟩ (by first | exact Nat.le_of_ble_eq_true rfl | (simp only [rm_X10_restT]; omega)) (by first | exact Nat.le_of_ble_eq_true rfl | (simp only [rm_X10_restT]; omega)) dX10_rest_116
    · have hP : va_P (dC, dI) vwCl (mw g h0 b (va_up (va_up (va_up (va_up i 22 x22_68) 23 x23_69) 24 x24_70) 25 x25_71) (va_up (va_up a 27 y27_72) 28 y28_73)) _ := hP
      have hD : va_D _ (mw g h0 b (va_up (va_up (va_up (va_up i 22 x22_68) 23 x23_69) 24 x24_70) 25 x25_71) (va_up (va_up a 27 y27_72) 28 y28_73)) := hD
      refine W.eq (g2 := F0 m 99 ls [.int 1]) rfl ?_
      have hp_79 := PN.set hPN hq hVq (show y27_72 = (a 27) ∨ ∃ v : Int32, (0 : Int32).toInt ≤ v.toInt ∧ v.toInt ≤ ((5 : Int32) : Int32).toInt ∧ y27_72 = upd (a 27) kk.toNatClampNeg v from hw_74.1) (fun _ => by decide)
      have hpr_80 := PR.tr (PR.rf hPN) hp_79
      have hmq_81 : MI (a 19) ln (gnu (Kp (a 19) ln) (Vp (a 19) ln) (nq (a 19) ln) 1 (1000 : Int32) (gnu (Kp (a 19) ln) (Vp (a 19) ln) (nq (a 19) ln) 0 (5 : Int32) sq)) x22_68 x23_69 x24_70 := hz2_75.1
      have htq_82 : TQ (Kp (a 19) ln) (Vp (a 19) ln) (nq (a 19) ln) T k0 sq.2.1 (a 27) (a 28) (a 29) (a 30) (a 26) y27_72 y28_73 (a 29) (a 30) (a 31) (a 32) (a 33) := by rw [hkr.2]; exact TQ.ct (by have h9 := hRM; rw [hkr.2] at h9; exact h9) (fun j9 hj9 => ⟨kp_u hky hz2_75.2.1 j9 hj9, kp_u hky hz2_75.2.2 j9 hj9, rfl, rfl⟩) (ct_2 (Or.inr hp9.1) (by rw [at_u hky hz2_75.2.1, hp9.2]) (by rw [at_u hky hz2_75.2.2, (gnu_ok (gnu_ok hz2_75.1.2.1).1).2.1, hp9.2]))
      refine lv_if_eq (tgt := 115) hx hb dX10_rest_99 (by decide) (fun c_83 => absurd c_83 (by decide)) (fun _ => ?_)
      refine lv_aload_n hx hb dX10_rest_102 rfl (lv_at hl 0 rfl) ?_
      refine lv_bipush (v := 59) hx hb dX10_rest_103 (by decide) ?_
      refine M_V ⟨hx, hb, hml, hown, hts⟩ (m_X10_need l dC dI sa g h0 b ln (gnu (Kp (a 19) ln) (Vp (a 19) ln) (nq (a 19) ln) 1 (1000 : Int32) (gnu (Kp (a 19) ln) (Vp (a 19) ln) (nq (a 19) ln) 0 (5 : Int32) sq)) (va_up (va_up (va_up (va_up i 22 x22_68) 23 x23_69) 24 x24_70) 25 x25_71) (va_up (va_up a 27 y27_72) 28 y28_73) (59 : Int32) _ hL hmq_81 (by decide)) (cwV 1 hts gX10_rest_X10_need rfl rfl rfl (by decide +kernel) ⟨(by first | exact Nat.le_of_ble_eq_true rfl | (simp only [rm_X10_need, rm_X10_restT]; omega)), (by first | exact Nat.le_of_ble_eq_true rfl | (simp only [rm_X10_need, rm_X10_restT]; omega))⟩) hP hD hK hS hA hev rfl rfl rfl rfl hl.1 rfl (Nat.le_of_ble_eq_true rfl) dX10_rest_105 ⟨(by first | exact Nat.le_of_ble_eq_true rfl | (simp only [rm_X10_restT]; omega)), (by first | exact Nat.le_of_ble_eq_true rfl | (simp only [rm_X10_restT]; omega))⟩ (fun r u H locs hw hP hD hS => ?_)
      obtain ⟨x22_84, x23_85, x24_86⟩ := u
      have hw : ((r = some (.int 0) ∧ (MO (gpa (Kp (a 19) ln) (nq (a 19) ln) (59 : Int32) (gnu (Kp (a 19) ln) (Vp (a 19) ln) (nq (a 19) ln) 1 (1000 : Int32) (gnu (Kp (a 19) ln) (Vp (a 19) ln) (nq (a 19) ln) 0 (5 : Int32) sq))) x23_85 x24_86)) ∨ (r = some (.int 1) ∧ (MI (a 19) ln (gpa (Kp (a 19) ln) (nq (a 19) ln) (59 : Int32) (gnu (Kp (a 19) ln) (Vp (a 19) ln) (nq (a 19) ln) 1 (1000 : Int32) (gnu (Kp (a 19) ln) (Vp (a 19) ln) (nq (a 19) ln) 0 (5 : Int32) sq))) x22_84 x23_85 x24_86))) ∧ (True) := hw
      obtain ⟨⟨rfl, hz2_88⟩ | ⟨rfl, hz2_88⟩, hw_87⟩ := hw
      · have hP : va_P (dC, dI) vwCl (mw g h0 b (va_up (va_up (va_up (va_up i 22 x22_84) 23 x23_85) 24 x24_86) 25 x25_71) (va_up (va_up a 27 y27_72) 28 y28_73)) _ := hP
        have hD : va_D _ (mw g h0 b (va_up (va_up (va_up (va_up i 22 x22_84) 23 x23_85) 24 x24_86) 25 x25_71) (va_up (va_up a 27 y27_72) 28 y28_73)) := hD
        refine W.eq (g2 := F0 m 108 ls [.int 0]) rfl ?_
        refine lv_if_eq (tgt := 115) hx hb dX10_rest_108 (by decide) (fun _ => ?_) (fun c_89 => absurd c_89 (by decide))
        refine lv_iconst (v := 0) hx hb dX10_rest_115 (by decide) ?_
        exact M_z hx hb hr rfl hlocks (x22_84, x23_85, x24_86, x25_71, (i 36), (a 26), y27_72, y28_73, (a 29), (a 30), (a 31), (a 32), (a 33)) hP hD hK hS ⟨Or.inl ⟨rfl, ⟨_, Or.inl ⟨by decide, rfl⟩, by rw [hpl]; exact hz2_88⟩⟩, ⟨dp, hpr_80, (fun x9 hx9 => hw_74.2 x9 (by omega))⟩⟩ (by first | exact Nat.le_of_ble_eq_true rfl | (simp only [rm_X10_restT]; omega)) (by first | exact Nat.le_of_ble_eq_true rfl | (simp only [rm_X10_restT]; omega)) dX10_rest_116
      · have hP : va_P (dC, dI) vwCl (mw g h0 b (va_up (va_up (va_up (va_up i 22 x22_84) 23 x23_85) 24 x24_86) 25 x25_71) (va_up (va_up a 27 y27_72) 28 y28_73)) _ := hP
        have hD : va_D _ (mw g h0 b (va_up (va_up (va_up (va_up i 22 x22_84) 23 x23_85) 24 x24_86) 25 x25_71) (va_up (va_up a 27 y27_72) 28 y28_73)) := hD
        refine W.eq (g2 := F0 m 108 ls [.int 1]) rfl ?_
        have hmq_90 : MI (a 19) ln (gpa (Kp (a 19) ln) (nq (a 19) ln) (59 : Int32) (gnu (Kp (a 19) ln) (Vp (a 19) ln) (nq (a 19) ln) 1 (1000 : Int32) (gnu (Kp (a 19) ln) (Vp (a 19) ln) (nq (a 19) ln) 0 (5 : Int32) sq))) x22_84 x23_85 x24_86 := hz2_88
        refine lv_if_eq (tgt := 115) hx hb dX10_rest_108 (by decide) (fun c_91 => absurd c_91 (by decide)) (fun _ => ?_)
        refine lv_iconst (v := 1) hx hb dX10_rest_111 (by decide) ?_
        refine lv_goto (tgt := 116) hx hb dX10_rest_112 (by decide) ?_
        exact M_z hx hb hr rfl hlocks (x22_84, x23_85, x24_86, x25_71, (i 36), (a 26), y27_72, y28_73, (a 29), (a 30), (a 31), (a 32), (a 33)) hP hD hK hS ⟨Or.inr ⟨rfl, ⟨_, T, Or.inl ⟨by decide, rfl⟩, (by rw [hpl]; exact hmq_90), (by rw [gpa_nd, gpl_nd]; exact hn36), (by rw [gpa_nd, gpl_nd]; exact htq_82)⟩⟩, ⟨dp, hpr_80, (fun x9 hx9 => hw_74.2 x9 (by omega))⟩⟩ (by first | exact Nat.le_of_ble_eq_true rfl | (simp only [rm_X10_restT]; omega)) (by first | exact Nat.le_of_ble_eq_true rfl | (simp only [rm_X10_restT]; omega)) dX10_rest_116
  by_cases c_92 : z_1 = 5
  · refine lv_tableIn (tgt := 151) hx hb dX10_rest_6 (by rw [c_92]; decide) (by rw [c_92]; decide) (by rw [c_92]; rfl) (by decide) ?_
    obtain rfl : cw = 6 := (cw_is hcw.1 ez_1 c_92).trans (by decide)
    have hpl : gpl (Kp (a 19) ln) (Vp (a 19) ln) (nq (a 19) ln) 6 sq = (gnu (Kp (a 19) ln) (Vp (a 19) ln) (nq (a 19) ln) 0 5 sq) := rfl
    refine lv_aload_n hx hb dX10_rest_151 rfl (lv_at hl 0 rfl) ?_
    refine lv_iload_n hx hb dX10_rest_152 rfl (lv_at hl 1 rfl) ?_
    refine lv_iconst (v := 0) hx hb dX10_rest_153 (by decide) ?_
    refine lv_iconst (v := 5) hx hb dX10_rest_154 (by decide) ?_
    refine M_V ⟨hx, hb, hml, hown, hts⟩ (m_X10_single l dC dI sa g h0 b ln sq i a kk (0 : Int32) (5 : Int32) _ hL hM hk) (cwV 3 hts gX10_rest_X10_single rfl rfl rfl (by decide +kernel) ⟨(by first | exact Nat.le_of_ble_eq_true rfl | (simp only [rm_X10_single, rm_X10_restT]; omega)), (by first | exact Nat.le_of_ble_eq_true rfl | (simp only [rm_X10_single, rm_X10_restT]; omega))⟩) hP hD hK hS hA hev rfl rfl rfl rfl hl.1 rfl (Nat.le_of_ble_eq_true rfl) dX10_rest_155 ⟨(by first | exact Nat.le_of_ble_eq_true rfl | (simp only [rm_X10_restT]; omega)), (by first | exact Nat.le_of_ble_eq_true rfl | (simp only [rm_X10_restT]; omega))⟩ (fun r u H locs hw hP hD hS => ?_)
    obtain ⟨x22_93, x23_94, x24_95, x25_96, y27_97⟩ := u
    have hw : ((r = some (.int 0) ∧ (MO (gnu (Kp (a 19) ln) (Vp (a 19) ln) (nq (a 19) ln) (0 : Int32) (5 : Int32) sq) x23_94 x24_95 ∧ y27_97 = (a 27))) ∨ (r = some (.int 1) ∧ (MI (a 19) ln (gnu (Kp (a 19) ln) (Vp (a 19) ln) (nq (a 19) ln) (0 : Int32) (5 : Int32) sq) x22_93 x23_94 x24_95 ∧ (0 : Int32).toInt ≤ (Vp (a 19) ln sq.1).toInt ∧ (Vp (a 19) ln sq.1).toInt ≤ (5 : Int32).toInt ∧ y27_97 = upd (a 27) kk.toNatClampNeg (Vp (a 19) ln sq.1)))) ∧ (True) := hw
    obtain ⟨⟨rfl, hz2_99⟩ | ⟨rfl, hz2_99⟩, hw_98⟩ := hw
    · have hP : va_P (dC, dI) vwCl (mw g h0 b (va_up (va_up (va_up (va_up i 22 x22_93) 23 x23_94) 24 x24_95) 25 x25_96) (va_up a 27 y27_97)) _ := hP
      have hD : va_D _ (mw g h0 b (va_up (va_up (va_up (va_up i 22 x22_93) 23 x23_94) 24 x24_95) 25 x25_96) (va_up a 27 y27_97)) := hD
      refine W.eq (g2 := F0 m 158 ls [.int 0]) rfl ?_
      have hp_100 := PN.set hPN hq hVq (show y27_97 = (a 27) ∨ ∃ v : Int32, ((0 : Int32) : Int32).toInt ≤ v.toInt ∧ v.toInt ≤ ((5 : Int32) : Int32).toInt ∧ y27_97 = upd (a 27) kk.toNatClampNeg v from Or.inl hz2_99.2) (fun _ => by decide)
      have hpr_101 := PR.tr (PR.rf hPN) hp_100
      refine lv_if_eq (tgt := 174) hx hb dX10_rest_158 (by decide) (fun _ => ?_) (fun c_102 => absurd c_102 (by decide))
      refine lv_iconst (v := 0) hx hb dX10_rest_174 (by decide) ?_
      exact M_z hx hb hr rfl hlocks (x22_93, x23_94, x24_95, x25_96, (i 36), (a 26), y27_97, (a 28), (a 29), (a 30), (a 31), (a 32), (a 33)) hP hD hK hS ⟨Or.inl ⟨rfl, ⟨_, Or.inl ⟨by decide, rfl⟩, by rw [hpl]; exact (hz2_99.1).pa⟩⟩, ⟨dp, hpr_101, KP3.rf⟩⟩ (by first | exact Nat.le_of_ble_eq_true rfl | (simp only [rm_X10_restT]; omega)) (by first | exact Nat.le_of_ble_eq_true rfl | (simp only [rm_X10_restT]; omega)) dX10_rest_175
    · have hP : va_P (dC, dI) vwCl (mw g h0 b (va_up (va_up (va_up (va_up i 22 x22_93) 23 x23_94) 24 x24_95) 25 x25_96) (va_up a 27 y27_97)) _ := hP
      have hD : va_D _ (mw g h0 b (va_up (va_up (va_up (va_up i 22 x22_93) 23 x23_94) 24 x24_95) 25 x25_96) (va_up a 27 y27_97)) := hD
      refine W.eq (g2 := F0 m 158 ls [.int 1]) rfl ?_
      have hp_103 := PN.set hPN hq hVq (show y27_97 = (a 27) ∨ ∃ v : Int32, ((0 : Int32) : Int32).toInt ≤ v.toInt ∧ v.toInt ≤ ((5 : Int32) : Int32).toInt ∧ y27_97 = upd (a 27) kk.toNatClampNeg v from Or.inr ⟨_, hz2_99.2.1, hz2_99.2.2.1, hz2_99.2.2.2⟩) (fun _ => by decide)
      have hpr_104 := PR.tr (PR.rf hPN) hp_103
      have hmq_105 : MI (a 19) ln (gnu (Kp (a 19) ln) (Vp (a 19) ln) (nq (a 19) ln) (0 : Int32) (5 : Int32) sq) x22_93 x23_94 x24_95 := hz2_99.1
      have htq_106 : TQ (Kp (a 19) ln) (Vp (a 19) ln) (nq (a 19) ln) T k0 sq.2.1 (a 27) (a 28) (a 29) (a 30) (a 26) y27_97 (a 28) (a 29) (a 30) (a 31) (a 32) (a 33) := by rw [hkr.2]; exact TQ.ct (by have h9 := hRM; rw [hkr.2] at h9; exact h9) (fun j9 hj9 => ⟨kp_u hky hz2_99.2.2.2 j9 hj9, rfl, rfl, rfl⟩) (ct_1 (Or.inr (Or.inl hp9.1)) (by rw [at_u hky hz2_99.2.2.2, hp9.2]))
      refine lv_if_eq (tgt := 174) hx hb dX10_rest_158 (by decide) (fun c_107 => absurd c_107 (by decide)) (fun _ => ?_)
      refine lv_aload_n hx hb dX10_rest_161 rfl (lv_at hl 0 rfl) ?_
      refine lv_bipush (v := 59) hx hb dX10_rest_162 (by decide) ?_
      refine M_V ⟨hx, hb, hml, hown, hts⟩ (m_X10_need l dC dI sa g h0 b ln (gnu (Kp (a 19) ln) (Vp (a 19) ln) (nq (a 19) ln) (0 : Int32) (5 : Int32) sq) (va_up (va_up (va_up (va_up i 22 x22_93) 23 x23_94) 24 x24_95) 25 x25_96) (va_up a 27 y27_97) (59 : Int32) _ hL hmq_105 (by decide)) (cwV 1 hts gX10_rest_X10_need rfl rfl rfl (by decide +kernel) ⟨(by first | exact Nat.le_of_ble_eq_true rfl | (simp only [rm_X10_need, rm_X10_restT]; omega)), (by first | exact Nat.le_of_ble_eq_true rfl | (simp only [rm_X10_need, rm_X10_restT]; omega))⟩) hP hD hK hS hA hev rfl rfl rfl rfl hl.1 rfl (Nat.le_of_ble_eq_true rfl) dX10_rest_164 ⟨(by first | exact Nat.le_of_ble_eq_true rfl | (simp only [rm_X10_restT]; omega)), (by first | exact Nat.le_of_ble_eq_true rfl | (simp only [rm_X10_restT]; omega))⟩ (fun r u H locs hw hP hD hS => ?_)
      obtain ⟨x22_108, x23_109, x24_110⟩ := u
      have hw : ((r = some (.int 0) ∧ (MO (gpa (Kp (a 19) ln) (nq (a 19) ln) (59 : Int32) (gnu (Kp (a 19) ln) (Vp (a 19) ln) (nq (a 19) ln) (0 : Int32) (5 : Int32) sq)) x23_109 x24_110)) ∨ (r = some (.int 1) ∧ (MI (a 19) ln (gpa (Kp (a 19) ln) (nq (a 19) ln) (59 : Int32) (gnu (Kp (a 19) ln) (Vp (a 19) ln) (nq (a 19) ln) (0 : Int32) (5 : Int32) sq)) x22_108 x23_109 x24_110))) ∧ (True) := hw
      obtain ⟨⟨rfl, hz2_112⟩ | ⟨rfl, hz2_112⟩, hw_111⟩ := hw
      · have hP : va_P (dC, dI) vwCl (mw g h0 b (va_up (va_up (va_up (va_up i 22 x22_108) 23 x23_109) 24 x24_110) 25 x25_96) (va_up a 27 y27_97)) _ := hP
        have hD : va_D _ (mw g h0 b (va_up (va_up (va_up (va_up i 22 x22_108) 23 x23_109) 24 x24_110) 25 x25_96) (va_up a 27 y27_97)) := hD
        refine W.eq (g2 := F0 m 167 ls [.int 0]) rfl ?_
        refine lv_if_eq (tgt := 174) hx hb dX10_rest_167 (by decide) (fun _ => ?_) (fun c_113 => absurd c_113 (by decide))
        refine lv_iconst (v := 0) hx hb dX10_rest_174 (by decide) ?_
        exact M_z hx hb hr rfl hlocks (x22_108, x23_109, x24_110, x25_96, (i 36), (a 26), y27_97, (a 28), (a 29), (a 30), (a 31), (a 32), (a 33)) hP hD hK hS ⟨Or.inl ⟨rfl, ⟨_, Or.inl ⟨by decide, rfl⟩, by rw [hpl]; exact hz2_112⟩⟩, ⟨dp, hpr_104, KP3.rf⟩⟩ (by first | exact Nat.le_of_ble_eq_true rfl | (simp only [rm_X10_restT]; omega)) (by first | exact Nat.le_of_ble_eq_true rfl | (simp only [rm_X10_restT]; omega)) dX10_rest_175
      · have hP : va_P (dC, dI) vwCl (mw g h0 b (va_up (va_up (va_up (va_up i 22 x22_108) 23 x23_109) 24 x24_110) 25 x25_96) (va_up a 27 y27_97)) _ := hP
        have hD : va_D _ (mw g h0 b (va_up (va_up (va_up (va_up i 22 x22_108) 23 x23_109) 24 x24_110) 25 x25_96) (va_up a 27 y27_97)) := hD
        refine W.eq (g2 := F0 m 167 ls [.int 1]) rfl ?_
        have hmq_114 : MI (a 19) ln (gpa (Kp (a 19) ln) (nq (a 19) ln) (59 : Int32) (gnu (Kp (a 19) ln) (Vp (a 19) ln) (nq (a 19) ln) (0 : Int32) (5 : Int32) sq)) x22_108 x23_109 x24_110 := hz2_112
        refine lv_if_eq (tgt := 174) hx hb dX10_rest_167 (by decide) (fun c_115 => absurd c_115 (by decide)) (fun _ => ?_)
        refine lv_iconst (v := 1) hx hb dX10_rest_170 (by decide) ?_
        refine lv_goto (tgt := 175) hx hb dX10_rest_171 (by decide) ?_
        exact M_z hx hb hr rfl hlocks (x22_108, x23_109, x24_110, x25_96, (i 36), (a 26), y27_97, (a 28), (a 29), (a 30), (a 31), (a 32), (a 33)) hP hD hK hS ⟨Or.inr ⟨rfl, ⟨_, T, Or.inl ⟨by decide, rfl⟩, (by rw [hpl]; exact hmq_114), (by rw [gpa_nd, gpl_nd]; exact hn36), (by rw [gpa_nd, gpl_nd]; exact htq_106)⟩⟩, ⟨dp, hpr_104, KP3.rf⟩⟩ (by first | exact Nat.le_of_ble_eq_true rfl | (simp only [rm_X10_restT]; omega)) (by first | exact Nat.le_of_ble_eq_true rfl | (simp only [rm_X10_restT]; omega)) dX10_rest_175
  by_cases c_116 : z_1 = 6
  · refine lv_tableIn (tgt := 176) hx hb dX10_rest_6 (by rw [c_116]; decide) (by rw [c_116]; decide) (by rw [c_116]; rfl) (by decide) ?_
    obtain rfl : cw = 7 := (cw_is hcw.1 ez_1 c_116).trans (by decide)
    have hpl : gpl (Kp (a 19) ln) (Vp (a 19) ln) (nq (a 19) ln) 7 sq = (gnu (Kp (a 19) ln) (Vp (a 19) ln) (nq (a 19) ln) 1 99 sq) := rfl
    refine lv_aload_n hx hb dX10_rest_176 rfl (lv_at hl 0 rfl) ?_
    refine lv_iload_n hx hb dX10_rest_177 rfl (lv_at hl 1 rfl) ?_
    refine lv_iconst (v := 1) hx hb dX10_rest_178 (by decide) ?_
    refine lv_bipush (v := 99) hx hb dX10_rest_179 (by decide) ?_
    refine M_V ⟨hx, hb, hml, hown, hts⟩ (m_X10_single l dC dI sa g h0 b ln sq i a kk (1 : Int32) (99 : Int32) _ hL hM hk) (cwV 3 hts gX10_rest_X10_single rfl rfl rfl (by decide +kernel) ⟨(by first | exact Nat.le_of_ble_eq_true rfl | (simp only [rm_X10_single, rm_X10_restT]; omega)), (by first | exact Nat.le_of_ble_eq_true rfl | (simp only [rm_X10_single, rm_X10_restT]; omega))⟩) hP hD hK hS hA hev rfl rfl rfl rfl hl.1 rfl (Nat.le_of_ble_eq_true rfl) dX10_rest_181 ⟨(by first | exact Nat.le_of_ble_eq_true rfl | (simp only [rm_X10_restT]; omega)), (by first | exact Nat.le_of_ble_eq_true rfl | (simp only [rm_X10_restT]; omega))⟩ (fun r u H locs hw hP hD hS => ?_)
    obtain ⟨x22_117, x23_118, x24_119, x25_120, y27_121⟩ := u
    have hw : ((r = some (.int 0) ∧ (MO (gnu (Kp (a 19) ln) (Vp (a 19) ln) (nq (a 19) ln) (1 : Int32) (99 : Int32) sq) x23_118 x24_119 ∧ y27_121 = (a 27))) ∨ (r = some (.int 1) ∧ (MI (a 19) ln (gnu (Kp (a 19) ln) (Vp (a 19) ln) (nq (a 19) ln) (1 : Int32) (99 : Int32) sq) x22_117 x23_118 x24_119 ∧ (1 : Int32).toInt ≤ (Vp (a 19) ln sq.1).toInt ∧ (Vp (a 19) ln sq.1).toInt ≤ (99 : Int32).toInt ∧ y27_121 = upd (a 27) kk.toNatClampNeg (Vp (a 19) ln sq.1)))) ∧ (True) := hw
    obtain ⟨⟨rfl, hz2_123⟩ | ⟨rfl, hz2_123⟩, hw_122⟩ := hw
    · have hP : va_P (dC, dI) vwCl (mw g h0 b (va_up (va_up (va_up (va_up i 22 x22_117) 23 x23_118) 24 x24_119) 25 x25_120) (va_up a 27 y27_121)) _ := hP
      have hD : va_D _ (mw g h0 b (va_up (va_up (va_up (va_up i 22 x22_117) 23 x23_118) 24 x24_119) 25 x25_120) (va_up a 27 y27_121)) := hD
      refine W.eq (g2 := F0 m 184 ls [.int 0]) rfl ?_
      have hp_124 := PN.set hPN hq hVq (show y27_121 = (a 27) ∨ ∃ v : Int32, ((1 : Int32) : Int32).toInt ≤ v.toInt ∧ v.toInt ≤ ((99 : Int32) : Int32).toInt ∧ y27_121 = upd (a 27) kk.toNatClampNeg v from Or.inl hz2_123.2) (fun h9 => absurd h9 (by rw [← hkq, ← ez_1, c_116]; decide))
      have hpr_125 := PR.tr (PR.rf hPN) hp_124
      refine lv_if_eq (tgt := 200) hx hb dX10_rest_184 (by decide) (fun _ => ?_) (fun c_126 => absurd c_126 (by decide))
      refine lv_iconst (v := 0) hx hb dX10_rest_200 (by decide) ?_
      exact M_z hx hb hr rfl hlocks (x22_117, x23_118, x24_119, x25_120, (i 36), (a 26), y27_121, (a 28), (a 29), (a 30), (a 31), (a 32), (a 33)) hP hD hK hS ⟨Or.inl ⟨rfl, ⟨_, Or.inl ⟨by decide, rfl⟩, by rw [hpl]; exact (hz2_123.1).pa⟩⟩, ⟨dp, hpr_125, KP3.rf⟩⟩ (by first | exact Nat.le_of_ble_eq_true rfl | (simp only [rm_X10_restT]; omega)) (by first | exact Nat.le_of_ble_eq_true rfl | (simp only [rm_X10_restT]; omega)) dX10_rest_201
    · have hP : va_P (dC, dI) vwCl (mw g h0 b (va_up (va_up (va_up (va_up i 22 x22_117) 23 x23_118) 24 x24_119) 25 x25_120) (va_up a 27 y27_121)) _ := hP
      have hD : va_D _ (mw g h0 b (va_up (va_up (va_up (va_up i 22 x22_117) 23 x23_118) 24 x24_119) 25 x25_120) (va_up a 27 y27_121)) := hD
      refine W.eq (g2 := F0 m 184 ls [.int 1]) rfl ?_
      have hp_127 := PN.set hPN hq hVq (show y27_121 = (a 27) ∨ ∃ v : Int32, ((1 : Int32) : Int32).toInt ≤ v.toInt ∧ v.toInt ≤ ((99 : Int32) : Int32).toInt ∧ y27_121 = upd (a 27) kk.toNatClampNeg v from Or.inr ⟨_, hz2_123.2.1, hz2_123.2.2.1, hz2_123.2.2.2⟩) (fun h9 => absurd h9 (by rw [← hkq, ← ez_1, c_116]; decide))
      have hpr_128 := PR.tr (PR.rf hPN) hp_127
      have hmq_129 : MI (a 19) ln (gnu (Kp (a 19) ln) (Vp (a 19) ln) (nq (a 19) ln) (1 : Int32) (99 : Int32) sq) x22_117 x23_118 x24_119 := hz2_123.1
      have htq_130 : TQ (Kp (a 19) ln) (Vp (a 19) ln) (nq (a 19) ln) T k0 sq.2.1 (a 27) (a 28) (a 29) (a 30) (a 26) y27_121 (a 28) (a 29) (a 30) (a 31) (a 32) (a 33) := by rw [hkr.2]; exact TQ.ct (by have h9 := hRM; rw [hkr.2] at h9; exact h9) (fun j9 hj9 => ⟨kp_u hky hz2_123.2.2.2 j9 hj9, rfl, rfl, rfl⟩) (ct_1 (Or.inr (Or.inr (Or.inl hp9.1))) (by rw [at_u hky hz2_123.2.2.2, hp9.2]))
      refine lv_if_eq (tgt := 200) hx hb dX10_rest_184 (by decide) (fun c_131 => absurd c_131 (by decide)) (fun _ => ?_)
      refine lv_aload_n hx hb dX10_rest_187 rfl (lv_at hl 0 rfl) ?_
      refine lv_bipush (v := 59) hx hb dX10_rest_188 (by decide) ?_
      refine M_V ⟨hx, hb, hml, hown, hts⟩ (m_X10_need l dC dI sa g h0 b ln (gnu (Kp (a 19) ln) (Vp (a 19) ln) (nq (a 19) ln) (1 : Int32) (99 : Int32) sq) (va_up (va_up (va_up (va_up i 22 x22_117) 23 x23_118) 24 x24_119) 25 x25_120) (va_up a 27 y27_121) (59 : Int32) _ hL hmq_129 (by decide)) (cwV 1 hts gX10_rest_X10_need rfl rfl rfl (by decide +kernel) ⟨(by first | exact Nat.le_of_ble_eq_true rfl | (simp only [rm_X10_need, rm_X10_restT]; omega)), (by first | exact Nat.le_of_ble_eq_true rfl | (simp only [rm_X10_need, rm_X10_restT]; omega))⟩) hP hD hK hS hA hev rfl rfl rfl rfl hl.1 rfl (Nat.le_of_ble_eq_true rfl) dX10_rest_190 ⟨(by first | exact Nat.le_of_ble_eq_true rfl | (simp only [rm_X10_restT]; omega)), (by first | exact Nat.le_of_ble_eq_true rfl | (simp only [rm_X10_restT]; omega))⟩ (fun r u H locs hw hP hD hS => ?_)
      obtain ⟨x22_132, x23_133, x24_134⟩ := u
      have hw : ((r = some (.int 0) ∧ (MO (gpa (Kp (a 19) ln) (nq (a 19) ln) (59 : Int32) (gnu (Kp (a 19) ln) (Vp (a 19) ln) (nq (a 19) ln) (1 : Int32) (99 : Int32) sq)) x23_133 x24_134)) ∨ (r = some (.int 1) ∧ (MI (a 19) ln (gpa (Kp (a 19) ln) (nq (a 19) ln) (59 : Int32) (gnu (Kp (a 19) ln) (Vp (a 19) ln) (nq (a 19) ln) (1 : Int32) (99 : Int32) sq)) x22_132 x23_133 x24_134))) ∧ (True) := hw
      obtain ⟨⟨rfl, hz2_136⟩ | ⟨rfl, hz2_136⟩, hw_135⟩ := hw
      · have hP : va_P (dC, dI) vwCl (mw g h0 b (va_up (va_up (va_up (va_up i 22 x22_132) 23 x23_133) 24 x24_134) 25 x25_120) (va_up a 27 y27_121)) _ := hP
        have hD : va_D _ (mw g h0 b (va_up (va_up (va_up (va_up i 22 x22_132) 23 x23_133) 24 x24_134) 25 x25_120) (va_up a 27 y27_121)) := hD
        refine W.eq (g2 := F0 m 193 ls [.int 0]) rfl ?_
        refine lv_if_eq (tgt := 200) hx hb dX10_rest_193 (by decide) (fun _ => ?_) (fun c_137 => absurd c_137 (by decide))
        refine lv_iconst (v := 0) hx hb dX10_rest_200 (by decide) ?_
        exact M_z hx hb hr rfl hlocks (x22_132, x23_133, x24_134, x25_120, (i 36), (a 26), y27_121, (a 28), (a 29), (a 30), (a 31), (a 32), (a 33)) hP hD hK hS ⟨Or.inl ⟨rfl, ⟨_, Or.inl ⟨by decide, rfl⟩, by rw [hpl]; exact hz2_136⟩⟩, ⟨dp, hpr_128, KP3.rf⟩⟩ (by first | exact Nat.le_of_ble_eq_true rfl | (simp only [rm_X10_restT]; omega)) (by first | exact Nat.le_of_ble_eq_true rfl | (simp only [rm_X10_restT]; omega)) dX10_rest_201
      · have hP : va_P (dC, dI) vwCl (mw g h0 b (va_up (va_up (va_up (va_up i 22 x22_132) 23 x23_133) 24 x24_134) 25 x25_120) (va_up a 27 y27_121)) _ := hP
        have hD : va_D _ (mw g h0 b (va_up (va_up (va_up (va_up i 22 x22_132) 23 x23_133) 24 x24_134) 25 x25_120) (va_up a 27 y27_121)) := hD
        refine W.eq (g2 := F0 m 193 ls [.int 1]) rfl ?_
        have hmq_138 : MI (a 19) ln (gpa (Kp (a 19) ln) (nq (a 19) ln) (59 : Int32) (gnu (Kp (a 19) ln) (Vp (a 19) ln) (nq (a 19) ln) (1 : Int32) (99 : Int32) sq)) x22_132 x23_133 x24_134 := hz2_136
        refine lv_if_eq (tgt := 200) hx hb dX10_rest_193 (by decide) (fun c_139 => absurd c_139 (by decide)) (fun _ => ?_)
        refine lv_iconst (v := 1) hx hb dX10_rest_196 (by decide) ?_
        refine lv_goto (tgt := 201) hx hb dX10_rest_197 (by decide) ?_
        exact M_z hx hb hr rfl hlocks (x22_132, x23_133, x24_134, x25_120, (i 36), (a 26), y27_121, (a 28), (a 29), (a 30), (a 31), (a 32), (a 33)) hP hD hK hS ⟨Or.inr ⟨rfl, ⟨_, T, Or.inl ⟨by decide, rfl⟩, (by rw [hpl]; exact hmq_138), (by rw [gpa_nd, gpl_nd]; exact hn36), (by rw [gpa_nd, gpl_nd]; exact htq_130)⟩⟩, ⟨dp, hpr_128, KP3.rf⟩⟩ (by first | exact Nat.le_of_ble_eq_true rfl | (simp only [rm_X10_restT]; omega)) (by first | exact Nat.le_of_ble_eq_true rfl | (simp only [rm_X10_restT]; omega)) dX10_rest_201
  by_cases c_140 : z_1 = 7
  · refine lv_tableIn (tgt := 202) hx hb dX10_rest_6 (by rw [c_140]; decide) (by rw [c_140]; decide) (by rw [c_140]; rfl) (by decide) ?_
    obtain rfl : cw = 8 := (cw_is hcw.1 ez_1 c_140).trans (by decide)
    refine lv_aload_n hx hb dX10_rest_202 rfl (lv_at hl 0 rfl) ?_
    refine lv_iload_n hx hb dX10_rest_203 rfl (lv_at hl 1 rfl) ?_
    refine lv_iconst (v := 0) hx hb dX10_rest_204 (by decide) ?_
    refine lv_bipush (v := 50) hx hb dX10_rest_205 (by decide) ?_
    refine M_V ⟨hx, hb, hml, hown, hts⟩ (m_X10_single l dC dI sa g h0 b ln sq i a kk (0 : Int32) (50 : Int32) _ hL hM hk) (cwV 3 hts gX10_rest_X10_single rfl rfl rfl (by decide +kernel) ⟨(by first | exact Nat.le_of_ble_eq_true rfl | (simp only [rm_X10_single, rm_X10_restT]; omega)), (by first | exact Nat.le_of_ble_eq_true rfl | (simp only [rm_X10_single, rm_X10_restT]; omega))⟩) hP hD hK hS hA hev rfl rfl rfl rfl hl.1 rfl (Nat.le_of_ble_eq_true rfl) dX10_rest_207 ⟨(by first | exact Nat.le_of_ble_eq_true rfl | (simp only [rm_X10_restT]; omega)), (by first | exact Nat.le_of_ble_eq_true rfl | (simp only [rm_X10_restT]; omega))⟩ (fun r u H locs hw hP hD hS => ?_)
    obtain ⟨x22_141, x23_142, x24_143, x25_144, y27_145⟩ := u
    have hw : ((r = some (.int 0) ∧ (MO (gnu (Kp (a 19) ln) (Vp (a 19) ln) (nq (a 19) ln) (0 : Int32) (50 : Int32) sq) x23_142 x24_143 ∧ y27_145 = (a 27))) ∨ (r = some (.int 1) ∧ (MI (a 19) ln (gnu (Kp (a 19) ln) (Vp (a 19) ln) (nq (a 19) ln) (0 : Int32) (50 : Int32) sq) x22_141 x23_142 x24_143 ∧ (0 : Int32).toInt ≤ (Vp (a 19) ln sq.1).toInt ∧ (Vp (a 19) ln sq.1).toInt ≤ (50 : Int32).toInt ∧ y27_145 = upd (a 27) kk.toNatClampNeg (Vp (a 19) ln sq.1)))) ∧ (True) := hw
    obtain ⟨⟨rfl, hz2_147⟩ | ⟨rfl, hz2_147⟩, hw_146⟩ := hw
    · have hP : va_P (dC, dI) vwCl (mw g h0 b (va_up (va_up (va_up (va_up i 22 x22_141) 23 x23_142) 24 x24_143) 25 x25_144) (va_up a 27 y27_145)) _ := hP
      have hD : va_D _ (mw g h0 b (va_up (va_up (va_up (va_up i 22 x22_141) 23 x23_142) 24 x24_143) 25 x25_144) (va_up a 27 y27_145)) := hD
      refine W.eq (g2 := F0 m 210 ls [.int 0]) rfl ?_
      have hp_148 := PN.set hPN hq hVq (show y27_145 = (a 27) ∨ ∃ v : Int32, ((0 : Int32) : Int32).toInt ≤ v.toInt ∧ v.toInt ≤ ((50 : Int32) : Int32).toInt ∧ y27_145 = upd (a 27) kk.toNatClampNeg v from Or.inl hz2_147.2) (fun h9 => absurd h9 (by rw [← hkq, ← ez_1, c_140]; decide))
      have hpr_149 := PR.tr (PR.rf hPN) hp_148
      refine lv_if_eq (tgt := 226) hx hb dX10_rest_210 (by decide) (fun _ => ?_) (fun c_150 => absurd c_150 (by decide))
      refine lv_iconst (v := 0) hx hb dX10_rest_226 (by decide) ?_
      exact M_z hx hb hr rfl hlocks (x22_141, x23_142, x24_143, x25_144, (i 36), (a 26), y27_145, (a 28), (a 29), (a 30), (a 31), (a 32), (a 33)) hP hD hK hS ⟨Or.inl ⟨rfl, ⟨_, BU.i8 (Ev.fx2 (hz2_147.1).2.2.1), hz2_147.1⟩⟩, ⟨dp, hpr_149, KP3.rf⟩⟩ (by first | exact Nat.le_of_ble_eq_true rfl | (simp only [rm_X10_restT]; omega)) (by first | exact Nat.le_of_ble_eq_true rfl | (simp only [rm_X10_restT]; omega)) dX10_rest_227
    · have hP : va_P (dC, dI) vwCl (mw g h0 b (va_up (va_up (va_up (va_up i 22 x22_141) 23 x23_142) 24 x24_143) 25 x25_144) (va_up a 27 y27_145)) _ := hP
      have hD : va_D _ (mw g h0 b (va_up (va_up (va_up (va_up i 22 x22_141) 23 x23_142) 24 x24_143) 25 x25_144) (va_up a 27 y27_145)) := hD
      refine W.eq (g2 := F0 m 210 ls [.int 1]) rfl ?_
      have hp_151 := PN.set hPN hq hVq (show y27_145 = (a 27) ∨ ∃ v : Int32, ((0 : Int32) : Int32).toInt ≤ v.toInt ∧ v.toInt ≤ ((50 : Int32) : Int32).toInt ∧ y27_145 = upd (a 27) kk.toNatClampNeg v from Or.inr ⟨_, hz2_147.2.1, hz2_147.2.2.1, hz2_147.2.2.2⟩) (fun h9 => absurd h9 (by rw [← hkq, ← ez_1, c_140]; decide))
      have hpr_152 := PR.tr (PR.rf hPN) hp_151
      have hmq_153 : MI (a 19) ln (gnu (Kp (a 19) ln) (Vp (a 19) ln) (nq (a 19) ln) (0 : Int32) (50 : Int32) sq) x22_141 x23_142 x24_143 := hz2_147.1
      have htq_154 : TQ (Kp (a 19) ln) (Vp (a 19) ln) (nq (a 19) ln) T k0 sq.2.1 (a 27) (a 28) (a 29) (a 30) (a 26) y27_145 (a 28) (a 29) (a 30) (a 31) (a 32) (a 33) := by rw [hkr.2]; exact TQ.ct (by have h9 := hRM; rw [hkr.2] at h9; exact h9) (fun j9 hj9 => ⟨kp_u hky hz2_147.2.2.2 j9 hj9, rfl, rfl, rfl⟩) (ct_1 (Or.inr (Or.inr (Or.inr (Or.inl hp9.1)))) (by rw [at_u hky hz2_147.2.2.2, hp9.2]))
      refine lv_if_eq (tgt := 226) hx hb dX10_rest_210 (by decide) (fun c_155 => absurd c_155 (by decide)) (fun _ => ?_)
      refine lv_aload_n hx hb dX10_rest_213 rfl (lv_at hl 0 rfl) ?_
      refine lv_iload_n hx hb dX10_rest_214 rfl (lv_at hl 1 rfl) ?_
      refine lv_iconst (v := 0) hx hb dX10_rest_215 (by decide) ?_
      refine M_V ⟨hx, hb, hml, hown, hts⟩ (m_X10_blockT l dC dI sa g h0 b j bl dp ln (gnu (Kp (a 19) ln) (Vp (a 19) ln) (nq (a 19) ln) (0 : Int32) (50 : Int32) sq) T k0 (va_up (va_up (va_up (va_up i 22 x22_141) 23 x23_142) 24 x24_143) 25 x25_144) (va_up a 27 y27_145) kk (0 : Int32) _ hL hmq_153 (by first | exact hn36 | (simp only [gpa_nd, gnu_nd, gpl_nd, gte_nd, gob_nd, grf_nd]; exact hn36)) hp_151.2.1 hBL hj (by first | exact hn3 | (simp only [gpa_nd, gnu_nd, gpl_nd, gte_nd, gob_nd, grf_nd]; exact hn3)) (by first | exact htq_154.1 | (simp only [gpa_nd, gnu_nd, gpl_nd, gte_nd, gob_nd, grf_nd]; exact htq_154.1)) (let h9 := PR.nd hpr_152 hVq hdq; ⟨q, hq, h9.1, h9.2⟩) (⟨hkr.1, by first | (have := hkr.2; omega) | (simp only [gpa_nd, gnu_nd, gpl_nd, gte_nd, gob_nd, grf_nd]; have := hkr.2; omega)⟩) IHS) (cwV 2 hts gX10_rest_X10_block rfl rfl rfl (by decide +kernel) ⟨(by first | exact Nat.le_of_ble_eq_true rfl | (simp only [rm_X10_blockT, rm_X10_restT]; omega)), (by first | exact Nat.le_of_ble_eq_true rfl | (simp only [rm_X10_blockT, rm_X10_restT]; omega))⟩) hP hD hK hS hA hev rfl rfl rfl rfl hl.1 rfl (Nat.le_of_ble_eq_true rfl) dX10_rest_216 ⟨(by first | exact Nat.le_of_ble_eq_true rfl | (simp only [rm_X10_restT]; omega)), (by first | exact Nat.le_of_ble_eq_true rfl | (simp only [rm_X10_restT]; omega))⟩ (fun r u H locs hw hP hD hS => ?_)
      obtain ⟨x22_156, x23_157, x24_158, x25_159, x36_160, y26_161, y27_162, y28_163, y29_164, y30_165, y31_166, y32_167, y33_168⟩ := u
      have hw : ((r = some (.int 0) ∧ (∃ rn : SG, Ev (Kp (a 19) ln) (Vp (a 19) ln) (nq (a 19) ln) 2 bl (gnu (Kp (a 19) ln) (Vp (a 19) ln) (nq (a 19) ln) (0 : Int32) (50 : Int32) sq) rn ∧ MO rn x23_157 x24_158)) ∨ (r = some (.int 1) ∧ (∃ (rn : SG) (TN : TT), EvT (Kp (a 19) ln) (Vp (a 19) ln) (nq (a 19) ln) 2 bl 0 ((gnu (Kp (a 19) ln) (Vp (a 19) ln) (nq (a 19) ln) (0 : Int32) (50 : Int32) sq), T) (rn, TN) ∧ MI (a 19) ln rn x22_156 x23_157 x24_158 ∧ x36_160 = nI rn.2.1 ∧ TQ (Kp (a 19) ln) (Vp (a 19) ln) (nq (a 19) ln) (tset TN (if (0 : Int32) = 0 then 1 else 2) k0 (thd (gnu (Kp (a 19) ln) (Vp (a 19) ln) (nq (a 19) ln) (0 : Int32) (50 : Int32) sq).2.1 rn.2.1)) (gnu (Kp (a 19) ln) (Vp (a 19) ln) (nq (a 19) ln) (0 : Int32) (50 : Int32) sq).2.1 rn.2.1 y27_145 (a 28) (a 29) (a 30) y26_161 y27_162 y28_163 y29_164 y30_165 y31_166 y32_167 y33_168))) ∧ (∃ dpN : Nat → Nat, PR (i 36) x36_160 dp dpN (a 26) y27_145 (a 31) (a 32) (a 33) y26_161 y27_162 y31_166 y32_167 y33_168 ∧ KP3 (a 28) (a 29) (a 30) y28_163 y29_164 y30_165) := hw
      obtain ⟨⟨rfl, hz2_170⟩ | ⟨rfl, hz2_170⟩, hw_169⟩ := hw
      · have hP : va_P (dC, dI) vwCl (mw g h0 b (va_up (va_up (va_up (va_up (va_up i 22 x22_156) 23 x23_157) 24 x24_158) 25 x25_159) 36 x36_160) (va_up (va_up (va_up (va_up (va_up (va_up (va_up (va_up a 26 y26_161) 27 y27_162) 28 y28_163) 29 y29_164) 30 y30_165) 31 y31_166) 32 y32_167) 33 y33_168)) _ := hP
        have hD : va_D _ (mw g h0 b (va_up (va_up (va_up (va_up (va_up i 22 x22_156) 23 x23_157) 24 x24_158) 25 x25_159) 36 x36_160) (va_up (va_up (va_up (va_up (va_up (va_up (va_up (va_up a 26 y26_161) 27 y27_162) 28 y28_163) 29 y29_164) 30 y30_165) 31 y31_166) 32 y32_167) 33 y33_168)) := hD
        refine W.eq (g2 := F0 m 219 ls [.int 0]) rfl ?_
        obtain ⟨dp_172, hPR_171, hk3_174⟩ := hw_169
        have thk3_174 := KP3.tr (KP3.rf (f1 := (a 28)) (f2 := (a 29)) (f3 := (a 30))) hk3_174
        have hpr_175 := PR.tr hpr_152 hPR_171
        obtain ⟨rn_176, hev_177, hmo_178⟩ := hz2_170
        refine lv_if_eq (tgt := 226) hx hb dX10_rest_219 (by decide) (fun _ => ?_) (fun c_179 => absurd c_179 (by decide))
        refine lv_iconst (v := 0) hx hb dX10_rest_226 (by decide) ?_
        exact M_z hx hb hr rfl hlocks (x22_156, x23_157, x24_158, x25_159, x36_160, y26_161, y27_162, y28_163, y29_164, y30_165, y31_166, y32_167, y33_168) hP hD hK hS ⟨Or.inl ⟨rfl, ⟨_, BU.i8 hev_177, hmo_178⟩⟩, ⟨dp_172, hpr_175, thk3_174⟩⟩ (by first | exact Nat.le_of_ble_eq_true rfl | (simp only [rm_X10_restT]; omega)) (by first | exact Nat.le_of_ble_eq_true rfl | (simp only [rm_X10_restT]; omega)) dX10_rest_227
      · have hP : va_P (dC, dI) vwCl (mw g h0 b (va_up (va_up (va_up (va_up (va_up i 22 x22_156) 23 x23_157) 24 x24_158) 25 x25_159) 36 x36_160) (va_up (va_up (va_up (va_up (va_up (va_up (va_up (va_up a 26 y26_161) 27 y27_162) 28 y28_163) 29 y29_164) 30 y30_165) 31 y31_166) 32 y32_167) 33 y33_168)) _ := hP
        have hD : va_D _ (mw g h0 b (va_up (va_up (va_up (va_up (va_up i 22 x22_156) 23 x23_157) 24 x24_158) 25 x25_159) 36 x36_160) (va_up (va_up (va_up (va_up (va_up (va_up (va_up (va_up a 26 y26_161) 27 y27_162) 28 y28_163) 29 y29_164) 30 y30_165) 31 y31_166) 32 y32_167) 33 y33_168)) := hD
        refine W.eq (g2 := F0 m 219 ls [.int 1]) rfl ?_
        obtain ⟨dp_181, hPR_180, hk3_183⟩ := hw_169
        have thk3_183 := KP3.tr (KP3.rf (f1 := (a 28)) (f2 := (a 29)) (f3 := (a 30))) hk3_183
        have hpr_184 := PR.tr hpr_152 hPR_180
        obtain ⟨rn_185, TN_186, hev_187, hmq_188, h36_189, htb_190⟩ := hz2_170
        have ehev_187 := hev_187.ev
        have h3_rn_185 : rn_185.2.1 ≤ 300 := ehev_187.nd.2.2 (by first | exact hn3 | (simp only [gpa_nd, gnu_nd, gpl_nd, gte_nd, gob_nd, grf_nd]; exact hn3))
        have hqe : (gnu (Kp (a 19) ln) (Vp (a 19) ln) (nq (a 19) ln) (0 : Int32) (50 : Int32) sq).2.1 = sq.2.1 := by simp only [gpa_nd, gnu_nd, gpl_nd, gte_nd, gob_nd, grf_nd]
        have hle_rn_185 : sq.2.1 ≤ rn_185.2.1 := by have h9 := ehev_187.nd.1; simp only [gnu_nd, gte_nd, gpa_nd, gob_nd] at h9; exact h9
        rw [hqe, show (if (0 : Int32) = 0 then 1 else 2) = 1 from if_pos rfl] at htb_190
        have htq_191 := TQ.tr htq_154 htb_190 (fun j9 hj9 => (tset_ne (by omega)).trans (hev_187.t0 j9 (by show j9 < (gnu (Kp (a 19) ln) (Vp (a 19) ln) (nq (a 19) ln) (0 : Int32) (50 : Int32) sq).2.1; omega))) (by have := hkr.2; omega)
        refine lv_if_eq (tgt := 226) hx hb dX10_rest_219 (by decide) (fun c_192 => absurd c_192 (by decide)) (fun _ => ?_)
        refine lv_iconst (v := 1) hx hb dX10_rest_222 (by decide) ?_
        refine lv_goto (tgt := 227) hx hb dX10_rest_223 (by decide) ?_
        exact M_z hx hb hr rfl hlocks (x22_156, x23_157, x24_158, x25_159, x36_160, y26_161, y27_162, y28_163, y29_164, y30_165, y31_166, y32_167, y33_168) hP hD hK hS ⟨Or.inr ⟨rfl, ⟨rn_185, (tset TN_186 1 k0 (thd sq.2.1 rn_185.2.1)), Or.inr ⟨by decide, Or.inl ⟨rfl, (rn_185, TN_186), hev_187, rfl⟩⟩, hmq_188, h36_189, htq_191⟩⟩, ⟨dp_181, hpr_184, thk3_183⟩⟩ (by first | exact Nat.le_of_ble_eq_true rfl | (simp only [rm_X10_restT]; omega)) (by first | exact Nat.le_of_ble_eq_true rfl | (simp only [rm_X10_restT]; omega)) dX10_rest_227
  by_cases c_193 : z_1 = 8
  · refine lv_tableIn (tgt := 228) hx hb dX10_rest_6 (by rw [c_193]; decide) (by rw [c_193]; decide) (by rw [c_193]; rfl) (by decide) ?_
    obtain rfl : cw = 9 := (cw_is hcw.1 ez_1 c_193).trans (by decide)
    refine lv_aload_n hx hb dX10_rest_228 rfl (lv_at hl 0 rfl) ?_
    refine lv_iload_n hx hb dX10_rest_229 rfl (lv_at hl 1 rfl) ?_
    refine lv_iconst (v := 0) hx hb dX10_rest_230 (by decide) ?_
    refine lv_sipush (v := 200) hx hb dX10_rest_231 (by decide) ?_
    refine M_V ⟨hx, hb, hml, hown, hts⟩ (m_X10_single l dC dI sa g h0 b ln sq i a kk (0 : Int32) (200 : Int32) _ hL hM hk) (cwV 3 hts gX10_rest_X10_single rfl rfl rfl (by decide +kernel) ⟨(by first | exact Nat.le_of_ble_eq_true rfl | (simp only [rm_X10_single, rm_X10_restT]; omega)), (by first | exact Nat.le_of_ble_eq_true rfl | (simp only [rm_X10_single, rm_X10_restT]; omega))⟩) hP hD hK hS hA hev rfl rfl rfl rfl hl.1 rfl (Nat.le_of_ble_eq_true rfl) dX10_rest_234 ⟨(by first | exact Nat.le_of_ble_eq_true rfl | (simp only [rm_X10_restT]; omega)), (by first | exact Nat.le_of_ble_eq_true rfl | (simp only [rm_X10_restT]; omega))⟩ (fun r u H locs hw hP hD hS => ?_)
    obtain ⟨x22_194, x23_195, x24_196, x25_197, y27_198⟩ := u
    have hw : ((r = some (.int 0) ∧ (MO (gnu (Kp (a 19) ln) (Vp (a 19) ln) (nq (a 19) ln) (0 : Int32) (200 : Int32) sq) x23_195 x24_196 ∧ y27_198 = (a 27))) ∨ (r = some (.int 1) ∧ (MI (a 19) ln (gnu (Kp (a 19) ln) (Vp (a 19) ln) (nq (a 19) ln) (0 : Int32) (200 : Int32) sq) x22_194 x23_195 x24_196 ∧ (0 : Int32).toInt ≤ (Vp (a 19) ln sq.1).toInt ∧ (Vp (a 19) ln sq.1).toInt ≤ (200 : Int32).toInt ∧ y27_198 = upd (a 27) kk.toNatClampNeg (Vp (a 19) ln sq.1)))) ∧ (True) := hw
    obtain ⟨⟨rfl, hz2_200⟩ | ⟨rfl, hz2_200⟩, hw_199⟩ := hw
    · have hP : va_P (dC, dI) vwCl (mw g h0 b (va_up (va_up (va_up (va_up i 22 x22_194) 23 x23_195) 24 x24_196) 25 x25_197) (va_up a 27 y27_198)) _ := hP
      have hD : va_D _ (mw g h0 b (va_up (va_up (va_up (va_up i 22 x22_194) 23 x23_195) 24 x24_196) 25 x25_197) (va_up a 27 y27_198)) := hD
      refine W.eq (g2 := F0 m 237 ls [.int 0]) rfl ?_
      have hp_201 := PN.set hPN hq hVq (show y27_198 = (a 27) ∨ ∃ v : Int32, ((0 : Int32) : Int32).toInt ≤ v.toInt ∧ v.toInt ≤ ((200 : Int32) : Int32).toInt ∧ y27_198 = upd (a 27) kk.toNatClampNeg v from Or.inl hz2_200.2) (fun h9 => absurd h9 (by rw [← hkq, ← ez_1, c_193]; decide))
      have hpr_202 := PR.tr (PR.rf hPN) hp_201
      refine lv_if_eq (tgt := 253) hx hb dX10_rest_237 (by decide) (fun _ => ?_) (fun c_203 => absurd c_203 (by decide))
      refine lv_iconst (v := 0) hx hb dX10_rest_253 (by decide) ?_
      exact M_z hx hb hr rfl hlocks (x22_194, x23_195, x24_196, x25_197, (i 36), (a 26), y27_198, (a 28), (a 29), (a 30), (a 31), (a 32), (a 33)) hP hD hK hS ⟨Or.inl ⟨rfl, ⟨_, BU.i9 (Ev.fx2 (hz2_200.1).2.2.1), hz2_200.1⟩⟩, ⟨dp, hpr_202, KP3.rf⟩⟩ (by first | exact Nat.le_of_ble_eq_true rfl | (simp only [rm_X10_restT]; omega)) (by first | exact Nat.le_of_ble_eq_true rfl | (simp only [rm_X10_restT]; omega)) dX10_rest_254
    · have hP : va_P (dC, dI) vwCl (mw g h0 b (va_up (va_up (va_up (va_up i 22 x22_194) 23 x23_195) 24 x24_196) 25 x25_197) (va_up a 27 y27_198)) _ := hP
      have hD : va_D _ (mw g h0 b (va_up (va_up (va_up (va_up i 22 x22_194) 23 x23_195) 24 x24_196) 25 x25_197) (va_up a 27 y27_198)) := hD
      refine W.eq (g2 := F0 m 237 ls [.int 1]) rfl ?_
      have hp_204 := PN.set hPN hq hVq (show y27_198 = (a 27) ∨ ∃ v : Int32, ((0 : Int32) : Int32).toInt ≤ v.toInt ∧ v.toInt ≤ ((200 : Int32) : Int32).toInt ∧ y27_198 = upd (a 27) kk.toNatClampNeg v from Or.inr ⟨_, hz2_200.2.1, hz2_200.2.2.1, hz2_200.2.2.2⟩) (fun h9 => absurd h9 (by rw [← hkq, ← ez_1, c_193]; decide))
      have hpr_205 := PR.tr (PR.rf hPN) hp_204
      have hmq_206 : MI (a 19) ln (gnu (Kp (a 19) ln) (Vp (a 19) ln) (nq (a 19) ln) (0 : Int32) (200 : Int32) sq) x22_194 x23_195 x24_196 := hz2_200.1
      have htq_207 : TQ (Kp (a 19) ln) (Vp (a 19) ln) (nq (a 19) ln) T k0 sq.2.1 (a 27) (a 28) (a 29) (a 30) (a 26) y27_198 (a 28) (a 29) (a 30) (a 31) (a 32) (a 33) := by rw [hkr.2]; exact TQ.ct (by have h9 := hRM; rw [hkr.2] at h9; exact h9) (fun j9 hj9 => ⟨kp_u hky hz2_200.2.2.2 j9 hj9, rfl, rfl, rfl⟩) (ct_1 (Or.inr (Or.inr (Or.inr (Or.inr hp9.1)))) (by rw [at_u hky hz2_200.2.2.2, hp9.2]))
      refine lv_if_eq (tgt := 253) hx hb dX10_rest_237 (by decide) (fun c_208 => absurd c_208 (by decide)) (fun _ => ?_)
      refine lv_aload_n hx hb dX10_rest_240 rfl (lv_at hl 0 rfl) ?_
      refine lv_iload_n hx hb dX10_rest_241 rfl (lv_at hl 1 rfl) ?_
      refine lv_iconst (v := 0) hx hb dX10_rest_242 (by decide) ?_
      refine M_V ⟨hx, hb, hml, hown, hts⟩ (m_X10_blockT l dC dI sa g h0 b j bl dp ln (gnu (Kp (a 19) ln) (Vp (a 19) ln) (nq (a 19) ln) (0 : Int32) (200 : Int32) sq) T k0 (va_up (va_up (va_up (va_up i 22 x22_194) 23 x23_195) 24 x24_196) 25 x25_197) (va_up a 27 y27_198) kk (0 : Int32) _ hL hmq_206 (by first | exact hn36 | (simp only [gpa_nd, gnu_nd, gpl_nd, gte_nd, gob_nd, grf_nd]; exact hn36)) hp_204.2.1 hBL hj (by first | exact hn3 | (simp only [gpa_nd, gnu_nd, gpl_nd, gte_nd, gob_nd, grf_nd]; exact hn3)) (by first | exact htq_207.1 | (simp only [gpa_nd, gnu_nd, gpl_nd, gte_nd, gob_nd, grf_nd]; exact htq_207.1)) (let h9 := PR.nd hpr_205 hVq hdq; ⟨q, hq, h9.1, h9.2⟩) (⟨hkr.1, by first | (have := hkr.2; omega) | (simp only [gpa_nd, gnu_nd, gpl_nd, gte_nd, gob_nd, grf_nd]; have := hkr.2; omega)⟩) IHS) (cwV 2 hts gX10_rest_X10_block rfl rfl rfl (by decide +kernel) ⟨(by first | exact Nat.le_of_ble_eq_true rfl | (simp only [rm_X10_blockT, rm_X10_restT]; omega)), (by first | exact Nat.le_of_ble_eq_true rfl | (simp only [rm_X10_blockT, rm_X10_restT]; omega))⟩) hP hD hK hS hA hev rfl rfl rfl rfl hl.1 rfl (Nat.le_of_ble_eq_true rfl) dX10_rest_243 ⟨(by first | exact Nat.le_of_ble_eq_true rfl | (simp only [rm_X10_restT]; omega)), (by first | exact Nat.le_of_ble_eq_true rfl | (simp only [rm_X10_restT]; omega))⟩ (fun r u H locs hw hP hD hS => ?_)
      obtain ⟨x22_209, x23_210, x24_211, x25_212, x36_213, y26_214, y27_215, y28_216, y29_217, y30_218, y31_219, y32_220, y33_221⟩ := u
      have hw : ((r = some (.int 0) ∧ (∃ rn : SG, Ev (Kp (a 19) ln) (Vp (a 19) ln) (nq (a 19) ln) 2 bl (gnu (Kp (a 19) ln) (Vp (a 19) ln) (nq (a 19) ln) (0 : Int32) (200 : Int32) sq) rn ∧ MO rn x23_210 x24_211)) ∨ (r = some (.int 1) ∧ (∃ (rn : SG) (TN : TT), EvT (Kp (a 19) ln) (Vp (a 19) ln) (nq (a 19) ln) 2 bl 0 ((gnu (Kp (a 19) ln) (Vp (a 19) ln) (nq (a 19) ln) (0 : Int32) (200 : Int32) sq), T) (rn, TN) ∧ MI (a 19) ln rn x22_209 x23_210 x24_211 ∧ x36_213 = nI rn.2.1 ∧ TQ (Kp (a 19) ln) (Vp (a 19) ln) (nq (a 19) ln) (tset TN (if (0 : Int32) = 0 then 1 else 2) k0 (thd (gnu (Kp (a 19) ln) (Vp (a 19) ln) (nq (a 19) ln) (0 : Int32) (200 : Int32) sq).2.1 rn.2.1)) (gnu (Kp (a 19) ln) (Vp (a 19) ln) (nq (a 19) ln) (0 : Int32) (200 : Int32) sq).2.1 rn.2.1 y27_198 (a 28) (a 29) (a 30) y26_214 y27_215 y28_216 y29_217 y30_218 y31_219 y32_220 y33_221))) ∧ (∃ dpN : Nat → Nat, PR (i 36) x36_213 dp dpN (a 26) y27_198 (a 31) (a 32) (a 33) y26_214 y27_215 y31_219 y32_220 y33_221 ∧ KP3 (a 28) (a 29) (a 30) y28_216 y29_217 y30_218) := hw
      obtain ⟨⟨rfl, hz2_223⟩ | ⟨rfl, hz2_223⟩, hw_222⟩ := hw
      · have hP : va_P (dC, dI) vwCl (mw g h0 b (va_up (va_up (va_up (va_up (va_up i 22 x22_209) 23 x23_210) 24 x24_211) 25 x25_212) 36 x36_213) (va_up (va_up (va_up (va_up (va_up (va_up (va_up (va_up a 26 y26_214) 27 y27_215) 28 y28_216) 29 y29_217) 30 y30_218) 31 y31_219) 32 y32_220) 33 y33_221)) _ := hP
        have hD : va_D _ (mw g h0 b (va_up (va_up (va_up (va_up (va_up i 22 x22_209) 23 x23_210) 24 x24_211) 25 x25_212) 36 x36_213) (va_up (va_up (va_up (va_up (va_up (va_up (va_up (va_up a 26 y26_214) 27 y27_215) 28 y28_216) 29 y29_217) 30 y30_218) 31 y31_219) 32 y32_220) 33 y33_221)) := hD
        refine W.eq (g2 := F0 m 246 ls [.int 0]) rfl ?_
        obtain ⟨dp_225, hPR_224, hk3_227⟩ := hw_222
        have thk3_227 := KP3.tr (KP3.rf (f1 := (a 28)) (f2 := (a 29)) (f3 := (a 30))) hk3_227
        have hpr_228 := PR.tr hpr_205 hPR_224
        obtain ⟨rn_229, hev_230, hmo_231⟩ := hz2_223
        refine lv_if_eq (tgt := 253) hx hb dX10_rest_246 (by decide) (fun _ => ?_) (fun c_232 => absurd c_232 (by decide))
        refine lv_iconst (v := 0) hx hb dX10_rest_253 (by decide) ?_
        exact M_z hx hb hr rfl hlocks (x22_209, x23_210, x24_211, x25_212, x36_213, y26_214, y27_215, y28_216, y29_217, y30_218, y31_219, y32_220, y33_221) hP hD hK hS ⟨Or.inl ⟨rfl, ⟨_, BU.i9 hev_230, hmo_231⟩⟩, ⟨dp_225, hpr_228, thk3_227⟩⟩ (by first | exact Nat.le_of_ble_eq_true rfl | (simp only [rm_X10_restT]; omega)) (by first | exact Nat.le_of_ble_eq_true rfl | (simp only [rm_X10_restT]; omega)) dX10_rest_254
      · have hP : va_P (dC, dI) vwCl (mw g h0 b (va_up (va_up (va_up (va_up (va_up i 22 x22_209) 23 x23_210) 24 x24_211) 25 x25_212) 36 x36_213) (va_up (va_up (va_up (va_up (va_up (va_up (va_up (va_up a 26 y26_214) 27 y27_215) 28 y28_216) 29 y29_217) 30 y30_218) 31 y31_219) 32 y32_220) 33 y33_221)) _ := hP
        have hD : va_D _ (mw g h0 b (va_up (va_up (va_up (va_up (va_up i 22 x22_209) 23 x23_210) 24 x24_211) 25 x25_212) 36 x36_213) (va_up (va_up (va_up (va_up (va_up (va_up (va_up (va_up a 26 y26_214) 27 y27_215) 28 y28_216) 29 y29_217) 30 y30_218) 31 y31_219) 32 y32_220) 33 y33_221)) := hD
        refine W.eq (g2 := F0 m 246 ls [.int 1]) rfl ?_
        obtain ⟨dp_234, hPR_233, hk3_236⟩ := hw_222
        have thk3_236 := KP3.tr (KP3.rf (f1 := (a 28)) (f2 := (a 29)) (f3 := (a 30))) hk3_236
        have hpr_237 := PR.tr hpr_205 hPR_233
        obtain ⟨rn_238, TN_239, hev_240, hmq_241, h36_242, htb_243⟩ := hz2_223
        have ehev_240 := hev_240.ev
        have h3_rn_238 : rn_238.2.1 ≤ 300 := ehev_240.nd.2.2 (by first | exact hn3 | (simp only [gpa_nd, gnu_nd, gpl_nd, gte_nd, gob_nd, grf_nd]; exact hn3))
        have hqe : (gnu (Kp (a 19) ln) (Vp (a 19) ln) (nq (a 19) ln) (0 : Int32) (200 : Int32) sq).2.1 = sq.2.1 := by simp only [gpa_nd, gnu_nd, gpl_nd, gte_nd, gob_nd, grf_nd]
        have hle_rn_238 : sq.2.1 ≤ rn_238.2.1 := by have h9 := ehev_240.nd.1; simp only [gnu_nd, gte_nd, gpa_nd, gob_nd] at h9; exact h9
        rw [hqe, show (if (0 : Int32) = 0 then 1 else 2) = 1 from if_pos rfl] at htb_243
        have htq_244 := TQ.tr htq_207 htb_243 (fun j9 hj9 => (tset_ne (by omega)).trans (hev_240.t0 j9 (by show j9 < (gnu (Kp (a 19) ln) (Vp (a 19) ln) (nq (a 19) ln) (0 : Int32) (200 : Int32) sq).2.1; omega))) (by have := hkr.2; omega)
        refine lv_if_eq (tgt := 253) hx hb dX10_rest_246 (by decide) (fun c_245 => absurd c_245 (by decide)) (fun _ => ?_)
        refine lv_iconst (v := 1) hx hb dX10_rest_249 (by decide) ?_
        refine lv_goto (tgt := 254) hx hb dX10_rest_250 (by decide) ?_
        exact M_z hx hb hr rfl hlocks (x22_209, x23_210, x24_211, x25_212, x36_213, y26_214, y27_215, y28_216, y29_217, y30_218, y31_219, y32_220, y33_221) hP hD hK hS ⟨Or.inr ⟨rfl, ⟨rn_238, (tset TN_239 1 k0 (thd sq.2.1 rn_238.2.1)), Or.inr ⟨by decide, Or.inr (Or.inl ⟨rfl, (rn_238, TN_239), hev_240, rfl⟩)⟩, hmq_241, h36_242, htq_244⟩⟩, ⟨dp_234, hpr_237, thk3_236⟩⟩ (by first | exact Nat.le_of_ble_eq_true rfl | (simp only [rm_X10_restT]; omega)) (by first | exact Nat.le_of_ble_eq_true rfl | (simp only [rm_X10_restT]; omega)) dX10_rest_254
  by_cases c_246 : z_1 = 9
  · refine lv_tableIn (tgt := 255) hx hb dX10_rest_6 (by rw [c_246]; decide) (by rw [c_246]; decide) (by rw [c_246]; rfl) (by decide) ?_
    obtain rfl : cw = 10 := (cw_is hcw.1 ez_1 c_246).trans (by decide)
    refine lv_aload_n hx hb dX10_rest_255 rfl (lv_at hl 0 rfl) ?_
    refine lv_iload_n hx hb dX10_rest_256 rfl (lv_at hl 1 rfl) ?_
    refine M_V ⟨hx, hb, hml, hown, hts⟩ (m_X10_testT l dC dI sa g h0 b ln sq i a kk _ hL hM hk) (cwV 1 hts gX10_rest_X10_test rfl rfl rfl (by decide +kernel) ⟨(by first | exact Nat.le_of_ble_eq_true rfl | (simp only [rm_X10_testT, rm_X10_restT]; omega)), (by first | exact Nat.le_of_ble_eq_true rfl | (simp only [rm_X10_testT, rm_X10_restT]; omega))⟩) hP hD hK hS hA hev rfl rfl rfl rfl hl.1 rfl (Nat.le_of_ble_eq_true rfl) dX10_rest_257 ⟨(by first | exact Nat.le_of_ble_eq_true rfl | (simp only [rm_X10_restT]; omega)), (by first | exact Nat.le_of_ble_eq_true rfl | (simp only [rm_X10_restT]; omega))⟩ (fun r u H locs hw hP hD hS => ?_)
    obtain ⟨x22_247, x23_248, x24_249, x25_250, y27_251, y28_252, y29_253, y30_254⟩ := u
    have hw : ((r = some (.int 0) ∧ (MO (gte (Kp (a 19) ln) (Vp (a 19) ln) (nq (a 19) ln) sq) x23_248 x24_249)) ∨ (r = some (.int 1) ∧ (MI (a 19) ln (gte (Kp (a 19) ln) (Vp (a 19) ln) (nq (a 19) ln) sq) x22_247 x23_248 x24_249 ∧ (¬ (Kp (a 19) ln sq.1 < 15 ∨ 19 < Kp (a 19) ln sq.1)) ∧ y29_253 = upd (a 29) kk.toNatClampNeg (cm (Kp (a 19) ln sq.1)) ∧ ((Kp (a 19) ln sq.1 = 17 ∨ Kp (a 19) ln sq.1 = 18) → y27_251 = upd (a 27) kk.toNatClampNeg (Vp (a 19) ln (gpa (Kp (a 19) ln) (nq (a 19) ln) (Kp (a 19) ln sq.1) sq).1)) ∧ (¬ (Kp (a 19) ln sq.1 = 17 ∨ Kp (a 19) ln sq.1 = 18) → y27_251 = (a 27)) ∧ ∃ b9 : Int32, (if Kp (a 19) ln (if Kp (a 19) ln sq.1 = 17 ∨ Kp (a 19) ln sq.1 = 18 then gnu (Kp (a 19) ln) (Vp (a 19) ln) (nq (a 19) ln) 0 5 (gpa (Kp (a 19) ln) (nq (a 19) ln) (Kp (a 19) ln sq.1) sq) else (gpa (Kp (a 19) ln) (nq (a 19) ln) (Kp (a 19) ln sq.1) sq)).1 = 60 then (60 : Int32) else 61) = b9 ∧ Kp (a 19) ln (if Kp (a 19) ln sq.1 = 17 ∨ Kp (a 19) ln sq.1 = 18 then gnu (Kp (a 19) ln) (Vp (a 19) ln) (nq (a 19) ln) 0 5 (gpa (Kp (a 19) ln) (nq (a 19) ln) (Kp (a 19) ln sq.1) sq) else (gpa (Kp (a 19) ln) (nq (a 19) ln) (Kp (a 19) ln sq.1) sq)).1 = b9 ∧ y30_254 = upd (a 30) kk.toNatClampNeg b9 ∧ y28_252 = upd (a 28) kk.toNatClampNeg (Vp (a 19) ln (gpa (Kp (a 19) ln) (nq (a 19) ln) b9 (if Kp (a 19) ln sq.1 = 17 ∨ Kp (a 19) ln sq.1 = 18 then gnu (Kp (a 19) ln) (Vp (a 19) ln) (nq (a 19) ln) 0 5 (gpa (Kp (a 19) ln) (nq (a 19) ln) (Kp (a 19) ln sq.1) sq) else (gpa (Kp (a 19) ln) (nq (a 19) ln) (Kp (a 19) ln sq.1) sq))).1)))) ∧ ((y27_251 = (a 27) ∨ ∃ v : Int32, (0 : Int32).toInt ≤ v.toInt ∧ v.toInt ≤ (5 : Int32).toInt ∧ y27_251 = upd (a 27) kk.toNatClampNeg v) ∧ (∀ x9 : Nat, ¬ x9 = kk.toNatClampNeg → y28_252 x9 = (a 28) x9 ∧ y29_253 x9 = (a 29) x9 ∧ y30_254 x9 = (a 30) x9)) := hw
    obtain ⟨⟨rfl, hz2_256⟩ | ⟨rfl, hz2_256⟩, hw_255⟩ := hw
    · have hP : va_P (dC, dI) vwCl (mw g h0 b (va_up (va_up (va_up (va_up i 22 x22_247) 23 x23_248) 24 x24_249) 25 x25_250) (va_up (va_up (va_up (va_up a 27 y27_251) 28 y28_252) 29 y29_253) 30 y30_254)) _ := hP
      have hD : va_D _ (mw g h0 b (va_up (va_up (va_up (va_up i 22 x22_247) 23 x23_248) 24 x24_249) 25 x25_250) (va_up (va_up (va_up (va_up a 27 y27_251) 28 y28_252) 29 y29_253) 30 y30_254)) := hD
      refine W.eq (g2 := F0 m 260 ls [.int 0]) rfl ?_
      have hp_257 := PN.set hPN hq hVq (show y27_251 = (a 27) ∨ ∃ v : Int32, (0 : Int32).toInt ≤ v.toInt ∧ v.toInt ≤ (5 : Int32).toInt ∧ y27_251 = upd (a 27) kk.toNatClampNeg v from hw_255.1) (fun _ => by decide)
      have hpr_258 := PR.tr (PR.rf hPN) hp_257
      refine lv_if_eq (tgt := 272) hx hb dX10_rest_260 (by decide) (fun _ => ?_) (fun c_259 => absurd c_259 (by decide))
      refine lv_iconst (v := 0) hx hb dX10_rest_272 (by decide) ?_
      exact M_z hx hb hr rfl hlocks (x22_247, x23_248, x24_249, x25_250, (i 36), (a 26), y27_251, y28_252, y29_253, y30_254, (a 31), (a 32), (a 33)) hP hD hK hS ⟨Or.inl ⟨rfl, ⟨_, BU.i10x (Ev.fx2 (hz2_256).2.2.1) (hz2_256).2.2.1, hz2_256⟩⟩, ⟨dp, hpr_258, (fun x9 hx9 => hw_255.2 x9 (by omega))⟩⟩ (by first | exact Nat.le_of_ble_eq_true rfl | (simp only [rm_X10_restT]; omega)) (by first | exact Nat.le_of_ble_eq_true rfl | (simp only [rm_X10_restT]; omega)) dX10_rest_273
    · have hP : va_P (dC, dI) vwCl (mw g h0 b (va_up (va_up (va_up (va_up i 22 x22_247) 23 x23_248) 24 x24_249) 25 x25_250) (va_up (va_up (va_up (va_up a 27 y27_251) 28 y28_252) 29 y29_253) 30 y30_254)) _ := hP
      have hD : va_D _ (mw g h0 b (va_up (va_up (va_up (va_up i 22 x22_247) 23 x23_248) 24 x24_249) 25 x25_250) (va_up (va_up (va_up (va_up a 27 y27_251) 28 y28_252) 29 y29_253) 30 y30_254)) := hD
      refine W.eq (g2 := F0 m 260 ls [.int 1]) rfl ?_
      have hp_260 := PN.set hPN hq hVq (show y27_251 = (a 27) ∨ ∃ v : Int32, (0 : Int32).toInt ≤ v.toInt ∧ v.toInt ≤ (5 : Int32).toInt ∧ y27_251 = upd (a 27) kk.toNatClampNeg v from hw_255.1) (fun _ => by decide)
      have hpr_261 := PR.tr (PR.rf hPN) hp_260
      have hmq_262 : MI (a 19) ln (gte (Kp (a 19) ln) (Vp (a 19) ln) (nq (a 19) ln) sq) x22_247 x23_248 x24_249 := hz2_256.1
      obtain ⟨hte1, htr, ht29, ht27, ht27n, b9, htb, htb2, ht30, ht28⟩ := hz2_256
      have hkp27 : ∀ j9 : Nat, j9 < 2400 + k0 → y27_251 j9 = (a 27) j9 := fun j9 hj9 => by by_cases g9 : Kp (a 19) ln sq.1 = 17 ∨ Kp (a 19) ln sq.1 = 18; (exact kp_u hky (ht27 g9) j9 hj9); (rw [ht27n g9])
      have htq_263 : TQ (Kp (a 19) ln) (Vp (a 19) ln) (nq (a 19) ln) T k0 sq.2.1 (a 27) (a 28) (a 29) (a 30) (a 26) y27_251 y28_252 y29_253 y30_254 (a 31) (a 32) (a 33) := by rw [hkr.2]; exact TQ.ct (by have h9 := hRM; rw [hkr.2] at h9; exact h9) (fun j9 hj9 => ⟨hkp27 j9 hj9, kp_u hky ht28 j9 hj9, kp_u hky ht29 j9 hj9, kp_u hky ht30 j9 hj9⟩) (ct_10 hp9.1 hp9.2 hte1.2.1 rfl htb htb2 (at_u hky ht29) (fun g9 => at_u hky (ht27 g9)) (at_u hky ht30) (at_u hky ht28))
      refine lv_if_eq (tgt := 272) hx hb dX10_rest_260 (by decide) (fun c_264 => absurd c_264 (by decide)) (fun _ => ?_)
      refine lv_aload_n hx hb dX10_rest_263 rfl (lv_at hl 0 rfl) ?_
      refine lv_iload_n hx hb dX10_rest_264 rfl (lv_at hl 1 rfl) ?_
      refine lv_iconst (v := 0) hx hb dX10_rest_265 (by decide) ?_
      have hk9 : KP3 (a 28) (a 29) (a 30) y28_252 y29_253 y30_254 := (fun x9 hx9 => hw_255.2 x9 (by omega))
      refine M_V ⟨hx, hb, hml, hown, hts⟩ (m_X10_blockT l dC dI sa g h0 b j bl dp ln (gte (Kp (a 19) ln) (Vp (a 19) ln) (nq (a 19) ln) sq) T k0 (va_up (va_up (va_up (va_up i 22 x22_247) 23 x23_248) 24 x24_249) 25 x25_250) (va_up (va_up (va_up (va_up a 27 y27_251) 28 y28_252) 29 y29_253) 30 y30_254) kk (0 : Int32) _ hL hmq_262 (by first | exact hn36 | (simp only [gpa_nd, gnu_nd, gpl_nd, gte_nd, gob_nd, grf_nd]; exact hn36)) hp_260.2.1 hBL hj (by first | exact hn3 | (simp only [gpa_nd, gnu_nd, gpl_nd, gte_nd, gob_nd, grf_nd]; exact hn3)) (by first | exact htq_263.1 | (simp only [gpa_nd, gnu_nd, gpl_nd, gte_nd, gob_nd, grf_nd]; exact htq_263.1)) (let h9 := PR.nd hpr_261 hVq hdq; ⟨q, hq, h9.1, h9.2⟩) (⟨hkr.1, by first | (have := hkr.2; omega) | (simp only [gpa_nd, gnu_nd, gpl_nd, gte_nd, gob_nd, grf_nd]; have := hkr.2; omega)⟩) IHS) (cwV 2 hts gX10_rest_X10_block rfl rfl rfl (by decide +kernel) ⟨(by first | exact Nat.le_of_ble_eq_true rfl | (simp only [rm_X10_blockT, rm_X10_restT]; omega)), (by first | exact Nat.le_of_ble_eq_true rfl | (simp only [rm_X10_blockT, rm_X10_restT]; omega))⟩) hP hD hK hS hA hev rfl rfl rfl rfl hl.1 rfl (Nat.le_of_ble_eq_true rfl) dX10_rest_266 ⟨(by first | exact Nat.le_of_ble_eq_true rfl | (simp only [rm_X10_restT]; omega)), (by first | exact Nat.le_of_ble_eq_true rfl | (simp only [rm_X10_restT]; omega))⟩ (fun r u H locs hw hP hD hS => ?_)
      obtain ⟨x22_265, x23_266, x24_267, x25_268, x36_269, y26_270, y27_271, y28_272, y29_273, y30_274, y31_275, y32_276, y33_277⟩ := u
      have hw : ((r = some (.int 0) ∧ (∃ rn : SG, Ev (Kp (a 19) ln) (Vp (a 19) ln) (nq (a 19) ln) 2 bl (gte (Kp (a 19) ln) (Vp (a 19) ln) (nq (a 19) ln) sq) rn ∧ MO rn x23_266 x24_267)) ∨ (r = some (.int 1) ∧ (∃ (rn : SG) (TN : TT), EvT (Kp (a 19) ln) (Vp (a 19) ln) (nq (a 19) ln) 2 bl 0 ((gte (Kp (a 19) ln) (Vp (a 19) ln) (nq (a 19) ln) sq), T) (rn, TN) ∧ MI (a 19) ln rn x22_265 x23_266 x24_267 ∧ x36_269 = nI rn.2.1 ∧ TQ (Kp (a 19) ln) (Vp (a 19) ln) (nq (a 19) ln) (tset TN (if (0 : Int32) = 0 then 1 else 2) k0 (thd (gte (Kp (a 19) ln) (Vp (a 19) ln) (nq (a 19) ln) sq).2.1 rn.2.1)) (gte (Kp (a 19) ln) (Vp (a 19) ln) (nq (a 19) ln) sq).2.1 rn.2.1 y27_251 y28_252 y29_253 y30_254 y26_270 y27_271 y28_272 y29_273 y30_274 y31_275 y32_276 y33_277))) ∧ (∃ dpN : Nat → Nat, PR (i 36) x36_269 dp dpN (a 26) y27_251 (a 31) (a 32) (a 33) y26_270 y27_271 y31_275 y32_276 y33_277 ∧ KP3 y28_252 y29_253 y30_254 y28_272 y29_273 y30_274) := hw
      obtain ⟨⟨rfl, hz2_279⟩ | ⟨rfl, hz2_279⟩, hw_278⟩ := hw
      · have hP : va_P (dC, dI) vwCl (mw g h0 b (va_up (va_up (va_up (va_up (va_up i 22 x22_265) 23 x23_266) 24 x24_267) 25 x25_268) 36 x36_269) (va_up (va_up (va_up (va_up (va_up (va_up (va_up (va_up a 26 y26_270) 27 y27_271) 28 y28_272) 29 y29_273) 30 y30_274) 31 y31_275) 32 y32_276) 33 y33_277)) _ := hP
        have hD : va_D _ (mw g h0 b (va_up (va_up (va_up (va_up (va_up i 22 x22_265) 23 x23_266) 24 x24_267) 25 x25_268) 36 x36_269) (va_up (va_up (va_up (va_up (va_up (va_up (va_up (va_up a 26 y26_270) 27 y27_271) 28 y28_272) 29 y29_273) 30 y30_274) 31 y31_275) 32 y32_276) 33 y33_277)) := hD
        refine W.eq (g2 := F0 m 269 ls [.int 0]) rfl ?_
        obtain ⟨dp_281, hPR_280, hk3_283⟩ := hw_278
        have thk3_283 := KP3.tr hk9 hk3_283
        have hpr_284 := PR.tr hpr_261 hPR_280
        obtain ⟨rn_285, hev_286, hmo_287⟩ := hz2_279
        refine lv_if_ne (tgt := 274) hx hb dX10_rest_269 (by decide) (fun c_288 => absurd c_288 (by decide)) (fun _ => ?_)
        refine lv_iconst (v := 0) hx hb dX10_rest_272 (by decide) ?_
        exact M_z hx hb hr rfl hlocks (x22_265, x23_266, x24_267, x25_268, x36_269, y26_270, y27_271, y28_272, y29_273, y30_274, y31_275, y32_276, y33_277) hP hD hK hS ⟨Or.inl ⟨rfl, ⟨_, BU.i10x hev_286 (hmo_287).2.2.1, hmo_287⟩⟩, ⟨dp_281, hpr_284, thk3_283⟩⟩ (by first | exact Nat.le_of_ble_eq_true rfl | (simp only [rm_X10_restT]; omega)) (by first | exact Nat.le_of_ble_eq_true rfl | (simp only [rm_X10_restT]; omega)) dX10_rest_273
      · have hP : va_P (dC, dI) vwCl (mw g h0 b (va_up (va_up (va_up (va_up (va_up i 22 x22_265) 23 x23_266) 24 x24_267) 25 x25_268) 36 x36_269) (va_up (va_up (va_up (va_up (va_up (va_up (va_up (va_up a 26 y26_270) 27 y27_271) 28 y28_272) 29 y29_273) 30 y30_274) 31 y31_275) 32 y32_276) 33 y33_277)) _ := hP
        have hD : va_D _ (mw g h0 b (va_up (va_up (va_up (va_up (va_up i 22 x22_265) 23 x23_266) 24 x24_267) 25 x25_268) 36 x36_269) (va_up (va_up (va_up (va_up (va_up (va_up (va_up (va_up a 26 y26_270) 27 y27_271) 28 y28_272) 29 y29_273) 30 y30_274) 31 y31_275) 32 y32_276) 33 y33_277)) := hD
        refine W.eq (g2 := F0 m 269 ls [.int 1]) rfl ?_
        obtain ⟨dp_290, hPR_289, hk3_292⟩ := hw_278
        have thk3_292 := KP3.tr hk9 hk3_292
        have hpr_293 := PR.tr hpr_261 hPR_289
        obtain ⟨rn_294, TN_295, hev_296, hmq_297, h36_298, htb_299⟩ := hz2_279
        have ehev_296 := hev_296.ev
        have h3_rn_294 : rn_294.2.1 ≤ 300 := ehev_296.nd.2.2 (by first | exact hn3 | (simp only [gpa_nd, gnu_nd, gpl_nd, gte_nd, gob_nd, grf_nd]; exact hn3))
        have hqe : (gte (Kp (a 19) ln) (Vp (a 19) ln) (nq (a 19) ln) sq).2.1 = sq.2.1 := by simp only [gpa_nd, gnu_nd, gpl_nd, gte_nd, gob_nd, grf_nd]
        have hle_rn_294 : sq.2.1 ≤ rn_294.2.1 := by have h9 := ehev_296.nd.1; simp only [gnu_nd, gte_nd, gpa_nd, gob_nd] at h9; exact h9
        rw [hqe, show (if (0 : Int32) = 0 then 1 else 2) = 1 from if_pos rfl] at htb_299
        have htq_300 := TQ.tr htq_263 htb_299 (fun j9 hj9 => (tset_ne (by omega)).trans (hev_296.t0 j9 (by show j9 < (gte (Kp (a 19) ln) (Vp (a 19) ln) (nq (a 19) ln) sq).2.1; omega))) (by have := hkr.2; omega)
        refine lv_if_ne (tgt := 274) hx hb dX10_rest_269 (by decide) (fun _ => ?_) (fun c_301 => absurd c_301 (by decide))
        refine lv_aload_n hx hb dX10_rest_274 rfl (lv_at hl 0 rfl) ?_
        refine M_V ⟨hx, hb, hml, hown, hts⟩ (m_X10_word l dC dI sa g h0 b ln rn_294 (va_up (va_up (va_up (va_up (va_up i 22 x22_265) 23 x23_266) 24 x24_267) 25 x25_268) 36 x36_269) (va_up (va_up (va_up (va_up (va_up (va_up (va_up (va_up a 26 y26_270) 27 y27_271) 28 y28_272) 29 y29_273) 30 y30_274) 31 y31_275) 32 y32_276) 33 y33_277)  _ hL hmq_297) (cwV 0 hts gX10_rest_X10_word rfl rfl rfl (by decide +kernel) ⟨(by first | exact Nat.le_of_ble_eq_true rfl | (simp only [rm_X10_word, rm_X10_restT]; omega)), (by first | exact Nat.le_of_ble_eq_true rfl | (simp only [rm_X10_word, rm_X10_restT]; omega))⟩) hP hD hK hS hA hev rfl rfl rfl rfl hl.1 rfl (Nat.le_of_ble_eq_true rfl) dX10_rest_275 ⟨(by first | exact Nat.le_of_ble_eq_true rfl | (simp only [rm_X10_restT]; omega)), (by first | exact Nat.le_of_ble_eq_true rfl | (simp only [rm_X10_restT]; omega))⟩ (fun r u H locs hw hP hD hS => ?_)
        obtain ⟨x22_302, rfl⟩ : ∃ z, z = u := ⟨_, rfl⟩
        have hw : (∃ z : Int32, r = some (.int z) ∧ (z = cm (Kp (a 19) ln rn_294.1))) ∧ (x22_302 = nI rn_294.1) := hw
        obtain ⟨⟨z_304, rfl, hz_z_304⟩, hw_303⟩ := hw
        have hP : va_P (dC, dI) vwCl (mw g h0 b (va_up (va_up (va_up (va_up (va_up i 22 x22_302) 23 x23_266) 24 x24_267) 25 x25_268) 36 x36_269) (va_up (va_up (va_up (va_up (va_up (va_up (va_up (va_up a 26 y26_270) 27 y27_271) 28 y28_272) 29 y29_273) 30 y30_274) 31 y31_275) 32 y32_276) 33 y33_277)) _ := hP
        have hD : va_D _ (mw g h0 b (va_up (va_up (va_up (va_up (va_up i 22 x22_302) 23 x23_266) 24 x24_267) 25 x25_268) 36 x36_269) (va_up (va_up (va_up (va_up (va_up (va_up (va_up (va_up a 26 y26_270) 27 y27_271) 28 y28_272) 29 y29_273) 30 y30_274) 31 y31_275) 32 y32_276) 33 y33_277)) := hD
        refine W.eq (g2 := F0 m 278 ls [.int z_304]) rfl ?_
        have hmq_305 : MI (a 19) ln rn_294 x22_302 x23_266 x24_267 := (hmq_297).sk hw_303
        refine lv_bipush (v := 13) hx hb dX10_rest_278 (by decide) ?_
        refine lv_icmp_eq (tgt := 285) hx hb dX10_rest_280 (by decide) (fun c_306 => ?_) (fun c_306 => ?_)
        · have nc_306 := eq_i c_306
          have lc_306 : (13 : Int32).toInt = 13 := by decide
          refine lv_aload_n hx hb dX10_rest_285 rfl (lv_at hl 0 rfl) ?_
          refine lv_bipush (v := 13) hx hb dX10_rest_286 (by decide) ?_
          have hK13 : Kp (a 19) ln rn_294.1 = 13 := cm_13.mp (hz_z_304.symm.trans c_306)
          have hw13 : (13 : Int32) = nI 13 ∧ 13 ≤ 18 ∧ cm (Kp (a 19) ln rn_294.1) = nI 13 := ⟨rfl, by decide, by rw [hK13]; decide⟩
          refine M_V ⟨hx, hb, hml, hown, hts⟩ (m_X10_pass l dC dI sa g h0 b ln rn_294 13 (va_up (va_up (va_up (va_up (va_up i 22 x22_302) 23 x23_266) 24 x24_267) 25 x25_268) 36 x36_269) (va_up (va_up (va_up (va_up (va_up (va_up (va_up (va_up a 26 y26_270) 27 y27_271) 28 y28_272) 29 y29_273) 30 y30_274) 31 y31_275) 32 y32_276) 33 y33_277) (13 : Int32) _ hw_303 hw13) (cwV 1 hts gX10_rest_X10_pass rfl rfl rfl (by decide +kernel) ⟨(by first | exact Nat.le_of_ble_eq_true rfl | (simp only [rm_X10_pass, rm_X10_restT]; omega)), (by first | exact Nat.le_of_ble_eq_true rfl | (simp only [rm_X10_pass, rm_X10_restT]; omega))⟩) hP hD hK hS hA hev rfl rfl rfl rfl hl.1 rfl (Nat.le_of_ble_eq_true rfl) dX10_rest_288 ⟨(by first | exact Nat.le_of_ble_eq_true rfl | (simp only [rm_X10_restT]; omega)), (by first | exact Nat.le_of_ble_eq_true rfl | (simp only [rm_X10_restT]; omega))⟩ (fun r u H locs hw hP hD hS => ?_)
          obtain ⟨x22_307, rfl⟩ : ∃ z, z = u := ⟨_, rfl⟩
          have hw : (r = none) ∧ (x22_307 = nI (nx (a 19) ln rn_294.1)) := hw
          obtain ⟨rfl, hw_308⟩ := hw
          have hP : va_P (dC, dI) vwCl (mw g h0 b (va_up (va_up (va_up (va_up (va_up i 22 x22_307) 23 x23_266) 24 x24_267) 25 x25_268) 36 x36_269) (va_up (va_up (va_up (va_up (va_up (va_up (va_up (va_up a 26 y26_270) 27 y27_271) 28 y28_272) 29 y29_273) 30 y30_274) 31 y31_275) 32 y32_276) 33 y33_277)) _ := hP
          have hD : va_D _ (mw g h0 b (va_up (va_up (va_up (va_up (va_up i 22 x22_307) 23 x23_266) 24 x24_267) 25 x25_268) 36 x36_269) (va_up (va_up (va_up (va_up (va_up (va_up (va_up (va_up a 26 y26_270) 27 y27_271) 28 y28_272) 29 y29_273) 30 y30_274) 31 y31_275) 32 y32_276) 33 y33_277)) := hD
          refine W.eq (g2 := F0 m 291 ls []) rfl ?_
          have hmq_309 : MI (a 19) ln (gpa (Kp (a 19) ln) (nq (a 19) ln) 13 rn_294) x22_307 x23_266 x24_267 := (hmq_305).pass hK13 (wd_at hw13.2.1 hw13.2.2).1 hw_308
          refine lv_aload_n hx hb dX10_rest_291 rfl (lv_at hl 0 rfl) ?_
          refine lv_iload_n hx hb dX10_rest_292 rfl (lv_at hl 1 rfl) ?_
          refine lv_iconst (v := 1) hx hb dX10_rest_293 (by decide) ?_
          refine M_V ⟨hx, hb, hml, hown, hts⟩ (m_X10_blockT l dC dI sa g h0 b j bl dp_290 ln (gpa (Kp (a 19) ln) (nq (a 19) ln) 13 rn_294) (tset TN_295 1 k0 (thd sq.2.1 rn_294.2.1)) k0 (va_up (va_up (va_up (va_up (va_up i 22 x22_307) 23 x23_266) 24 x24_267) 25 x25_268) 36 x36_269) (va_up (va_up (va_up (va_up (va_up (va_up (va_up (va_up a 26 y26_270) 27 y27_271) 28 y28_272) 29 y29_273) 30 y30_274) 31 y31_275) 32 y32_276) 33 y33_277) kk (1 : Int32) _ hL hmq_309 (by first | exact h36_298 | (simp only [gpa_nd, gnu_nd, gpl_nd, gte_nd, gob_nd, grf_nd]; exact h36_298)) hPR_289.2.1 hBL hj (by first | exact h3_rn_294 | (simp only [gpa_nd, gnu_nd, gpl_nd, gte_nd, gob_nd, grf_nd]; exact h3_rn_294)) (by first | exact htq_300.1 | (simp only [gpa_nd, gnu_nd, gpl_nd, gte_nd, gob_nd, grf_nd]; exact htq_300.1)) (let h9 := PR.nd hpr_293 hVq hdq; ⟨q, hq, h9.1, h9.2⟩) (⟨hkr.1, by first | (have := hkr.2; omega) | (simp only [gpa_nd, gnu_nd, gpl_nd, gte_nd, gob_nd, grf_nd]; have := hkr.2; omega)⟩) IHS) (cwV 2 hts gX10_rest_X10_block rfl rfl rfl (by decide +kernel) ⟨(by first | exact Nat.le_of_ble_eq_true rfl | (simp only [rm_X10_blockT, rm_X10_restT]; omega)), (by first | exact Nat.le_of_ble_eq_true rfl | (simp only [rm_X10_blockT, rm_X10_restT]; omega))⟩) hP hD hK hS hA hev rfl rfl rfl rfl hl.1 rfl (Nat.le_of_ble_eq_true rfl) dX10_rest_294 ⟨(by first | exact Nat.le_of_ble_eq_true rfl | (simp only [rm_X10_restT]; omega)), (by first | exact Nat.le_of_ble_eq_true rfl | (simp only [rm_X10_restT]; omega))⟩ (fun r u H locs hw hP hD hS => ?_)
          obtain ⟨x22_310, x23_311, x24_312, x25_313, x36_314, y26_315, y27_316, y28_317, y29_318, y30_319, y31_320, y32_321, y33_322⟩ := u
          have hw : ((r = some (.int 0) ∧ (∃ rn : SG, Ev (Kp (a 19) ln) (Vp (a 19) ln) (nq (a 19) ln) 2 bl (gpa (Kp (a 19) ln) (nq (a 19) ln) 13 rn_294) rn ∧ MO rn x23_311 x24_312)) ∨ (r = some (.int 1) ∧ (∃ (rn : SG) (TN : TT), EvT (Kp (a 19) ln) (Vp (a 19) ln) (nq (a 19) ln) 2 bl 0 ((gpa (Kp (a 19) ln) (nq (a 19) ln) 13 rn_294), (tset TN_295 1 k0 (thd sq.2.1 rn_294.2.1))) (rn, TN) ∧ MI (a 19) ln rn x22_310 x23_311 x24_312 ∧ x36_314 = nI rn.2.1 ∧ TQ (Kp (a 19) ln) (Vp (a 19) ln) (nq (a 19) ln) (tset TN (if (1 : Int32) = 0 then 1 else 2) k0 (thd (gpa (Kp (a 19) ln) (nq (a 19) ln) 13 rn_294).2.1 rn.2.1)) (gpa (Kp (a 19) ln) (nq (a 19) ln) 13 rn_294).2.1 rn.2.1 y27_271 y28_272 y29_273 y30_274 y26_315 y27_316 y28_317 y29_318 y30_319 y31_320 y32_321 y33_322))) ∧ (∃ dpN : Nat → Nat, PR x36_269 x36_314 dp_290 dpN y26_270 y27_271 y31_275 y32_276 y33_277 y26_315 y27_316 y31_320 y32_321 y33_322 ∧ KP3 y28_272 y29_273 y30_274 y28_317 y29_318 y30_319) := hw
          obtain ⟨⟨rfl, hz2_324⟩ | ⟨rfl, hz2_324⟩, hw_323⟩ := hw
          · have hP : va_P (dC, dI) vwCl (mw g h0 b (va_up (va_up (va_up (va_up (va_up i 22 x22_310) 23 x23_311) 24 x24_312) 25 x25_313) 36 x36_314) (va_up (va_up (va_up (va_up (va_up (va_up (va_up (va_up a 26 y26_315) 27 y27_316) 28 y28_317) 29 y29_318) 30 y30_319) 31 y31_320) 32 y32_321) 33 y33_322)) _ := hP
            have hD : va_D _ (mw g h0 b (va_up (va_up (va_up (va_up (va_up i 22 x22_310) 23 x23_311) 24 x24_312) 25 x25_313) 36 x36_314) (va_up (va_up (va_up (va_up (va_up (va_up (va_up (va_up a 26 y26_315) 27 y27_316) 28 y28_317) 29 y29_318) 30 y30_319) 31 y31_320) 32 y32_321) 33 y33_322)) := hD
            refine W.eq (g2 := F0 m 297 ls [.int 0]) rfl ?_
            obtain ⟨dp_326, hPR_325, hk3_328⟩ := hw_323
            have thk3_328 := KP3.tr thk3_292 hk3_328
            have hpr_329 := PR.tr hpr_293 hPR_325
            obtain ⟨rn_330, hev_331, hmo_332⟩ := hz2_324
            exact M_z hx hb hr rfl hlocks (x22_310, x23_311, x24_312, x25_313, x36_314, y26_315, y27_316, y28_317, y29_318, y30_319, y31_320, y32_321, y33_322) hP hD hK hS ⟨Or.inl ⟨rfl, ⟨_, BU.i10 ehev_296 (Or.inr ⟨hK13, hev_331⟩), hmo_332⟩⟩, ⟨dp_326, hpr_329, thk3_328⟩⟩ (by first | exact Nat.le_of_ble_eq_true rfl | (simp only [rm_X10_restT]; omega)) (by first | exact Nat.le_of_ble_eq_true rfl | (simp only [rm_X10_restT]; omega)) dX10_rest_297
          · have hP : va_P (dC, dI) vwCl (mw g h0 b (va_up (va_up (va_up (va_up (va_up i 22 x22_310) 23 x23_311) 24 x24_312) 25 x25_313) 36 x36_314) (va_up (va_up (va_up (va_up (va_up (va_up (va_up (va_up a 26 y26_315) 27 y27_316) 28 y28_317) 29 y29_318) 30 y30_319) 31 y31_320) 32 y32_321) 33 y33_322)) _ := hP
            have hD : va_D _ (mw g h0 b (va_up (va_up (va_up (va_up (va_up i 22 x22_310) 23 x23_311) 24 x24_312) 25 x25_313) 36 x36_314) (va_up (va_up (va_up (va_up (va_up (va_up (va_up (va_up a 26 y26_315) 27 y27_316) 28 y28_317) 29 y29_318) 30 y30_319) 31 y31_320) 32 y32_321) 33 y33_322)) := hD
            refine W.eq (g2 := F0 m 297 ls [.int 1]) rfl ?_
            obtain ⟨dp_334, hPR_333, hk3_336⟩ := hw_323
            have thk3_336 := KP3.tr thk3_292 hk3_336
            have hpr_337 := PR.tr hpr_293 hPR_333
            obtain ⟨rn_338, TN_339, hev_340, hmq_341, h36_342, htb_343⟩ := hz2_324
            have ehev_340 := hev_340.ev
            have h3_rn_338 : rn_338.2.1 ≤ 300 := ehev_340.nd.2.2 (by first | exact h3_rn_294 | (simp only [gpa_nd, gnu_nd, gpl_nd, gte_nd, gob_nd, grf_nd]; exact h3_rn_294))
            have hqe : (gpa (Kp (a 19) ln) (nq (a 19) ln) 13 rn_294).2.1 = rn_294.2.1 := by simp only [gpa_nd, gnu_nd, gpl_nd, gte_nd, gob_nd, grf_nd]
            have hle_rn_338 : rn_294.2.1 ≤ rn_338.2.1 := by have h9 := ehev_340.nd.1; simp only [gnu_nd, gte_nd, gpa_nd, gob_nd] at h9; exact h9
            rw [hqe, show (if (1 : Int32) = 0 then 1 else 2) = 2 from if_neg (by decide)] at htb_343
            have htq_344 := TQ.tr htq_300 htb_343 (fun j9 hj9 => (tset_ne (by omega)).trans (hev_340.t0 j9 (by show j9 < (gpa (Kp (a 19) ln) (nq (a 19) ln) 13 rn_294).2.1; omega))) (by have := hkr.2; omega)
            exact M_z hx hb hr rfl hlocks (x22_310, x23_311, x24_312, x25_313, x36_314, y26_315, y27_316, y28_317, y29_318, y30_319, y31_320, y32_321, y33_322) hP hD hK hS ⟨Or.inr ⟨rfl, ⟨rn_338, (tset TN_339 2 k0 (thd rn_294.2.1 rn_338.2.1)), Or.inr ⟨by decide, Or.inr (Or.inr (Or.inl ⟨rfl, (rn_294, TN_295), hev_296, Or.inr ⟨hK13, (rn_338, TN_339), hev_340, rfl⟩⟩))⟩, hmq_341, h36_342, htq_344⟩⟩, ⟨dp_334, hpr_337, thk3_336⟩⟩ (by first | exact Nat.le_of_ble_eq_true rfl | (simp only [rm_X10_restT]; omega)) (by first | exact Nat.le_of_ble_eq_true rfl | (simp only [rm_X10_restT]; omega)) dX10_rest_297
        · have nc_306 := ne_i c_306
          have lc_306 : (13 : Int32).toInt = 13 := by decide
          refine lv_iconst (v := 1) hx hb dX10_rest_283 (by decide) ?_
          exact M_z hx hb hr rfl hlocks (x22_302, x23_266, x24_267, x25_268, x36_269, y26_270, y27_271, y28_272, y29_273, y30_274, y31_275, y32_276, y33_277) hP hD hK hS ⟨Or.inr ⟨rfl, ⟨rn_294, (tset TN_295 1 k0 (thd sq.2.1 rn_294.2.1)), Or.inr ⟨by decide, Or.inr (Or.inr (Or.inl ⟨rfl, (rn_294, TN_295), hev_296, Or.inl ⟨fun h9 => c_306 (hz_z_304.trans (cm_13.mpr h9)), rfl⟩⟩))⟩, hmq_305, h36_298, htq_300⟩⟩, ⟨dp_290, hpr_293, thk3_292⟩⟩ (by first | exact Nat.le_of_ble_eq_true rfl | (simp only [rm_X10_restT]; omega)) (by first | exact Nat.le_of_ble_eq_true rfl | (simp only [rm_X10_restT]; omega)) dX10_rest_284
  by_cases c_345 : z_1 = 10
  · refine lv_tableIn (tgt := 298) hx hb dX10_rest_6 (by rw [c_345]; decide) (by rw [c_345]; decide) (by rw [c_345]; rfl) (by decide) ?_
    obtain rfl : cw = 11 := (cw_is hcw.1 ez_1 c_345).trans (by decide)
    have htq_346 : TQ (Kp (a 19) ln) (Vp (a 19) ln) (nq (a 19) ln) T k0 sq.2.1 (a 27) (a 28) (a 29) (a 30) (a 26) (a 27) (a 28) (a 29) (a 30) (a 31) (a 32) (a 33) := by rw [hkr.2]; exact TQ.ct (by have h9 := hRM; rw [hkr.2] at h9; exact h9) KP4.rf (ct_0 (Or.inr (Or.inr (Or.inl hp9.1))))
    refine lv_aload_n hx hb dX10_rest_298 rfl (lv_at hl 0 rfl) ?_
    refine lv_iload_n hx hb dX10_rest_299 rfl (lv_at hl 1 rfl) ?_
    refine lv_iconst (v := 0) hx hb dX10_rest_300 (by decide) ?_
    refine M_V ⟨hx, hb, hml, hown, hts⟩ (m_X10_blockT l dC dI sa g h0 b j bl dp ln sq T k0 i a kk (0 : Int32) _ hL hM (by first | exact hn36 | (simp only [gpa_nd, gnu_nd, gpl_nd, gte_nd, gob_nd, grf_nd]; exact hn36)) hPN hBL hj (by first | exact hn3 | (simp only [gpa_nd, gnu_nd, gpl_nd, gte_nd, gob_nd, grf_nd]; exact hn3)) (by first | exact htq_346.1 | (simp only [gpa_nd, gnu_nd, gpl_nd, gte_nd, gob_nd, grf_nd]; exact htq_346.1)) (let h9 := PR.nd (PR.rf hPN) hVq hdq; ⟨q, hq, h9.1, h9.2⟩) (⟨hkr.1, by first | (have := hkr.2; omega) | (simp only [gpa_nd, gnu_nd, gpl_nd, gte_nd, gob_nd, grf_nd]; have := hkr.2; omega)⟩) IHS) (cwV 2 hts gX10_rest_X10_block rfl rfl rfl (by decide +kernel) ⟨(by first | exact Nat.le_of_ble_eq_true rfl | (simp only [rm_X10_blockT, rm_X10_restT]; omega)), (by first | exact Nat.le_of_ble_eq_true rfl | (simp only [rm_X10_blockT, rm_X10_restT]; omega))⟩) hP hD hK hS hA hev rfl rfl rfl rfl hl.1 rfl (Nat.le_of_ble_eq_true rfl) dX10_rest_301 ⟨(by first | exact Nat.le_of_ble_eq_true rfl | (simp only [rm_X10_restT]; omega)), (by first | exact Nat.le_of_ble_eq_true rfl | (simp only [rm_X10_restT]; omega))⟩ (fun r u H locs hw hP hD hS => ?_)
    obtain ⟨x22_347, x23_348, x24_349, x25_350, x36_351, y26_352, y27_353, y28_354, y29_355, y30_356, y31_357, y32_358, y33_359⟩ := u
    have hw : ((r = some (.int 0) ∧ (∃ rn : SG, Ev (Kp (a 19) ln) (Vp (a 19) ln) (nq (a 19) ln) 2 bl sq rn ∧ MO rn x23_348 x24_349)) ∨ (r = some (.int 1) ∧ (∃ (rn : SG) (TN : TT), EvT (Kp (a 19) ln) (Vp (a 19) ln) (nq (a 19) ln) 2 bl 0 (sq, T) (rn, TN) ∧ MI (a 19) ln rn x22_347 x23_348 x24_349 ∧ x36_351 = nI rn.2.1 ∧ TQ (Kp (a 19) ln) (Vp (a 19) ln) (nq (a 19) ln) (tset TN (if (0 : Int32) = 0 then 1 else 2) k0 (thd sq.2.1 rn.2.1)) sq.2.1 rn.2.1 (a 27) (a 28) (a 29) (a 30) y26_352 y27_353 y28_354 y29_355 y30_356 y31_357 y32_358 y33_359))) ∧ (∃ dpN : Nat → Nat, PR (i 36) x36_351 dp dpN (a 26) (a 27) (a 31) (a 32) (a 33) y26_352 y27_353 y31_357 y32_358 y33_359 ∧ KP3 (a 28) (a 29) (a 30) y28_354 y29_355 y30_356) := hw
    obtain ⟨⟨rfl, hz2_361⟩ | ⟨rfl, hz2_361⟩, hw_360⟩ := hw
    · have hP : va_P (dC, dI) vwCl (mw g h0 b (va_up (va_up (va_up (va_up (va_up i 22 x22_347) 23 x23_348) 24 x24_349) 25 x25_350) 36 x36_351) (va_up (va_up (va_up (va_up (va_up (va_up (va_up (va_up a 26 y26_352) 27 y27_353) 28 y28_354) 29 y29_355) 30 y30_356) 31 y31_357) 32 y32_358) 33 y33_359)) _ := hP
      have hD : va_D _ (mw g h0 b (va_up (va_up (va_up (va_up (va_up i 22 x22_347) 23 x23_348) 24 x24_349) 25 x25_350) 36 x36_351) (va_up (va_up (va_up (va_up (va_up (va_up (va_up (va_up a 26 y26_352) 27 y27_353) 28 y28_354) 29 y29_355) 30 y30_356) 31 y31_357) 32 y32_358) 33 y33_359)) := hD
      refine W.eq (g2 := F0 m 304 ls [.int 0]) rfl ?_
      obtain ⟨dp_363, hPR_362, hk3_365⟩ := hw_360
      have thk3_365 := KP3.tr (KP3.rf (f1 := (a 28)) (f2 := (a 29)) (f3 := (a 30))) hk3_365
      have hpr_366 := PR.tr (PR.rf hPN) hPR_362
      obtain ⟨rn_367, hev_368, hmo_369⟩ := hz2_361
      refine lv_if_eq (tgt := 329) hx hb dX10_rest_304 (by decide) (fun _ => ?_) (fun c_370 => absurd c_370 (by decide))
      refine lv_iconst (v := 0) hx hb dX10_rest_329 (by decide) ?_
      exact M_z hx hb hr rfl hlocks (x22_347, x23_348, x24_349, x25_350, x36_351, y26_352, y27_353, y28_354, y29_355, y30_356, y31_357, y32_358, y33_359) hP hD hK hS ⟨Or.inl ⟨rfl, ⟨_, BU.i11x hev_368 (hmo_369).2.2.1, hmo_369⟩⟩, ⟨dp_363, hpr_366, thk3_365⟩⟩ (by first | exact Nat.le_of_ble_eq_true rfl | (simp only [rm_X10_restT]; omega)) (by first | exact Nat.le_of_ble_eq_true rfl | (simp only [rm_X10_restT]; omega)) dX10_rest_330
    · have hP : va_P (dC, dI) vwCl (mw g h0 b (va_up (va_up (va_up (va_up (va_up i 22 x22_347) 23 x23_348) 24 x24_349) 25 x25_350) 36 x36_351) (va_up (va_up (va_up (va_up (va_up (va_up (va_up (va_up a 26 y26_352) 27 y27_353) 28 y28_354) 29 y29_355) 30 y30_356) 31 y31_357) 32 y32_358) 33 y33_359)) _ := hP
      have hD : va_D _ (mw g h0 b (va_up (va_up (va_up (va_up (va_up i 22 x22_347) 23 x23_348) 24 x24_349) 25 x25_350) 36 x36_351) (va_up (va_up (va_up (va_up (va_up (va_up (va_up (va_up a 26 y26_352) 27 y27_353) 28 y28_354) 29 y29_355) 30 y30_356) 31 y31_357) 32 y32_358) 33 y33_359)) := hD
      refine W.eq (g2 := F0 m 304 ls [.int 1]) rfl ?_
      obtain ⟨dp_372, hPR_371, hk3_374⟩ := hw_360
      have thk3_374 := KP3.tr (KP3.rf (f1 := (a 28)) (f2 := (a 29)) (f3 := (a 30))) hk3_374
      have hpr_375 := PR.tr (PR.rf hPN) hPR_371
      obtain ⟨rn_376, TN_377, hev_378, hmq_379, h36_380, htb_381⟩ := hz2_361
      have ehev_378 := hev_378.ev
      have h3_rn_376 : rn_376.2.1 ≤ 300 := ehev_378.nd.2.2 (by first | exact hn3 | (simp only [gpa_nd, gnu_nd, gpl_nd, gte_nd, gob_nd, grf_nd]; exact hn3))
      have hqe : sq.2.1 = sq.2.1 := rfl
      have hle_rn_376 : sq.2.1 ≤ rn_376.2.1 := by have h9 := ehev_378.nd.1; simp only [gnu_nd, gte_nd, gpa_nd, gob_nd] at h9; exact h9
      rw [← hqe, show (if (0 : Int32) = 0 then 1 else 2) = 1 from if_pos rfl] at htb_381
      have htq_382 := TQ.tr htq_346 htb_381 (fun j9 hj9 => (tset_ne (by omega)).trans (hev_378.t0 j9 (by show j9 < sq.2.1; omega))) (by have := hkr.2; omega)
      refine lv_if_eq (tgt := 329) hx hb dX10_rest_304 (by decide) (fun c_383 => absurd c_383 (by decide)) (fun _ => ?_)
      refine lv_aload_n hx hb dX10_rest_307 rfl (lv_at hl 0 rfl) ?_
      refine lv_bipush (v := 13) hx hb dX10_rest_308 (by decide) ?_
      refine M_V ⟨hx, hb, hml, hown, hts⟩ (m_X10_needWord l dC dI sa g h0 b ln rn_376 13 (va_up (va_up (va_up (va_up (va_up i 22 x22_347) 23 x23_348) 24 x24_349) 25 x25_350) 36 x36_351) (va_up (va_up (va_up (va_up (va_up (va_up (va_up (va_up a 26 y26_352) 27 y27_353) 28 y28_354) 29 y29_355) 30 y30_356) 31 y31_357) 32 y32_358) 33 y33_359) (13 : Int32) _ hL hmq_379 (Or.inl ⟨rfl, rfl⟩)) (cwV 1 hts gX10_rest_X10_needWord rfl rfl rfl (by decide +kernel) ⟨(by first | exact Nat.le_of_ble_eq_true rfl | (simp only [rm_X10_needWord, rm_X10_restT]; omega)), (by first | exact Nat.le_of_ble_eq_true rfl | (simp only [rm_X10_needWord, rm_X10_restT]; omega))⟩) hP hD hK hS hA hev rfl rfl rfl rfl hl.1 rfl (Nat.le_of_ble_eq_true rfl) dX10_rest_310 ⟨(by first | exact Nat.le_of_ble_eq_true rfl | (simp only [rm_X10_restT]; omega)), (by first | exact Nat.le_of_ble_eq_true rfl | (simp only [rm_X10_restT]; omega))⟩ (fun r u H locs hw hP hD hS => ?_)
      obtain ⟨x22_384, x23_385, x24_386⟩ := u
      have hw : ((r = some (.int 0) ∧ (MO (gpa (Kp (a 19) ln) (nq (a 19) ln) 13 rn_376) x23_385 x24_386)) ∨ (r = some (.int 1) ∧ (MI (a 19) ln (gpa (Kp (a 19) ln) (nq (a 19) ln) 13 rn_376) x22_384 x23_385 x24_386))) ∧ (True) := hw
      obtain ⟨⟨rfl, hz2_388⟩ | ⟨rfl, hz2_388⟩, hw_387⟩ := hw
      · have hP : va_P (dC, dI) vwCl (mw g h0 b (va_up (va_up (va_up (va_up (va_up i 22 x22_384) 23 x23_385) 24 x24_386) 25 x25_350) 36 x36_351) (va_up (va_up (va_up (va_up (va_up (va_up (va_up (va_up a 26 y26_352) 27 y27_353) 28 y28_354) 29 y29_355) 30 y30_356) 31 y31_357) 32 y32_358) 33 y33_359)) _ := hP
        have hD : va_D _ (mw g h0 b (va_up (va_up (va_up (va_up (va_up i 22 x22_384) 23 x23_385) 24 x24_386) 25 x25_350) 36 x36_351) (va_up (va_up (va_up (va_up (va_up (va_up (va_up (va_up a 26 y26_352) 27 y27_353) 28 y28_354) 29 y29_355) 30 y30_356) 31 y31_357) 32 y32_358) 33 y33_359)) := hD
        refine W.eq (g2 := F0 m 313 ls [.int 0]) rfl ?_
        refine lv_if_eq (tgt := 329) hx hb dX10_rest_313 (by decide) (fun _ => ?_) (fun c_389 => absurd c_389 (by decide))
        refine lv_iconst (v := 0) hx hb dX10_rest_329 (by decide) ?_
        exact M_z hx hb hr rfl hlocks (x22_384, x23_385, x24_386, x25_350, x36_351, y26_352, y27_353, y28_354, y29_355, y30_356, y31_357, y32_358, y33_359) hP hD hK hS ⟨Or.inl ⟨rfl, ⟨_, BU.i11 ehev_378 (Ev.fx2 (hz2_388).2.2.1), hz2_388⟩⟩, ⟨dp_372, hpr_375, thk3_374⟩⟩ (by first | exact Nat.le_of_ble_eq_true rfl | (simp only [rm_X10_restT]; omega)) (by first | exact Nat.le_of_ble_eq_true rfl | (simp only [rm_X10_restT]; omega)) dX10_rest_330
      · have hP : va_P (dC, dI) vwCl (mw g h0 b (va_up (va_up (va_up (va_up (va_up i 22 x22_384) 23 x23_385) 24 x24_386) 25 x25_350) 36 x36_351) (va_up (va_up (va_up (va_up (va_up (va_up (va_up (va_up a 26 y26_352) 27 y27_353) 28 y28_354) 29 y29_355) 30 y30_356) 31 y31_357) 32 y32_358) 33 y33_359)) _ := hP
        have hD : va_D _ (mw g h0 b (va_up (va_up (va_up (va_up (va_up i 22 x22_384) 23 x23_385) 24 x24_386) 25 x25_350) 36 x36_351) (va_up (va_up (va_up (va_up (va_up (va_up (va_up (va_up a 26 y26_352) 27 y27_353) 28 y28_354) 29 y29_355) 30 y30_356) 31 y31_357) 32 y32_358) 33 y33_359)) := hD
        refine W.eq (g2 := F0 m 313 ls [.int 1]) rfl ?_
        have hmq_390 : MI (a 19) ln (gpa (Kp (a 19) ln) (nq (a 19) ln) 13 rn_376) x22_384 x23_385 x24_386 := hz2_388
        refine lv_if_eq (tgt := 329) hx hb dX10_rest_313 (by decide) (fun c_391 => absurd c_391 (by decide)) (fun _ => ?_)
        refine lv_aload_n hx hb dX10_rest_316 rfl (lv_at hl 0 rfl) ?_
        refine lv_iload_n hx hb dX10_rest_317 rfl (lv_at hl 1 rfl) ?_
        refine lv_iconst (v := 1) hx hb dX10_rest_318 (by decide) ?_
        refine M_V ⟨hx, hb, hml, hown, hts⟩ (m_X10_blockT l dC dI sa g h0 b j bl dp_372 ln (gpa (Kp (a 19) ln) (nq (a 19) ln) 13 rn_376) (tset TN_377 1 k0 (thd sq.2.1 rn_376.2.1)) k0 (va_up (va_up (va_up (va_up (va_up i 22 x22_384) 23 x23_385) 24 x24_386) 25 x25_350) 36 x36_351) (va_up (va_up (va_up (va_up (va_up (va_up (va_up (va_up a 26 y26_352) 27 y27_353) 28 y28_354) 29 y29_355) 30 y30_356) 31 y31_357) 32 y32_358) 33 y33_359) kk (1 : Int32) _ hL hmq_390 (by first | exact h36_380 | (simp only [gpa_nd, gnu_nd, gpl_nd, gte_nd, gob_nd, grf_nd]; exact h36_380)) hPR_371.2.1 hBL hj (by first | exact h3_rn_376 | (simp only [gpa_nd, gnu_nd, gpl_nd, gte_nd, gob_nd, grf_nd]; exact h3_rn_376)) (by first | exact htq_382.1 | (simp only [gpa_nd, gnu_nd, gpl_nd, gte_nd, gob_nd, grf_nd]; exact htq_382.1)) (let h9 := PR.nd hpr_375 hVq hdq; ⟨q, hq, h9.1, h9.2⟩) (⟨hkr.1, by first | (have := hkr.2; omega) | (simp only [gpa_nd, gnu_nd, gpl_nd, gte_nd, gob_nd, grf_nd]; have := hkr.2; omega)⟩) IHS) (cwV 2 hts gX10_rest_X10_block rfl rfl rfl (by decide +kernel) ⟨(by first | exact Nat.le_of_ble_eq_true rfl | (simp only [rm_X10_blockT, rm_X10_restT]; omega)), (by first | exact Nat.le_of_ble_eq_true rfl | (simp only [rm_X10_blockT, rm_X10_restT]; omega))⟩) hP hD hK hS hA hev rfl rfl rfl rfl hl.1 rfl (Nat.le_of_ble_eq_true rfl) dX10_rest_319 ⟨(by first | exact Nat.le_of_ble_eq_true rfl | (simp only [rm_X10_restT]; omega)), (by first | exact Nat.le_of_ble_eq_true rfl | (simp only [rm_X10_restT]; omega))⟩ (fun r u H locs hw hP hD hS => ?_)
        obtain ⟨x22_392, x23_393, x24_394, x25_395, x36_396, y26_397, y27_398, y28_399, y29_400, y30_401, y31_402, y32_403, y33_404⟩ := u
        have hw : ((r = some (.int 0) ∧ (∃ rn : SG, Ev (Kp (a 19) ln) (Vp (a 19) ln) (nq (a 19) ln) 2 bl (gpa (Kp (a 19) ln) (nq (a 19) ln) 13 rn_376) rn ∧ MO rn x23_393 x24_394)) ∨ (r = some (.int 1) ∧ (∃ (rn : SG) (TN : TT), EvT (Kp (a 19) ln) (Vp (a 19) ln) (nq (a 19) ln) 2 bl 0 ((gpa (Kp (a 19) ln) (nq (a 19) ln) 13 rn_376), (tset TN_377 1 k0 (thd sq.2.1 rn_376.2.1))) (rn, TN) ∧ MI (a 19) ln rn x22_392 x23_393 x24_394 ∧ x36_396 = nI rn.2.1 ∧ TQ (Kp (a 19) ln) (Vp (a 19) ln) (nq (a 19) ln) (tset TN (if (1 : Int32) = 0 then 1 else 2) k0 (thd (gpa (Kp (a 19) ln) (nq (a 19) ln) 13 rn_376).2.1 rn.2.1)) (gpa (Kp (a 19) ln) (nq (a 19) ln) 13 rn_376).2.1 rn.2.1 y27_353 y28_354 y29_355 y30_356 y26_397 y27_398 y28_399 y29_400 y30_401 y31_402 y32_403 y33_404))) ∧ (∃ dpN : Nat → Nat, PR x36_351 x36_396 dp_372 dpN y26_352 y27_353 y31_357 y32_358 y33_359 y26_397 y27_398 y31_402 y32_403 y33_404 ∧ KP3 y28_354 y29_355 y30_356 y28_399 y29_400 y30_401) := hw
        obtain ⟨⟨rfl, hz2_406⟩ | ⟨rfl, hz2_406⟩, hw_405⟩ := hw
        · have hP : va_P (dC, dI) vwCl (mw g h0 b (va_up (va_up (va_up (va_up (va_up i 22 x22_392) 23 x23_393) 24 x24_394) 25 x25_395) 36 x36_396) (va_up (va_up (va_up (va_up (va_up (va_up (va_up (va_up a 26 y26_397) 27 y27_398) 28 y28_399) 29 y29_400) 30 y30_401) 31 y31_402) 32 y32_403) 33 y33_404)) _ := hP
          have hD : va_D _ (mw g h0 b (va_up (va_up (va_up (va_up (va_up i 22 x22_392) 23 x23_393) 24 x24_394) 25 x25_395) 36 x36_396) (va_up (va_up (va_up (va_up (va_up (va_up (va_up (va_up a 26 y26_397) 27 y27_398) 28 y28_399) 29 y29_400) 30 y30_401) 31 y31_402) 32 y32_403) 33 y33_404)) := hD
          refine W.eq (g2 := F0 m 322 ls [.int 0]) rfl ?_
          obtain ⟨dp_408, hPR_407, hk3_410⟩ := hw_405
          have thk3_410 := KP3.tr thk3_374 hk3_410
          have hpr_411 := PR.tr hpr_375 hPR_407
          obtain ⟨rn_412, hev_413, hmo_414⟩ := hz2_406
          refine lv_if_eq (tgt := 329) hx hb dX10_rest_322 (by decide) (fun _ => ?_) (fun c_415 => absurd c_415 (by decide))
          refine lv_iconst (v := 0) hx hb dX10_rest_329 (by decide) ?_
          exact M_z hx hb hr rfl hlocks (x22_392, x23_393, x24_394, x25_395, x36_396, y26_397, y27_398, y28_399, y29_400, y30_401, y31_402, y32_403, y33_404) hP hD hK hS ⟨Or.inl ⟨rfl, ⟨_, BU.i11 ehev_378 hev_413, hmo_414⟩⟩, ⟨dp_408, hpr_411, thk3_410⟩⟩ (by first | exact Nat.le_of_ble_eq_true rfl | (simp only [rm_X10_restT]; omega)) (by first | exact Nat.le_of_ble_eq_true rfl | (simp only [rm_X10_restT]; omega)) dX10_rest_330
        · have hP : va_P (dC, dI) vwCl (mw g h0 b (va_up (va_up (va_up (va_up (va_up i 22 x22_392) 23 x23_393) 24 x24_394) 25 x25_395) 36 x36_396) (va_up (va_up (va_up (va_up (va_up (va_up (va_up (va_up a 26 y26_397) 27 y27_398) 28 y28_399) 29 y29_400) 30 y30_401) 31 y31_402) 32 y32_403) 33 y33_404)) _ := hP
          have hD : va_D _ (mw g h0 b (va_up (va_up (va_up (va_up (va_up i 22 x22_392) 23 x23_393) 24 x24_394) 25 x25_395) 36 x36_396) (va_up (va_up (va_up (va_up (va_up (va_up (va_up (va_up a 26 y26_397) 27 y27_398) 28 y28_399) 29 y29_400) 30 y30_401) 31 y31_402) 32 y32_403) 33 y33_404)) := hD
          refine W.eq (g2 := F0 m 322 ls [.int 1]) rfl ?_
          obtain ⟨dp_417, hPR_416, hk3_419⟩ := hw_405
          have thk3_419 := KP3.tr thk3_374 hk3_419
          have hpr_420 := PR.tr hpr_375 hPR_416
          obtain ⟨rn_421, TN_422, hev_423, hmq_424, h36_425, htb_426⟩ := hz2_406
          have ehev_423 := hev_423.ev
          have h3_rn_421 : rn_421.2.1 ≤ 300 := ehev_423.nd.2.2 (by first | exact h3_rn_376 | (simp only [gpa_nd, gnu_nd, gpl_nd, gte_nd, gob_nd, grf_nd]; exact h3_rn_376))
          have hqe : (gpa (Kp (a 19) ln) (nq (a 19) ln) 13 rn_376).2.1 = rn_376.2.1 := by simp only [gpa_nd, gnu_nd, gpl_nd, gte_nd, gob_nd, grf_nd]
          have hle_rn_421 : rn_376.2.1 ≤ rn_421.2.1 := by have h9 := ehev_423.nd.1; simp only [gnu_nd, gte_nd, gpa_nd, gob_nd] at h9; exact h9
          rw [hqe, show (if (1 : Int32) = 0 then 1 else 2) = 2 from if_neg (by decide)] at htb_426
          have htq_427 := TQ.tr htq_382 htb_426 (fun j9 hj9 => (tset_ne (by omega)).trans (hev_423.t0 j9 (by show j9 < (gpa (Kp (a 19) ln) (nq (a 19) ln) 13 rn_376).2.1; omega))) (by have := hkr.2; omega)
          refine lv_if_eq (tgt := 329) hx hb dX10_rest_322 (by decide) (fun c_428 => absurd c_428 (by decide)) (fun _ => ?_)
          refine lv_iconst (v := 1) hx hb dX10_rest_325 (by decide) ?_
          refine lv_goto (tgt := 330) hx hb dX10_rest_326 (by decide) ?_
          exact M_z hx hb hr rfl hlocks (x22_392, x23_393, x24_394, x25_395, x36_396, y26_397, y27_398, y28_399, y29_400, y30_401, y31_402, y32_403, y33_404) hP hD hK hS ⟨Or.inr ⟨rfl, ⟨rn_421, (tset TN_422 2 k0 (thd rn_376.2.1 rn_421.2.1)), Or.inr ⟨by decide, Or.inr (Or.inr (Or.inr ⟨⟨by decide, by decide, by decide⟩, (rn_376, TN_377), hev_378, (rn_421, TN_422), hev_423, rfl⟩))⟩, hmq_424, h36_425, htq_427⟩⟩, ⟨dp_417, hpr_420, thk3_419⟩⟩ (by first | exact Nat.le_of_ble_eq_true rfl | (simp only [rm_X10_restT]; omega)) (by first | exact Nat.le_of_ble_eq_true rfl | (simp only [rm_X10_restT]; omega)) dX10_rest_330
  refine lv_tableOut (tgt := 331) hx hb dX10_rest_6 (tab_out11 c_2 c_27 c_35 c_43 c_67 c_92 c_116 c_140 c_193 c_246 c_345) (by decide) ?_
  obtain rfl : cw = 12 := cw_12 hcw ez_1 ⟨c_2, c_27, c_35, c_43, c_67, c_92, c_116, c_140, c_193, c_246, c_345⟩
  have htq_429 : TQ (Kp (a 19) ln) (Vp (a 19) ln) (nq (a 19) ln) T k0 sq.2.1 (a 27) (a 28) (a 29) (a 30) (a 26) (a 27) (a 28) (a 29) (a 30) (a 31) (a 32) (a 33) := by rw [hkr.2]; exact TQ.ct (by have h9 := hRM; rw [hkr.2] at h9; exact h9) KP4.rf (ct_0 (Or.inr (Or.inr (Or.inr hp9.1))))
  refine lv_aload_n hx hb dX10_rest_331 rfl (lv_at hl 0 rfl) ?_
  refine lv_iload_n hx hb dX10_rest_332 rfl (lv_at hl 1 rfl) ?_
  refine lv_iconst (v := 0) hx hb dX10_rest_333 (by decide) ?_
  refine M_V ⟨hx, hb, hml, hown, hts⟩ (m_X10_blockT l dC dI sa g h0 b j bl dp ln sq T k0 i a kk (0 : Int32) _ hL hM (by first | exact hn36 | (simp only [gpa_nd, gnu_nd, gpl_nd, gte_nd, gob_nd, grf_nd]; exact hn36)) hPN hBL hj (by first | exact hn3 | (simp only [gpa_nd, gnu_nd, gpl_nd, gte_nd, gob_nd, grf_nd]; exact hn3)) (by first | exact htq_429.1 | (simp only [gpa_nd, gnu_nd, gpl_nd, gte_nd, gob_nd, grf_nd]; exact htq_429.1)) (let h9 := PR.nd (PR.rf hPN) hVq hdq; ⟨q, hq, h9.1, h9.2⟩) (⟨hkr.1, by first | (have := hkr.2; omega) | (simp only [gpa_nd, gnu_nd, gpl_nd, gte_nd, gob_nd, grf_nd]; have := hkr.2; omega)⟩) IHS) (cwV 2 hts gX10_rest_X10_block rfl rfl rfl (by decide +kernel) ⟨(by first | exact Nat.le_of_ble_eq_true rfl | (simp only [rm_X10_blockT, rm_X10_restT]; omega)), (by first | exact Nat.le_of_ble_eq_true rfl | (simp only [rm_X10_blockT, rm_X10_restT]; omega))⟩) hP hD hK hS hA hev rfl rfl rfl rfl hl.1 rfl (Nat.le_of_ble_eq_true rfl) dX10_rest_334 ⟨(by first | exact Nat.le_of_ble_eq_true rfl | (simp only [rm_X10_restT]; omega)), (by first | exact Nat.le_of_ble_eq_true rfl | (simp only [rm_X10_restT]; omega))⟩ (fun r u H locs hw hP hD hS => ?_)
  obtain ⟨x22_430, x23_431, x24_432, x25_433, x36_434, y26_435, y27_436, y28_437, y29_438, y30_439, y31_440, y32_441, y33_442⟩ := u
  have hw : ((r = some (.int 0) ∧ (∃ rn : SG, Ev (Kp (a 19) ln) (Vp (a 19) ln) (nq (a 19) ln) 2 bl sq rn ∧ MO rn x23_431 x24_432)) ∨ (r = some (.int 1) ∧ (∃ (rn : SG) (TN : TT), EvT (Kp (a 19) ln) (Vp (a 19) ln) (nq (a 19) ln) 2 bl 0 (sq, T) (rn, TN) ∧ MI (a 19) ln rn x22_430 x23_431 x24_432 ∧ x36_434 = nI rn.2.1 ∧ TQ (Kp (a 19) ln) (Vp (a 19) ln) (nq (a 19) ln) (tset TN (if (0 : Int32) = 0 then 1 else 2) k0 (thd sq.2.1 rn.2.1)) sq.2.1 rn.2.1 (a 27) (a 28) (a 29) (a 30) y26_435 y27_436 y28_437 y29_438 y30_439 y31_440 y32_441 y33_442))) ∧ (∃ dpN : Nat → Nat, PR (i 36) x36_434 dp dpN (a 26) (a 27) (a 31) (a 32) (a 33) y26_435 y27_436 y31_440 y32_441 y33_442 ∧ KP3 (a 28) (a 29) (a 30) y28_437 y29_438 y30_439) := hw
  obtain ⟨⟨rfl, hz2_444⟩ | ⟨rfl, hz2_444⟩, hw_443⟩ := hw
  · have hP : va_P (dC, dI) vwCl (mw g h0 b (va_up (va_up (va_up (va_up (va_up i 22 x22_430) 23 x23_431) 24 x24_432) 25 x25_433) 36 x36_434) (va_up (va_up (va_up (va_up (va_up (va_up (va_up (va_up a 26 y26_435) 27 y27_436) 28 y28_437) 29 y29_438) 30 y30_439) 31 y31_440) 32 y32_441) 33 y33_442)) _ := hP
    have hD : va_D _ (mw g h0 b (va_up (va_up (va_up (va_up (va_up i 22 x22_430) 23 x23_431) 24 x24_432) 25 x25_433) 36 x36_434) (va_up (va_up (va_up (va_up (va_up (va_up (va_up (va_up a 26 y26_435) 27 y27_436) 28 y28_437) 29 y29_438) 30 y30_439) 31 y31_440) 32 y32_441) 33 y33_442)) := hD
    refine W.eq (g2 := F0 m 337 ls [.int 0]) rfl ?_
    obtain ⟨dp_446, hPR_445, hk3_448⟩ := hw_443
    have thk3_448 := KP3.tr (KP3.rf (f1 := (a 28)) (f2 := (a 29)) (f3 := (a 30))) hk3_448
    have hpr_449 := PR.tr (PR.rf hPN) hPR_445
    obtain ⟨rn_450, hev_451, hmo_452⟩ := hz2_444
    refine lv_if_eq (tgt := 362) hx hb dX10_rest_337 (by decide) (fun _ => ?_) (fun c_453 => absurd c_453 (by decide))
    refine lv_iconst (v := 0) hx hb dX10_rest_362 (by decide) ?_
    exact M_z hx hb hr rfl hlocks (x22_430, x23_431, x24_432, x25_433, x36_434, y26_435, y27_436, y28_437, y29_438, y30_439, y31_440, y32_441, y33_442) hP hD hK hS ⟨Or.inl ⟨rfl, ⟨_, BU.i12x hev_451 (hmo_452).2.2.1, hmo_452⟩⟩, ⟨dp_446, hpr_449, thk3_448⟩⟩ (by first | exact Nat.le_of_ble_eq_true rfl | (simp only [rm_X10_restT]; omega)) (by first | exact Nat.le_of_ble_eq_true rfl | (simp only [rm_X10_restT]; omega)) dX10_rest_363
  · have hP : va_P (dC, dI) vwCl (mw g h0 b (va_up (va_up (va_up (va_up (va_up i 22 x22_430) 23 x23_431) 24 x24_432) 25 x25_433) 36 x36_434) (va_up (va_up (va_up (va_up (va_up (va_up (va_up (va_up a 26 y26_435) 27 y27_436) 28 y28_437) 29 y29_438) 30 y30_439) 31 y31_440) 32 y32_441) 33 y33_442)) _ := hP
    have hD : va_D _ (mw g h0 b (va_up (va_up (va_up (va_up (va_up i 22 x22_430) 23 x23_431) 24 x24_432) 25 x25_433) 36 x36_434) (va_up (va_up (va_up (va_up (va_up (va_up (va_up (va_up a 26 y26_435) 27 y27_436) 28 y28_437) 29 y29_438) 30 y30_439) 31 y31_440) 32 y32_441) 33 y33_442)) := hD
    refine W.eq (g2 := F0 m 337 ls [.int 1]) rfl ?_
    obtain ⟨dp_455, hPR_454, hk3_457⟩ := hw_443
    have thk3_457 := KP3.tr (KP3.rf (f1 := (a 28)) (f2 := (a 29)) (f3 := (a 30))) hk3_457
    have hpr_458 := PR.tr (PR.rf hPN) hPR_454
    obtain ⟨rn_459, TN_460, hev_461, hmq_462, h36_463, htb_464⟩ := hz2_444
    have ehev_461 := hev_461.ev
    have h3_rn_459 : rn_459.2.1 ≤ 300 := ehev_461.nd.2.2 (by first | exact hn3 | (simp only [gpa_nd, gnu_nd, gpl_nd, gte_nd, gob_nd, grf_nd]; exact hn3))
    have hqe : sq.2.1 = sq.2.1 := rfl
    have hle_rn_459 : sq.2.1 ≤ rn_459.2.1 := by have h9 := ehev_461.nd.1; simp only [gnu_nd, gte_nd, gpa_nd, gob_nd] at h9; exact h9
    rw [← hqe, show (if (0 : Int32) = 0 then 1 else 2) = 1 from if_pos rfl] at htb_464
    have htq_465 := TQ.tr htq_429 htb_464 (fun j9 hj9 => (tset_ne (by omega)).trans (hev_461.t0 j9 (by show j9 < sq.2.1; omega))) (by have := hkr.2; omega)
    refine lv_if_eq (tgt := 362) hx hb dX10_rest_337 (by decide) (fun c_466 => absurd c_466 (by decide)) (fun _ => ?_)
    refine lv_aload_n hx hb dX10_rest_340 rfl (lv_at hl 0 rfl) ?_
    refine lv_bipush (v := 12) hx hb dX10_rest_341 (by decide) ?_
    refine M_V ⟨hx, hb, hml, hown, hts⟩ (m_X10_needWord l dC dI sa g h0 b ln rn_459 14 (va_up (va_up (va_up (va_up (va_up i 22 x22_430) 23 x23_431) 24 x24_432) 25 x25_433) 36 x36_434) (va_up (va_up (va_up (va_up (va_up (va_up (va_up (va_up a 26 y26_435) 27 y27_436) 28 y28_437) 29 y29_438) 30 y30_439) 31 y31_440) 32 y32_441) 33 y33_442) (12 : Int32) _ hL hmq_462 (Or.inr ⟨rfl, rfl⟩)) (cwV 1 hts gX10_rest_X10_needWord rfl rfl rfl (by decide +kernel) ⟨(by first | exact Nat.le_of_ble_eq_true rfl | (simp only [rm_X10_needWord, rm_X10_restT]; omega)), (by first | exact Nat.le_of_ble_eq_true rfl | (simp only [rm_X10_needWord, rm_X10_restT]; omega))⟩) hP hD hK hS hA hev rfl rfl rfl rfl hl.1 rfl (Nat.le_of_ble_eq_true rfl) dX10_rest_343 ⟨(by first | exact Nat.le_of_ble_eq_true rfl | (simp only [rm_X10_restT]; omega)), (by first | exact Nat.le_of_ble_eq_true rfl | (simp only [rm_X10_restT]; omega))⟩ (fun r u H locs hw hP hD hS => ?_)
    obtain ⟨x22_467, x23_468, x24_469⟩ := u
    have hw : ((r = some (.int 0) ∧ (MO (gpa (Kp (a 19) ln) (nq (a 19) ln) 14 rn_459) x23_468 x24_469)) ∨ (r = some (.int 1) ∧ (MI (a 19) ln (gpa (Kp (a 19) ln) (nq (a 19) ln) 14 rn_459) x22_467 x23_468 x24_469))) ∧ (True) := hw
    obtain ⟨⟨rfl, hz2_471⟩ | ⟨rfl, hz2_471⟩, hw_470⟩ := hw
    · have hP : va_P (dC, dI) vwCl (mw g h0 b (va_up (va_up (va_up (va_up (va_up i 22 x22_467) 23 x23_468) 24 x24_469) 25 x25_433) 36 x36_434) (va_up (va_up (va_up (va_up (va_up (va_up (va_up (va_up a 26 y26_435) 27 y27_436) 28 y28_437) 29 y29_438) 30 y30_439) 31 y31_440) 32 y32_441) 33 y33_442)) _ := hP
      have hD : va_D _ (mw g h0 b (va_up (va_up (va_up (va_up (va_up i 22 x22_467) 23 x23_468) 24 x24_469) 25 x25_433) 36 x36_434) (va_up (va_up (va_up (va_up (va_up (va_up (va_up (va_up a 26 y26_435) 27 y27_436) 28 y28_437) 29 y29_438) 30 y30_439) 31 y31_440) 32 y32_441) 33 y33_442)) := hD
      refine W.eq (g2 := F0 m 346 ls [.int 0]) rfl ?_
      refine lv_if_eq (tgt := 362) hx hb dX10_rest_346 (by decide) (fun _ => ?_) (fun c_472 => absurd c_472 (by decide))
      refine lv_iconst (v := 0) hx hb dX10_rest_362 (by decide) ?_
      exact M_z hx hb hr rfl hlocks (x22_467, x23_468, x24_469, x25_433, x36_434, y26_435, y27_436, y28_437, y29_438, y30_439, y31_440, y32_441, y33_442) hP hD hK hS ⟨Or.inl ⟨rfl, ⟨_, BU.i12 ehev_461 (Ev.fx2 (hz2_471).2.2.1), hz2_471⟩⟩, ⟨dp_455, hpr_458, thk3_457⟩⟩ (by first | exact Nat.le_of_ble_eq_true rfl | (simp only [rm_X10_restT]; omega)) (by first | exact Nat.le_of_ble_eq_true rfl | (simp only [rm_X10_restT]; omega)) dX10_rest_363
    · have hP : va_P (dC, dI) vwCl (mw g h0 b (va_up (va_up (va_up (va_up (va_up i 22 x22_467) 23 x23_468) 24 x24_469) 25 x25_433) 36 x36_434) (va_up (va_up (va_up (va_up (va_up (va_up (va_up (va_up a 26 y26_435) 27 y27_436) 28 y28_437) 29 y29_438) 30 y30_439) 31 y31_440) 32 y32_441) 33 y33_442)) _ := hP
      have hD : va_D _ (mw g h0 b (va_up (va_up (va_up (va_up (va_up i 22 x22_467) 23 x23_468) 24 x24_469) 25 x25_433) 36 x36_434) (va_up (va_up (va_up (va_up (va_up (va_up (va_up (va_up a 26 y26_435) 27 y27_436) 28 y28_437) 29 y29_438) 30 y30_439) 31 y31_440) 32 y32_441) 33 y33_442)) := hD
      refine W.eq (g2 := F0 m 346 ls [.int 1]) rfl ?_
      have hmq_473 : MI (a 19) ln (gpa (Kp (a 19) ln) (nq (a 19) ln) 14 rn_459) x22_467 x23_468 x24_469 := hz2_471
      refine lv_if_eq (tgt := 362) hx hb dX10_rest_346 (by decide) (fun c_474 => absurd c_474 (by decide)) (fun _ => ?_)
      refine lv_aload_n hx hb dX10_rest_349 rfl (lv_at hl 0 rfl) ?_
      refine lv_iload_n hx hb dX10_rest_350 rfl (lv_at hl 1 rfl) ?_
      refine lv_iconst (v := 1) hx hb dX10_rest_351 (by decide) ?_
      refine M_V ⟨hx, hb, hml, hown, hts⟩ (m_X10_blockT l dC dI sa g h0 b j bl dp_455 ln (gpa (Kp (a 19) ln) (nq (a 19) ln) 14 rn_459) (tset TN_460 1 k0 (thd sq.2.1 rn_459.2.1)) k0 (va_up (va_up (va_up (va_up (va_up i 22 x22_467) 23 x23_468) 24 x24_469) 25 x25_433) 36 x36_434) (va_up (va_up (va_up (va_up (va_up (va_up (va_up (va_up a 26 y26_435) 27 y27_436) 28 y28_437) 29 y29_438) 30 y30_439) 31 y31_440) 32 y32_441) 33 y33_442) kk (1 : Int32) _ hL hmq_473 (by first | exact h36_463 | (simp only [gpa_nd, gnu_nd, gpl_nd, gte_nd, gob_nd, grf_nd]; exact h36_463)) hPR_454.2.1 hBL hj (by first | exact h3_rn_459 | (simp only [gpa_nd, gnu_nd, gpl_nd, gte_nd, gob_nd, grf_nd]; exact h3_rn_459)) (by first | exact htq_465.1 | (simp only [gpa_nd, gnu_nd, gpl_nd, gte_nd, gob_nd, grf_nd]; exact htq_465.1)) (let h9 := PR.nd hpr_458 hVq hdq; ⟨q, hq, h9.1, h9.2⟩) (⟨hkr.1, by first | (have := hkr.2; omega) | (simp only [gpa_nd, gnu_nd, gpl_nd, gte_nd, gob_nd, grf_nd]; have := hkr.2; omega)⟩) IHS) (cwV 2 hts gX10_rest_X10_block rfl rfl rfl (by decide +kernel) ⟨(by first | exact Nat.le_of_ble_eq_true rfl | (simp only [rm_X10_blockT, rm_X10_restT]; omega)), (by first | exact Nat.le_of_ble_eq_true rfl | (simp only [rm_X10_blockT, rm_X10_restT]; omega))⟩) hP hD hK hS hA hev rfl rfl rfl rfl hl.1 rfl (Nat.le_of_ble_eq_true rfl) dX10_rest_352 ⟨(by first | exact Nat.le_of_ble_eq_true rfl | (simp only [rm_X10_restT]; omega)), (by first | exact Nat.le_of_ble_eq_true rfl | (simp only [rm_X10_restT]; omega))⟩ (fun r u H locs hw hP hD hS => ?_)
      obtain ⟨x22_475, x23_476, x24_477, x25_478, x36_479, y26_480, y27_481, y28_482, y29_483, y30_484, y31_485, y32_486, y33_487⟩ := u
      have hw : ((r = some (.int 0) ∧ (∃ rn : SG, Ev (Kp (a 19) ln) (Vp (a 19) ln) (nq (a 19) ln) 2 bl (gpa (Kp (a 19) ln) (nq (a 19) ln) 14 rn_459) rn ∧ MO rn x23_476 x24_477)) ∨ (r = some (.int 1) ∧ (∃ (rn : SG) (TN : TT), EvT (Kp (a 19) ln) (Vp (a 19) ln) (nq (a 19) ln) 2 bl 0 ((gpa (Kp (a 19) ln) (nq (a 19) ln) 14 rn_459), (tset TN_460 1 k0 (thd sq.2.1 rn_459.2.1))) (rn, TN) ∧ MI (a 19) ln rn x22_475 x23_476 x24_477 ∧ x36_479 = nI rn.2.1 ∧ TQ (Kp (a 19) ln) (Vp (a 19) ln) (nq (a 19) ln) (tset TN (if (1 : Int32) = 0 then 1 else 2) k0 (thd (gpa (Kp (a 19) ln) (nq (a 19) ln) 14 rn_459).2.1 rn.2.1)) (gpa (Kp (a 19) ln) (nq (a 19) ln) 14 rn_459).2.1 rn.2.1 y27_436 y28_437 y29_438 y30_439 y26_480 y27_481 y28_482 y29_483 y30_484 y31_485 y32_486 y33_487))) ∧ (∃ dpN : Nat → Nat, PR x36_434 x36_479 dp_455 dpN y26_435 y27_436 y31_440 y32_441 y33_442 y26_480 y27_481 y31_485 y32_486 y33_487 ∧ KP3 y28_437 y29_438 y30_439 y28_482 y29_483 y30_484) := hw
      obtain ⟨⟨rfl, hz2_489⟩ | ⟨rfl, hz2_489⟩, hw_488⟩ := hw
      · have hP : va_P (dC, dI) vwCl (mw g h0 b (va_up (va_up (va_up (va_up (va_up i 22 x22_475) 23 x23_476) 24 x24_477) 25 x25_478) 36 x36_479) (va_up (va_up (va_up (va_up (va_up (va_up (va_up (va_up a 26 y26_480) 27 y27_481) 28 y28_482) 29 y29_483) 30 y30_484) 31 y31_485) 32 y32_486) 33 y33_487)) _ := hP
        have hD : va_D _ (mw g h0 b (va_up (va_up (va_up (va_up (va_up i 22 x22_475) 23 x23_476) 24 x24_477) 25 x25_478) 36 x36_479) (va_up (va_up (va_up (va_up (va_up (va_up (va_up (va_up a 26 y26_480) 27 y27_481) 28 y28_482) 29 y29_483) 30 y30_484) 31 y31_485) 32 y32_486) 33 y33_487)) := hD
        refine W.eq (g2 := F0 m 355 ls [.int 0]) rfl ?_
        obtain ⟨dp_491, hPR_490, hk3_493⟩ := hw_488
        have thk3_493 := KP3.tr thk3_457 hk3_493
        have hpr_494 := PR.tr hpr_458 hPR_490
        obtain ⟨rn_495, hev_496, hmo_497⟩ := hz2_489
        refine lv_if_eq (tgt := 362) hx hb dX10_rest_355 (by decide) (fun _ => ?_) (fun c_498 => absurd c_498 (by decide))
        refine lv_iconst (v := 0) hx hb dX10_rest_362 (by decide) ?_
        exact M_z hx hb hr rfl hlocks (x22_475, x23_476, x24_477, x25_478, x36_479, y26_480, y27_481, y28_482, y29_483, y30_484, y31_485, y32_486, y33_487) hP hD hK hS ⟨Or.inl ⟨rfl, ⟨_, BU.i12 ehev_461 hev_496, hmo_497⟩⟩, ⟨dp_491, hpr_494, thk3_493⟩⟩ (by first | exact Nat.le_of_ble_eq_true rfl | (simp only [rm_X10_restT]; omega)) (by first | exact Nat.le_of_ble_eq_true rfl | (simp only [rm_X10_restT]; omega)) dX10_rest_363
      · have hP : va_P (dC, dI) vwCl (mw g h0 b (va_up (va_up (va_up (va_up (va_up i 22 x22_475) 23 x23_476) 24 x24_477) 25 x25_478) 36 x36_479) (va_up (va_up (va_up (va_up (va_up (va_up (va_up (va_up a 26 y26_480) 27 y27_481) 28 y28_482) 29 y29_483) 30 y30_484) 31 y31_485) 32 y32_486) 33 y33_487)) _ := hP
        have hD : va_D _ (mw g h0 b (va_up (va_up (va_up (va_up (va_up i 22 x22_475) 23 x23_476) 24 x24_477) 25 x25_478) 36 x36_479) (va_up (va_up (va_up (va_up (va_up (va_up (va_up (va_up a 26 y26_480) 27 y27_481) 28 y28_482) 29 y29_483) 30 y30_484) 31 y31_485) 32 y32_486) 33 y33_487)) := hD
        refine W.eq (g2 := F0 m 355 ls [.int 1]) rfl ?_
        obtain ⟨dp_500, hPR_499, hk3_502⟩ := hw_488
        have thk3_502 := KP3.tr thk3_457 hk3_502
        have hpr_503 := PR.tr hpr_458 hPR_499
        obtain ⟨rn_504, TN_505, hev_506, hmq_507, h36_508, htb_509⟩ := hz2_489
        have ehev_506 := hev_506.ev
        have h3_rn_504 : rn_504.2.1 ≤ 300 := ehev_506.nd.2.2 (by first | exact h3_rn_459 | (simp only [gpa_nd, gnu_nd, gpl_nd, gte_nd, gob_nd, grf_nd]; exact h3_rn_459))
        have hqe : (gpa (Kp (a 19) ln) (nq (a 19) ln) 14 rn_459).2.1 = rn_459.2.1 := by simp only [gpa_nd, gnu_nd, gpl_nd, gte_nd, gob_nd, grf_nd]
        have hle_rn_504 : rn_459.2.1 ≤ rn_504.2.1 := by have h9 := ehev_506.nd.1; simp only [gnu_nd, gte_nd, gpa_nd, gob_nd] at h9; exact h9
        rw [hqe, show (if (1 : Int32) = 0 then 1 else 2) = 2 from if_neg (by decide)] at htb_509
        have htq_510 := TQ.tr htq_465 htb_509 (fun j9 hj9 => (tset_ne (by omega)).trans (hev_506.t0 j9 (by show j9 < (gpa (Kp (a 19) ln) (nq (a 19) ln) 14 rn_459).2.1; omega))) (by have := hkr.2; omega)
        refine lv_if_eq (tgt := 362) hx hb dX10_rest_355 (by decide) (fun c_511 => absurd c_511 (by decide)) (fun _ => ?_)
        refine lv_iconst (v := 1) hx hb dX10_rest_358 (by decide) ?_
        refine lv_goto (tgt := 363) hx hb dX10_rest_359 (by decide) ?_
        exact M_z hx hb hr rfl hlocks (x22_475, x23_476, x24_477, x25_478, x36_479, y26_480, y27_481, y28_482, y29_483, y30_484, y31_485, y32_486, y33_487) hP hD hK hS ⟨Or.inr ⟨rfl, ⟨rn_504, (tset TN_505 2 k0 (thd rn_459.2.1 rn_504.2.1)), Or.inr ⟨by decide, Or.inr (Or.inr (Or.inr ⟨⟨by decide, by decide, by decide⟩, (rn_459, TN_460), hev_461, (rn_504, TN_505), hev_506, rfl⟩))⟩, hmq_507, h36_508, htq_510⟩⟩, ⟨dp_500, hpr_503, thk3_502⟩⟩ (by first | exact Nat.le_of_ble_eq_true rfl | (simp only [rm_X10_restT]; omega)) (by first | exact Nat.le_of_ble_eq_true rfl | (simp only [rm_X10_restT]; omega)) dX10_rest_363
