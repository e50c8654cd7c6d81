noncomputable abbrev rm_X10_numbersT : Room := { frames := 3, cells := 0, slots := 0, locals := 68 }
set_option maxHeartbeats 1000000 in
set_option maxRecDepth 100000 in
theorem m_X10_numbersT (l : Launch) (dC : Nat → ClassId) (dI : Nat → Nat → Nat) (sa : Nat → Nat) (g : Nat → Nat) (h0 : Nat) (b : Nat → Nat) (ln : Nat) (sq : SG) (i : Nat → Int32) (a : Nat → Nat → Int32) (kk : Int32) (vt : Int32) (hi : Int32) (sz : Nat) (hL : (i 21) = nI ln ∧ ln ≤ 1500) (hM : MI (a 19) ln sq (i 22) (i 23) (i 24)) (hk : vp_in kk 2700) : CT l dC dI sa yX10_numbers wsX10_numbers rm_X10_numbersT [.ref h0, .int kk, .int vt, .int hi] (mw g h0 b i a) (tyM g) sz (fun (r : Option Value) (u : Int32 × Int32 × Int32 × Int32 × (Nat → Int32) × (Nat → Int32)) => match u with | (x22, x23, x24, x25, y27, y28) => ((r = some (.int 0) ∧ (MO (gnu (Kp (a 19) ln) (Vp (a 19) ln) (nq (a 19) ln) 1 hi (gnu (Kp (a 19) ln) (Vp (a 19) ln) (nq (a 19) ln) 0 vt sq)) x23 x24)) ∨ (r = some (.int 1) ∧ (MI (a 19) ln (gnu (Kp (a 19) ln) (Vp (a 19) ln) (nq (a 19) ln) 1 hi (gnu (Kp (a 19) ln) (Vp (a 19) ln) (nq (a 19) ln) 0 vt sq)) x22 x23 x24 ∧ y27 = upd (a 27) kk.toNatClampNeg (Vp (a 19) ln sq.1) ∧ y28 = upd (a 28) kk.toNatClampNeg (Vp (a 19) ln (gnu (Kp (a 19) ln) (Vp (a 19) ln) (nq (a 19) ln) 0 vt sq).1)))) ∧ ((y27 = (a 27) ∨ ∃ v : Int32, (0 : Int32).toInt ≤ v.toInt ∧ v.toInt ≤ vt.toInt ∧ y27 = upd (a 27) kk.toNatClampNeg v) ∧ (∀ x9 : Nat, ¬ x9 = kk.toNatClampNeg → y28 x9 = (a 28) x9 ∧ (a 29) x9 = (a 29) x9 ∧ (a 30) x9 = (a 30) x9))) (fun (u : Int32 × Int32 × Int32 × Int32 × (Nat → Int32) × (Nat → Int32)) => match u with | (x22, x23, x24, x25, y27, y28) => mw g h0 b (va_up (va_up (va_up (va_up i 22 x22) 23 x23) 24 x24) 25 x25) (va_up (va_up a 27 y27) 28 y28)) (fun _ => []) 0 0 := by
  refine CT.start (cc := cX10_numbers) (maxL := 4) (ret := (some .boolean)) (by decide) rfl (Nat.le_of_ble_eq_true rfl) ?_
  intro p e s m below meth c ls hst hP hK hD hev hS hl
  obtain ⟨hx, hb, hr, hml, hts, hown, hlocks, hin⟩ := hst
  have hown : s.vm.findClass RX10 = some m.cls := hown
  have hA : ∀ q : Nat, s.heap.size ≤ q → va_A (mw g h0 b i a) s.heap.size q := fun _ h => Or.inr h
  have hl : lv_has ls 4 [(0, .ref h0), (1, .int kk), (2, .int vt), (3, .int hi)] := hl
  refine lv_aload_n hx hb dX10_numbers_0 rfl (lv_at hl 0 rfl) ?_
  refine lv_iload_n hx hb dX10_numbers_1 rfl (lv_at hl 1 rfl) ?_
  refine lv_iconst (v := 0) hx hb dX10_numbers_2 (by decide) ?_
  refine lv_iload_n hx hb dX10_numbers_3 rfl (lv_at hl 2 rfl) ?_
  refine M_V ⟨hx, hb, hml, hown, hts⟩ (m_X10_single l dC dI sa g h0 b ln sq i a kk (0 : Int32) vt _ hL hM hk) (cwV 3 hts gX10_numbers_X10_single rfl rfl rfl (by decide +kernel) ⟨Nat.le_of_ble_eq_true rfl, Nat.le_of_ble_eq_true rfl⟩) hP hD hK hS hA hev rfl rfl rfl rfl hl.1 rfl (Nat.le_of_ble_eq_true rfl) dX10_numbers_4 ⟨(Nat.le_of_ble_eq_true rfl), (Nat.le_of_ble_eq_true rfl)⟩ (fun r u H locs hw hP hD hS => ?_)
  obtain ⟨x22_1, x23_2, x24_3, x25_4, y27_5⟩ := u
  have hw : ((r = some (.int 0) ∧ (MO (gnu (Kp (a 19) ln) (Vp (a 19) ln) (nq (a 19) ln) (0 : Int32) vt sq) x23_2 x24_3 ∧ y27_5 = (a 27))) ∨ (r = some (.int 1) ∧ (MI (a 19) ln (gnu (Kp (a 19) ln) (Vp (a 19) ln) (nq (a 19) ln) (0 : Int32) vt sq) x22_1 x23_2 x24_3 ∧ (0 : Int32).toInt ≤ (Vp (a 19) ln sq.1).toInt ∧ (Vp (a 19) ln sq.1).toInt ≤ vt.toInt ∧ y27_5 = upd (a 27) kk.toNatClampNeg (Vp (a 19) ln sq.1)))) ∧ (True) := hw
  obtain ⟨⟨rfl, hz2_7⟩ | ⟨rfl, hz2_7⟩, hw_6⟩ := hw
  · have hP : va_P (dC, dI) vwCl (mw g h0 b (va_up (va_up (va_up (va_up i 22 x22_1) 23 x23_2) 24 x24_3) 25 x25_4) (va_up a 27 y27_5)) _ := hP
    have hD : va_D _ (mw g h0 b (va_up (va_up (va_up (va_up i 22 x22_1) 23 x23_2) 24 x24_3) 25 x25_4) (va_up a 27 y27_5)) := hD
    refine W.eq (g2 := F0 m 7 ls [.int 0]) rfl ?_
    refine lv_if_eq (tgt := 19) hx hb dX10_numbers_7 (by decide) (fun _ => ?_) (fun c_8 => absurd c_8 (by decide))
    refine lv_iconst (v := 0) hx hb dX10_numbers_19 (by decide) ?_
    exact M_z hx hb hr rfl hlocks (x22_1, x23_2, x24_3, x25_4, y27_5, (a 28)) hP hD hK hS ⟨Or.inl ⟨rfl, (hz2_7.1).nu⟩, ⟨Or.inl hz2_7.2, (fun x9 h9 => ⟨rfl, rfl, rfl⟩)⟩⟩ (Nat.le_of_ble_eq_true rfl) (Nat.le_of_ble_eq_true rfl) dX10_numbers_20
  · have hP : va_P (dC, dI) vwCl (mw g h0 b (va_up (va_up (va_up (va_up i 22 x22_1) 23 x23_2) 24 x24_3) 25 x25_4) (va_up a 27 y27_5)) _ := hP
    have hD : va_D _ (mw g h0 b (va_up (va_up (va_up (va_up i 22 x22_1) 23 x23_2) 24 x24_3) 25 x25_4) (va_up a 27 y27_5)) := hD
    refine W.eq (g2 := F0 m 7 ls [.int 1]) rfl ?_
    have hmq_9 : MI (a 19) ln (gnu (Kp (a 19) ln) (Vp (a 19) ln) (nq (a 19) ln) (0 : Int32) vt sq) x22_1 x23_2 x24_3 := hz2_7.1
    refine lv_if_eq (tgt := 19) hx hb dX10_numbers_7 (by decide) (fun c_10 => absurd c_10 (by decide)) (fun _ => ?_)
    refine lv_aload_n hx hb dX10_numbers_10 rfl (lv_at hl 0 rfl) ?_
    refine lv_iconst (v := 1) hx hb dX10_numbers_11 (by decide) ?_
    refine lv_iload_n hx hb dX10_numbers_12 rfl (lv_at hl 3 rfl) ?_
    refine M_V ⟨hx, hb, hml, hown, hts⟩ (m_X10_number l dC dI sa g h0 b ln (gnu (Kp (a 19) ln) (Vp (a 19) ln) (nq (a 19) ln) (0 : Int32) vt sq) (va_up (va_up (va_up (va_up i 22 x22_1) 23 x23_2) 24 x24_3) 25 x25_4) (va_up a 27 y27_5) (1 : Int32) hi _ hL hmq_9) (cwV 2 hts gX10_numbers_X10_number rfl rfl rfl (by decide +kernel) ⟨Nat.le_of_ble_eq_true rfl, Nat.le_of_ble_eq_true rfl⟩) hP hD hK hS hA hev rfl rfl rfl rfl hl.1 rfl (Nat.le_of_ble_eq_true rfl) dX10_numbers_13 ⟨(Nat.le_of_ble_eq_true rfl), (Nat.le_of_ble_eq_true rfl)⟩ (fun r u H locs hw hP hD hS => ?_)
    obtain ⟨x22_11, x23_12, x24_13, x25_14⟩ := u
    have hw : ((r = some (.int 0) ∧ (MO (gnu (Kp (a 19) ln) (Vp (a 19) ln) (nq (a 19) ln) (1 : Int32) hi (gnu (Kp (a 19) ln) (Vp (a 19) ln) (nq (a 19) ln) (0 : Int32) vt sq)) x23_12 x24_13)) ∨ (r = some (.int 1) ∧ (MI (a 19) ln (gnu (Kp (a 19) ln) (Vp (a 19) ln) (nq (a 19) ln) (1 : Int32) hi (gnu (Kp (a 19) ln) (Vp (a 19) ln) (nq (a 19) ln) (0 : Int32) vt sq)) x22_11 x23_12 x24_13 ∧ x25_14 = (Vp (a 19) ln (gnu (Kp (a 19) ln) (Vp (a 19) ln) (nq (a 19) ln) (0 : Int32) vt sq).1) ∧ (1 : Int32).toInt ≤ (Vp (a 19) ln (gnu (Kp (a 19) ln) (Vp (a 19) ln) (nq (a 19) ln) (0 : Int32) vt sq).1).toInt ∧ (Vp (a 19) ln (gnu (Kp (a 19) ln) (Vp (a 19) ln) (nq (a 19) ln) (0 : Int32) vt sq).1).toInt ≤ hi.toInt))) ∧ (True) := hw
    obtain ⟨⟨rfl, hz2_16⟩ | ⟨rfl, hz2_16⟩, hw_15⟩ := hw
    · have hP : va_P (dC, dI) vwCl (mw g h0 b (va_up (va_up (va_up (va_up i 22 x22_11) 23 x23_12) 24 x24_13) 25 x25_14) (va_up a 27 y27_5)) _ := hP
      have hD : va_D _ (mw g h0 b (va_up (va_up (va_up (va_up i 22 x22_11) 23 x23_12) 24 x24_13) 25 x25_14) (va_up a 27 y27_5)) := hD
      refine W.eq (g2 := F0 m 16 ls [.int 0]) rfl ?_
      refine lv_if_ne (tgt := 21) hx hb dX10_numbers_16 (by decide) (fun c_17 => absurd c_17 (by decide)) (fun _ => ?_)
      refine lv_iconst (v := 0) hx hb dX10_numbers_19 (by decide) ?_
      exact M_z hx hb hr rfl hlocks (x22_11, x23_12, x24_13, x25_14, y27_5, (a 28)) hP hD hK hS ⟨Or.inl ⟨rfl, hz2_16⟩, ⟨Or.inr ⟨_, hz2_7.2.1, hz2_7.2.2.1, hz2_7.2.2.2⟩, (fun x9 h9 => ⟨rfl, rfl, rfl⟩)⟩⟩ (Nat.le_of_ble_eq_true rfl) (Nat.le_of_ble_eq_true rfl) dX10_numbers_20
    · have hP : va_P (dC, dI) vwCl (mw g h0 b (va_up (va_up (va_up (va_up i 22 x22_11) 23 x23_12) 24 x24_13) 25 x25_14) (va_up a 27 y27_5)) _ := hP
      have hD : va_D _ (mw g h0 b (va_up (va_up (va_up (va_up i 22 x22_11) 23 x23_12) 24 x24_13) 25 x25_14) (va_up a 27 y27_5)) := hD
      refine W.eq (g2 := F0 m 16 ls [.int 1]) rfl ?_
      have hmq_18 : MI (a 19) ln (gnu (Kp (a 19) ln) (Vp (a 19) ln) (nq (a 19) ln) (1 : Int32) hi (gnu (Kp (a 19) ln) (Vp (a 19) ln) (nq (a 19) ln) (0 : Int32) vt sq)) x22_11 x23_12 x24_13 := hz2_16.1
      refine lv_if_ne (tgt := 21) hx hb dX10_numbers_16 (by decide) (fun _ => ?_) (fun c_19 => absurd c_19 (by decide))
      refine lv_aload_n hx hb dX10_numbers_21 rfl (lv_at hl 0 rfl) ?_
      refine va_get (D := (dC, dI)) (ci := 10) (v := .ref (b 28)) (C := RX10) (T := TX10) (N := 51) hx hb hts inw_X10_numbers_10 hown hK hP 0 rfl rfl 28 (by decide) (hts (.fieldLink RX10 66 "VatHouseModel" "two" "[I") (List.mem_of_getElem? (i := 1) (by exact rfl))) (fun _ h9 => h9) rfl dX10_numbers_22 ?_
      refine lv_iload_n hx hb dX10_numbers_25 rfl (lv_at hl 1 rfl) ?_
      refine lv_aload_n hx hb dX10_numbers_26 rfl (lv_at hl 0 rfl) ?_
      refine va_get (D := (dC, dI)) (ci := 10) (v := .int x25_14) (C := RX10) (T := TX10) (N := 51) hx hb hts inw_X10_numbers_10 hown hK hP 0 rfl rfl 25 (by decide) (hts (.fieldLink RX10 243 "VatHouseModel" "value" "I") (List.mem_of_getElem? (i := 2) (by exact rfl))) (fun _ h9 => h9) rfl dX10_numbers_27 ?_
      refine va_iast hx hb hK hP hD hS 18 17 rfl rfl (by assumption) dX10_numbers_30 (fun H locs hP hD hS => ?_)
      have hP : va_P (dC, dI) vwCl (mw g h0 b (va_up (va_up (va_up (va_up i 22 x22_11) 23 x23_12) 24 x24_13) 25 x25_14) (va_up (va_up a 27 y27_5) 28 (upd (a 28) kk.toNatClampNeg x25_14))) _ := hP
      have hD : va_D _ (mw g h0 b (va_up (va_up (va_up (va_up i 22 x22_11) 23 x23_12) 24 x24_13) 25 x25_14) (va_up (va_up a 27 y27_5) 28 (upd (a 28) kk.toNatClampNeg x25_14))) := hD
      obtain ⟨f_20, ef_20⟩ : ∃ z, z = (upd (a 28) kk.toNatClampNeg x25_14) := ⟨_, rfl⟩
      rw [← ef_20] at hP hD
      refine lv_iconst (v := 1) hx hb dX10_numbers_31 (by decide) ?_
      exact M_z hx hb hr rfl hlocks (x22_11, x23_12, x24_13, x25_14, y27_5, f_20) hP hD hK hS ⟨Or.inr ⟨rfl, ⟨hmq_18, hz2_7.2.2.2, by rw [ef_20, hz2_16.2.1]⟩⟩, ⟨Or.inr ⟨_, hz2_7.2.1, hz2_7.2.2.1, hz2_7.2.2.2⟩, (fun x9 h9 => ⟨(by rw [ef_20]; exact if_neg h9), rfl, rfl⟩)⟩⟩ (Nat.le_of_ble_eq_true rfl) (Nat.le_of_ble_eq_true rfl) dX10_numbers_32

noncomputable abbrev rm_X10_testT : Room := { frames := 5, cells := 0, slots := 0, locals := 166 }
set_option maxHeartbeats 1000000 in
set_option maxRecDepth 100000 in
theorem m_X10_testT (l : Launch) (dC : Nat → ClassId) (dI : Nat → Nat → Nat) (sa : Nat → Nat) (g : Nat → Nat) (h0 : Nat) (b : Nat → Nat) (ln : Nat) (sq : SG) (i : Nat → Int32) (a : Nat → Nat → Int32) (kk : Int32) (sz : Nat) (hL : (i 21) = nI ln ∧ ln ≤ 1500) (hM : MI (a 19) ln sq (i 22) (i 23) (i 24)) (hk : vp_in kk 2700) : CT l dC dI sa yX10_test wsX10_test rm_X10_testT [.ref h0, .int kk] (mw g h0 b i a) (tyM g) sz (fun (r : Option Value) (u : Int32 × Int32 × Int32 × Int32 × (Nat → Int32) × (Nat → Int32) × (Nat → Int32) × (Nat → Int32)) => match u with | (x22, x23, x24, x25, y27, y28, y29, y30) => ((r = some (.int 0) ∧ (MO (gte (Kp (a 19) ln) (Vp (a 19) ln) (nq (a 19) ln) sq) x23 x24)) ∨ (r = some (.int 1) ∧ (MI (a 19) ln (gte (Kp (a 19) ln) (Vp (a 19) ln) (nq (a 19) ln) sq) x22 x23 x24 ∧ (¬ (Kp (a 19) ln sq.1 < 15 ∨ 19 < Kp (a 19) ln sq.1)) ∧ y29 = upd (a 29) kk.toNatClampNeg (cm (Kp (a 19) ln sq.1)) ∧ ((Kp (a 19) ln sq.1 = 17 ∨ Kp (a 19) ln sq.1 = 18) → y27 = upd (a 27) kk.toNatClampNeg (Vp (a 19) ln (gpa (Kp (a 19) ln) (nq (a 19) ln) (Kp (a 19) ln sq.1) sq).1)) ∧ (¬ (Kp (a 19) ln sq.1 = 17 ∨ Kp (a 19) ln sq.1 = 18) → y27 = (a 27)) ∧ ∃ b9 : Int32, (if Kp (a 19) ln (if Kp (a 19) ln sq.1 = 17 ∨ Kp (a 19) ln sq.1 = 18 then gnu (Kp (a 19) ln) (Vp (a 19) ln) (nq (a 19) ln) 0 5 (gpa (Kp (a 19) ln) (nq (a 19) ln) (Kp (a 19) ln sq.1) sq) else (gpa (Kp (a 19) ln) (nq (a 19) ln) (Kp (a 19) ln sq.1) sq)).1 = 60 then (60 : Int32) else 61) = b9 ∧ Kp (a 19) ln (if Kp (a 19) ln sq.1 = 17 ∨ Kp (a 19) ln sq.1 = 18 then gnu (Kp (a 19) ln) (Vp (a 19) ln) (nq (a 19) ln) 0 5 (gpa (Kp (a 19) ln) (nq (a 19) ln) (Kp (a 19) ln sq.1) sq) else (gpa (Kp (a 19) ln) (nq (a 19) ln) (Kp (a 19) ln sq.1) sq)).1 = b9 ∧ y30 = upd (a 30) kk.toNatClampNeg b9 ∧ y28 = upd (a 28) kk.toNatClampNeg (Vp (a 19) ln (gpa (Kp (a 19) ln) (nq (a 19) ln) b9 (if Kp (a 19) ln sq.1 = 17 ∨ Kp (a 19) ln sq.1 = 18 then gnu (Kp (a 19) ln) (Vp (a 19) ln) (nq (a 19) ln) 0 5 (gpa (Kp (a 19) ln) (nq (a 19) ln) (Kp (a 19) ln sq.1) sq) else (gpa (Kp (a 19) ln) (nq (a 19) ln) (Kp (a 19) ln sq.1) sq))).1)))) ∧ ((y27 = (a 27) ∨ ∃ v : Int32, (0 : Int32).toInt ≤ v.toInt ∧ v.toInt ≤ (5 : Int32).toInt ∧ y27 = upd (a 27) kk.toNatClampNeg v) ∧ (∀ x9 : Nat, ¬ x9 = kk.toNatClampNeg → y28 x9 = (a 28) x9 ∧ y29 x9 = (a 29) x9 ∧ y30 x9 = (a 30) x9))) (fun (u : Int32 × Int32 × Int32 × Int32 × (Nat → Int32) × (Nat → Int32) × (Nat → Int32) × (Nat → Int32)) => match u with | (x22, x23, x24, x25, y27, y28, y29, y30) => mw g h0 b (va_up (va_up (va_up (va_up i 22 x22) 23 x23) 24 x24) 25 x25) (va_up (va_up (va_up (va_up a 27 y27) 28 y28) 29 y29) 30 y30)) (fun _ => []) 0 0 := by
  refine CT.start (cc := cX10_test) (maxL := 3) (ret := (some .boolean)) (by decide) rfl (Nat.le_of_ble_eq_true rfl) ?_
  intro p e s m below meth c ls hst hP hK hD hev hS hl
  obtain ⟨hx, hb, hr, hml, hts, hown, hlocks, hin⟩ := hst
  have hown : s.vm.findClass RX10 = some m.cls := hown
  have hA : ∀ q : Nat, s.heap.size ≤ q → va_A (mw g h0 b i a) s.heap.size q := fun _ h => Or.inr h
  have hl : lv_has ls 3 [(0, .ref h0), (1, .int kk)] := hl
  refine lv_aload_n hx hb dX10_test_0 rfl (lv_at hl 0 rfl) ?_
  refine M_V ⟨hx, hb, hml, hown, hts⟩ (m_X10_word l dC dI sa g h0 b ln sq i a  _ hL hM) (cwV 0 hts gX10_test_X10_word rfl rfl rfl (by decide +kernel) ⟨Nat.le_of_ble_eq_true rfl, Nat.le_of_ble_eq_true rfl⟩) hP hD hK hS hA hev rfl rfl rfl rfl hl.1 rfl (Nat.le_of_ble_eq_true rfl) dX10_test_1 ⟨(Nat.le_of_ble_eq_true rfl), (Nat.le_of_ble_eq_true rfl)⟩ (fun r u H locs hw hP hD hS => ?_)
  obtain ⟨x22_1, rfl⟩ : ∃ z, z = u := ⟨_, rfl⟩
  have hw : (∃ z : Int32, r = some (.int z) ∧ (z = cm (Kp (a 19) ln sq.1))) ∧ (x22_1 = nI sq.1) := hw
  obtain ⟨⟨z_3, rfl, hz_z_3⟩, hw_2⟩ := hw
  have hP : va_P (dC, dI) vwCl (mw g h0 b (va_up i 22 x22_1) a) _ := hP
  have hD : va_D _ (mw g h0 b (va_up i 22 x22_1) a) := hD
  refine W.eq (g2 := F0 m 4 ls [.int z_3]) rfl ?_
  have hmq_4 : MI (a 19) ln sq x22_1 (i 23) (i 24) := (hM).sk hw_2
  refine lv_istore_n (lv' := [(2, .int z_3), (0, .ref h0), (1, .int kk)]) hx hb dX10_test_4 rfl hl (by decide) rfl (fun ls hl => ?_)
  refine lv_iload_n hx hb dX10_test_5 rfl (lv_at hl 0 rfl) ?_
  refine lv_bipush (v := 14) hx hb dX10_test_6 (by decide) ?_
  refine lv_icmp_ge (tgt := 21) hx hb dX10_test_8 (by decide) (fun c_5 => ?_) (fun c_5 => ?_)
  · have nc_5 := le_i c_5
    have lc_5 : (14 : Int32).toInt = 14 := by decide
    refine lv_aload_n hx hb dX10_test_21 rfl (lv_at hl 1 rfl) ?_
    refine va_get (D := (dC, dI)) (ci := 10) (v := .ref (b 29)) (C := RX10) (T := TX10) (N := 51) hx hb hts inw_X10_test_10 hown hK hP 0 rfl rfl 29 (by decide) (hts (.fieldLink RX10 69 "VatHouseModel" "look" "[I") (List.mem_of_getElem? (i := 2) (by exact rfl))) (fun _ h9 => h9) rfl dX10_test_22 ?_
    refine lv_iload_n hx hb dX10_test_25 rfl (lv_at hl 2 rfl) ?_
    refine lv_iload_n hx hb dX10_test_26 rfl (lv_at hl 0 rfl) ?_
    refine va_iast hx hb hK hP hD hS 19 18 rfl rfl (by assumption) dX10_test_27 (fun H locs hP hD hS => ?_)
    have hP : va_P (dC, dI) vwCl (mw g h0 b (va_up i 22 x22_1) (va_up a 29 (upd (a 29) kk.toNatClampNeg z_3))) _ := hP
    have hD : va_D _ (mw g h0 b (va_up i 22 x22_1) (va_up a 29 (upd (a 29) kk.toNatClampNeg z_3))) := hD
    obtain ⟨f_6, ef_6⟩ : ∃ z, z = (upd (a 29) kk.toNatClampNeg z_3) := ⟨_, rfl⟩
    rw [← ef_6] at hP hD
    refine lv_aload_n hx hb dX10_test_28 rfl (lv_at hl 1 rfl) ?_
    refine lv_iload_n hx hb dX10_test_29 rfl (lv_at hl 0 rfl) ?_
    obtain ⟨htk, hwn, hw17⟩ := te_k hz_z_3 (nlt_of_le c_5)
    obtain ⟨kq, hkq⟩ := cm_k hz_z_3 hwn
    have hqlt := (wd_at hkq.2.1 hkq.2.2).1
    refine M_V ⟨hx, hb, hml, hown, hts⟩ (m_X10_pass l dC dI sa g h0 b ln sq kq (va_up i 22 x22_1) (va_up a 29 f_6) z_3 _ hw_2 hkq) (cwV 1 hts gX10_test_X10_pass rfl rfl rfl (by decide +kernel) ⟨Nat.le_of_ble_eq_true rfl, Nat.le_of_ble_eq_true rfl⟩) hP hD hK hS hA hev rfl rfl rfl rfl hl.1 rfl (Nat.le_of_ble_eq_true rfl) dX10_test_30 ⟨(Nat.le_of_ble_eq_true rfl), (Nat.le_of_ble_eq_true rfl)⟩ (fun r u H locs hw hP hD hS => ?_)
    obtain ⟨x22_7, rfl⟩ : ∃ z, z = u := ⟨_, rfl⟩
    have hw : (r = none) ∧ (x22_7 = nI (nx (a 19) ln sq.1)) := hw
    obtain ⟨rfl, hw_8⟩ := hw
    have hP : va_P (dC, dI) vwCl (mw g h0 b (va_up i 22 x22_7) (va_up a 29 f_6)) _ := hP
    have hD : va_D _ (mw g h0 b (va_up i 22 x22_7) (va_up a 29 f_6)) := hD
    refine W.eq (g2 := F0 m 33 ls []) rfl ?_
    have hmq_9 : MI (a 19) ln (gpa (Kp (a 19) ln) (nq (a 19) ln) (Kp (a 19) ln sq.1) sq) x22_7 (i 23) (i 24) := (hmq_4).pass rfl hqlt hw_8
    refine lv_iload_n hx hb dX10_test_33 rfl (lv_at hl 0 rfl) ?_
    refine lv_bipush (v := 17) hx hb dX10_test_34 (by decide) ?_
    refine lv_icmp_lt (tgt := 51) hx hb dX10_test_36 (by decide) (fun c_10 => ?_) (fun c_10 => ?_)
    · have nc_10 := lt_i c_10
      have lc_10 : (17 : Int32).toInt = 17 := by decide
      have hg2 : (if (Kp (a 19) ln) sq.1 = 17 ∨ (Kp (a 19) ln) sq.1 = 18 then gnu (Kp (a 19) ln) (Vp (a 19) ln) (nq (a 19) ln) 0 5 (gpa (Kp (a 19) ln) (nq (a 19) ln) ((Kp (a 19) ln) sq.1) sq) else gpa (Kp (a 19) ln) (nq (a 19) ln) ((Kp (a 19) ln) sq.1) sq) = (gpa (Kp (a 19) ln) (nq (a 19) ln) (Kp (a 19) ln sq.1) sq) := if_neg (fun h9 => nlt_of_le (hw17.mpr h9) c_10)
      refine lv_aload_n hx hb dX10_test_51 rfl (lv_at hl 1 rfl) ?_
      refine M_V ⟨hx, hb, hml, hown, hts⟩ (m_X10_skip l dC dI sa g h0 b ln (gpa (Kp (a 19) ln) (nq (a 19) ln) (Kp (a 19) ln sq.1) sq) (va_up i 22 x22_7) (va_up a 29 f_6)  _ hL hmq_9) (cwV 0 hts gX10_test_X10_skip rfl rfl rfl (by decide +kernel) ⟨Nat.le_of_ble_eq_true rfl, Nat.le_of_ble_eq_true rfl⟩) hP hD hK hS hA hev rfl rfl rfl rfl hl.1 rfl (Nat.le_of_ble_eq_true rfl) dX10_test_52 ⟨(Nat.le_of_ble_eq_true rfl), (Nat.le_of_ble_eq_true rfl)⟩ (fun r u H locs hw hP hD hS => ?_)
      obtain ⟨x22_11, rfl⟩ : ∃ z, z = u := ⟨_, rfl⟩
      have hw : (r = none) ∧ (x22_11 = nI (gpa (Kp (a 19) ln) (nq (a 19) ln) (Kp (a 19) ln sq.1) sq).1) := hw
      obtain ⟨rfl, hw_12⟩ := hw
      have hP : va_P (dC, dI) vwCl (mw g h0 b (va_up i 22 x22_11) (va_up a 29 f_6)) _ := hP
      have hD : va_D _ (mw g h0 b (va_up i 22 x22_11) (va_up a 29 f_6)) := hD
      refine W.eq (g2 := F0 m 55 ls []) rfl ?_
      have hmq_13 : MI (a 19) ln (gpa (Kp (a 19) ln) (nq (a 19) ln) (Kp (a 19) ln sq.1) sq) x22_11 (i 23) (i 24) := (hmq_9).sk hw_12
      refine lv_aload_n hx hb dX10_test_55 rfl (lv_at hl 1 rfl) ?_
      refine lv_bipush (v := 60) hx hb dX10_test_56 (by decide) ?_
      refine M_V ⟨hx, hb, hml, hown, hts⟩ (m_X10_isSign l dC dI sa g h0 b ln (gpa (Kp (a 19) ln) (nq (a 19) ln) (Kp (a 19) ln sq.1) sq) (va_up i 22 x22_11) (va_up a 29 f_6) (60 : Int32) _ hL hmq_13 (by decide)) (cwV 1 hts gX10_test_X10_isSign rfl rfl rfl (by decide +kernel) ⟨Nat.le_of_ble_eq_true rfl, Nat.le_of_ble_eq_true rfl⟩) hP hD hK hS hA hev rfl rfl rfl rfl hl.1 rfl (Nat.le_of_ble_eq_true rfl) dX10_test_58 ⟨(Nat.le_of_ble_eq_true rfl), (Nat.le_of_ble_eq_true rfl)⟩ (fun r u H locs hw hP hD hS => ?_)
      obtain ⟨x22_14, rfl⟩ : ∃ z, z = u := ⟨_, rfl⟩
      have hw : ((r = some (.int 0) ∧ (¬ Kp (a 19) ln (gpa (Kp (a 19) ln) (nq (a 19) ln) (Kp (a 19) ln sq.1) sq).1 = (60 : Int32))) ∨ (r = some (.int 1) ∧ ((gpa (Kp (a 19) ln) (nq (a 19) ln) (Kp (a 19) ln sq.1) sq).1 < ln ∧ Kp (a 19) ln (gpa (Kp (a 19) ln) (nq (a 19) ln) (Kp (a 19) ln sq.1) sq).1 = (60 : Int32)))) ∧ (x22_14 = nI (gpa (Kp (a 19) ln) (nq (a 19) ln) (Kp (a 19) ln sq.1) sq).1) := hw
      obtain ⟨⟨rfl, hz2_16⟩ | ⟨rfl, hz2_16⟩, hw_15⟩ := hw
      · have hP : va_P (dC, dI) vwCl (mw g h0 b (va_up i 22 x22_14) (va_up a 29 f_6)) _ := hP
        have hD : va_D _ (mw g h0 b (va_up i 22 x22_14) (va_up a 29 f_6)) := hD
        refine W.eq (g2 := F0 m 61 ls [.int 0]) rfl ?_
        have hmq_17 : MI (a 19) ln (gpa (Kp (a 19) ln) (nq (a 19) ln) (Kp (a 19) ln sq.1) sq) x22_14 (i 23) (i 24) := (hmq_13).sk hw_15
        refine lv_if_ne (tgt := 83) hx hb dX10_test_61 (by decide) (fun c_18 => absurd c_18 (by decide)) (fun _ => ?_)
        refine lv_aload_n hx hb dX10_test_64 rfl (lv_at hl 1 rfl) ?_
        refine lv_bipush (v := 61) hx hb dX10_test_65 (by decide) ?_
        refine M_V ⟨hx, hb, hml, hown, hts⟩ (m_X10_isSign l dC dI sa g h0 b ln (gpa (Kp (a 19) ln) (nq (a 19) ln) (Kp (a 19) ln sq.1) sq) (va_up i 22 x22_14) (va_up a 29 f_6) (61 : Int32) _ hL hmq_17 (by decide)) (cwV 1 hts gX10_test_X10_isSign rfl rfl rfl (by decide +kernel) ⟨Nat.le_of_ble_eq_true rfl, Nat.le_of_ble_eq_true rfl⟩) hP hD hK hS hA hev rfl rfl rfl rfl hl.1 rfl (Nat.le_of_ble_eq_true rfl) dX10_test_67 ⟨(Nat.le_of_ble_eq_true rfl), (Nat.le_of_ble_eq_true rfl)⟩ (fun r u H locs hw hP hD hS => ?_)
        obtain ⟨x22_19, rfl⟩ : ∃ z, z = u := ⟨_, rfl⟩
        have hw : ((r = some (.int 0) ∧ (¬ Kp (a 19) ln (gpa (Kp (a 19) ln) (nq (a 19) ln) (Kp (a 19) ln sq.1) sq).1 = (61 : Int32))) ∨ (r = some (.int 1) ∧ ((gpa (Kp (a 19) ln) (nq (a 19) ln) (Kp (a 19) ln sq.1) sq).1 < ln ∧ Kp (a 19) ln (gpa (Kp (a 19) ln) (nq (a 19) ln) (Kp (a 19) ln sq.1) sq).1 = (61 : Int32)))) ∧ (x22_19 = nI (gpa (Kp (a 19) ln) (nq (a 19) ln) (Kp (a 19) ln sq.1) sq).1) := hw
        obtain ⟨⟨rfl, hz2_21⟩ | ⟨rfl, hz2_21⟩, hw_20⟩ := hw
        · have hP : va_P (dC, dI) vwCl (mw g h0 b (va_up i 22 x22_19) (va_up a 29 f_6)) _ := hP
          have hD : va_D _ (mw g h0 b (va_up i 22 x22_19) (va_up a 29 f_6)) := hD
          refine W.eq (g2 := F0 m 70 ls [.int 0]) rfl ?_
          have hmq_22 : MI (a 19) ln (gpa (Kp (a 19) ln) (nq (a 19) ln) (Kp (a 19) ln sq.1) sq) x22_19 (i 23) (i 24) := (hmq_17).sk hw_20
          refine lv_if_ne (tgt := 83) hx hb dX10_test_70 (by decide) (fun c_23 => absurd c_23 (by decide)) (fun _ => ?_)
          refine lv_aload_n hx hb dX10_test_73 rfl (lv_at hl 1 rfl) ?_
          refine lv_iconst (v := 1) hx hb dX10_test_74 (by decide) ?_
          refine lv_aload_n hx hb dX10_test_75 rfl (lv_at hl 1 rfl) ?_
          refine va_get (D := (dC, dI)) (ci := 10) (v := .int x22_19) (C := RX10) (T := TX10) (N := 51) hx hb hts inw_X10_test_10 hown hK hP 0 rfl rfl 22 (by decide) (hts (.fieldLink RX10 168 "VatHouseModel" "at" "I") (List.mem_of_getElem? (i := 1) (by exact rfl))) (fun _ h9 => h9) rfl dX10_test_76 ?_
          refine M_V ⟨hx, hb, hml, hown, hts⟩ (m_X10_wrong l dC dI sa g h0 b (va_up i 22 x22_19) (va_up a 29 f_6) (1 : Int32) x22_19 _ (hmq_22).1) (cwV 2 hts gX10_test_X10_wrong rfl rfl rfl (by decide +kernel) ⟨Nat.le_of_ble_eq_true rfl, Nat.le_of_ble_eq_true rfl⟩) hP hD hK hS hA hev rfl rfl rfl rfl hl.1 rfl (Nat.le_of_ble_eq_true rfl) dX10_test_79 ⟨(Nat.le_of_ble_eq_true rfl), (Nat.le_of_ble_eq_true rfl)⟩ (fun r u H locs hw hP hD hS => ?_)
          obtain ⟨x23_24, x24_25⟩ := u
          have hw : ((r = some (.int 0) ∧ (x23_24 = (1 : Int32) ∧ x24_25 = x22_19)) ∨ (r = some (.int 1) ∧ (False))) ∧ (True) := hw
          obtain ⟨⟨rfl, hz2_27⟩ | ⟨rfl, hz2_27⟩, hw_26⟩ := hw
          · have hP : va_P (dC, dI) vwCl (mw g h0 b (va_up (va_up (va_up i 22 x22_19) 23 x23_24) 24 x24_25) (va_up a 29 f_6)) _ := hP
            have hD : va_D _ (mw g h0 b (va_up (va_up (va_up i 22 x22_19) 23 x23_24) 24 x24_25) (va_up a 29 f_6)) := hD
            refine W.eq (g2 := F0 m 82 ls [.int 0]) rfl ?_
            exact M_z hx hb hr rfl hlocks (x22_19, x23_24, x24_25, (i 25), (a 27), (a 28), f_6, (a 30)) hP hD hK hS ⟨Or.inl ⟨rfl, (gte_c htk hg2 (if_neg hz2_16)) ▸ ((hmq_22).fl hz2_21 hz2_27.1 (hz2_27.2.trans hw_20)).nu⟩, ⟨Or.inl rfl, (fun x9 h9 => ⟨rfl, (by rw [ef_6]; exact if_neg h9), rfl⟩)⟩⟩ (Nat.le_of_ble_eq_true rfl) (Nat.le_of_ble_eq_true rfl) dX10_test_82
          · have hP : va_P (dC, dI) vwCl (mw g h0 b (va_up (va_up (va_up i 22 x22_19) 23 x23_24) 24 x24_25) (va_up a 29 f_6)) _ := hP
            have hD : va_D _ (mw g h0 b (va_up (va_up (va_up i 22 x22_19) 23 x23_24) 24 x24_25) (va_up a 29 f_6)) := hD
            refine W.eq (g2 := F0 m 82 ls [.int 1]) rfl ?_
            exact hz2_27.elim
        · have hP : va_P (dC, dI) vwCl (mw g h0 b (va_up i 22 x22_19) (va_up a 29 f_6)) _ := hP
          have hD : va_D _ (mw g h0 b (va_up i 22 x22_19) (va_up a 29 f_6)) := hD
          refine W.eq (g2 := F0 m 70 ls [.int 1]) rfl ?_
          have hmq_28 : MI (a 19) ln (gpa (Kp (a 19) ln) (nq (a 19) ln) (Kp (a 19) ln sq.1) sq) x22_19 (i 23) (i 24) := (hmq_17).sk hw_20
          refine lv_if_ne (tgt := 83) hx hb dX10_test_70 (by decide) (fun _ => ?_) (fun c_29 => absurd c_29 (by decide))
          have hg3 : (if (Kp (a 19) ln) (gpa (Kp (a 19) ln) (nq (a 19) ln) (Kp (a 19) ln sq.1) sq).1 = 60 then (60 : Int32) else 61) = 61 := if_neg hz2_16
          refine lv_aload_n hx hb dX10_test_83 rfl (lv_at hl 1 rfl) ?_
          refine va_get (D := (dC, dI)) (ci := 10) (v := .ref (b 30)) (C := RX10) (T := TX10) (N := 51) hx hb hts inw_X10_test_10 hown hK hP 0 rfl rfl 30 (by decide) (hts (.fieldLink RX10 72 "VatHouseModel" "sign" "[I") (List.mem_of_getElem? (i := 3) (by exact rfl))) (fun _ h9 => h9) rfl dX10_test_84 ?_
          refine lv_iload_n hx hb dX10_test_87 rfl (lv_at hl 2 rfl) ?_
          refine lv_aload_n hx hb dX10_test_88 rfl (lv_at hl 1 rfl) ?_
          refine va_get (D := (dC, dI)) (ci := 10) (v := .ref (b 19)) (C := RX10) (T := TX10) (N := 51) hx hb hts inw_X10_test_10 hown hK hP 0 rfl rfl 19 (by decide) (hts (.fieldLink RX10 53 "VatHouseModel" "tape" "[I") (List.mem_of_getElem? (i := 4) (by exact rfl))) (fun _ h9 => h9) rfl dX10_test_89 ?_
          refine lv_aload_n hx hb dX10_test_92 rfl (lv_at hl 1 rfl) ?_
          refine va_get (D := (dC, dI)) (ci := 10) (v := .int x22_19) (C := RX10) (T := TX10) (N := 51) hx hb hts inw_X10_test_10 hown hK hP 0 rfl rfl 22 (by decide) (hts (.fieldLink RX10 168 "VatHouseModel" "at" "I") (List.mem_of_getElem? (i := 1) (by exact rfl))) (fun _ h9 => h9) rfl dX10_test_93 ?_
          refine va_iald hx hb hK hP 15 14 rfl rfl (by rw [hw_20]; exact vp_in_nI (by have := hL.2; have := hz2_21.1; omega) (by decide)) dX10_test_96 ?_
          refine lv_topi (fun z_30 ez_30 => ?_)
          have ez_30 : z_30 = (a 19) x22_19.toNatClampNeg := ez_30
          refine va_iast hx hb hK hP hD hS 20 19 rfl rfl (by assumption) dX10_test_97 (fun H locs hP hD hS => ?_)
          have hP : va_P (dC, dI) vwCl (mw g h0 b (va_up i 22 x22_19) (va_up (va_up a 29 f_6) 30 (upd (a 30) kk.toNatClampNeg z_30))) _ := hP
          have hD : va_D _ (mw g h0 b (va_up i 22 x22_19) (va_up (va_up a 29 f_6) 30 (upd (a 30) kk.toNatClampNeg z_30))) := hD
          obtain ⟨f_31, ef_31⟩ : ∃ z, z = (upd (a 30) kk.toNatClampNeg z_30) := ⟨_, rfl⟩
          rw [← ef_31] at hP hD
          refine lv_aload_n hx hb dX10_test_98 rfl (lv_at hl 1 rfl) ?_
          refine lv_dup hx hb dX10_test_99 rfl ?_
          refine va_get (D := (dC, dI)) (ci := 10) (v := .int x22_19) (C := RX10) (T := TX10) (N := 51) hx hb hts inw_X10_test_10 hown hK hP 0 rfl rfl 22 (by decide) (hts (.fieldLink RX10 168 "VatHouseModel" "at" "I") (List.mem_of_getElem? (i := 1) (by exact rfl))) (fun _ h9 => h9) rfl dX10_test_100 ?_
          refine lv_iconst (v := 1) hx hb dX10_test_103 (by decide) ?_
          refine lv_iadd hx hb dX10_test_104 ?_
          refine lv_topi (fun z_32 ez_32 => ?_)
          refine va_put (D := (dC, dI)) (ci := 10) (v := .int z_32) (ty := .int) (C := RX10) (T := TX10) (N := 51) hx hb hts inw_X10_test_10 tyX10 tyX10_ok nmX10 hown hK hP hD hS 0 rfl rfl 22 (by decide) (hts (.fieldLink RX10 168 "VatHouseModel" "at" "I") (List.mem_of_getElem? (i := 1) (by exact rfl))) (fun _ h9 => h9) rfl (tyX10_ok 22 (by decide)) rfl rfl (Nat.le_of_ble_eq_true rfl) dX10_test_105 (fun H locs hP hD hS => ?_)
          have hP : va_P (dC, dI) vwCl (mw g h0 b (va_up i 22 z_32) (va_up (va_up a 29 f_6) 30 f_31)) _ := hP
          have hD : va_D _ (mw g h0 b (va_up i 22 z_32) (va_up (va_up a 29 f_6) 30 f_31)) := hD
          have hmq_33 : MI (a 19) ln (gpa (Kp (a 19) ln) (nq (a 19) ln) 61 (gpa (Kp (a 19) ln) (nq (a 19) ln) (Kp (a 19) ln sq.1) sq)) z_32 (i 23) (i 24) := (hmq_28).pass hz2_21.2 hz2_21.1 (by rw [ez_32, hw_20, nx_sign (by decide) ((Kp_sign (by decide)).mp hz2_21.2).2]; exact nI_1 _)
          refine lv_aload_n hx hb dX10_test_108 rfl (lv_at hl 1 rfl) ?_
          refine lv_iconst (v := 0) hx hb dX10_test_109 (by decide) ?_
          refine lv_sipush (v := 9999) hx hb dX10_test_110 (by decide) ?_
          refine M_V ⟨hx, hb, hml, hown, hts⟩ (m_X10_number l dC dI sa g h0 b ln (gpa (Kp (a 19) ln) (nq (a 19) ln) 61 (gpa (Kp (a 19) ln) (nq (a 19) ln) (Kp (a 19) ln sq.1) sq)) (va_up i 22 z_32) (va_up (va_up a 29 f_6) 30 f_31) (0 : Int32) (9999 : Int32) _ hL hmq_33) (cwV 2 hts gX10_test_X10_number rfl rfl rfl (by decide +kernel) ⟨Nat.le_of_ble_eq_true rfl, Nat.le_of_ble_eq_true rfl⟩) hP hD hK hS hA hev rfl rfl rfl rfl hl.1 rfl (Nat.le_of_ble_eq_true rfl) dX10_test_113 ⟨(Nat.le_of_ble_eq_true rfl), (Nat.le_of_ble_eq_true rfl)⟩ (fun r u H locs hw hP hD hS => ?_)
          obtain ⟨x22_34, x23_35, x24_36, x25_37⟩ := u
          have hw : ((r = some (.int 0) ∧ (MO (gnu (Kp (a 19) ln) (Vp (a 19) ln) (nq (a 19) ln) (0 : Int32) (9999 : Int32) (gpa (Kp (a 19) ln) (nq (a 19) ln) 61 (gpa (Kp (a 19) ln) (nq (a 19) ln) (Kp (a 19) ln sq.1) sq))) x23_35 x24_36)) ∨ (r = some (.int 1) ∧ (MI (a 19) ln (gnu (Kp (a 19) ln) (Vp (a 19) ln) (nq (a 19) ln) (0 : Int32) (9999 : Int32) (gpa (Kp (a 19) ln) (nq (a 19) ln) 61 (gpa (Kp (a 19) ln) (nq (a 19) ln) (Kp (a 19) ln sq.1) sq))) x22_34 x23_35 x24_36 ∧ x25_37 = (Vp (a 19) ln (gpa (Kp (a 19) ln) (nq (a 19) ln) 61 (gpa (Kp (a 19) ln) (nq (a 19) ln) (Kp (a 19) ln sq.1) sq)).1) ∧ (0 : Int32).toInt ≤ (Vp (a 19) ln (gpa (Kp (a 19) ln) (nq (a 19) ln) 61 (gpa (Kp (a 19) ln) (nq (a 19) ln) (Kp (a 19) ln sq.1) sq)).1).toInt ∧ (Vp (a 19) ln (gpa (Kp (a 19) ln) (nq (a 19) ln) 61 (gpa (Kp (a 19) ln) (nq (a 19) ln) (Kp (a 19) ln sq.1) sq)).1).toInt ≤ (9999 : Int32).toInt))) ∧ (True) := hw
          obtain ⟨⟨rfl, hz2_39⟩ | ⟨rfl, hz2_39⟩, hw_38⟩ := hw
          · have hP : va_P (dC, dI) vwCl (mw g h0 b (va_up (va_up (va_up (va_up i 22 x22_34) 23 x23_35) 24 x24_36) 25 x25_37) (va_up (va_up a 29 f_6) 30 f_31)) _ := hP
            have hD : va_D _ (mw g h0 b (va_up (va_up (va_up (va_up i 22 x22_34) 23 x23_35) 24 x24_36) 25 x25_37) (va_up (va_up a 29 f_6) 30 f_31)) := hD
            refine W.eq (g2 := F0 m 116 ls [.int 0]) rfl ?_
            refine lv_if_ne (tgt := 121) hx hb dX10_test_116 (by decide) (fun c_40 => absurd c_40 (by decide)) (fun _ => ?_)
            refine lv_iconst (v := 0) hx hb dX10_test_119 (by decide) ?_
            exact M_z hx hb hr rfl hlocks (x22_34, x23_35, x24_36, x25_37, (a 27), (a 28), f_6, f_31) hP hD hK hS ⟨Or.inl ⟨rfl, (gte_c htk hg2 hg3) ▸ hz2_39⟩, ⟨Or.inl rfl, (fun x9 h9 => ⟨rfl, (by rw [ef_6]; exact if_neg h9), (by rw [ef_31]; exact if_neg h9)⟩)⟩⟩ (Nat.le_of_ble_eq_true rfl) (Nat.le_of_ble_eq_true rfl) dX10_test_120
          · have hP : va_P (dC, dI) vwCl (mw g h0 b (va_up (va_up (va_up (va_up i 22 x22_34) 23 x23_35) 24 x24_36) 25 x25_37) (va_up (va_up a 29 f_6) 30 f_31)) _ := hP
            have hD : va_D _ (mw g h0 b (va_up (va_up (va_up (va_up i 22 x22_34) 23 x23_35) 24 x24_36) 25 x25_37) (va_up (va_up a 29 f_6) 30 f_31)) := hD
            refine W.eq (g2 := F0 m 116 ls [.int 1]) rfl ?_
            have hmq_41 : MI (a 19) ln (gnu (Kp (a 19) ln) (Vp (a 19) ln) (nq (a 19) ln) (0 : Int32) (9999 : Int32) (gpa (Kp (a 19) ln) (nq (a 19) ln) 61 (gpa (Kp (a 19) ln) (nq (a 19) ln) (Kp (a 19) ln sq.1) sq))) x22_34 x23_35 x24_36 := hz2_39.1
            refine lv_if_ne (tgt := 121) hx hb dX10_test_116 (by decide) (fun _ => ?_) (fun c_42 => absurd c_42 (by decide))
            refine lv_aload_n hx hb dX10_test_121 rfl (lv_at hl 1 rfl) ?_
            refine va_get (D := (dC, dI)) (ci := 10) (v := .ref (b 28)) (C := RX10) (T := TX10) (N := 51) hx hb hts inw_X10_test_10 hown hK hP 0 rfl rfl 28 (by decide) (hts (.fieldLink RX10 66 "VatHouseModel" "two" "[I") (List.mem_of_getElem? (i := 5) (by exact rfl))) (fun _ h9 => h9) rfl dX10_test_122 ?_
            refine lv_iload_n hx hb dX10_test_125 rfl (lv_at hl 2 rfl) ?_
            refine lv_aload_n hx hb dX10_test_126 rfl (lv_at hl 1 rfl) ?_
            refine va_get (D := (dC, dI)) (ci := 10) (v := .int x25_37) (C := RX10) (T := TX10) (N := 51) hx hb hts inw_X10_test_10 hown hK hP 0 rfl rfl 25 (by decide) (hts (.fieldLink RX10 243 "VatHouseModel" "value" "I") (List.mem_of_getElem? (i := 6) (by exact rfl))) (fun _ h9 => h9) rfl dX10_test_127 ?_
            refine va_iast hx hb hK hP hD hS 18 17 rfl rfl (by assumption) dX10_test_130 (fun H locs hP hD hS => ?_)
            have hP : va_P (dC, dI) vwCl (mw g h0 b (va_up (va_up (va_up (va_up i 22 x22_34) 23 x23_35) 24 x24_36) 25 x25_37) (va_up (va_up (va_up a 28 (upd (a 28) kk.toNatClampNeg x25_37)) 29 f_6) 30 f_31)) _ := hP
            have hD : va_D _ (mw g h0 b (va_up (va_up (va_up (va_up i 22 x22_34) 23 x23_35) 24 x24_36) 25 x25_37) (va_up (va_up (va_up a 28 (upd (a 28) kk.toNatClampNeg x25_37)) 29 f_6) 30 f_31)) := hD
            obtain ⟨f_43, ef_43⟩ : ∃ z, z = (upd (a 28) kk.toNatClampNeg x25_37) := ⟨_, rfl⟩
            rw [← ef_43] at hP hD
            refine lv_iconst (v := 1) hx hb dX10_test_131 (by decide) ?_
            exact M_z hx hb hr rfl hlocks (x22_34, x23_35, x24_36, x25_37, (a 27), f_43, f_6, f_31) hP hD hK hS ⟨Or.inr ⟨rfl, ⟨(gte_c htk hg2 hg3) ▸ hmq_41, htk, (by rw [ef_6, ← hz_z_3]), (fun h9 => absurd h9 (fun h9 => nlt_of_le (hw17.mpr h9) c_10)), (fun _ => rfl), 61, (by rw [hg2]; exact hg3), (by rw [hg2]; exact hz2_21.2), (by rw [ef_31, (ld_at ez_30 hw_20 (by have := (hmq_28).q.1; have := hL.2; omega)), ((Kp_sign (by decide)).mp hz2_21.2).2]), (by rw [hg2, ef_43, hz2_39.2.1])⟩⟩, ⟨Or.inl rfl, (fun x9 h9 => ⟨(by rw [ef_43]; exact if_neg h9), (by rw [ef_6]; exact if_neg h9), (by rw [ef_31]; exact if_neg h9)⟩)⟩⟩ (Nat.le_of_ble_eq_true rfl) (Nat.le_of_ble_eq_true rfl) dX10_test_132
      · have hP : va_P (dC, dI) vwCl (mw g h0 b (va_up i 22 x22_14) (va_up a 29 f_6)) _ := hP
        have hD : va_D _ (mw g h0 b (va_up i 22 x22_14) (va_up a 29 f_6)) := hD
        refine W.eq (g2 := F0 m 61 ls [.int 1]) rfl ?_
        have hmq_44 : MI (a 19) ln (gpa (Kp (a 19) ln) (nq (a 19) ln) (Kp (a 19) ln sq.1) sq) x22_14 (i 23) (i 24) := (hmq_13).sk hw_15
        refine lv_if_ne (tgt := 83) hx hb dX10_test_61 (by decide) (fun _ => ?_) (fun c_45 => absurd c_45 (by decide))
        have hg3 : (if (Kp (a 19) ln) (gpa (Kp (a 19) ln) (nq (a 19) ln) (Kp (a 19) ln sq.1) sq).1 = 60 then (60 : Int32) else 61) = 60 := if_pos hz2_16.2
        refine lv_aload_n hx hb dX10_test_83 rfl (lv_at hl 1 rfl) ?_
        refine va_get (D := (dC, dI)) (ci := 10) (v := .ref (b 30)) (C := RX10) (T := TX10) (N := 51) hx hb hts inw_X10_test_10 hown hK hP 0 rfl rfl 30 (by decide) (hts (.fieldLink RX10 72 "VatHouseModel" "sign" "[I") (List.mem_of_getElem? (i := 3) (by exact rfl))) (fun _ h9 => h9) rfl dX10_test_84 ?_
        refine lv_iload_n hx hb dX10_test_87 rfl (lv_at hl 2 rfl) ?_
        refine lv_aload_n hx hb dX10_test_88 rfl (lv_at hl 1 rfl) ?_
        refine va_get (D := (dC, dI)) (ci := 10) (v := .ref (b 19)) (C := RX10) (T := TX10) (N := 51) hx hb hts inw_X10_test_10 hown hK hP 0 rfl rfl 19 (by decide) (hts (.fieldLink RX10 53 "VatHouseModel" "tape" "[I") (List.mem_of_getElem? (i := 4) (by exact rfl))) (fun _ h9 => h9) rfl dX10_test_89 ?_
        refine lv_aload_n hx hb dX10_test_92 rfl (lv_at hl 1 rfl) ?_
        refine va_get (D := (dC, dI)) (ci := 10) (v := .int x22_14) (C := RX10) (T := TX10) (N := 51) hx hb hts inw_X10_test_10 hown hK hP 0 rfl rfl 22 (by decide) (hts (.fieldLink RX10 168 "VatHouseModel" "at" "I") (List.mem_of_getElem? (i := 1) (by exact rfl))) (fun _ h9 => h9) rfl dX10_test_93 ?_
        refine va_iald hx hb hK hP 15 14 rfl rfl (by rw [hw_15]; exact vp_in_nI (by have := hL.2; have := hz2_16.1; omega) (by decide)) dX10_test_96 ?_
        refine lv_topi (fun z_46 ez_46 => ?_)
        have ez_46 : z_46 = (a 19) x22_14.toNatClampNeg := ez_46
        refine va_iast hx hb hK hP hD hS 20 19 rfl rfl (by assumption) dX10_test_97 (fun H locs hP hD hS => ?_)
        have hP : va_P (dC, dI) vwCl (mw g h0 b (va_up i 22 x22_14) (va_up (va_up a 29 f_6) 30 (upd (a 30) kk.toNatClampNeg z_46))) _ := hP
        have hD : va_D _ (mw g h0 b (va_up i 22 x22_14) (va_up (va_up a 29 f_6) 30 (upd (a 30) kk.toNatClampNeg z_46))) := hD
        obtain ⟨f_47, ef_47⟩ : ∃ z, z = (upd (a 30) kk.toNatClampNeg z_46) := ⟨_, rfl⟩
        rw [← ef_47] at hP hD
        refine lv_aload_n hx hb dX10_test_98 rfl (lv_at hl 1 rfl) ?_
        refine lv_dup hx hb dX10_test_99 rfl ?_
        refine va_get (D := (dC, dI)) (ci := 10) (v := .int x22_14) (C := RX10) (T := TX10) (N := 51) hx hb hts inw_X10_test_10 hown hK hP 0 rfl rfl 22 (by decide) (hts (.fieldLink RX10 168 "VatHouseModel" "at" "I") (List.mem_of_getElem? (i := 1) (by exact rfl))) (fun _ h9 => h9) rfl dX10_test_100 ?_
        refine lv_iconst (v := 1) hx hb dX10_test_103 (by decide) ?_
        refine lv_iadd hx hb dX10_test_104 ?_
        refine lv_topi (fun z_48 ez_48 => ?_)
        refine va_put (D := (dC, dI)) (ci := 10) (v := .int z_48) (ty := .int) (C := RX10) (T := TX10) (N := 51) hx hb hts inw_X10_test_10 tyX10 tyX10_ok nmX10 hown hK hP hD hS 0 rfl rfl 22 (by decide) (hts (.fieldLink RX10 168 "VatHouseModel" "at" "I") (List.mem_of_getElem? (i := 1) (by exact rfl))) (fun _ h9 => h9) rfl (tyX10_ok 22 (by decide)) rfl rfl (Nat.le_of_ble_eq_true rfl) dX10_test_105 (fun H locs hP hD hS => ?_)
        have hP : va_P (dC, dI) vwCl (mw g h0 b (va_up i 22 z_48) (va_up (va_up a 29 f_6) 30 f_47)) _ := hP
        have hD : va_D _ (mw g h0 b (va_up i 22 z_48) (va_up (va_up a 29 f_6) 30 f_47)) := hD
        have hmq_49 : MI (a 19) ln (gpa (Kp (a 19) ln) (nq (a 19) ln) 60 (gpa (Kp (a 19) ln) (nq (a 19) ln) (Kp (a 19) ln sq.1) sq)) z_48 (i 23) (i 24) := (hmq_44).pass hz2_16.2 hz2_16.1 (by rw [ez_48, hw_15, nx_sign (by decide) ((Kp_sign (by decide)).mp hz2_16.2).2]; exact nI_1 _)
        refine lv_aload_n hx hb dX10_test_108 rfl (lv_at hl 1 rfl) ?_
        refine lv_iconst (v := 0) hx hb dX10_test_109 (by decide) ?_
        refine lv_sipush (v := 9999) hx hb dX10_test_110 (by decide) ?_
        refine M_V ⟨hx, hb, hml, hown, hts⟩ (m_X10_number l dC dI sa g h0 b ln (gpa (Kp (a 19) ln) (nq (a 19) ln) 60 (gpa (Kp (a 19) ln) (nq (a 19) ln) (Kp (a 19) ln sq.1) sq)) (va_up i 22 z_48) (va_up (va_up a 29 f_6) 30 f_47) (0 : Int32) (9999 : Int32) _ hL hmq_49) (cwV 2 hts gX10_test_X10_number rfl rfl rfl (by decide +kernel) ⟨Nat.le_of_ble_eq_true rfl, Nat.le_of_ble_eq_true rfl⟩) hP hD hK hS hA hev rfl rfl rfl rfl hl.1 rfl (Nat.le_of_ble_eq_true rfl) dX10_test_113 ⟨(Nat.le_of_ble_eq_true rfl), (Nat.le_of_ble_eq_true rfl)⟩ (fun r u H locs hw hP hD hS => ?_)
        obtain ⟨x22_50, x23_51, x24_52, x25_53⟩ := u
        have hw : ((r = some (.int 0) ∧ (MO (gnu (Kp (a 19) ln) (Vp (a 19) ln) (nq (a 19) ln) (0 : Int32) (9999 : Int32) (gpa (Kp (a 19) ln) (nq (a 19) ln) 60 (gpa (Kp (a 19) ln) (nq (a 19) ln) (Kp (a 19) ln sq.1) sq))) x23_51 x24_52)) ∨ (r = some (.int 1) ∧ (MI (a 19) ln (gnu (Kp (a 19) ln) (Vp (a 19) ln) (nq (a 19) ln) (0 : Int32) (9999 : Int32) (gpa (Kp (a 19) ln) (nq (a 19) ln) 60 (gpa (Kp (a 19) ln) (nq (a 19) ln) (Kp (a 19) ln sq.1) sq))) x22_50 x23_51 x24_52 ∧ x25_53 = (Vp (a 19) ln (gpa (Kp (a 19) ln) (nq (a 19) ln) 60 (gpa (Kp (a 19) ln) (nq (a 19) ln) (Kp (a 19) ln sq.1) sq)).1) ∧ (0 : Int32).toInt ≤ (Vp (a 19) ln (gpa (Kp (a 19) ln) (nq (a 19) ln) 60 (gpa (Kp (a 19) ln) (nq (a 19) ln) (Kp (a 19) ln sq.1) sq)).1).toInt ∧ (Vp (a 19) ln (gpa (Kp (a 19) ln) (nq (a 19) ln) 60 (gpa (Kp (a 19) ln) (nq (a 19) ln) (Kp (a 19) ln sq.1) sq)).1).toInt ≤ (9999 : Int32).toInt))) ∧ (True) := hw
        obtain ⟨⟨rfl, hz2_55⟩ | ⟨rfl, hz2_55⟩, hw_54⟩ := hw
        · have hP : va_P (dC, dI) vwCl (mw g h0 b (va_up (va_up (va_up (va_up i 22 x22_50) 23 x23_51) 24 x24_52) 25 x25_53) (va_up (va_up a 29 f_6) 30 f_47)) _ := hP
          have hD : va_D _ (mw g h0 b (va_up (va_up (va_up (va_up i 22 x22_50) 23 x23_51) 24 x24_52) 25 x25_53) (va_up (va_up a 29 f_6) 30 f_47)) := hD
          refine W.eq (g2 := F0 m 116 ls [.int 0]) rfl ?_
          refine lv_if_ne (tgt := 121) hx hb dX10_test_116 (by decide) (fun c_56 => absurd c_56 (by decide)) (fun _ => ?_)
          refine lv_iconst (v := 0) hx hb dX10_test_119 (by decide) ?_
          exact M_z hx hb hr rfl hlocks (x22_50, x23_51, x24_52, x25_53, (a 27), (a 28), f_6, f_47) hP hD hK hS ⟨Or.inl ⟨rfl, (gte_c htk hg2 hg3) ▸ hz2_55⟩, ⟨Or.inl rfl, (fun x9 h9 => ⟨rfl, (by rw [ef_6]; exact if_neg h9), (by rw [ef_47]; exact if_neg h9)⟩)⟩⟩ (Nat.le_of_ble_eq_true rfl) (Nat.le_of_ble_eq_true rfl) dX10_test_120
        · have hP : va_P (dC, dI) vwCl (mw g h0 b (va_up (va_up (va_up (va_up i 22 x22_50) 23 x23_51) 24 x24_52) 25 x25_53) (va_up (va_up a 29 f_6) 30 f_47)) _ := hP
          have hD : va_D _ (mw g h0 b (va_up (va_up (va_up (va_up i 22 x22_50) 23 x23_51) 24 x24_52) 25 x25_53) (va_up (va_up a 29 f_6) 30 f_47)) := hD
          refine W.eq (g2 := F0 m 116 ls [.int 1]) rfl ?_
          have hmq_57 : MI (a 19) ln (gnu (Kp (a 19) ln) (Vp (a 19) ln) (nq (a 19) ln) (0 : Int32) (9999 : Int32) (gpa (Kp (a 19) ln) (nq (a 19) ln) 60 (gpa (Kp (a 19) ln) (nq (a 19) ln) (Kp (a 19) ln sq.1) sq))) x22_50 x23_51 x24_52 := hz2_55.1
          refine lv_if_ne (tgt := 121) hx hb dX10_test_116 (by decide) (fun _ => ?_) (fun c_58 => absurd c_58 (by decide))
          refine lv_aload_n hx hb dX10_test_121 rfl (lv_at hl 1 rfl) ?_
          refine va_get (D := (dC, dI)) (ci := 10) (v := .ref (b 28)) (C := RX10) (T := TX10) (N := 51) hx hb hts inw_X10_test_10 hown hK hP 0 rfl rfl 28 (by decide) (hts (.fieldLink RX10 66 "VatHouseModel" "two" "[I") (List.mem_of_getElem? (i := 5) (by exact rfl))) (fun _ h9 => h9) rfl dX10_test_122 ?_
          refine lv_iload_n hx hb dX10_test_125 rfl (lv_at hl 2 rfl) ?_
          refine lv_aload_n hx hb dX10_test_126 rfl (lv_at hl 1 rfl) ?_
          refine va_get (D := (dC, dI)) (ci := 10) (v := .int x25_53) (C := RX10) (T := TX10) (N := 51) hx hb hts inw_X10_test_10 hown hK hP 0 rfl rfl 25 (by decide) (hts (.fieldLink RX10 243 "VatHouseModel" "value" "I") (List.mem_of_getElem? (i := 6) (by exact rfl))) (fun _ h9 => h9) rfl dX10_test_127 ?_
          refine va_iast hx hb hK hP hD hS 18 17 rfl rfl (by assumption) dX10_test_130 (fun H locs hP hD hS => ?_)
          have hP : va_P (dC, dI) vwCl (mw g h0 b (va_up (va_up (va_up (va_up i 22 x22_50) 23 x23_51) 24 x24_52) 25 x25_53) (va_up (va_up (va_up a 28 (upd (a 28) kk.toNatClampNeg x25_53)) 29 f_6) 30 f_47)) _ := hP
          have hD : va_D _ (mw g h0 b (va_up (va_up (va_up (va_up i 22 x22_50) 23 x23_51) 24 x24_52) 25 x25_53) (va_up (va_up (va_up a 28 (upd (a 28) kk.toNatClampNeg x25_53)) 29 f_6) 30 f_47)) := hD
          obtain ⟨f_59, ef_59⟩ : ∃ z, z = (upd (a 28) kk.toNatClampNeg x25_53) := ⟨_, rfl⟩
          rw [← ef_59] at hP hD
          refine lv_iconst (v := 1) hx hb dX10_test_131 (by decide) ?_
          exact M_z hx hb hr rfl hlocks (x22_50, x23_51, x24_52, x25_53, (a 27), f_59, f_6, f_47) hP hD hK hS ⟨Or.inr ⟨rfl, ⟨(gte_c htk hg2 hg3) ▸ hmq_57, htk, (by rw [ef_6, ← hz_z_3]), (fun h9 => absurd h9 (fun h9 => nlt_of_le (hw17.mpr h9) c_10)), (fun _ => rfl), 60, (by rw [hg2]; exact hg3), (by rw [hg2]; exact hz2_16.2), (by rw [ef_47, (ld_at ez_46 hw_15 (by have := (hmq_44).q.1; have := hL.2; omega)), ((Kp_sign (by decide)).mp hz2_16.2).2]), (by rw [hg2, ef_59, hz2_55.2.1])⟩⟩, ⟨Or.inl rfl, (fun x9 h9 => ⟨(by rw [ef_59]; exact if_neg h9), (by rw [ef_6]; exact if_neg h9), (by rw [ef_47]; exact if_neg h9)⟩)⟩⟩ (Nat.le_of_ble_eq_true rfl) (Nat.le_of_ble_eq_true rfl) dX10_test_132
    · have nc_10 := nlt_i c_10
      have lc_10 : (17 : Int32).toInt = 17 := by decide
      refine lv_aload_n hx hb dX10_test_39 rfl (lv_at hl 1 rfl) ?_
      refine lv_iload_n hx hb dX10_test_40 rfl (lv_at hl 2 rfl) ?_
      refine lv_iconst (v := 0) hx hb dX10_test_41 (by decide) ?_
      refine lv_iconst (v := 5) hx hb dX10_test_42 (by decide) ?_
      refine M_V ⟨hx, hb, hml, hown, hts⟩ (m_X10_single l dC dI sa g h0 b ln (gpa (Kp (a 19) ln) (nq (a 19) ln) (Kp (a 19) ln sq.1) sq) (va_up i 22 x22_7) (va_up a 29 f_6) kk (0 : Int32) (5 : Int32) _ hL hmq_9 hk) (cwV 3 hts gX10_test_X10_single rfl rfl rfl (by decide +kernel) ⟨Nat.le_of_ble_eq_true rfl, Nat.le_of_ble_eq_true rfl⟩) hP hD hK hS hA hev rfl rfl rfl rfl hl.1 rfl (Nat.le_of_ble_eq_true rfl) dX10_test_43 ⟨(Nat.le_of_ble_eq_true rfl), (Nat.le_of_ble_eq_true rfl)⟩ (fun r u H locs hw hP hD hS => ?_)
      obtain ⟨x22_60, x23_61, x24_62, x25_63, y27_64⟩ := u
      have hw : ((r = some (.int 0) ∧ (MO (gnu (Kp (a 19) ln) (Vp (a 19) ln) (nq (a 19) ln) (0 : Int32) (5 : Int32) (gpa (Kp (a 19) ln) (nq (a 19) ln) (Kp (a 19) ln sq.1) sq)) x23_61 x24_62 ∧ y27_64 = (a 27))) ∨ (r = some (.int 1) ∧ (MI (a 19) ln (gnu (Kp (a 19) ln) (Vp (a 19) ln) (nq (a 19) ln) (0 : Int32) (5 : Int32) (gpa (Kp (a 19) ln) (nq (a 19) ln) (Kp (a 19) ln sq.1) sq)) x22_60 x23_61 x24_62 ∧ (0 : Int32).toInt ≤ (Vp (a 19) ln (gpa (Kp (a 19) ln) (nq (a 19) ln) (Kp (a 19) ln sq.1) sq).1).toInt ∧ (Vp (a 19) ln (gpa (Kp (a 19) ln) (nq (a 19) ln) (Kp (a 19) ln sq.1) sq).1).toInt ≤ (5 : Int32).toInt ∧ y27_64 = upd (a 27) kk.toNatClampNeg (Vp (a 19) ln (gpa (Kp (a 19) ln) (nq (a 19) ln) (Kp (a 19) ln sq.1) sq).1)))) ∧ (True) := hw
      obtain ⟨⟨rfl, hz2_66⟩ | ⟨rfl, hz2_66⟩, hw_65⟩ := hw
      · have hP : va_P (dC, dI) vwCl (mw g h0 b (va_up (va_up (va_up (va_up i 22 x22_60) 23 x23_61) 24 x24_62) 25 x25_63) (va_up (va_up a 27 y27_64) 29 f_6)) _ := hP
        have hD : va_D _ (mw g h0 b (va_up (va_up (va_up (va_up i 22 x22_60) 23 x23_61) 24 x24_62) 25 x25_63) (va_up (va_up a 27 y27_64) 29 f_6)) := hD
        refine W.eq (g2 := F0 m 46 ls [.int 0]) rfl ?_
        refine lv_if_ne (tgt := 51) hx hb dX10_test_46 (by decide) (fun c_67 => absurd c_67 (by decide)) (fun _ => ?_)
        refine lv_iconst (v := 0) hx hb dX10_test_49 (by decide) ?_
        exact M_z hx hb hr rfl hlocks (x22_60, x23_61, x24_62, x25_63, y27_64, (a 28), f_6, (a 30)) hP hD hK hS ⟨Or.inl ⟨rfl, (gte_c htk (if_pos (hw17.mp (nlt_le c_10))) rfl) ▸ ((hz2_66.1).pa).nu⟩, ⟨Or.inl hz2_66.2, (fun x9 h9 => ⟨rfl, (by rw [ef_6]; exact if_neg h9), rfl⟩)⟩⟩ (Nat.le_of_ble_eq_true rfl) (Nat.le_of_ble_eq_true rfl) dX10_test_50
      · have hP : va_P (dC, dI) vwCl (mw g h0 b (va_up (va_up (va_up (va_up i 22 x22_60) 23 x23_61) 24 x24_62) 25 x25_63) (va_up (va_up a 27 y27_64) 29 f_6)) _ := hP
        have hD : va_D _ (mw g h0 b (va_up (va_up (va_up (va_up i 22 x22_60) 23 x23_61) 24 x24_62) 25 x25_63) (va_up (va_up a 27 y27_64) 29 f_6)) := hD
        refine W.eq (g2 := F0 m 46 ls [.int 1]) rfl ?_
        have hmq_68 : MI (a 19) ln (gnu (Kp (a 19) ln) (Vp (a 19) ln) (nq (a 19) ln) (0 : Int32) (5 : Int32) (gpa (Kp (a 19) ln) (nq (a 19) ln) (Kp (a 19) ln sq.1) sq)) x22_60 x23_61 x24_62 := hz2_66.1
        refine lv_if_ne (tgt := 51) hx hb dX10_test_46 (by decide) (fun _ => ?_) (fun c_69 => absurd c_69 (by decide))
        have hg2 : (if (Kp (a 19) ln) sq.1 = 17 ∨ (Kp (a 19) ln) sq.1 = 18 then gnu (Kp (a 19) ln) (Vp (a 19) ln) (nq (a 19) ln) 0 5 (gpa (Kp (a 19) ln) (nq (a 19) ln) ((Kp (a 19) ln) sq.1) sq) else gpa (Kp (a 19) ln) (nq (a 19) ln) ((Kp (a 19) ln) sq.1) sq) = (gnu (Kp (a 19) ln) (Vp (a 19) ln) (nq (a 19) ln) (0 : Int32) (5 : Int32) (gpa (Kp (a 19) ln) (nq (a 19) ln) (Kp (a 19) ln sq.1) sq)) := if_pos (hw17.mp (nlt_le c_10))
        refine lv_aload_n hx hb dX10_test_51 rfl (lv_at hl 1 rfl) ?_
        refine M_V ⟨hx, hb, hml, hown, hts⟩ (m_X10_skip l dC dI sa g h0 b ln (gnu (Kp (a 19) ln) (Vp (a 19) ln) (nq (a 19) ln) (0 : Int32) (5 : Int32) (gpa (Kp (a 19) ln) (nq (a 19) ln) (Kp (a 19) ln sq.1) sq)) (va_up (va_up (va_up (va_up i 22 x22_60) 23 x23_61) 24 x24_62) 25 x25_63) (va_up (va_up a 27 y27_64) 29 f_6)  _ hL hmq_68) (cwV 0 hts gX10_test_X10_skip rfl rfl rfl (by decide +kernel) ⟨Nat.le_of_ble_eq_true rfl, Nat.le_of_ble_eq_true rfl⟩) hP hD hK hS hA hev rfl rfl rfl rfl hl.1 rfl (Nat.le_of_ble_eq_true rfl) dX10_test_52 ⟨(Nat.le_of_ble_eq_true rfl), (Nat.le_of_ble_eq_true rfl)⟩ (fun r u H locs hw hP hD hS => ?_)
        obtain ⟨x22_70, rfl⟩ : ∃ z, z = u := ⟨_, rfl⟩
        have hw : (r = none) ∧ (x22_70 = nI (gnu (Kp (a 19) ln) (Vp (a 19) ln) (nq (a 19) ln) (0 : Int32) (5 : Int32) (gpa (Kp (a 19) ln) (nq (a 19) ln) (Kp (a 19) ln sq.1) sq)).1) := hw
        obtain ⟨rfl, hw_71⟩ := hw
        have hP : va_P (dC, dI) vwCl (mw g h0 b (va_up (va_up (va_up (va_up i 22 x22_70) 23 x23_61) 24 x24_62) 25 x25_63) (va_up (va_up a 27 y27_64) 29 f_6)) _ := hP
        have hD : va_D _ (mw g h0 b (va_up (va_up (va_up (va_up i 22 x22_70) 23 x23_61) 24 x24_62) 25 x25_63) (va_up (va_up a 27 y27_64) 29 f_6)) := hD
        refine W.eq (g2 := F0 m 55 ls []) rfl ?_
        have hmq_72 : MI (a 19) ln (gnu (Kp (a 19) ln) (Vp (a 19) ln) (nq (a 19) ln) (0 : Int32) (5 : Int32) (gpa (Kp (a 19) ln) (nq (a 19) ln) (Kp (a 19) ln sq.1) sq)) x22_70 x23_61 x24_62 := (hmq_68).sk hw_71
        refine lv_aload_n hx hb dX10_test_55 rfl (lv_at hl 1 rfl) ?_
        refine lv_bipush (v := 60) hx hb dX10_test_56 (by decide) ?_
        refine M_V ⟨hx, hb, hml, hown, hts⟩ (m_X10_isSign l dC dI sa g h0 b ln (gnu (Kp (a 19) ln) (Vp (a 19) ln) (nq (a 19) ln) (0 : Int32) (5 : Int32) (gpa (Kp (a 19) ln) (nq (a 19) ln) (Kp (a 19) ln sq.1) sq)) (va_up (va_up (va_up (va_up i 22 x22_70) 23 x23_61) 24 x24_62) 25 x25_63) (va_up (va_up a 27 y27_64) 29 f_6) (60 : Int32) _ hL hmq_72 (by decide)) (cwV 1 hts gX10_test_X10_isSign rfl rfl rfl (by decide +kernel) ⟨Nat.le_of_ble_eq_true rfl, Nat.le_of_ble_eq_true rfl⟩) hP hD hK hS hA hev rfl rfl rfl rfl hl.1 rfl (Nat.le_of_ble_eq_true rfl) dX10_test_58 ⟨(Nat.le_of_ble_eq_true rfl), (Nat.le_of_ble_eq_true rfl)⟩ (fun r u H locs hw hP hD hS => ?_)
        obtain ⟨x22_73, rfl⟩ : ∃ z, z = u := ⟨_, rfl⟩
        have hw : ((r = some (.int 0) ∧ (¬ Kp (a 19) ln (gnu (Kp (a 19) ln) (Vp (a 19) ln) (nq (a 19) ln) (0 : Int32) (5 : Int32) (gpa (Kp (a 19) ln) (nq (a 19) ln) (Kp (a 19) ln sq.1) sq)).1 = (60 : Int32))) ∨ (r = some (.int 1) ∧ ((gnu (Kp (a 19) ln) (Vp (a 19) ln) (nq (a 19) ln) (0 : Int32) (5 : Int32) (gpa (Kp (a 19) ln) (nq (a 19) ln) (Kp (a 19) ln sq.1) sq)).1 < ln ∧ Kp (a 19) ln (gnu (Kp (a 19) ln) (Vp (a 19) ln) (nq (a 19) ln) (0 : Int32) (5 : Int32) (gpa (Kp (a 19) ln) (nq (a 19) ln) (Kp (a 19) ln sq.1) sq)).1 = (60 : Int32)))) ∧ (x22_73 = nI (gnu (Kp (a 19) ln) (Vp (a 19) ln) (nq (a 19) ln) (0 : Int32) (5 : Int32) (gpa (Kp (a 19) ln) (nq (a 19) ln) (Kp (a 19) ln sq.1) sq)).1) := hw
        obtain ⟨⟨rfl, hz2_75⟩ | ⟨rfl, hz2_75⟩, hw_74⟩ := hw
        · have hP : va_P (dC, dI) vwCl (mw g h0 b (va_up (va_up (va_up (va_up i 22 x22_73) 23 x23_61) 24 x24_62) 25 x25_63) (va_up (va_up a 27 y27_64) 29 f_6)) _ := hP
          have hD : va_D _ (mw g h0 b (va_up (va_up (va_up (va_up i 22 x22_73) 23 x23_61) 24 x24_62) 25 x25_63) (va_up (va_up a 27 y27_64) 29 f_6)) := hD
          refine W.eq (g2 := F0 m 61 ls [.int 0]) rfl ?_
          have hmq_76 : MI (a 19) ln (gnu (Kp (a 19) ln) (Vp (a 19) ln) (nq (a 19) ln) (0 : Int32) (5 : Int32) (gpa (Kp (a 19) ln) (nq (a 19) ln) (Kp (a 19) ln sq.1) sq)) x22_73 x23_61 x24_62 := (hmq_72).sk hw_74
          refine lv_if_ne (tgt := 83) hx hb dX10_test_61 (by decide) (fun c_77 => absurd c_77 (by decide)) (fun _ => ?_)
          refine lv_aload_n hx hb dX10_test_64 rfl (lv_at hl 1 rfl) ?_
          refine lv_bipush (v := 61) hx hb dX10_test_65 (by decide) ?_
          refine M_V ⟨hx, hb, hml, hown, hts⟩ (m_X10_isSign l dC dI sa g h0 b ln (gnu (Kp (a 19) ln) (Vp (a 19) ln) (nq (a 19) ln) (0 : Int32) (5 : Int32) (gpa (Kp (a 19) ln) (nq (a 19) ln) (Kp (a 19) ln sq.1) sq)) (va_up (va_up (va_up (va_up i 22 x22_73) 23 x23_61) 24 x24_62) 25 x25_63) (va_up (va_up a 27 y27_64) 29 f_6) (61 : Int32) _ hL hmq_76 (by decide)) (cwV 1 hts gX10_test_X10_isSign rfl rfl rfl (by decide +kernel) ⟨Nat.le_of_ble_eq_true rfl, Nat.le_of_ble_eq_true rfl⟩) hP hD hK hS hA hev rfl rfl rfl rfl hl.1 rfl (Nat.le_of_ble_eq_true rfl) dX10_test_67 ⟨(Nat.le_of_ble_eq_true rfl), (Nat.le_of_ble_eq_true rfl)⟩ (fun r u H locs hw hP hD hS => ?_)
          obtain ⟨x22_78, rfl⟩ : ∃ z, z = u := ⟨_, rfl⟩
          have hw : ((r = some (.int 0) ∧ (¬ Kp (a 19) ln (gnu (Kp (a 19) ln) (Vp (a 19) ln) (nq (a 19) ln) (0 : Int32) (5 : Int32) (gpa (Kp (a 19) ln) (nq (a 19) ln) (Kp (a 19) ln sq.1) sq)).1 = (61 : Int32))) ∨ (r = some (.int 1) ∧ ((gnu (Kp (a 19) ln) (Vp (a 19) ln) (nq (a 19) ln) (0 : Int32) (5 : Int32) (gpa (Kp (a 19) ln) (nq (a 19) ln) (Kp (a 19) ln sq.1) sq)).1 < ln ∧ Kp (a 19) ln (gnu (Kp (a 19) ln) (Vp (a 19) ln) (nq (a 19) ln) (0 : Int32) (5 : Int32) (gpa (Kp (a 19) ln) (nq (a 19) ln) (Kp (a 19) ln sq.1) sq)).1 = (61 : Int32)))) ∧ (x22_78 = nI (gnu (Kp (a 19) ln) (Vp (a 19) ln) (nq (a 19) ln) (0 : Int32) (5 : Int32) (gpa (Kp (a 19) ln) (nq (a 19) ln) (Kp (a 19) ln sq.1) sq)).1) := hw
          obtain ⟨⟨rfl, hz2_80⟩ | ⟨rfl, hz2_80⟩, hw_79⟩ := hw
          · have hP : va_P (dC, dI) vwCl (mw g h0 b (va_up (va_up (va_up (va_up i 22 x22_78) 23 x23_61) 24 x24_62) 25 x25_63) (va_up (va_up a 27 y27_64) 29 f_6)) _ := hP
            have hD : va_D _ (mw g h0 b (va_up (va_up (va_up (va_up i 22 x22_78) 23 x23_61) 24 x24_62) 25 x25_63) (va_up (va_up a 27 y27_64) 29 f_6)) := hD
            refine W.eq (g2 := F0 m 70 ls [.int 0]) rfl ?_
            have hmq_81 : MI (a 19) ln (gnu (Kp (a 19) ln) (Vp (a 19) ln) (nq (a 19) ln) (0 : Int32) (5 : Int32) (gpa (Kp (a 19) ln) (nq (a 19) ln) (Kp (a 19) ln sq.1) sq)) x22_78 x23_61 x24_62 := (hmq_76).sk hw_79
            refine lv_if_ne (tgt := 83) hx hb dX10_test_70 (by decide) (fun c_82 => absurd c_82 (by decide)) (fun _ => ?_)
            refine lv_aload_n hx hb dX10_test_73 rfl (lv_at hl 1 rfl) ?_
            refine lv_iconst (v := 1) hx hb dX10_test_74 (by decide) ?_
            refine lv_aload_n hx hb dX10_test_75 rfl (lv_at hl 1 rfl) ?_
            refine va_get (D := (dC, dI)) (ci := 10) (v := .int x22_78) (C := RX10) (T := TX10) (N := 51) hx hb hts inw_X10_test_10 hown hK hP 0 rfl rfl 22 (by decide) (hts (.fieldLink RX10 168 "VatHouseModel" "at" "I") (List.mem_of_getElem? (i := 1) (by exact rfl))) (fun _ h9 => h9) rfl dX10_test_76 ?_
            refine M_V ⟨hx, hb, hml, hown, hts⟩ (m_X10_wrong l dC dI sa g h0 b (va_up (va_up (va_up (va_up i 22 x22_78) 23 x23_61) 24 x24_62) 25 x25_63) (va_up (va_up a 27 y27_64) 29 f_6) (1 : Int32) x22_78 _ (hmq_81).1) (cwV 2 hts gX10_test_X10_wrong rfl rfl rfl (by decide +kernel) ⟨Nat.le_of_ble_eq_true rfl, Nat.le_of_ble_eq_true rfl⟩) hP hD hK hS hA hev rfl rfl rfl rfl hl.1 rfl (Nat.le_of_ble_eq_true rfl) dX10_test_79 ⟨(Nat.le_of_ble_eq_true rfl), (Nat.le_of_ble_eq_true rfl)⟩ (fun r u H locs hw hP hD hS => ?_)
            obtain ⟨x23_83, x24_84⟩ := u
            have hw : ((r = some (.int 0) ∧ (x23_83 = (1 : Int32) ∧ x24_84 = x22_78)) ∨ (r = some (.int 1) ∧ (False))) ∧ (True) := hw
            obtain ⟨⟨rfl, hz2_86⟩ | ⟨rfl, hz2_86⟩, hw_85⟩ := hw
            · have hP : va_P (dC, dI) vwCl (mw g h0 b (va_up (va_up (va_up (va_up i 22 x22_78) 23 x23_83) 24 x24_84) 25 x25_63) (va_up (va_up a 27 y27_64) 29 f_6)) _ := hP
              have hD : va_D _ (mw g h0 b (va_up (va_up (va_up (va_up i 22 x22_78) 23 x23_83) 24 x24_84) 25 x25_63) (va_up (va_up a 27 y27_64) 29 f_6)) := hD
              refine W.eq (g2 := F0 m 82 ls [.int 0]) rfl ?_
              exact M_z hx hb hr rfl hlocks (x22_78, x23_83, x24_84, x25_63, y27_64, (a 28), f_6, (a 30)) hP hD hK hS ⟨Or.inl ⟨rfl, (gte_c htk hg2 (if_neg hz2_75)) ▸ ((hmq_81).fl hz2_80 hz2_86.1 (hz2_86.2.trans hw_79)).nu⟩, ⟨Or.inr ⟨_, hz2_66.2.1, hz2_66.2.2.1, hz2_66.2.2.2⟩, (fun x9 h9 => ⟨rfl, (by rw [ef_6]; exact if_neg h9), rfl⟩)⟩⟩ (Nat.le_of_ble_eq_true rfl) (Nat.le_of_ble_eq_true rfl) dX10_test_82
            · have hP : va_P (dC, dI) vwCl (mw g h0 b (va_up (va_up (va_up (va_up i 22 x22_78) 23 x23_83) 24 x24_84) 25 x25_63) (va_up (va_up a 27 y27_64) 29 f_6)) _ := hP
              have hD : va_D _ (mw g h0 b (va_up (va_up (va_up (va_up i 22 x22_78) 23 x23_83) 24 x24_84) 25 x25_63) (va_up (va_up a 27 y27_64) 29 f_6)) := hD
              refine W.eq (g2 := F0 m 82 ls [.int 1]) rfl ?_
              exact hz2_86.elim
          · have hP : va_P (dC, dI) vwCl (mw g h0 b (va_up (va_up (va_up (va_up i 22 x22_78) 23 x23_61) 24 x24_62) 25 x25_63) (va_up (va_up a 27 y27_64) 29 f_6)) _ := hP
            have hD : va_D _ (mw g h0 b (va_up (va_up (va_up (va_up i 22 x22_78) 23 x23_61) 24 x24_62) 25 x25_63) (va_up (va_up a 27 y27_64) 29 f_6)) := hD
            refine W.eq (g2 := F0 m 70 ls [.int 1]) rfl ?_
            have hmq_87 : MI (a 19) ln (gnu (Kp (a 19) ln) (Vp (a 19) ln) (nq (a 19) ln) (0 : Int32) (5 : Int32) (gpa (Kp (a 19) ln) (nq (a 19) ln) (Kp (a 19) ln sq.1) sq)) x22_78 x23_61 x24_62 := (hmq_76).sk hw_79
            refine lv_if_ne (tgt := 83) hx hb dX10_test_70 (by decide) (fun _ => ?_) (fun c_88 => absurd c_88 (by decide))
            have hg3 : (if (Kp (a 19) ln) (gnu (Kp (a 19) ln) (Vp (a 19) ln) (nq (a 19) ln) (0 : Int32) (5 : Int32) (gpa (Kp (a 19) ln) (nq (a 19) ln) (Kp (a 19) ln sq.1) sq)).1 = 60 then (60 : Int32) else 61) = 61 := if_neg hz2_75
            refine lv_aload_n hx hb dX10_test_83 rfl (lv_at hl 1 rfl) ?_
            refine va_get (D := (dC, dI)) (ci := 10) (v := .ref (b 30)) (C := RX10) (T := TX10) (N := 51) hx hb hts inw_X10_test_10 hown hK hP 0 rfl rfl 30 (by decide) (hts (.fieldLink RX10 72 "VatHouseModel" "sign" "[I") (List.mem_of_getElem? (i := 3) (by exact rfl))) (fun _ h9 => h9) rfl dX10_test_84 ?_
            refine lv_iload_n hx hb dX10_test_87 rfl (lv_at hl 2 rfl) ?_
            refine lv_aload_n hx hb dX10_test_88 rfl (lv_at hl 1 rfl) ?_
            refine va_get (D := (dC, dI)) (ci := 10) (v := .ref (b 19)) (C := RX10) (T := TX10) (N := 51) hx hb hts inw_X10_test_10 hown hK hP 0 rfl rfl 19 (by decide) (hts (.fieldLink RX10 53 "VatHouseModel" "tape" "[I") (List.mem_of_getElem? (i := 4) (by exact rfl))) (fun _ h9 => h9) rfl dX10_test_89 ?_
            refine lv_aload_n hx hb dX10_test_92 rfl (lv_at hl 1 rfl) ?_
            refine va_get (D := (dC, dI)) (ci := 10) (v := .int x22_78) (C := RX10) (T := TX10) (N := 51) hx hb hts inw_X10_test_10 hown hK hP 0 rfl rfl 22 (by decide) (hts (.fieldLink RX10 168 "VatHouseModel" "at" "I") (List.mem_of_getElem? (i := 1) (by exact rfl))) (fun _ h9 => h9) rfl dX10_test_93 ?_
            refine va_iald hx hb hK hP 15 14 rfl rfl (by rw [hw_79]; exact vp_in_nI (by have := hL.2; have := hz2_80.1; omega) (by decide)) dX10_test_96 ?_
            refine lv_topi (fun z_89 ez_89 => ?_)
            have ez_89 : z_89 = (a 19) x22_78.toNatClampNeg := ez_89
            refine va_iast hx hb hK hP hD hS 20 19 rfl rfl (by assumption) dX10_test_97 (fun H locs hP hD hS => ?_)
            have hP : va_P (dC, dI) vwCl (mw g h0 b (va_up (va_up (va_up (va_up i 22 x22_78) 23 x23_61) 24 x24_62) 25 x25_63) (va_up (va_up (va_up a 27 y27_64) 29 f_6) 30 (upd (a 30) kk.toNatClampNeg z_89))) _ := hP
            have hD : va_D _ (mw g h0 b (va_up (va_up (va_up (va_up i 22 x22_78) 23 x23_61) 24 x24_62) 25 x25_63) (va_up (va_up (va_up a 27 y27_64) 29 f_6) 30 (upd (a 30) kk.toNatClampNeg z_89))) := hD
            obtain ⟨f_90, ef_90⟩ : ∃ z, z = (upd (a 30) kk.toNatClampNeg z_89) := ⟨_, rfl⟩
            rw [← ef_90] at hP hD
            refine lv_aload_n hx hb dX10_test_98 rfl (lv_at hl 1 rfl) ?_
            refine lv_dup hx hb dX10_test_99 rfl ?_
            refine va_get (D := (dC, dI)) (ci := 10) (v := .int x22_78) (C := RX10) (T := TX10) (N := 51) hx hb hts inw_X10_test_10 hown hK hP 0 rfl rfl 22 (by decide) (hts (.fieldLink RX10 168 "VatHouseModel" "at" "I") (List.mem_of_getElem? (i := 1) (by exact rfl))) (fun _ h9 => h9) rfl dX10_test_100 ?_
            refine lv_iconst (v := 1) hx hb dX10_test_103 (by decide) ?_
            refine lv_iadd hx hb dX10_test_104 ?_
            refine lv_topi (fun z_91 ez_91 => ?_)
            refine va_put (D := (dC, dI)) (ci := 10) (v := .int z_91) (ty := .int) (C := RX10) (T := TX10) (N := 51) hx hb hts inw_X10_test_10 tyX10 tyX10_ok nmX10 hown hK hP hD hS 0 rfl rfl 22 (by decide) (hts (.fieldLink RX10 168 "VatHouseModel" "at" "I") (List.mem_of_getElem? (i := 1) (by exact rfl))) (fun _ h9 => h9) rfl (tyX10_ok 22 (by decide)) rfl rfl (Nat.le_of_ble_eq_true rfl) dX10_test_105 (fun H locs hP hD hS => ?_)
            have hP : va_P (dC, dI) vwCl (mw g h0 b (va_up (va_up (va_up (va_up i 22 z_91) 23 x23_61) 24 x24_62) 25 x25_63) (va_up (va_up (va_up a 27 y27_64) 29 f_6) 30 f_90)) _ := hP
            have hD : va_D _ (mw g h0 b (va_up (va_up (va_up (va_up i 22 z_91) 23 x23_61) 24 x24_62) 25 x25_63) (va_up (va_up (va_up a 27 y27_64) 29 f_6) 30 f_90)) := hD
            have hmq_92 : MI (a 19) ln (gpa (Kp (a 19) ln) (nq (a 19) ln) 61 (gnu (Kp (a 19) ln) (Vp (a 19) ln) (nq (a 19) ln) (0 : Int32) (5 : Int32) (gpa (Kp (a 19) ln) (nq (a 19) ln) (Kp (a 19) ln sq.1) sq))) z_91 x23_61 x24_62 := (hmq_87).pass hz2_80.2 hz2_80.1 (by rw [ez_91, hw_79, nx_sign (by decide) ((Kp_sign (by decide)).mp hz2_80.2).2]; exact nI_1 _)
            refine lv_aload_n hx hb dX10_test_108 rfl (lv_at hl 1 rfl) ?_
            refine lv_iconst (v := 0) hx hb dX10_test_109 (by decide) ?_
            refine lv_sipush (v := 9999) hx hb dX10_test_110 (by decide) ?_
            refine M_V ⟨hx, hb, hml, hown, hts⟩ (m_X10_number l dC dI sa g h0 b ln (gpa (Kp (a 19) ln) (nq (a 19) ln) 61 (gnu (Kp (a 19) ln) (Vp (a 19) ln) (nq (a 19) ln) (0 : Int32) (5 : Int32) (gpa (Kp (a 19) ln) (nq (a 19) ln) (Kp (a 19) ln sq.1) sq))) (va_up (va_up (va_up (va_up i 22 z_91) 23 x23_61) 24 x24_62) 25 x25_63) (va_up (va_up (va_up a 27 y27_64) 29 f_6) 30 f_90) (0 : Int32) (9999 : Int32) _ hL hmq_92) (cwV 2 hts gX10_test_X10_number rfl rfl rfl (by decide +kernel) ⟨Nat.le_of_ble_eq_true rfl, Nat.le_of_ble_eq_true rfl⟩) hP hD hK hS hA hev rfl rfl rfl rfl hl.1 rfl (Nat.le_of_ble_eq_true rfl) dX10_test_113 ⟨(Nat.le_of_ble_eq_true rfl), (Nat.le_of_ble_eq_true rfl)⟩ (fun r u H locs hw hP hD hS => ?_)
            obtain ⟨x22_93, x23_94, x24_95, x25_96⟩ := u
            have hw : ((r = some (.int 0) ∧ (MO (gnu (Kp (a 19) ln) (Vp (a 19) ln) (nq (a 19) ln) (0 : Int32) (9999 : Int32) (gpa (Kp (a 19) ln) (nq (a 19) ln) 61 (gnu (Kp (a 19) ln) (Vp (a 19) ln) (nq (a 19) ln) (0 : Int32) (5 : Int32) (gpa (Kp (a 19) ln) (nq (a 19) ln) (Kp (a 19) ln sq.1) sq)))) x23_94 x24_95)) ∨ (r = some (.int 1) ∧ (MI (a 19) ln (gnu (Kp (a 19) ln) (Vp (a 19) ln) (nq (a 19) ln) (0 : Int32) (9999 : Int32) (gpa (Kp (a 19) ln) (nq (a 19) ln) 61 (gnu (Kp (a 19) ln) (Vp (a 19) ln) (nq (a 19) ln) (0 : Int32) (5 : Int32) (gpa (Kp (a 19) ln) (nq (a 19) ln) (Kp (a 19) ln sq.1) sq)))) x22_93 x23_94 x24_95 ∧ x25_96 = (Vp (a 19) ln (gpa (Kp (a 19) ln) (nq (a 19) ln) 61 (gnu (Kp (a 19) ln) (Vp (a 19) ln) (nq (a 19) ln) (0 : Int32) (5 : Int32) (gpa (Kp (a 19) ln) (nq (a 19) ln) (Kp (a 19) ln sq.1) sq))).1) ∧ (0 : Int32).toInt ≤ (Vp (a 19) ln (gpa (Kp (a 19) ln) (nq (a 19) ln) 61 (gnu (Kp (a 19) ln) (Vp (a 19) ln) (nq (a 19) ln) (0 : Int32) (5 : Int32) (gpa (Kp (a 19) ln) (nq (a 19) ln) (Kp (a 19) ln sq.1) sq))).1).toInt ∧ (Vp (a 19) ln (gpa (Kp (a 19) ln) (nq (a 19) ln) 61 (gnu (Kp (a 19) ln) (Vp (a 19) ln) (nq (a 19) ln) (0 : Int32) (5 : Int32) (gpa (Kp (a 19) ln) (nq (a 19) ln) (Kp (a 19) ln sq.1) sq))).1).toInt ≤ (9999 : Int32).toInt))) ∧ (True) := hw
            obtain ⟨⟨rfl, hz2_98⟩ | ⟨rfl, hz2_98⟩, hw_97⟩ := hw
            · have hP : va_P (dC, dI) vwCl (mw g h0 b (va_up (va_up (va_up (va_up i 22 x22_93) 23 x23_94) 24 x24_95) 25 x25_96) (va_up (va_up (va_up a 27 y27_64) 29 f_6) 30 f_90)) _ := hP
              have hD : va_D _ (mw g h0 b (va_up (va_up (va_up (va_up i 22 x22_93) 23 x23_94) 24 x24_95) 25 x25_96) (va_up (va_up (va_up a 27 y27_64) 29 f_6) 30 f_90)) := hD
              refine W.eq (g2 := F0 m 116 ls [.int 0]) rfl ?_
              refine lv_if_ne (tgt := 121) hx hb dX10_test_116 (by decide) (fun c_99 => absurd c_99 (by decide)) (fun _ => ?_)
              refine lv_iconst (v := 0) hx hb dX10_test_119 (by decide) ?_
              exact M_z hx hb hr rfl hlocks (x22_93, x23_94, x24_95, x25_96, y27_64, (a 28), f_6, f_90) hP hD hK hS ⟨Or.inl ⟨rfl, (gte_c htk hg2 hg3) ▸ hz2_98⟩, ⟨Or.inr ⟨_, hz2_66.2.1, hz2_66.2.2.1, hz2_66.2.2.2⟩, (fun x9 h9 => ⟨rfl, (by rw [ef_6]; exact if_neg h9), (by rw [ef_90]; exact if_neg h9)⟩)⟩⟩ (Nat.le_of_ble_eq_true rfl) (Nat.le_of_ble_eq_true rfl) dX10_test_120
            · have hP : va_P (dC, dI) vwCl (mw g h0 b (va_up (va_up (va_up (va_up i 22 x22_93) 23 x23_94) 24 x24_95) 25 x25_96) (va_up (va_up (va_up a 27 y27_64) 29 f_6) 30 f_90)) _ := hP
              have hD : va_D _ (mw g h0 b (va_up (va_up (va_up (va_up i 22 x22_93) 23 x23_94) 24 x24_95) 25 x25_96) (va_up (va_up (va_up a 27 y27_64) 29 f_6) 30 f_90)) := hD
              refine W.eq (g2 := F0 m 116 ls [.int 1]) rfl ?_
              have hmq_100 : MI (a 19) ln (gnu (Kp (a 19) ln) (Vp (a 19) ln) (nq (a 19) ln) (0 : Int32) (9999 : Int32) (gpa (Kp (a 19) ln) (nq (a 19) ln) 61 (gnu (Kp (a 19) ln) (Vp (a 19) ln) (nq (a 19) ln) (0 : Int32) (5 : Int32) (gpa (Kp (a 19) ln) (nq (a 19) ln) (Kp (a 19) ln sq.1) sq)))) x22_93 x23_94 x24_95 := hz2_98.1
              refine lv_if_ne (tgt := 121) hx hb dX10_test_116 (by decide) (fun _ => ?_) (fun c_101 => absurd c_101 (by decide))
              refine lv_aload_n hx hb dX10_test_121 rfl (lv_at hl 1 rfl) ?_
              refine va_get (D := (dC, dI)) (ci := 10) (v := .ref (b 28)) (C := RX10) (T := TX10) (N := 51) hx hb hts inw_X10_test_10 hown hK hP 0 rfl rfl 28 (by decide) (hts (.fieldLink RX10 66 "VatHouseModel" "two" "[I") (List.mem_of_getElem? (i := 5) (by exact rfl))) (fun _ h9 => h9) rfl dX10_test_122 ?_
              refine lv_iload_n hx hb dX10_test_125 rfl (lv_at hl 2 rfl) ?_
              refine lv_aload_n hx hb dX10_test_126 rfl (lv_at hl 1 rfl) ?_
              refine va_get (D := (dC, dI)) (ci := 10) (v := .int x25_96) (C := RX10) (T := TX10) (N := 51) hx hb hts inw_X10_test_10 hown hK hP 0 rfl rfl 25 (by decide) (hts (.fieldLink RX10 243 "VatHouseModel" "value" "I") (List.mem_of_getElem? (i := 6) (by exact rfl))) (fun _ h9 => h9) rfl dX10_test_127 ?_
              refine va_iast hx hb hK hP hD hS 18 17 rfl rfl (by assumption) dX10_test_130 (fun H locs hP hD hS => ?_)
              have hP : va_P (dC, dI) vwCl (mw g h0 b (va_up (va_up (va_up (va_up i 22 x22_93) 23 x23_94) 24 x24_95) 25 x25_96) (va_up (va_up (va_up (va_up a 27 y27_64) 28 (upd (a 28) kk.toNatClampNeg x25_96)) 29 f_6) 30 f_90)) _ := hP
              have hD : va_D _ (mw g h0 b (va_up (va_up (va_up (va_up i 22 x22_93) 23 x23_94) 24 x24_95) 25 x25_96) (va_up (va_up (va_up (va_up a 27 y27_64) 28 (upd (a 28) kk.toNatClampNeg x25_96)) 29 f_6) 30 f_90)) := hD
              obtain ⟨f_102, ef_102⟩ : ∃ z, z = (upd (a 28) kk.toNatClampNeg x25_96) := ⟨_, rfl⟩
              rw [← ef_102] at hP hD
              refine lv_iconst (v := 1) hx hb dX10_test_131 (by decide) ?_
              exact M_z hx hb hr rfl hlocks (x22_93, x23_94, x24_95, x25_96, y27_64, f_102, f_6, f_90) hP hD hK hS ⟨Or.inr ⟨rfl, ⟨(gte_c htk hg2 hg3) ▸ hmq_100, htk, (by rw [ef_6, ← hz_z_3]), (fun _ => hz2_66.2.2.2), (fun h9 => absurd (hw17.mp (nlt_le c_10)) h9), 61, (by rw [hg2]; exact hg3), (by rw [hg2]; exact hz2_80.2), (by rw [ef_90, (ld_at ez_89 hw_79 (by have := (hmq_87).q.1; have := hL.2; omega)), ((Kp_sign (by decide)).mp hz2_80.2).2]), (by rw [hg2, ef_102, hz2_98.2.1])⟩⟩, ⟨Or.inr ⟨_, hz2_66.2.1, hz2_66.2.2.1, hz2_66.2.2.2⟩, (fun x9 h9 => ⟨(by rw [ef_102]; exact if_neg h9), (by rw [ef_6]; exact if_neg h9), (by rw [ef_90]; exact if_neg h9)⟩)⟩⟩ (Nat.le_of_ble_eq_true rfl) (Nat.le_of_ble_eq_true rfl) dX10_test_132
        · have hP : va_P (dC, dI) vwCl (mw g h0 b (va_up (va_up (va_up (va_up i 22 x22_73) 23 x23_61) 24 x24_62) 25 x25_63) (va_up (va_up a 27 y27_64) 29 f_6)) _ := hP
          have hD : va_D _ (mw g h0 b (va_up (va_up (va_up (va_up i 22 x22_73) 23 x23_61) 24 x24_62) 25 x25_63) (va_up (va_up a 27 y27_64) 29 f_6)) := hD
          refine W.eq (g2 := F0 m 61 ls [.int 1]) rfl ?_
          have hmq_103 : MI (a 19) ln (gnu (Kp (a 19) ln) (Vp (a 19) ln) (nq (a 19) ln) (0 : Int32) (5 : Int32) (gpa (Kp (a 19) ln) (nq (a 19) ln) (Kp (a 19) ln sq.1) sq)) x22_73 x23_61 x24_62 := (hmq_72).sk hw_74
          refine lv_if_ne (tgt := 83) hx hb dX10_test_61 (by decide) (fun _ => ?_) (fun c_104 => absurd c_104 (by decide))
          have hg3 : (if (Kp (a 19) ln) (gnu (Kp (a 19) ln) (Vp (a 19) ln) (nq (a 19) ln) (0 : Int32) (5 : Int32) (gpa (Kp (a 19) ln) (nq (a 19) ln) (Kp (a 19) ln sq.1) sq)).1 = 60 then (60 : Int32) else 61) = 60 := if_pos hz2_75.2
          refine lv_aload_n hx hb dX10_test_83 rfl (lv_at hl 1 rfl) ?_
          refine va_get (D := (dC, dI)) (ci := 10) (v := .ref (b 30)) (C := RX10) (T := TX10) (N := 51) hx hb hts inw_X10_test_10 hown hK hP 0 rfl rfl 30 (by decide) (hts (.fieldLink RX10 72 "VatHouseModel" "sign" "[I") (List.mem_of_getElem? (i := 3) (by exact rfl))) (fun _ h9 => h9) rfl dX10_test_84 ?_
          refine lv_iload_n hx hb dX10_test_87 rfl (lv_at hl 2 rfl) ?_
          refine lv_aload_n hx hb dX10_test_88 rfl (lv_at hl 1 rfl) ?_
          refine va_get (D := (dC, dI)) (ci := 10) (v := .ref (b 19)) (C := RX10) (T := TX10) (N := 51) hx hb hts inw_X10_test_10 hown hK hP 0 rfl rfl 19 (by decide) (hts (.fieldLink RX10 53 "VatHouseModel" "tape" "[I") (List.mem_of_getElem? (i := 4) (by exact rfl))) (fun _ h9 => h9) rfl dX10_test_89 ?_
          refine lv_aload_n hx hb dX10_test_92 rfl (lv_at hl 1 rfl) ?_
          refine va_get (D := (dC, dI)) (ci := 10) (v := .int x22_73) (C := RX10) (T := TX10) (N := 51) hx hb hts inw_X10_test_10 hown hK hP 0 rfl rfl 22 (by decide) (hts (.fieldLink RX10 168 "VatHouseModel" "at" "I") (List.mem_of_getElem? (i := 1) (by exact rfl))) (fun _ h9 => h9) rfl dX10_test_93 ?_
          refine va_iald hx hb hK hP 15 14 rfl rfl (by rw [hw_74]; exact vp_in_nI (by have := hL.2; have := hz2_75.1; omega) (by decide)) dX10_test_96 ?_
          refine lv_topi (fun z_105 ez_105 => ?_)
          have ez_105 : z_105 = (a 19) x22_73.toNatClampNeg := ez_105
          refine va_iast hx hb hK hP hD hS 20 19 rfl rfl (by assumption) dX10_test_97 (fun H locs hP hD hS => ?_)
          have hP : va_P (dC, dI) vwCl (mw g h0 b (va_up (va_up (va_up (va_up i 22 x22_73) 23 x23_61) 24 x24_62) 25 x25_63) (va_up (va_up (va_up a 27 y27_64) 29 f_6) 30 (upd (a 30) kk.toNatClampNeg z_105))) _ := hP
          have hD : va_D _ (mw g h0 b (va_up (va_up (va_up (va_up i 22 x22_73) 23 x23_61) 24 x24_62) 25 x25_63) (va_up (va_up (va_up a 27 y27_64) 29 f_6) 30 (upd (a 30) kk.toNatClampNeg z_105))) := hD
          obtain ⟨f_106, ef_106⟩ : ∃ z, z = (upd (a 30) kk.toNatClampNeg z_105) := ⟨_, rfl⟩
          rw [← ef_106] at hP hD
          refine lv_aload_n hx hb dX10_test_98 rfl (lv_at hl 1 rfl) ?_
          refine lv_dup hx hb dX10_test_99 rfl ?_
          refine va_get (D := (dC, dI)) (ci := 10) (v := .int x22_73) (C := RX10) (T := TX10) (N := 51) hx hb hts inw_X10_test_10 hown hK hP 0 rfl rfl 22 (by decide) (hts (.fieldLink RX10 168 "VatHouseModel" "at" "I") (List.mem_of_getElem? (i := 1) (by exact rfl))) (fun _ h9 => h9) rfl dX10_test_100 ?_
          refine lv_iconst (v := 1) hx hb dX10_test_103 (by decide) ?_
          refine lv_iadd hx hb dX10_test_104 ?_
          refine lv_topi (fun z_107 ez_107 => ?_)
          refine va_put (D := (dC, dI)) (ci := 10) (v := .int z_107) (ty := .int) (C := RX10) (T := TX10) (N := 51) hx hb hts inw_X10_test_10 tyX10 tyX10_ok nmX10 hown hK hP hD hS 0 rfl rfl 22 (by decide) (hts (.fieldLink RX10 168 "VatHouseModel" "at" "I") (List.mem_of_getElem? (i := 1) (by exact rfl))) (fun _ h9 => h9) rfl (tyX10_ok 22 (by decide)) rfl rfl (Nat.le_of_ble_eq_true rfl) dX10_test_105 (fun H locs hP hD hS => ?_)
          have hP : va_P (dC, dI) vwCl (mw g h0 b (va_up (va_up (va_up (va_up i 22 z_107) 23 x23_61) 24 x24_62) 25 x25_63) (va_up (va_up (va_up a 27 y27_64) 29 f_6) 30 f_106)) _ := hP
          have hD : va_D _ (mw g h0 b (va_up (va_up (va_up (va_up i 22 z_107) 23 x23_61) 24 x24_62) 25 x25_63) (va_up (va_up (va_up a 27 y27_64) 29 f_6) 30 f_106)) := hD
          have hmq_108 : MI (a 19) ln (gpa (Kp (a 19) ln) (nq (a 19) ln) 60 (gnu (Kp (a 19) ln) (Vp (a 19) ln) (nq (a 19) ln) (0 : Int32) (5 : Int32) (gpa (Kp (a 19) ln) (nq (a 19) ln) (Kp (a 19) ln sq.1) sq))) z_107 x23_61 x24_62 := (hmq_103).pass hz2_75.2 hz2_75.1 (by rw [ez_107, hw_74, nx_sign (by decide) ((Kp_sign (by decide)).mp hz2_75.2).2]; exact nI_1 _)
          refine lv_aload_n hx hb dX10_test_108 rfl (lv_at hl 1 rfl) ?_
          refine lv_iconst (v := 0) hx hb dX10_test_109 (by decide) ?_
          refine lv_sipush (v := 9999) hx hb dX10_test_110 (by decide) ?_
          refine M_V ⟨hx, hb, hml, hown, hts⟩ (m_X10_number l dC dI sa g h0 b ln (gpa (Kp (a 19) ln) (nq (a 19) ln) 60 (gnu (Kp (a 19) ln) (Vp (a 19) ln) (nq (a 19) ln) (0 : Int32) (5 : Int32) (gpa (Kp (a 19) ln) (nq (a 19) ln) (Kp (a 19) ln sq.1) sq))) (va_up (va_up (va_up (va_up i 22 z_107) 23 x23_61) 24 x24_62) 25 x25_63) (va_up (va_up (va_up a 27 y27_64) 29 f_6) 30 f_106) (0 : Int32) (9999 : Int32) _ hL hmq_108) (cwV 2 hts gX10_test_X10_number rfl rfl rfl (by decide +kernel) ⟨Nat.le_of_ble_eq_true rfl, Nat.le_of_ble_eq_true rfl⟩) hP hD hK hS hA hev rfl rfl rfl rfl hl.1 rfl (Nat.le_of_ble_eq_true rfl) dX10_test_113 ⟨(Nat.le_of_ble_eq_true rfl), (Nat.le_of_ble_eq_true rfl)⟩ (fun r u H locs hw hP hD hS => ?_)
          obtain ⟨x22_109, x23_110, x24_111, x25_112⟩ := u
          have hw : ((r = some (.int 0) ∧ (MO (gnu (Kp (a 19) ln) (Vp (a 19) ln) (nq (a 19) ln) (0 : Int32) (9999 : Int32) (gpa (Kp (a 19) ln) (nq (a 19) ln) 60 (gnu (Kp (a 19) ln) (Vp (a 19) ln) (nq (a 19) ln) (0 : Int32) (5 : Int32) (gpa (Kp (a 19) ln) (nq (a 19) ln) (Kp (a 19) ln sq.1) sq)))) x23_110 x24_111)) ∨ (r = some (.int 1) ∧ (MI (a 19) ln (gnu (Kp (a 19) ln) (Vp (a 19) ln) (nq (a 19) ln) (0 : Int32) (9999 : Int32) (gpa (Kp (a 19) ln) (nq (a 19) ln) 60 (gnu (Kp (a 19) ln) (Vp (a 19) ln) (nq (a 19) ln) (0 : Int32) (5 : Int32) (gpa (Kp (a 19) ln) (nq (a 19) ln) (Kp (a 19) ln sq.1) sq)))) x22_109 x23_110 x24_111 ∧ x25_112 = (Vp (a 19) ln (gpa (Kp (a 19) ln) (nq (a 19) ln) 60 (gnu (Kp (a 19) ln) (Vp (a 19) ln) (nq (a 19) ln) (0 : Int32) (5 : Int32) (gpa (Kp (a 19) ln) (nq (a 19) ln) (Kp (a 19) ln sq.1) sq))).1) ∧ (0 : Int32).toInt ≤ (Vp (a 19) ln (gpa (Kp (a 19) ln) (nq (a 19) ln) 60 (gnu (Kp (a 19) ln) (Vp (a 19) ln) (nq (a 19) ln) (0 : Int32) (5 : Int32) (gpa (Kp (a 19) ln) (nq (a 19) ln) (Kp (a 19) ln sq.1) sq))).1).toInt ∧ (Vp (a 19) ln (gpa (Kp (a 19) ln) (nq (a 19) ln) 60 (gnu (Kp (a 19) ln) (Vp (a 19) ln) (nq (a 19) ln) (0 : Int32) (5 : Int32) (gpa (Kp (a 19) ln) (nq (a 19) ln) (Kp (a 19) ln sq.1) sq))).1).toInt ≤ (9999 : Int32).toInt))) ∧ (True) := hw
          obtain ⟨⟨rfl, hz2_114⟩ | ⟨rfl, hz2_114⟩, hw_113⟩ := hw
          · have hP : va_P (dC, dI) vwCl (mw g h0 b (va_up (va_up (va_up (va_up i 22 x22_109) 23 x23_110) 24 x24_111) 25 x25_112) (va_up (va_up (va_up a 27 y27_64) 29 f_6) 30 f_106)) _ := hP
            have hD : va_D _ (mw g h0 b (va_up (va_up (va_up (va_up i 22 x22_109) 23 x23_110) 24 x24_111) 25 x25_112) (va_up (va_up (va_up a 27 y27_64) 29 f_6) 30 f_106)) := hD
            refine W.eq (g2 := F0 m 116 ls [.int 0]) rfl ?_
            refine lv_if_ne (tgt := 121) hx hb dX10_test_116 (by decide) (fun c_115 => absurd c_115 (by decide)) (fun _ => ?_)
            refine lv_iconst (v := 0) hx hb dX10_test_119 (by decide) ?_
            exact M_z hx hb hr rfl hlocks (x22_109, x23_110, x24_111, x25_112, y27_64, (a 28), f_6, f_106) hP hD hK hS ⟨Or.inl ⟨rfl, (gte_c htk hg2 hg3) ▸ hz2_114⟩, ⟨Or.inr ⟨_, hz2_66.2.1, hz2_66.2.2.1, hz2_66.2.2.2⟩, (fun x9 h9 => ⟨rfl, (by rw [ef_6]; exact if_neg h9), (by rw [ef_106]; exact if_neg h9)⟩)⟩⟩ (Nat.le_of_ble_eq_true rfl) (Nat.le_of_ble_eq_true rfl) dX10_test_120
          · have hP : va_P (dC, dI) vwCl (mw g h0 b (va_up (va_up (va_up (va_up i 22 x22_109) 23 x23_110) 24 x24_111) 25 x25_112) (va_up (va_up (va_up a 27 y27_64) 29 f_6) 30 f_106)) _ := hP
            have hD : va_D _ (mw g h0 b (va_up (va_up (va_up (va_up i 22 x22_109) 23 x23_110) 24 x24_111) 25 x25_112) (va_up (va_up (va_up a 27 y27_64) 29 f_6) 30 f_106)) := hD
            refine W.eq (g2 := F0 m 116 ls [.int 1]) rfl ?_
            have hmq_116 : MI (a 19) ln (gnu (Kp (a 19) ln) (Vp (a 19) ln) (nq (a 19) ln) (0 : Int32) (9999 : Int32) (gpa (Kp (a 19) ln) (nq (a 19) ln) 60 (gnu (Kp (a 19) ln) (Vp (a 19) ln) (nq (a 19) ln) (0 : Int32) (5 : Int32) (gpa (Kp (a 19) ln) (nq (a 19) ln) (Kp (a 19) ln sq.1) sq)))) x22_109 x23_110 x24_111 := hz2_114.1
            refine lv_if_ne (tgt := 121) hx hb dX10_test_116 (by decide) (fun _ => ?_) (fun c_117 => absurd c_117 (by decide))
            refine lv_aload_n hx hb dX10_test_121 rfl (lv_at hl 1 rfl) ?_
            refine va_get (D := (dC, dI)) (ci := 10) (v := .ref (b 28)) (C := RX10) (T := TX10) (N := 51) hx hb hts inw_X10_test_10 hown hK hP 0 rfl rfl 28 (by decide) (hts (.fieldLink RX10 66 "VatHouseModel" "two" "[I") (List.mem_of_getElem? (i := 5) (by exact rfl))) (fun _ h9 => h9) rfl dX10_test_122 ?_
            refine lv_iload_n hx hb dX10_test_125 rfl (lv_at hl 2 rfl) ?_
            refine lv_aload_n hx hb dX10_test_126 rfl (lv_at hl 1 rfl) ?_
            refine va_get (D := (dC, dI)) (ci := 10) (v := .int x25_112) (C := RX10) (T := TX10) (N := 51) hx hb hts inw_X10_test_10 hown hK hP 0 rfl rfl 25 (by decide) (hts (.fieldLink RX10 243 "VatHouseModel" "value" "I") (List.mem_of_getElem? (i := 6) (by exact rfl))) (fun _ h9 => h9) rfl dX10_test_127 ?_
            refine va_iast hx hb hK hP hD hS 18 17 rfl rfl (by assumption) dX10_test_130 (fun H locs hP hD hS => ?_)
            have hP : va_P (dC, dI) vwCl (mw g h0 b (va_up (va_up (va_up (va_up i 22 x22_109) 23 x23_110) 24 x24_111) 25 x25_112) (va_up (va_up (va_up (va_up a 27 y27_64) 28 (upd (a 28) kk.toNatClampNeg x25_112)) 29 f_6) 30 f_106)) _ := hP
            have hD : va_D _ (mw g h0 b (va_up (va_up (va_up (va_up i 22 x22_109) 23 x23_110) 24 x24_111) 25 x25_112) (va_up (va_up (va_up (va_up a 27 y27_64) 28 (upd (a 28) kk.toNatClampNeg x25_112)) 29 f_6) 30 f_106)) := hD
            obtain ⟨f_118, ef_118⟩ : ∃ z, z = (upd (a 28) kk.toNatClampNeg x25_112) := ⟨_, rfl⟩
            rw [← ef_118] at hP hD
            refine lv_iconst (v := 1) hx hb dX10_test_131 (by decide) ?_
            exact M_z hx hb hr rfl hlocks (x22_109, x23_110, x24_111, x25_112, y27_64, f_118, f_6, f_106) hP hD hK hS ⟨Or.inr ⟨rfl, ⟨(gte_c htk hg2 hg3) ▸ hmq_116, htk, (by rw [ef_6, ← hz_z_3]), (fun _ => hz2_66.2.2.2), (fun h9 => absurd (hw17.mp (nlt_le c_10)) h9), 60, (by rw [hg2]; exact hg3), (by rw [hg2]; exact hz2_75.2), (by rw [ef_106, (ld_at ez_105 hw_74 (by have := (hmq_103).q.1; have := hL.2; omega)), ((Kp_sign (by decide)).mp hz2_75.2).2]), (by rw [hg2, ef_118, hz2_114.2.1])⟩⟩, ⟨Or.inr ⟨_, hz2_66.2.1, hz2_66.2.2.1, hz2_66.2.2.2⟩, (fun x9 h9 => ⟨(by rw [ef_118]; exact if_neg h9), (by rw [ef_6]; exact if_neg h9), (by rw [ef_106]; exact if_neg h9)⟩)⟩⟩ (Nat.le_of_ble_eq_true rfl) (Nat.le_of_ble_eq_true rfl) dX10_test_132
  · have nc_5 := nle_i c_5
    have lc_5 : (14 : Int32).toInt = 14 := by decide
    refine lv_aload_n hx hb dX10_test_11 rfl (lv_at hl 1 rfl) ?_
    refine lv_iconst (v := 1) hx hb dX10_test_12 (by decide) ?_
    refine lv_aload_n hx hb dX10_test_13 rfl (lv_at hl 1 rfl) ?_
    refine va_get (D := (dC, dI)) (ci := 10) (v := .int x22_1) (C := RX10) (T := TX10) (N := 51) hx hb hts inw_X10_test_10 hown hK hP 0 rfl rfl 22 (by decide) (hts (.fieldLink RX10 168 "VatHouseModel" "at" "I") (List.mem_of_getElem? (i := 1) (by exact rfl))) (fun _ h9 => h9) rfl dX10_test_14 ?_
    refine M_V ⟨hx, hb, hml, hown, hts⟩ (m_X10_wrong l dC dI sa g h0 b (va_up i 22 x22_1) a (1 : Int32) x22_1 _ (hmq_4).1) (cwV 2 hts gX10_test_X10_wrong rfl rfl rfl (by decide +kernel) ⟨Nat.le_of_ble_eq_true rfl, Nat.le_of_ble_eq_true rfl⟩) hP hD hK hS hA hev rfl rfl rfl rfl hl.1 rfl (Nat.le_of_ble_eq_true rfl) dX10_test_17 ⟨(Nat.le_of_ble_eq_true rfl), (Nat.le_of_ble_eq_true rfl)⟩ (fun r u H locs hw hP hD hS => ?_)
    obtain ⟨x23_119, x24_120⟩ := u
    have hw : ((r = some (.int 0) ∧ (x23_119 = (1 : Int32) ∧ x24_120 = x22_1)) ∨ (r = some (.int 1) ∧ (False))) ∧ (True) := hw
    obtain ⟨⟨rfl, hz2_122⟩ | ⟨rfl, hz2_122⟩, hw_121⟩ := hw
    · have hP : va_P (dC, dI) vwCl (mw g h0 b (va_up (va_up (va_up i 22 x22_1) 23 x23_119) 24 x24_120) a) _ := hP
      have hD : va_D _ (mw g h0 b (va_up (va_up (va_up i 22 x22_1) 23 x23_119) 24 x24_120) a) := hD
      refine W.eq (g2 := F0 m 20 ls [.int 0]) rfl ?_
      exact M_z hx hb hr rfl hlocks (x22_1, x23_119, x24_120, (i 25), (a 27), (a 28), (a 29), (a 30)) hP hD hK hS ⟨Or.inl ⟨rfl, (hmq_4).te0 hz_z_3 (nle_lt c_5) hz2_122.1 (hz2_122.2.trans hw_2)⟩, ⟨Or.inl rfl, (fun x9 h9 => ⟨rfl, rfl, rfl⟩)⟩⟩ (Nat.le_of_ble_eq_true rfl) (Nat.le_of_ble_eq_true rfl) dX10_test_20
    · have hP : va_P (dC, dI) vwCl (mw g h0 b (va_up (va_up (va_up i 22 x22_1) 23 x23_119) 24 x24_120) a) _ := hP
      have hD : va_D _ (mw g h0 b (va_up (va_up (va_up i 22 x22_1) 23 x23_119) 24 x24_120) a) := hD
      refine W.eq (g2 := F0 m 20 ls [.int 1]) rfl ?_
      exact hz2_122.elim
