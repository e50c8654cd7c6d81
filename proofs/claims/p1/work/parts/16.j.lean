theorem ne_out {x : Int32} (h : x < 0 ∨ 5 < x) : ¬ x = 0 ∧ ¬ x = 1 ∧ ¬ x = 2 ∧ ¬ x = 3 ∧ ¬ x = 4 ∧ ¬ x = 5 := by
  refine ⟨?_, ?_, ?_, ?_, ?_, ?_⟩ <;> (rintro rfl; revert h; decide)
theorem is5 {x : Int32} (h0 : ¬ x < 0) (h5 : ¬ 5 < x) (n0 : ¬ x = 0) (n1 : ¬ x = 1) (n2 : ¬ x = 2) (n3 : ¬ x = 3) (n4 : ¬ x = 4) : x = 5 := by
  rw [Int32.lt_iff_toInt_lt] at h0 h5
  have a0 : (0 : Int32).toInt = 0 := by decide
  have a5 : (5 : Int32).toInt = 5 := by decide
  rw [a0] at h0
  rw [a5] at h5
  have e0 : x.toInt ≠ 0 := fun h => n0 (Int32.toInt_inj.mp h)
  have e1 : x.toInt ≠ 1 := fun h => n1 (Int32.toInt_inj.mp h)
  have e2 : x.toInt ≠ 2 := fun h => n2 (Int32.toInt_inj.mp h)
  have e3 : x.toInt ≠ 3 := fun h => n3 (Int32.toInt_inj.mp h)
  have e4 : x.toInt ≠ 4 := fun h => n4 (Int32.toInt_inj.mp h)
  exact Int32.toInt_inj.mp (by rw [a5]; omega)

theorem tab_out5 {x : Int32} (h0 : ¬ x = 0) (h1 : ¬ x = 1) (h2 : ¬ x = 2) (h3 : ¬ x = 3) (h4 : ¬ x = 4) : x.toInt < 0 ∨ 4 < x.toInt := by
  have e0 : x.toInt ≠ 0 := fun h => h0 (Int32.toInt_inj.mp h)
  have e1 : x.toInt ≠ 1 := fun h => h1 (Int32.toInt_inj.mp h)
  have e2 : x.toInt ≠ 2 := fun h => h2 (Int32.toInt_inj.mp h)
  have e3 : x.toInt ≠ 3 := fun h => h3 (Int32.toInt_inj.mp h)
  have e4 : x.toInt ≠ 4 := fun h => h4 (Int32.toInt_inj.mp h)
  omega

abbrev rm_X10_count : Room := { frames := 1, cells := 0, slots := 0, locals := 22 }
theorem inw_X10_count_10 : ∀ w ∈ wsX100, w ∈ wsX10_count := by decide +kernel
set_option maxHeartbeats 800000 in
set_option maxRecDepth 100000 in
theorem c_X10_count (l : Launch) (dC : Nat → ClassId) (dI : Nat → Nat → Nat) (sa : Nat → Nat) (hlt : l.stackTraces = false) (sz : Nat) (h0 : Nat) (md : Nat → Nat) (mq : Nat → ClassId) (p0 : Int32) : CT l dC dI sa yX10_count wsX10_count rm_X10_count [.ref h0, .int p0] [(h0, .inr (10, [.int 0, .int 0, .int 0, .int 0, .ref (md 4), .ref (md 5), .ref (md 6), .ref (md 7), .ref (md 8), .ref (md 9), .ref (md 10), .ref (md 11), .int 0, .ref (md 13), .ref (md 14), .ref (md 15), .ref (md 16), .ref (md 17), .ref (md 18), .ref (md 19), .int 0, .int 0, .int 0, .int 0, .int (-1), .int 0, .ref (md 26), .ref (md 27), .ref (md 28), .ref (md 29), .ref (md 30), .ref (md 31), .ref (md 32), .ref (md 33), .ref (md 34), .ref (md 35), .int 0, .int 0, .int 0, .int 0, .int 0, .int 0, .int 0, .int 0, .int (-1), .int 0, .int 0, .ref (md 47), .ref (md 48), .ref (md 49), .ref (md 50)]))] [] sz (fun (r : Option Value) (u : Int32 × (Nat → Int32)) => match u with | (x, J) => r = some (.int x) ∧ (E_count p0 = (J 0, x))) (fun (u : Int32 × (Nat → Int32)) => match u with | (x, J) => [(h0, .inr (10, [.int (J 0), .int (J 1), .int (J 2), .int (J 3), .ref (md 4), .ref (md 5), .ref (md 6), .ref (md 7), .ref (md 8), .ref (md 9), .ref (md 10), .ref (md 11), .int (J 12), .ref (md 13), .ref (md 14), .ref (md 15), .ref (md 16), .ref (md 17), .ref (md 18), .ref (md 19), .int (J 20), .int (J 21), .int (J 22), .int (J 23), .int (J 24), .int (J 25), .ref (md 26), .ref (md 27), .ref (md 28), .ref (md 29), .ref (md 30), .ref (md 31), .ref (md 32), .ref (md 33), .ref (md 34), .ref (md 35), .int (J 36), .int (J 37), .int (J 38), .int (J 39), .int (J 40), .int (J 41), .int (J 42), .int (J 43), .int (J 44), .int (J 45), .int (J 46), .ref (md 47), .ref (md 48), .ref (md 49), .ref (md 50)]))]) (fun (u : Int32 × (Nat → Int32)) => match u with | (x, J) => []) 0 0 := by
  refine CT.start (cc := cX10_count) (maxL := 2) (ret := (some .int)) (by decide) rfl (Nat.le_of_ble_eq_true rfl) ?_
  intro p e s m below meth c ls hst hP hK hD hev hS hl
  obtain ⟨hx, hb, hr, hml, hts, hown, hlocks, hin⟩ := hst
  have hown : s.vm.findClass RX10 = some m.cls := hown
  have hin : meth.name = yX10_count.name := hin
  have hA : ∀ q : Nat, s.heap.size ≤ q → va_A [(h0, .inr (10, [.int 0, .int 0, .int 0, .int 0, .ref (md 4), .ref (md 5), .ref (md 6), .ref (md 7), .ref (md 8), .ref (md 9), .ref (md 10), .ref (md 11), .int 0, .ref (md 13), .ref (md 14), .ref (md 15), .ref (md 16), .ref (md 17), .ref (md 18), .ref (md 19), .int 0, .int 0, .int 0, .int 0, .int (-1), .int 0, .ref (md 26), .ref (md 27), .ref (md 28), .ref (md 29), .ref (md 30), .ref (md 31), .ref (md 32), .ref (md 33), .ref (md 34), .ref (md 35), .int 0, .int 0, .int 0, .int 0, .int 0, .int 0, .int 0, .int 0, .int (-1), .int 0, .int 0, .ref (md 47), .ref (md 48), .ref (md 49), .ref (md 50)]))] s.heap.size q := fun _ h => Or.inr h
  have hl : lv_has ls 2 [(0, .ref h0), (1, .int p0)] := hl
  refine lv_aload_n hx hb dX10_count_0 rfl (lv_at hl 0 rfl) ?_
  refine lv_iconst (v := 0) hx hb dX10_count_1 (by decide) ?_
  refine va_put (D := (dC, dI)) (ci := 10) (v := .int 0) (ty := .int) (C := RX10) (T := TX10) (N := 51) hx hb hts inw_X10_count_10 tyX10 tyX10_ok nmX10 hown hK hP hD hS 0 rfl rfl 0 (by decide) (hts (.fieldLink RX10 105 "VatHouseModel" "thrown" "I") (by decide +kernel)) (fun _ h9 => h9) rfl (by decide +kernel) rfl rfl (Nat.le_of_ble_eq_true rfl) dX10_count_2 (fun H locs hP hD hS => ?_)
  have hP : va_P (dC, dI) vwCl [(h0, .inr (10, [.int 0, .int 0, .int 0, .int 0, .ref (md 4), .ref (md 5), .ref (md 6), .ref (md 7), .ref (md 8), .ref (md 9), .ref (md 10), .ref (md 11), .int 0, .ref (md 13), .ref (md 14), .ref (md 15), .ref (md 16), .ref (md 17), .ref (md 18), .ref (md 19), .int 0, .int 0, .int 0, .int 0, .int (-1), .int 0, .ref (md 26), .ref (md 27), .ref (md 28), .ref (md 29), .ref (md 30), .ref (md 31), .ref (md 32), .ref (md 33), .ref (md 34), .ref (md 35), .int 0, .int 0, .int 0, .int 0, .int 0, .int 0, .int 0, .int 0, .int (-1), .int 0, .int 0, .ref (md 47), .ref (md 48), .ref (md 49), .ref (md 50)]))] _ := hP
  have hD : va_D _ [(h0, .inr (10, [.int 0, .int 0, .int 0, .int 0, .ref (md 4), .ref (md 5), .ref (md 6), .ref (md 7), .ref (md 8), .ref (md 9), .ref (md 10), .ref (md 11), .int 0, .ref (md 13), .ref (md 14), .ref (md 15), .ref (md 16), .ref (md 17), .ref (md 18), .ref (md 19), .int 0, .int 0, .int 0, .int 0, .int (-1), .int 0, .ref (md 26), .ref (md 27), .ref (md 28), .ref (md 29), .ref (md 30), .ref (md 31), .ref (md 32), .ref (md 33), .ref (md 34), .ref (md 35), .int 0, .int 0, .int 0, .int 0, .int 0, .int 0, .int 0, .int 0, .int (-1), .int 0, .int 0, .ref (md 47), .ref (md 48), .ref (md 49), .ref (md 50)]))] := hD
  refine lv_aload_n hx hb dX10_count_5 rfl (lv_at hl 0 rfl) ?_
  refine lv_iload_n hx hb dX10_count_6 rfl (lv_at hl 1 rfl) ?_
  refine lv_if_lt (tgt := 19) hx hb dX10_count_7 (by decide) (fun c_1 => ?_) (fun c_1 => ?_)
  · refine lv_iconst (v := 0) hx hb dX10_count_19 (by decide) ?_
    refine lv_iconst (v := 1) hx hb dX10_count_20 (by decide) ?_
    refine go_V (wr := []) ⟨hx, hb, hml, hown, hts⟩ (c_X10_right_1 l dC dI sa hlt _ h0 md ) (cwV 2 hts gX10_count_X10_right rfl rfl rfl (by decide +kernel) ⟨Nat.le_of_ble_eq_true rfl, Nat.le_of_ble_eq_true rfl⟩) hP hD hK hS hA hev [0] [] [] rfl rfl rfl rfl (by decide) rfl 0 10 rfl rfl rfl rfl hl.1 rfl (Nat.le_of_ble_eq_true rfl) dX10_count_21 ⟨Nat.le_of_ble_eq_true rfl, Nat.le_of_ble_eq_true rfl⟩ (fun r u H locs hw hP hD hK hS => ?_)
    have hw : r = some (.int 0) ∧ (True) := hw
    obtain ⟨rfl, hw_2⟩ := hw
    have hP : va_P (dC, dI) vwCl [(h0, .inr (10, [.int 1, .int 0, .int 0, .int 0, .ref (md 4), .ref (md 5), .ref (md 6), .ref (md 7), .ref (md 8), .ref (md 9), .ref (md 10), .ref (md 11), .int 0, .ref (md 13), .ref (md 14), .ref (md 15), .ref (md 16), .ref (md 17), .ref (md 18), .ref (md 19), .int 0, .int 0, .int 0, .int 0, .int (-1), .int 0, .ref (md 26), .ref (md 27), .ref (md 28), .ref (md 29), .ref (md 30), .ref (md 31), .ref (md 32), .ref (md 33), .ref (md 34), .ref (md 35), .int 0, .int 0, .int 0, .int 0, .int 0, .int 0, .int 0, .int 0, .int (-1), .int 0, .int 0, .ref (md 47), .ref (md 48), .ref (md 49), .ref (md 50)]))] _ := hP
    have hD : va_D _ [(h0, .inr (10, [.int 1, .int 0, .int 0, .int 0, .ref (md 4), .ref (md 5), .ref (md 6), .ref (md 7), .ref (md 8), .ref (md 9), .ref (md 10), .ref (md 11), .int 0, .ref (md 13), .ref (md 14), .ref (md 15), .ref (md 16), .ref (md 17), .ref (md 18), .ref (md 19), .int 0, .int 0, .int 0, .int 0, .int (-1), .int 0, .ref (md 26), .ref (md 27), .ref (md 28), .ref (md 29), .ref (md 30), .ref (md 31), .ref (md 32), .ref (md 33), .ref (md 34), .ref (md 35), .int 0, .int 0, .int 0, .int 0, .int 0, .int 0, .int 0, .int 0, .int (-1), .int 0, .int 0, .ref (md 47), .ref (md 48), .ref (md 49), .ref (md 50)]))] := hD
    have hK : va_K (dC, dI) vwCl [] s := hK
    refine W.eq (g2 := F0 m 24 ls [.int 0]) rfl ?_
    refine lv_if_ne (tgt := 29) hx hb dX10_count_24 (by decide) (fun c_3 => ?_) (fun c_3 => ?_)
    · exact absurd c_3 (by decide)
    refine lv_iconst (v := 0) hx hb dX10_count_27 (by decide) ?_
    exact en_i hx hb hr hlocks hP hD hK hS (0, (fun k : Nat => match k with | 0 => 1 | 1 => 0 | 2 => 0 | 3 => 0 | 12 => 0 | 20 => 0 | 21 => 0 | 22 => 0 | 23 => 0 | 24 => (-1) | 25 => 0 | 36 => 0 | 37 => 0 | 38 => 0 | 39 => 0 | 40 => 0 | 41 => 0 | 42 => 0 | 43 => 0 | 44 => (-1) | 45 => 0 | 46 => 0 | _ => 0)) ⟨rfl, by have h9 := ne_out (Or.inl c_1); simp [E_count, h9, id]⟩ [0] [] rfl rfl rfl (Nat.le_of_ble_eq_true rfl) (Nat.le_of_ble_eq_true rfl) dX10_count_28
  · refine lv_iload_n hx hb dX10_count_10 rfl (lv_at hl 1 rfl) ?_
    refine lv_iconst (v := 5) hx hb dX10_count_11 (by decide) ?_
    refine lv_icmp_gt (tgt := 19) hx hb dX10_count_12 (by decide) (fun c_4 => ?_) (fun c_4 => ?_)
    · refine lv_iconst (v := 0) hx hb dX10_count_19 (by decide) ?_
      refine lv_iconst (v := 1) hx hb dX10_count_20 (by decide) ?_
      refine go_V (wr := []) ⟨hx, hb, hml, hown, hts⟩ (c_X10_right_1 l dC dI sa hlt _ h0 md ) (cwV 2 hts gX10_count_X10_right rfl rfl rfl (by decide +kernel) ⟨Nat.le_of_ble_eq_true rfl, Nat.le_of_ble_eq_true rfl⟩) hP hD hK hS hA hev [0] [] [] rfl rfl rfl rfl (by decide) rfl 0 10 rfl rfl rfl rfl hl.1 rfl (Nat.le_of_ble_eq_true rfl) dX10_count_21 ⟨Nat.le_of_ble_eq_true rfl, Nat.le_of_ble_eq_true rfl⟩ (fun r u H locs hw hP hD hK hS => ?_)
      have hw : r = some (.int 0) ∧ (True) := hw
      obtain ⟨rfl, hw_5⟩ := hw
      have hP : va_P (dC, dI) vwCl [(h0, .inr (10, [.int 1, .int 0, .int 0, .int 0, .ref (md 4), .ref (md 5), .ref (md 6), .ref (md 7), .ref (md 8), .ref (md 9), .ref (md 10), .ref (md 11), .int 0, .ref (md 13), .ref (md 14), .ref (md 15), .ref (md 16), .ref (md 17), .ref (md 18), .ref (md 19), .int 0, .int 0, .int 0, .int 0, .int (-1), .int 0, .ref (md 26), .ref (md 27), .ref (md 28), .ref (md 29), .ref (md 30), .ref (md 31), .ref (md 32), .ref (md 33), .ref (md 34), .ref (md 35), .int 0, .int 0, .int 0, .int 0, .int 0, .int 0, .int 0, .int 0, .int (-1), .int 0, .int 0, .ref (md 47), .ref (md 48), .ref (md 49), .ref (md 50)]))] _ := hP
      have hD : va_D _ [(h0, .inr (10, [.int 1, .int 0, .int 0, .int 0, .ref (md 4), .ref (md 5), .ref (md 6), .ref (md 7), .ref (md 8), .ref (md 9), .ref (md 10), .ref (md 11), .int 0, .ref (md 13), .ref (md 14), .ref (md 15), .ref (md 16), .ref (md 17), .ref (md 18), .ref (md 19), .int 0, .int 0, .int 0, .int 0, .int (-1), .int 0, .ref (md 26), .ref (md 27), .ref (md 28), .ref (md 29), .ref (md 30), .ref (md 31), .ref (md 32), .ref (md 33), .ref (md 34), .ref (md 35), .int 0, .int 0, .int 0, .int 0, .int 0, .int 0, .int 0, .int 0, .int (-1), .int 0, .int 0, .ref (md 47), .ref (md 48), .ref (md 49), .ref (md 50)]))] := hD
      have hK : va_K (dC, dI) vwCl [] s := hK
      refine W.eq (g2 := F0 m 24 ls [.int 0]) rfl ?_
      refine lv_if_ne (tgt := 29) hx hb dX10_count_24 (by decide) (fun c_6 => ?_) (fun c_6 => ?_)
      · exact absurd c_6 (by decide)
      refine lv_iconst (v := 0) hx hb dX10_count_27 (by decide) ?_
      exact en_i hx hb hr hlocks hP hD hK hS (0, (fun k : Nat => match k with | 0 => 1 | 1 => 0 | 2 => 0 | 3 => 0 | 12 => 0 | 20 => 0 | 21 => 0 | 22 => 0 | 23 => 0 | 24 => (-1) | 25 => 0 | 36 => 0 | 37 => 0 | 38 => 0 | 39 => 0 | 40 => 0 | 41 => 0 | 42 => 0 | 43 => 0 | 44 => (-1) | 45 => 0 | 46 => 0 | _ => 0)) ⟨rfl, by have h9 := ne_out (Or.inr c_4); simp [E_count, h9, id]⟩ [0] [] rfl rfl rfl (Nat.le_of_ble_eq_true rfl) (Nat.le_of_ble_eq_true rfl) dX10_count_28
    · refine lv_iconst (v := 1) hx hb dX10_count_15 (by decide) ?_
      refine lv_goto (tgt := 20) hx hb dX10_count_16 (by decide) ?_
      refine lv_iconst (v := 1) hx hb dX10_count_20 (by decide) ?_
      refine go_V (wr := []) ⟨hx, hb, hml, hown, hts⟩ (c_X10_right_ok l dC dI sa hlt _ h0 md 1 ) (cwV 2 hts gX10_count_X10_right rfl rfl rfl (by decide +kernel) ⟨Nat.le_of_ble_eq_true rfl, Nat.le_of_ble_eq_true rfl⟩) hP hD hK hS hA hev [0] [] [] rfl rfl rfl rfl (by decide) rfl 0 10 rfl rfl rfl rfl hl.1 rfl (Nat.le_of_ble_eq_true rfl) dX10_count_21 ⟨Nat.le_of_ble_eq_true rfl, Nat.le_of_ble_eq_true rfl⟩ (fun r u H locs hw hP hD hK hS => ?_)
      have hw : r = some (.int 1) ∧ (True) := hw
      obtain ⟨rfl, hw_7⟩ := hw
      have hP : va_P (dC, dI) vwCl [(h0, .inr (10, [.int 0, .int 0, .int 0, .int 0, .ref (md 4), .ref (md 5), .ref (md 6), .ref (md 7), .ref (md 8), .ref (md 9), .ref (md 10), .ref (md 11), .int 0, .ref (md 13), .ref (md 14), .ref (md 15), .ref (md 16), .ref (md 17), .ref (md 18), .ref (md 19), .int 0, .int 0, .int 0, .int 0, .int (-1), .int 0, .ref (md 26), .ref (md 27), .ref (md 28), .ref (md 29), .ref (md 30), .ref (md 31), .ref (md 32), .ref (md 33), .ref (md 34), .ref (md 35), .int 0, .int 0, .int 0, .int 0, .int 0, .int 0, .int 0, .int 0, .int (-1), .int 0, .int 0, .ref (md 47), .ref (md 48), .ref (md 49), .ref (md 50)]))] _ := hP
      have hD : va_D _ [(h0, .inr (10, [.int 0, .int 0, .int 0, .int 0, .ref (md 4), .ref (md 5), .ref (md 6), .ref (md 7), .ref (md 8), .ref (md 9), .ref (md 10), .ref (md 11), .int 0, .ref (md 13), .ref (md 14), .ref (md 15), .ref (md 16), .ref (md 17), .ref (md 18), .ref (md 19), .int 0, .int 0, .int 0, .int 0, .int (-1), .int 0, .ref (md 26), .ref (md 27), .ref (md 28), .ref (md 29), .ref (md 30), .ref (md 31), .ref (md 32), .ref (md 33), .ref (md 34), .ref (md 35), .int 0, .int 0, .int 0, .int 0, .int 0, .int 0, .int 0, .int 0, .int (-1), .int 0, .int 0, .ref (md 47), .ref (md 48), .ref (md 49), .ref (md 50)]))] := hD
      have hK : va_K (dC, dI) vwCl [] s := hK
      refine W.eq (g2 := F0 m 24 ls [.int 1]) rfl ?_
      refine lv_if_ne (tgt := 29) hx hb dX10_count_24 (by decide) (fun c_8 => ?_) (fun c_8 => ?_)
      rotate_left
      · exact absurd c_8 (by decide)
      refine lv_iload_n hx hb dX10_count_29 rfl (lv_at hl 1 rfl) ?_
      by_cases c_9 : p0 = 0
      · refine lv_tableIn (tgt := 64) hx hb dX10_count_30 (by rw [c_9]; decide) (by rw [c_9]; decide) (by rw [c_9]; rfl) (by decide) ?_
        refine lv_aload_n hx hb dX10_count_64 rfl (lv_at hl 0 rfl) ?_
        refine va_get (D := (dC, dI)) (ci := 10) (v := .int 0) (C := RX10) (T := TX10) (N := 51) hx hb hts inw_X10_count_10 hown hK hP 0 rfl rfl 1 (by decide) (hts (.fieldLink RX10 131 "VatHouseModel" "hours" "I") (by decide +kernel)) (fun _ h9 => h9) rfl dX10_count_65 ?_
        exact en_i hx hb hr hlocks hP hD hK hS (0, (fun k : Nat => match k with | 0 => 0 | 1 => 0 | 2 => 0 | 3 => 0 | 12 => 0 | 20 => 0 | 21 => 0 | 22 => 0 | 23 => 0 | 24 => (-1) | 25 => 0 | 36 => 0 | 37 => 0 | 38 => 0 | 39 => 0 | 40 => 0 | 41 => 0 | 42 => 0 | 43 => 0 | 44 => (-1) | 45 => 0 | 46 => 0 | _ => 0)) ⟨rfl, by rw [c_9]; simp [E_count, id]⟩ [0] [] rfl rfl rfl (Nat.le_of_ble_eq_true rfl) (Nat.le_of_ble_eq_true rfl) dX10_count_68
      by_cases c_10 : p0 = 1
      · refine lv_tableIn (tgt := 69) hx hb dX10_count_30 (by rw [c_10]; decide) (by rw [c_10]; decide) (by rw [c_10]; rfl) (by decide) ?_
        refine lv_aload_n hx hb dX10_count_69 rfl (lv_at hl 0 rfl) ?_
        refine va_get (D := (dC, dI)) (ci := 10) (v := .int 0) (C := RX10) (T := TX10) (N := 51) hx hb hts inw_X10_count_10 hown hK hP 0 rfl rfl 2 (by decide) (hts (.fieldLink RX10 149 "VatHouseModel" "drain" "I") (by decide +kernel)) (fun _ h9 => h9) rfl dX10_count_70 ?_
        exact en_i hx hb hr hlocks hP hD hK hS (0, (fun k : Nat => match k with | 0 => 0 | 1 => 0 | 2 => 0 | 3 => 0 | 12 => 0 | 20 => 0 | 21 => 0 | 22 => 0 | 23 => 0 | 24 => (-1) | 25 => 0 | 36 => 0 | 37 => 0 | 38 => 0 | 39 => 0 | 40 => 0 | 41 => 0 | 42 => 0 | 43 => 0 | 44 => (-1) | 45 => 0 | 46 => 0 | _ => 0)) ⟨rfl, by rw [c_10]; simp [E_count, id]⟩ [0] [] rfl rfl rfl (Nat.le_of_ble_eq_true rfl) (Nat.le_of_ble_eq_true rfl) dX10_count_73
      by_cases c_11 : p0 = 2
      · refine lv_tableIn (tgt := 74) hx hb dX10_count_30 (by rw [c_11]; decide) (by rw [c_11]; decide) (by rw [c_11]; rfl) (by decide) ?_
        refine lv_aload_n hx hb dX10_count_74 rfl (lv_at hl 0 rfl) ?_
        refine va_get (D := (dC, dI)) (ci := 10) (v := .int 0) (C := RX10) (T := TX10) (N := 51) hx hb hts inw_X10_count_10 hown hK hP 0 rfl rfl 12 (by decide) (hts (.fieldLink RX10 112 "VatHouseModel" "cloths" "I") (by decide +kernel)) (fun _ h9 => h9) rfl dX10_count_75 ?_
        exact en_i hx hb hr hlocks hP hD hK hS (0, (fun k : Nat => match k with | 0 => 0 | 1 => 0 | 2 => 0 | 3 => 0 | 12 => 0 | 20 => 0 | 21 => 0 | 22 => 0 | 23 => 0 | 24 => (-1) | 25 => 0 | 36 => 0 | 37 => 0 | 38 => 0 | 39 => 0 | 40 => 0 | 41 => 0 | 42 => 0 | 43 => 0 | 44 => (-1) | 45 => 0 | 46 => 0 | _ => 0)) ⟨rfl, by rw [c_11]; simp [E_count, id]⟩ [0] [] rfl rfl rfl (Nat.le_of_ble_eq_true rfl) (Nat.le_of_ble_eq_true rfl) dX10_count_78
      by_cases c_12 : p0 = 3
      · refine lv_tableIn (tgt := 79) hx hb dX10_count_30 (by rw [c_12]; decide) (by rw [c_12]; decide) (by rw [c_12]; rfl) (by decide) ?_
        refine lv_aload_n hx hb dX10_count_79 rfl (lv_at hl 0 rfl) ?_
        refine va_get (D := (dC, dI)) (ci := 10) (v := .int 0) (C := RX10) (T := TX10) (N := 51) hx hb hts inw_X10_count_10 hown hK hP 0 rfl rfl 3 (by decide) (hts (.fieldLink RX10 120 "VatHouseModel" "put" "I") (by decide +kernel)) (fun _ h9 => h9) rfl dX10_count_80 ?_
        exact en_i hx hb hr hlocks hP hD hK hS (0, (fun k : Nat => match k with | 0 => 0 | 1 => 0 | 2 => 0 | 3 => 0 | 12 => 0 | 20 => 0 | 21 => 0 | 22 => 0 | 23 => 0 | 24 => (-1) | 25 => 0 | 36 => 0 | 37 => 0 | 38 => 0 | 39 => 0 | 40 => 0 | 41 => 0 | 42 => 0 | 43 => 0 | 44 => (-1) | 45 => 0 | 46 => 0 | _ => 0)) ⟨rfl, by rw [c_12]; simp [E_count, id]⟩ [0] [] rfl rfl rfl (Nat.le_of_ble_eq_true rfl) (Nat.le_of_ble_eq_true rfl) dX10_count_83
      by_cases c_13 : p0 = 4
      · refine lv_tableIn (tgt := 84) hx hb dX10_count_30 (by rw [c_13]; decide) (by rw [c_13]; decide) (by rw [c_13]; rfl) (by decide) ?_
        refine lv_aload_n hx hb dX10_count_84 rfl (lv_at hl 0 rfl) ?_
        refine va_get (D := (dC, dI)) (ci := 10) (v := .int 0) (C := RX10) (T := TX10) (N := 51) hx hb hts inw_X10_count_10 hown hK hP 0 rfl rfl 20 (by decide) (hts (.fieldLink RX10 159 "VatHouseModel" "taped" "I") (by decide +kernel)) (fun _ h9 => h9) rfl dX10_count_85 ?_
        exact en_i hx hb hr hlocks hP hD hK hS (0, (fun k : Nat => match k with | 0 => 0 | 1 => 0 | 2 => 0 | 3 => 0 | 12 => 0 | 20 => 0 | 21 => 0 | 22 => 0 | 23 => 0 | 24 => (-1) | 25 => 0 | 36 => 0 | 37 => 0 | 38 => 0 | 39 => 0 | 40 => 0 | 41 => 0 | 42 => 0 | 43 => 0 | 44 => (-1) | 45 => 0 | 46 => 0 | _ => 0)) ⟨rfl, by rw [c_13]; simp [E_count, id]⟩ [0] [] rfl rfl rfl (Nat.le_of_ble_eq_true rfl) (Nat.le_of_ble_eq_true rfl) dX10_count_88
      refine lv_tableOut (tgt := 89) hx hb dX10_count_30 (tab_out5 c_9 c_10 c_11 c_12 c_13) (by decide) ?_
      refine lv_aload_n hx hb dX10_count_89 rfl (lv_at hl 0 rfl) ?_
      refine va_get (D := (dC, dI)) (ci := 10) (v := .int 0) (C := RX10) (T := TX10) (N := 51) hx hb hts inw_X10_count_10 hown hK hP 0 rfl rfl 37 (by decide) (hts (.fieldLink RX10 284 "VatHouseModel" "latest" "I") (by decide +kernel)) (fun _ h9 => h9) rfl dX10_count_90 ?_
      exact en_i hx hb hr hlocks hP hD hK hS (0, (fun k : Nat => match k with | 0 => 0 | 1 => 0 | 2 => 0 | 3 => 0 | 12 => 0 | 20 => 0 | 21 => 0 | 22 => 0 | 23 => 0 | 24 => (-1) | 25 => 0 | 36 => 0 | 37 => 0 | 38 => 0 | 39 => 0 | 40 => 0 | 41 => 0 | 42 => 0 | 43 => 0 | 44 => (-1) | 45 => 0 | 46 => 0 | _ => 0)) ⟨rfl, by have h9 := is5 c_1 c_4 c_9 c_10 c_11 c_12 c_13; rw [h9]; simp [E_count, id]⟩ [0] [] rfl rfl rfl (Nat.le_of_ble_eq_true rfl) (Nat.le_of_ble_eq_true rfl) dX10_count_93

abbrev rm_X10_ran : Room := { frames := 1, cells := 0, slots := 0, locals := 22 }
theorem inw_X10_ran_10 : ∀ w ∈ wsX100, w ∈ wsX10_ran := by decide +kernel
set_option maxHeartbeats 800000 in
set_option maxRecDepth 100000 in
theorem c_X10_ran (l : Launch) (dC : Nat → ClassId) (dI : Nat → Nat → Nat) (sa : Nat → Nat) (hlt : l.stackTraces = false) (sz : Nat) (h0 : Nat) (md : Nat → Nat) (mq : Nat → ClassId) (p0 : Int32) : CT l dC dI sa yX10_ran wsX10_ran rm_X10_ran [.ref h0, .int p0] [(h0, .inr (10, [.int 0, .int 0, .int 0, .int 0, .ref (md 4), .ref (md 5), .ref (md 6), .ref (md 7), .ref (md 8), .ref (md 9), .ref (md 10), .ref (md 11), .int 0, .ref (md 13), .ref (md 14), .ref (md 15), .ref (md 16), .ref (md 17), .ref (md 18), .ref (md 19), .int 0, .int 0, .int 0, .int 0, .int (-1), .int 0, .ref (md 26), .ref (md 27), .ref (md 28), .ref (md 29), .ref (md 30), .ref (md 31), .ref (md 32), .ref (md 33), .ref (md 34), .ref (md 35), .int 0, .int 0, .int 0, .int 0, .int 0, .int 0, .int 0, .int 0, .int (-1), .int 0, .int 0, .ref (md 47), .ref (md 48), .ref (md 49), .ref (md 50)]))] [] sz (fun (r : Option Value) (u : Int32 × (Nat → Int32)) => match u with | (x, J) => r = some (.int x) ∧ (E_ran p0 = (J 0, x))) (fun (u : Int32 × (Nat → Int32)) => match u with | (x, J) => [(h0, .inr (10, [.int (J 0), .int (J 1), .int (J 2), .int (J 3), .ref (md 4), .ref (md 5), .ref (md 6), .ref (md 7), .ref (md 8), .ref (md 9), .ref (md 10), .ref (md 11), .int (J 12), .ref (md 13), .ref (md 14), .ref (md 15), .ref (md 16), .ref (md 17), .ref (md 18), .ref (md 19), .int (J 20), .int (J 21), .int (J 22), .int (J 23), .int (J 24), .int (J 25), .ref (md 26), .ref (md 27), .ref (md 28), .ref (md 29), .ref (md 30), .ref (md 31), .ref (md 32), .ref (md 33), .ref (md 34), .ref (md 35), .int (J 36), .int (J 37), .int (J 38), .int (J 39), .int (J 40), .int (J 41), .int (J 42), .int (J 43), .int (J 44), .int (J 45), .int (J 46), .ref (md 47), .ref (md 48), .ref (md 49), .ref (md 50)]))]) (fun (u : Int32 × (Nat → Int32)) => match u with | (x, J) => []) 0 0 := by
  refine CT.start (cc := cX10_ran) (maxL := 2) (ret := (some .int)) (by decide) rfl (Nat.le_of_ble_eq_true rfl) ?_
  intro p e s m below meth c ls hst hP hK hD hev hS hl
  obtain ⟨hx, hb, hr, hml, hts, hown, hlocks, hin⟩ := hst
  have hown : s.vm.findClass RX10 = some m.cls := hown
  have hin : meth.name = yX10_ran.name := hin
  have hA : ∀ q : Nat, s.heap.size ≤ q → va_A [(h0, .inr (10, [.int 0, .int 0, .int 0, .int 0, .ref (md 4), .ref (md 5), .ref (md 6), .ref (md 7), .ref (md 8), .ref (md 9), .ref (md 10), .ref (md 11), .int 0, .ref (md 13), .ref (md 14), .ref (md 15), .ref (md 16), .ref (md 17), .ref (md 18), .ref (md 19), .int 0, .int 0, .int 0, .int 0, .int (-1), .int 0, .ref (md 26), .ref (md 27), .ref (md 28), .ref (md 29), .ref (md 30), .ref (md 31), .ref (md 32), .ref (md 33), .ref (md 34), .ref (md 35), .int 0, .int 0, .int 0, .int 0, .int 0, .int 0, .int 0, .int 0, .int (-1), .int 0, .int 0, .ref (md 47), .ref (md 48), .ref (md 49), .ref (md 50)]))] s.heap.size q := fun _ h => Or.inr h
  have hl : lv_has ls 2 [(0, .ref h0), (1, .int p0)] := hl
  refine lv_aload_n hx hb dX10_ran_0 rfl (lv_at hl 0 rfl) ?_
  refine lv_iconst (v := 0) hx hb dX10_ran_1 (by decide) ?_
  refine va_put (D := (dC, dI)) (ci := 10) (v := .int 0) (ty := .int) (C := RX10) (T := TX10) (N := 51) hx hb hts inw_X10_ran_10 tyX10 tyX10_ok nmX10 hown hK hP hD hS 0 rfl rfl 0 (by decide) (hts (.fieldLink RX10 105 "VatHouseModel" "thrown" "I") (by decide +kernel)) (fun _ h9 => h9) rfl (by decide +kernel) rfl rfl (Nat.le_of_ble_eq_true rfl) dX10_ran_2 (fun H locs hP hD hS => ?_)
  have hP : va_P (dC, dI) vwCl [(h0, .inr (10, [.int 0, .int 0, .int 0, .int 0, .ref (md 4), .ref (md 5), .ref (md 6), .ref (md 7), .ref (md 8), .ref (md 9), .ref (md 10), .ref (md 11), .int 0, .ref (md 13), .ref (md 14), .ref (md 15), .ref (md 16), .ref (md 17), .ref (md 18), .ref (md 19), .int 0, .int 0, .int 0, .int 0, .int (-1), .int 0, .ref (md 26), .ref (md 27), .ref (md 28), .ref (md 29), .ref (md 30), .ref (md 31), .ref (md 32), .ref (md 33), .ref (md 34), .ref (md 35), .int 0, .int 0, .int 0, .int 0, .int 0, .int 0, .int 0, .int 0, .int (-1), .int 0, .int 0, .ref (md 47), .ref (md 48), .ref (md 49), .ref (md 50)]))] _ := hP
  have hD : va_D _ [(h0, .inr (10, [.int 0, .int 0, .int 0, .int 0, .ref (md 4), .ref (md 5), .ref (md 6), .ref (md 7), .ref (md 8), .ref (md 9), .ref (md 10), .ref (md 11), .int 0, .ref (md 13), .ref (md 14), .ref (md 15), .ref (md 16), .ref (md 17), .ref (md 18), .ref (md 19), .int 0, .int 0, .int 0, .int 0, .int (-1), .int 0, .ref (md 26), .ref (md 27), .ref (md 28), .ref (md 29), .ref (md 30), .ref (md 31), .ref (md 32), .ref (md 33), .ref (md 34), .ref (md 35), .int 0, .int 0, .int 0, .int 0, .int 0, .int 0, .int 0, .int 0, .int (-1), .int 0, .int 0, .ref (md 47), .ref (md 48), .ref (md 49), .ref (md 50)]))] := hD
  refine lv_aload_n hx hb dX10_ran_5 rfl (lv_at hl 0 rfl) ?_
  refine lv_iload_n hx hb dX10_ran_6 rfl (lv_at hl 1 rfl) ?_
  refine lv_if_lt (tgt := 19) hx hb dX10_ran_7 (by decide) (fun c_1 => ?_) (fun c_1 => ?_)
  · refine lv_iconst (v := 0) hx hb dX10_ran_19 (by decide) ?_
    refine lv_iconst (v := 1) hx hb dX10_ran_20 (by decide) ?_
    refine go_V (wr := []) ⟨hx, hb, hml, hown, hts⟩ (c_X10_right_1 l dC dI sa hlt _ h0 md ) (cwV 2 hts gX10_ran_X10_right rfl rfl rfl (by decide +kernel) ⟨Nat.le_of_ble_eq_true rfl, Nat.le_of_ble_eq_true rfl⟩) hP hD hK hS hA hev [0] [] [] rfl rfl rfl rfl (by decide) rfl 0 10 rfl rfl rfl rfl hl.1 rfl (Nat.le_of_ble_eq_true rfl) dX10_ran_21 ⟨Nat.le_of_ble_eq_true rfl, Nat.le_of_ble_eq_true rfl⟩ (fun r u H locs hw hP hD hK hS => ?_)
    have hw : r = some (.int 0) ∧ (True) := hw
    obtain ⟨rfl, hw_2⟩ := hw
    have hP : va_P (dC, dI) vwCl [(h0, .inr (10, [.int 1, .int 0, .int 0, .int 0, .ref (md 4), .ref (md 5), .ref (md 6), .ref (md 7), .ref (md 8), .ref (md 9), .ref (md 10), .ref (md 11), .int 0, .ref (md 13), .ref (md 14), .ref (md 15), .ref (md 16), .ref (md 17), .ref (md 18), .ref (md 19), .int 0, .int 0, .int 0, .int 0, .int (-1), .int 0, .ref (md 26), .ref (md 27), .ref (md 28), .ref (md 29), .ref (md 30), .ref (md 31), .ref (md 32), .ref (md 33), .ref (md 34), .ref (md 35), .int 0, .int 0, .int 0, .int 0, .int 0, .int 0, .int 0, .int 0, .int (-1), .int 0, .int 0, .ref (md 47), .ref (md 48), .ref (md 49), .ref (md 50)]))] _ := hP
    have hD : va_D _ [(h0, .inr (10, [.int 1, .int 0, .int 0, .int 0, .ref (md 4), .ref (md 5), .ref (md 6), .ref (md 7), .ref (md 8), .ref (md 9), .ref (md 10), .ref (md 11), .int 0, .ref (md 13), .ref (md 14), .ref (md 15), .ref (md 16), .ref (md 17), .ref (md 18), .ref (md 19), .int 0, .int 0, .int 0, .int 0, .int (-1), .int 0, .ref (md 26), .ref (md 27), .ref (md 28), .ref (md 29), .ref (md 30), .ref (md 31), .ref (md 32), .ref (md 33), .ref (md 34), .ref (md 35), .int 0, .int 0, .int 0, .int 0, .int 0, .int 0, .int 0, .int 0, .int (-1), .int 0, .int 0, .ref (md 47), .ref (md 48), .ref (md 49), .ref (md 50)]))] := hD
    have hK : va_K (dC, dI) vwCl [] s := hK
    refine W.eq (g2 := F0 m 24 ls [.int 0]) rfl ?_
    refine lv_if_ne (tgt := 29) hx hb dX10_ran_24 (by decide) (fun c_3 => ?_) (fun c_3 => ?_)
    · exact absurd c_3 (by decide)
    refine lv_iconst (v := 0) hx hb dX10_ran_27 (by decide) ?_
    exact en_i hx hb hr hlocks hP hD hK hS (0, (fun k : Nat => match k with | 0 => 1 | 1 => 0 | 2 => 0 | 3 => 0 | 12 => 0 | 20 => 0 | 21 => 0 | 22 => 0 | 23 => 0 | 24 => (-1) | 25 => 0 | 36 => 0 | 37 => 0 | 38 => 0 | 39 => 0 | 40 => 0 | 41 => 0 | 42 => 0 | 43 => 0 | 44 => (-1) | 45 => 0 | 46 => 0 | _ => 0)) ⟨rfl, by have h9 := ne_out (Or.inl c_1); simp [E_ran, h9, id]⟩ [0] [] rfl rfl rfl (Nat.le_of_ble_eq_true rfl) (Nat.le_of_ble_eq_true rfl) dX10_ran_28
  · refine lv_iload_n hx hb dX10_ran_10 rfl (lv_at hl 1 rfl) ?_
    refine lv_iconst (v := 5) hx hb dX10_ran_11 (by decide) ?_
    refine lv_icmp_gt (tgt := 19) hx hb dX10_ran_12 (by decide) (fun c_4 => ?_) (fun c_4 => ?_)
    · refine lv_iconst (v := 0) hx hb dX10_ran_19 (by decide) ?_
      refine lv_iconst (v := 1) hx hb dX10_ran_20 (by decide) ?_
      refine go_V (wr := []) ⟨hx, hb, hml, hown, hts⟩ (c_X10_right_1 l dC dI sa hlt _ h0 md ) (cwV 2 hts gX10_ran_X10_right rfl rfl rfl (by decide +kernel) ⟨Nat.le_of_ble_eq_true rfl, Nat.le_of_ble_eq_true rfl⟩) hP hD hK hS hA hev [0] [] [] rfl rfl rfl rfl (by decide) rfl 0 10 rfl rfl rfl rfl hl.1 rfl (Nat.le_of_ble_eq_true rfl) dX10_ran_21 ⟨Nat.le_of_ble_eq_true rfl, Nat.le_of_ble_eq_true rfl⟩ (fun r u H locs hw hP hD hK hS => ?_)
      have hw : r = some (.int 0) ∧ (True) := hw
      obtain ⟨rfl, hw_5⟩ := hw
      have hP : va_P (dC, dI) vwCl [(h0, .inr (10, [.int 1, .int 0, .int 0, .int 0, .ref (md 4), .ref (md 5), .ref (md 6), .ref (md 7), .ref (md 8), .ref (md 9), .ref (md 10), .ref (md 11), .int 0, .ref (md 13), .ref (md 14), .ref (md 15), .ref (md 16), .ref (md 17), .ref (md 18), .ref (md 19), .int 0, .int 0, .int 0, .int 0, .int (-1), .int 0, .ref (md 26), .ref (md 27), .ref (md 28), .ref (md 29), .ref (md 30), .ref (md 31), .ref (md 32), .ref (md 33), .ref (md 34), .ref (md 35), .int 0, .int 0, .int 0, .int 0, .int 0, .int 0, .int 0, .int 0, .int (-1), .int 0, .int 0, .ref (md 47), .ref (md 48), .ref (md 49), .ref (md 50)]))] _ := hP
      have hD : va_D _ [(h0, .inr (10, [.int 1, .int 0, .int 0, .int 0, .ref (md 4), .ref (md 5), .ref (md 6), .ref (md 7), .ref (md 8), .ref (md 9), .ref (md 10), .ref (md 11), .int 0, .ref (md 13), .ref (md 14), .ref (md 15), .ref (md 16), .ref (md 17), .ref (md 18), .ref (md 19), .int 0, .int 0, .int 0, .int 0, .int (-1), .int 0, .ref (md 26), .ref (md 27), .ref (md 28), .ref (md 29), .ref (md 30), .ref (md 31), .ref (md 32), .ref (md 33), .ref (md 34), .ref (md 35), .int 0, .int 0, .int 0, .int 0, .int 0, .int 0, .int 0, .int 0, .int (-1), .int 0, .int 0, .ref (md 47), .ref (md 48), .ref (md 49), .ref (md 50)]))] := hD
      have hK : va_K (dC, dI) vwCl [] s := hK
      refine W.eq (g2 := F0 m 24 ls [.int 0]) rfl ?_
      refine lv_if_ne (tgt := 29) hx hb dX10_ran_24 (by decide) (fun c_6 => ?_) (fun c_6 => ?_)
      · exact absurd c_6 (by decide)
      refine lv_iconst (v := 0) hx hb dX10_ran_27 (by decide) ?_
      exact en_i hx hb hr hlocks hP hD hK hS (0, (fun k : Nat => match k with | 0 => 1 | 1 => 0 | 2 => 0 | 3 => 0 | 12 => 0 | 20 => 0 | 21 => 0 | 22 => 0 | 23 => 0 | 24 => (-1) | 25 => 0 | 36 => 0 | 37 => 0 | 38 => 0 | 39 => 0 | 40 => 0 | 41 => 0 | 42 => 0 | 43 => 0 | 44 => (-1) | 45 => 0 | 46 => 0 | _ => 0)) ⟨rfl, by have h9 := ne_out (Or.inr c_4); simp [E_ran, h9, id]⟩ [0] [] rfl rfl rfl (Nat.le_of_ble_eq_true rfl) (Nat.le_of_ble_eq_true rfl) dX10_ran_28
    · refine lv_iconst (v := 1) hx hb dX10_ran_15 (by decide) ?_
      refine lv_goto (tgt := 20) hx hb dX10_ran_16 (by decide) ?_
      refine lv_iconst (v := 1) hx hb dX10_ran_20 (by decide) ?_
      refine go_V (wr := []) ⟨hx, hb, hml, hown, hts⟩ (c_X10_right_ok l dC dI sa hlt _ h0 md 1 ) (cwV 2 hts gX10_ran_X10_right rfl rfl rfl (by decide +kernel) ⟨Nat.le_of_ble_eq_true rfl, Nat.le_of_ble_eq_true rfl⟩) hP hD hK hS hA hev [0] [] [] rfl rfl rfl rfl (by decide) rfl 0 10 rfl rfl rfl rfl hl.1 rfl (Nat.le_of_ble_eq_true rfl) dX10_ran_21 ⟨Nat.le_of_ble_eq_true rfl, Nat.le_of_ble_eq_true rfl⟩ (fun r u H locs hw hP hD hK hS => ?_)
      have hw : r = some (.int 1) ∧ (True) := hw
      obtain ⟨rfl, hw_7⟩ := hw
      have hP : va_P (dC, dI) vwCl [(h0, .inr (10, [.int 0, .int 0, .int 0, .int 0, .ref (md 4), .ref (md 5), .ref (md 6), .ref (md 7), .ref (md 8), .ref (md 9), .ref (md 10), .ref (md 11), .int 0, .ref (md 13), .ref (md 14), .ref (md 15), .ref (md 16), .ref (md 17), .ref (md 18), .ref (md 19), .int 0, .int 0, .int 0, .int 0, .int (-1), .int 0, .ref (md 26), .ref (md 27), .ref (md 28), .ref (md 29), .ref (md 30), .ref (md 31), .ref (md 32), .ref (md 33), .ref (md 34), .ref (md 35), .int 0, .int 0, .int 0, .int 0, .int 0, .int 0, .int 0, .int 0, .int (-1), .int 0, .int 0, .ref (md 47), .ref (md 48), .ref (md 49), .ref (md 50)]))] _ := hP
      have hD : va_D _ [(h0, .inr (10, [.int 0, .int 0, .int 0, .int 0, .ref (md 4), .ref (md 5), .ref (md 6), .ref (md 7), .ref (md 8), .ref (md 9), .ref (md 10), .ref (md 11), .int 0, .ref (md 13), .ref (md 14), .ref (md 15), .ref (md 16), .ref (md 17), .ref (md 18), .ref (md 19), .int 0, .int 0, .int 0, .int 0, .int (-1), .int 0, .ref (md 26), .ref (md 27), .ref (md 28), .ref (md 29), .ref (md 30), .ref (md 31), .ref (md 32), .ref (md 33), .ref (md 34), .ref (md 35), .int 0, .int 0, .int 0, .int 0, .int 0, .int 0, .int 0, .int 0, .int (-1), .int 0, .int 0, .ref (md 47), .ref (md 48), .ref (md 49), .ref (md 50)]))] := hD
      have hK : va_K (dC, dI) vwCl [] s := hK
      refine W.eq (g2 := F0 m 24 ls [.int 1]) rfl ?_
      refine lv_if_ne (tgt := 29) hx hb dX10_ran_24 (by decide) (fun c_8 => ?_) (fun c_8 => ?_)
      rotate_left
      · exact absurd c_8 (by decide)
      refine lv_iload_n hx hb dX10_ran_29 rfl (lv_at hl 1 rfl) ?_
      by_cases c_9 : p0 = 0
      · refine lv_tableIn (tgt := 64) hx hb dX10_ran_30 (by rw [c_9]; decide) (by rw [c_9]; decide) (by rw [c_9]; rfl) (by decide) ?_
        refine lv_aload_n hx hb dX10_ran_64 rfl (lv_at hl 0 rfl) ?_
        refine va_get (D := (dC, dI)) (ci := 10) (v := .int (-1)) (C := RX10) (T := TX10) (N := 51) hx hb hts inw_X10_ran_10 hown hK hP 0 rfl rfl 44 (by decide) (hts (.fieldLink RX10 90 "VatHouseModel" "ran" "I") (by decide +kernel)) (fun _ h9 => h9) rfl dX10_ran_65 ?_
        exact en_i hx hb hr hlocks hP hD hK hS ((-1), (fun k : Nat => match k with | 0 => 0 | 1 => 0 | 2 => 0 | 3 => 0 | 12 => 0 | 20 => 0 | 21 => 0 | 22 => 0 | 23 => 0 | 24 => (-1) | 25 => 0 | 36 => 0 | 37 => 0 | 38 => 0 | 39 => 0 | 40 => 0 | 41 => 0 | 42 => 0 | 43 => 0 | 44 => (-1) | 45 => 0 | 46 => 0 | _ => 0)) ⟨rfl, by rw [c_9]; simp [E_ran, id]⟩ [0] [] rfl rfl rfl (Nat.le_of_ble_eq_true rfl) (Nat.le_of_ble_eq_true rfl) dX10_ran_68
      by_cases c_10 : p0 = 1
      · refine lv_tableIn (tgt := 69) hx hb dX10_ran_30 (by rw [c_10]; decide) (by rw [c_10]; decide) (by rw [c_10]; rfl) (by decide) ?_
        refine lv_aload_n hx hb dX10_ran_69 rfl (lv_at hl 0 rfl) ?_
        refine va_get (D := (dC, dI)) (ci := 10) (v := .int 0) (C := RX10) (T := TX10) (N := 51) hx hb hts inw_X10_ran_10 hown hK hP 0 rfl rfl 45 (by decide) (hts (.fieldLink RX10 328 "VatHouseModel" "failure" "I") (by decide +kernel)) (fun _ h9 => h9) rfl dX10_ran_70 ?_
        exact en_i hx hb hr hlocks hP hD hK hS (0, (fun k : Nat => match k with | 0 => 0 | 1 => 0 | 2 => 0 | 3 => 0 | 12 => 0 | 20 => 0 | 21 => 0 | 22 => 0 | 23 => 0 | 24 => (-1) | 25 => 0 | 36 => 0 | 37 => 0 | 38 => 0 | 39 => 0 | 40 => 0 | 41 => 0 | 42 => 0 | 43 => 0 | 44 => (-1) | 45 => 0 | 46 => 0 | _ => 0)) ⟨rfl, by rw [c_10]; simp [E_ran, id]⟩ [0] [] rfl rfl rfl (Nat.le_of_ble_eq_true rfl) (Nat.le_of_ble_eq_true rfl) dX10_ran_73
      by_cases c_11 : p0 = 2
      · refine lv_tableIn (tgt := 74) hx hb dX10_ran_30 (by rw [c_11]; decide) (by rw [c_11]; decide) (by rw [c_11]; rfl) (by decide) ?_
        refine lv_aload_n hx hb dX10_ran_74 rfl (lv_at hl 0 rfl) ?_
        refine va_get (D := (dC, dI)) (ci := 10) (v := .int 0) (C := RX10) (T := TX10) (N := 51) hx hb hts inw_X10_ran_10 hown hK hP 0 rfl rfl 40 (by decide) (hts (.fieldLink RX10 287 "VatHouseModel" "counted" "I") (by decide +kernel)) (fun _ h9 => h9) rfl dX10_ran_75 ?_
        exact en_i hx hb hr hlocks hP hD hK hS (0, (fun k : Nat => match k with | 0 => 0 | 1 => 0 | 2 => 0 | 3 => 0 | 12 => 0 | 20 => 0 | 21 => 0 | 22 => 0 | 23 => 0 | 24 => (-1) | 25 => 0 | 36 => 0 | 37 => 0 | 38 => 0 | 39 => 0 | 40 => 0 | 41 => 0 | 42 => 0 | 43 => 0 | 44 => (-1) | 45 => 0 | 46 => 0 | _ => 0)) ⟨rfl, by rw [c_11]; simp [E_ran, id]⟩ [0] [] rfl rfl rfl (Nat.le_of_ble_eq_true rfl) (Nat.le_of_ble_eq_true rfl) dX10_ran_78
      by_cases c_12 : p0 = 3
      · refine lv_tableIn (tgt := 79) hx hb dX10_ran_30 (by rw [c_12]; decide) (by rw [c_12]; decide) (by rw [c_12]; rfl) (by decide) ?_
        refine lv_aload_n hx hb dX10_ran_79 rfl (lv_at hl 0 rfl) ?_
        refine va_get (D := (dC, dI)) (ci := 10) (v := .int 0) (C := RX10) (T := TX10) (N := 51) hx hb hts inw_X10_ran_10 hown hK hP 0 rfl rfl 41 (by decide) (hts (.fieldLink RX10 313 "VatHouseModel" "ranDips" "I") (by decide +kernel)) (fun _ h9 => h9) rfl dX10_ran_80 ?_
        exact en_i hx hb hr hlocks hP hD hK hS (0, (fun k : Nat => match k with | 0 => 0 | 1 => 0 | 2 => 0 | 3 => 0 | 12 => 0 | 20 => 0 | 21 => 0 | 22 => 0 | 23 => 0 | 24 => (-1) | 25 => 0 | 36 => 0 | 37 => 0 | 38 => 0 | 39 => 0 | 40 => 0 | 41 => 0 | 42 => 0 | 43 => 0 | 44 => (-1) | 45 => 0 | 46 => 0 | _ => 0)) ⟨rfl, by rw [c_12]; simp [E_ran, id]⟩ [0] [] rfl rfl rfl (Nat.le_of_ble_eq_true rfl) (Nat.le_of_ble_eq_true rfl) dX10_ran_83
      by_cases c_13 : p0 = 4
      · refine lv_tableIn (tgt := 84) hx hb dX10_ran_30 (by rw [c_13]; decide) (by rw [c_13]; decide) (by rw [c_13]; rfl) (by decide) ?_
        refine lv_aload_n hx hb dX10_ran_84 rfl (lv_at hl 0 rfl) ?_
        refine va_get (D := (dC, dI)) (ci := 10) (v := .int 0) (C := RX10) (T := TX10) (N := 51) hx hb hts inw_X10_ran_10 hown hK hP 0 rfl rfl 42 (by decide) (hts (.fieldLink RX10 310 "VatHouseModel" "ranGrains" "I") (by decide +kernel)) (fun _ h9 => h9) rfl dX10_ran_85 ?_
        exact en_i hx hb hr hlocks hP hD hK hS (0, (fun k : Nat => match k with | 0 => 0 | 1 => 0 | 2 => 0 | 3 => 0 | 12 => 0 | 20 => 0 | 21 => 0 | 22 => 0 | 23 => 0 | 24 => (-1) | 25 => 0 | 36 => 0 | 37 => 0 | 38 => 0 | 39 => 0 | 40 => 0 | 41 => 0 | 42 => 0 | 43 => 0 | 44 => (-1) | 45 => 0 | 46 => 0 | _ => 0)) ⟨rfl, by rw [c_13]; simp [E_ran, id]⟩ [0] [] rfl rfl rfl (Nat.le_of_ble_eq_true rfl) (Nat.le_of_ble_eq_true rfl) dX10_ran_88
      refine lv_tableOut (tgt := 89) hx hb dX10_ran_30 (tab_out5 c_9 c_10 c_11 c_12 c_13) (by decide) ?_
      refine lv_aload_n hx hb dX10_ran_89 rfl (lv_at hl 0 rfl) ?_
      refine va_get (D := (dC, dI)) (ci := 10) (v := .int 0) (C := RX10) (T := TX10) (N := 51) hx hb hts inw_X10_ran_10 hown hK hP 0 rfl rfl 43 (by decide) (hts (.fieldLink RX10 316 "VatHouseModel" "ranHours" "I") (by decide +kernel)) (fun _ h9 => h9) rfl dX10_ran_90 ?_
      exact en_i hx hb hr hlocks hP hD hK hS (0, (fun k : Nat => match k with | 0 => 0 | 1 => 0 | 2 => 0 | 3 => 0 | 12 => 0 | 20 => 0 | 21 => 0 | 22 => 0 | 23 => 0 | 24 => (-1) | 25 => 0 | 36 => 0 | 37 => 0 | 38 => 0 | 39 => 0 | 40 => 0 | 41 => 0 | 42 => 0 | 43 => 0 | 44 => (-1) | 45 => 0 | 46 => 0 | _ => 0)) ⟨rfl, by have h9 := is5 c_1 c_4 c_9 c_10 c_11 c_12 c_13; rw [h9]; simp [E_ran, id]⟩ [0] [] rfl rfl rfl (Nat.le_of_ble_eq_true rfl) (Nat.le_of_ble_eq_true rfl) dX10_ran_93

abbrev rm_X10_vat : Room := { frames := 2, cells := 0, slots := 0, locals := 43 }
theorem inw_X10_vat_10 : ∀ w ∈ wsX100, w ∈ wsX10_vat := by decide +kernel
set_option maxHeartbeats 800000 in
set_option maxRecDepth 100000 in
theorem c_X10_vat (l : Launch) (dC : Nat → ClassId) (dI : Nat → Nat → Nat) (sa : Nat → Nat) (hlt : l.stackTraces = false) (sz : Nat) (h0 : Nat) (md : Nat → Nat) (mq : Nat → ClassId) (fs : Nat → Int32) (p0 : Int32) (p1 : Int32) (hfs : ∀ k, k < 6 → fs k = 2) : CT l dC dI sa yX10_vat wsX10_vat rm_X10_vat [.ref h0, .int p0, .int p1] [(h0, .inr (10, [.int 0, .int 0, .int 0, .int 0, .ref (md 4), .ref (md 5), .ref (md 6), .ref (md 7), .ref (md 8), .ref (md 9), .ref (md 10), .ref (md 11), .int 0, .ref (md 13), .ref (md 14), .ref (md 15), .ref (md 16), .ref (md 17), .ref (md 18), .ref (md 19), .int 0, .int 0, .int 0, .int 0, .int (-1), .int 0, .ref (md 26), .ref (md 27), .ref (md 28), .ref (md 29), .ref (md 30), .ref (md 31), .ref (md 32), .ref (md 33), .ref (md 34), .ref (md 35), .int 0, .int 0, .int 0, .int 0, .int 0, .int 0, .int 0, .int 0, .int (-1), .int 0, .int 0, .ref (md 47), .ref (md 48), .ref (md 49), .ref (md 50)])), ((md 4), .inl ((mq 4), 6, .inl (fun _ => 0))), ((md 5), .inl ((mq 5), 6, .inl (fun _ => 0))), ((md 6), .inl ((mq 6), 6, .inl (fun _ => 0))), ((md 7), .inl ((mq 7), 6, .inl fs)), ((md 8), .inl ((mq 8), 6, .inl (fun _ => 0))), ((md 9), .inl ((mq 9), 6, .inl (fun _ => 0)))] [((mq 4), .int), ((mq 5), .int), ((mq 6), .int), ((mq 7), .int), ((mq 8), .int), ((mq 9), .int)] sz (fun (r : Option Value) (u : Int32 × (Nat → Int32)) => match u with | (x, J) => r = some (.int x) ∧ (E_vat p0 p1 = (J 0, x))) (fun (u : Int32 × (Nat → Int32)) => match u with | (x, J) => [(h0, .inr (10, [.int (J 0), .int (J 1), .int (J 2), .int (J 3), .ref (md 4), .ref (md 5), .ref (md 6), .ref (md 7), .ref (md 8), .ref (md 9), .ref (md 10), .ref (md 11), .int (J 12), .ref (md 13), .ref (md 14), .ref (md 15), .ref (md 16), .ref (md 17), .ref (md 18), .ref (md 19), .int (J 20), .int (J 21), .int (J 22), .int (J 23), .int (J 24), .int (J 25), .ref (md 26), .ref (md 27), .ref (md 28), .ref (md 29), .ref (md 30), .ref (md 31), .ref (md 32), .ref (md 33), .ref (md 34), .ref (md 35), .int (J 36), .int (J 37), .int (J 38), .int (J 39), .int (J 40), .int (J 41), .int (J 42), .int (J 43), .int (J 44), .int (J 45), .int (J 46), .ref (md 47), .ref (md 48), .ref (md 49), .ref (md 50)]))]) (fun (u : Int32 × (Nat → Int32)) => match u with | (x, J) => []) 0 0 := by
  refine CT.start (cc := cX10_vat) (maxL := 3) (ret := (some .int)) (by decide) rfl (Nat.le_of_ble_eq_true rfl) ?_
  intro p e s m below meth c ls hst hP hK hD hev hS hl
  obtain ⟨hx, hb, hr, hml, hts, hown, hlocks, hin⟩ := hst
  have hown : s.vm.findClass RX10 = some m.cls := hown
  have hin : meth.name = yX10_vat.name := hin
  have hA : ∀ q : Nat, s.heap.size ≤ q → va_A [(h0, .inr (10, [.int 0, .int 0, .int 0, .int 0, .ref (md 4), .ref (md 5), .ref (md 6), .ref (md 7), .ref (md 8), .ref (md 9), .ref (md 10), .ref (md 11), .int 0, .ref (md 13), .ref (md 14), .ref (md 15), .ref (md 16), .ref (md 17), .ref (md 18), .ref (md 19), .int 0, .int 0, .int 0, .int 0, .int (-1), .int 0, .ref (md 26), .ref (md 27), .ref (md 28), .ref (md 29), .ref (md 30), .ref (md 31), .ref (md 32), .ref (md 33), .ref (md 34), .ref (md 35), .int 0, .int 0, .int 0, .int 0, .int 0, .int 0, .int 0, .int 0, .int (-1), .int 0, .int 0, .ref (md 47), .ref (md 48), .ref (md 49), .ref (md 50)])), ((md 4), .inl ((mq 4), 6, .inl (fun _ => 0))), ((md 5), .inl ((mq 5), 6, .inl (fun _ => 0))), ((md 6), .inl ((mq 6), 6, .inl (fun _ => 0))), ((md 7), .inl ((mq 7), 6, .inl fs)), ((md 8), .inl ((mq 8), 6, .inl (fun _ => 0))), ((md 9), .inl ((mq 9), 6, .inl (fun _ => 0)))] s.heap.size q := fun _ h => Or.inr h
  have hl : lv_has ls 3 [(0, .ref h0), (1, .int p0), (2, .int p1)] := hl
  refine lv_aload_n hx hb dX10_vat_0 rfl (lv_at hl 0 rfl) ?_
  refine lv_iload_n hx hb dX10_vat_1 rfl (lv_at hl 1 rfl) ?_
  by_cases c_1 : p0 < 0
  · refine go_V (wr := [((md 4), .inl ((mq 4), 6, .inl (fun _ => 0))), ((md 5), .inl ((mq 5), 6, .inl (fun _ => 0))), ((md 6), .inl ((mq 6), 6, .inl (fun _ => 0))), ((md 7), .inl ((mq 7), 6, .inl fs)), ((md 8), .inl ((mq 8), 6, .inl (fun _ => 0))), ((md 9), .inl ((mq 9), 6, .inl (fun _ => 0)))]) ⟨hx, hb, hml, hown, hts⟩ (c_X10_isVat_out l dC dI sa hlt _ h0 md p0 (Or.inl c_1)) (cwV 1 hts gX10_vat_X10_isVat rfl rfl rfl (by decide +kernel) ⟨Nat.le_of_ble_eq_true rfl, Nat.le_of_ble_eq_true rfl⟩) hP hD hK hS hA hev [0] [1, 2, 3, 4, 5, 6] [] rfl rfl rfl rfl (by decide) rfl 0 10 rfl rfl rfl rfl hl.1 rfl (Nat.le_of_ble_eq_true rfl) dX10_vat_2 ⟨Nat.le_of_ble_eq_true rfl, Nat.le_of_ble_eq_true rfl⟩ (fun r u H locs hw hP hD hK hS => ?_)
    have hw : r = some (.int 0) ∧ (True) := hw
    obtain ⟨rfl, hw_3⟩ := hw
    have hP : va_P (dC, dI) vwCl [((md 4), .inl ((mq 4), 6, .inl (fun _ => 0))), ((md 5), .inl ((mq 5), 6, .inl (fun _ => 0))), ((md 6), .inl ((mq 6), 6, .inl (fun _ => 0))), ((md 7), .inl ((mq 7), 6, .inl fs)), ((md 8), .inl ((mq 8), 6, .inl (fun _ => 0))), ((md 9), .inl ((mq 9), 6, .inl (fun _ => 0))), (h0, .inr (10, [.int 1, .int 0, .int 0, .int 0, .ref (md 4), .ref (md 5), .ref (md 6), .ref (md 7), .ref (md 8), .ref (md 9), .ref (md 10), .ref (md 11), .int 0, .ref (md 13), .ref (md 14), .ref (md 15), .ref (md 16), .ref (md 17), .ref (md 18), .ref (md 19), .int 0, .int 0, .int 0, .int 0, .int (-1), .int 0, .ref (md 26), .ref (md 27), .ref (md 28), .ref (md 29), .ref (md 30), .ref (md 31), .ref (md 32), .ref (md 33), .ref (md 34), .ref (md 35), .int 0, .int 0, .int 0, .int 0, .int 0, .int 0, .int 0, .int 0, .int (-1), .int 0, .int 0, .ref (md 47), .ref (md 48), .ref (md 49), .ref (md 50)]))] _ := hP
    have hD : va_D _ [((md 4), .inl ((mq 4), 6, .inl (fun _ => 0))), ((md 5), .inl ((mq 5), 6, .inl (fun _ => 0))), ((md 6), .inl ((mq 6), 6, .inl (fun _ => 0))), ((md 7), .inl ((mq 7), 6, .inl fs)), ((md 8), .inl ((mq 8), 6, .inl (fun _ => 0))), ((md 9), .inl ((mq 9), 6, .inl (fun _ => 0))), (h0, .inr (10, [.int 1, .int 0, .int 0, .int 0, .ref (md 4), .ref (md 5), .ref (md 6), .ref (md 7), .ref (md 8), .ref (md 9), .ref (md 10), .ref (md 11), .int 0, .ref (md 13), .ref (md 14), .ref (md 15), .ref (md 16), .ref (md 17), .ref (md 18), .ref (md 19), .int 0, .int 0, .int 0, .int 0, .int (-1), .int 0, .ref (md 26), .ref (md 27), .ref (md 28), .ref (md 29), .ref (md 30), .ref (md 31), .ref (md 32), .ref (md 33), .ref (md 34), .ref (md 35), .int 0, .int 0, .int 0, .int 0, .int 0, .int 0, .int 0, .int 0, .int (-1), .int 0, .int 0, .ref (md 47), .ref (md 48), .ref (md 49), .ref (md 50)]))] := hD
    have hK : va_K (dC, dI) vwCl [((mq 4), .int), ((mq 5), .int), ((mq 6), .int), ((mq 7), .int), ((mq 8), .int), ((mq 9), .int)] s := hK
    refine W.eq (g2 := F0 m 5 ls [.int 0]) rfl ?_
    refine lv_if_eq (tgt := 30) hx hb dX10_vat_5 (by decide) (fun c_4 => ?_) (fun c_4 => ?_)
    rotate_left
    · exact absurd c_4 (by decide)
    refine lv_iconst (v := 0) hx hb dX10_vat_30 (by decide) ?_
    exact en_i hx hb hr hlocks hP hD hK hS (0, (fun k : Nat => match k with | 0 => 1 | 1 => 0 | 2 => 0 | 3 => 0 | 12 => 0 | 20 => 0 | 21 => 0 | 22 => 0 | 23 => 0 | 24 => (-1) | 25 => 0 | 36 => 0 | 37 => 0 | 38 => 0 | 39 => 0 | 40 => 0 | 41 => 0 | 42 => 0 | 43 => 0 | 44 => (-1) | 45 => 0 | 46 => 0 | _ => 0)) ⟨rfl, by simp [E_vat, c_1]⟩ [6] [] rfl rfl rfl (Nat.le_of_ble_eq_true rfl) (Nat.le_of_ble_eq_true rfl) dX10_vat_31
  by_cases c_2 : 6 ≤ p0
  · refine go_V (wr := [((md 4), .inl ((mq 4), 6, .inl (fun _ => 0))), ((md 5), .inl ((mq 5), 6, .inl (fun _ => 0))), ((md 6), .inl ((mq 6), 6, .inl (fun _ => 0))), ((md 7), .inl ((mq 7), 6, .inl fs)), ((md 8), .inl ((mq 8), 6, .inl (fun _ => 0))), ((md 9), .inl ((mq 9), 6, .inl (fun _ => 0)))]) ⟨hx, hb, hml, hown, hts⟩ (c_X10_isVat_out l dC dI sa hlt _ h0 md p0 (Or.inr c_2)) (cwV 1 hts gX10_vat_X10_isVat rfl rfl rfl (by decide +kernel) ⟨Nat.le_of_ble_eq_true rfl, Nat.le_of_ble_eq_true rfl⟩) hP hD hK hS hA hev [0] [1, 2, 3, 4, 5, 6] [] rfl rfl rfl rfl (by decide) rfl 0 10 rfl rfl rfl rfl hl.1 rfl (Nat.le_of_ble_eq_true rfl) dX10_vat_2 ⟨Nat.le_of_ble_eq_true rfl, Nat.le_of_ble_eq_true rfl⟩ (fun r u H locs hw hP hD hK hS => ?_)
    have hw : r = some (.int 0) ∧ (True) := hw
    obtain ⟨rfl, hw_5⟩ := hw
    have hP : va_P (dC, dI) vwCl [((md 4), .inl ((mq 4), 6, .inl (fun _ => 0))), ((md 5), .inl ((mq 5), 6, .inl (fun _ => 0))), ((md 6), .inl ((mq 6), 6, .inl (fun _ => 0))), ((md 7), .inl ((mq 7), 6, .inl fs)), ((md 8), .inl ((mq 8), 6, .inl (fun _ => 0))), ((md 9), .inl ((mq 9), 6, .inl (fun _ => 0))), (h0, .inr (10, [.int 1, .int 0, .int 0, .int 0, .ref (md 4), .ref (md 5), .ref (md 6), .ref (md 7), .ref (md 8), .ref (md 9), .ref (md 10), .ref (md 11), .int 0, .ref (md 13), .ref (md 14), .ref (md 15), .ref (md 16), .ref (md 17), .ref (md 18), .ref (md 19), .int 0, .int 0, .int 0, .int 0, .int (-1), .int 0, .ref (md 26), .ref (md 27), .ref (md 28), .ref (md 29), .ref (md 30), .ref (md 31), .ref (md 32), .ref (md 33), .ref (md 34), .ref (md 35), .int 0, .int 0, .int 0, .int 0, .int 0, .int 0, .int 0, .int 0, .int (-1), .int 0, .int 0, .ref (md 47), .ref (md 48), .ref (md 49), .ref (md 50)]))] _ := hP
    have hD : va_D _ [((md 4), .inl ((mq 4), 6, .inl (fun _ => 0))), ((md 5), .inl ((mq 5), 6, .inl (fun _ => 0))), ((md 6), .inl ((mq 6), 6, .inl (fun _ => 0))), ((md 7), .inl ((mq 7), 6, .inl fs)), ((md 8), .inl ((mq 8), 6, .inl (fun _ => 0))), ((md 9), .inl ((mq 9), 6, .inl (fun _ => 0))), (h0, .inr (10, [.int 1, .int 0, .int 0, .int 0, .ref (md 4), .ref (md 5), .ref (md 6), .ref (md 7), .ref (md 8), .ref (md 9), .ref (md 10), .ref (md 11), .int 0, .ref (md 13), .ref (md 14), .ref (md 15), .ref (md 16), .ref (md 17), .ref (md 18), .ref (md 19), .int 0, .int 0, .int 0, .int 0, .int (-1), .int 0, .ref (md 26), .ref (md 27), .ref (md 28), .ref (md 29), .ref (md 30), .ref (md 31), .ref (md 32), .ref (md 33), .ref (md 34), .ref (md 35), .int 0, .int 0, .int 0, .int 0, .int 0, .int 0, .int 0, .int 0, .int (-1), .int 0, .int 0, .ref (md 47), .ref (md 48), .ref (md 49), .ref (md 50)]))] := hD
    have hK : va_K (dC, dI) vwCl [((mq 4), .int), ((mq 5), .int), ((mq 6), .int), ((mq 7), .int), ((mq 8), .int), ((mq 9), .int)] s := hK
    refine W.eq (g2 := F0 m 5 ls [.int 0]) rfl ?_
    refine lv_if_eq (tgt := 30) hx hb dX10_vat_5 (by decide) (fun c_6 => ?_) (fun c_6 => ?_)
    rotate_left
    · exact absurd c_6 (by decide)
    refine lv_iconst (v := 0) hx hb dX10_vat_30 (by decide) ?_
    exact en_i hx hb hr hlocks hP hD hK hS (0, (fun k : Nat => match k with | 0 => 1 | 1 => 0 | 2 => 0 | 3 => 0 | 12 => 0 | 20 => 0 | 21 => 0 | 22 => 0 | 23 => 0 | 24 => (-1) | 25 => 0 | 36 => 0 | 37 => 0 | 38 => 0 | 39 => 0 | 40 => 0 | 41 => 0 | 42 => 0 | 43 => 0 | 44 => (-1) | 45 => 0 | 46 => 0 | _ => 0)) ⟨rfl, by simp [E_vat, c_1, c_2]⟩ [6] [] rfl rfl rfl (Nat.le_of_ble_eq_true rfl) (Nat.le_of_ble_eq_true rfl) dX10_vat_31
  refine go_V (wr := [((md 4), .inl ((mq 4), 6, .inl (fun _ => 0))), ((md 5), .inl ((mq 5), 6, .inl (fun _ => 0))), ((md 6), .inl ((mq 6), 6, .inl (fun _ => 0))), ((md 7), .inl ((mq 7), 6, .inl fs)), ((md 8), .inl ((mq 8), 6, .inl (fun _ => 0))), ((md 9), .inl ((mq 9), 6, .inl (fun _ => 0)))]) ⟨hx, hb, hml, hown, hts⟩ (c_X10_isVat_in l dC dI sa hlt _ h0 md p0 c_1 c_2) (cwV 1 hts gX10_vat_X10_isVat rfl rfl rfl (by decide +kernel) ⟨Nat.le_of_ble_eq_true rfl, Nat.le_of_ble_eq_true rfl⟩) hP hD hK hS hA hev [0] [1, 2, 3, 4, 5, 6] [] rfl rfl rfl rfl (by decide) rfl 0 10 rfl rfl rfl rfl hl.1 rfl (Nat.le_of_ble_eq_true rfl) dX10_vat_2 ⟨Nat.le_of_ble_eq_true rfl, Nat.le_of_ble_eq_true rfl⟩ (fun r u H locs hw hP hD hK hS => ?_)
  have hw : r = some (.int 1) ∧ (True) := hw
  obtain ⟨rfl, hw_7⟩ := hw
  have hP : va_P (dC, dI) vwCl [((md 4), .inl ((mq 4), 6, .inl (fun _ => 0))), ((md 5), .inl ((mq 5), 6, .inl (fun _ => 0))), ((md 6), .inl ((mq 6), 6, .inl (fun _ => 0))), ((md 7), .inl ((mq 7), 6, .inl fs)), ((md 8), .inl ((mq 8), 6, .inl (fun _ => 0))), ((md 9), .inl ((mq 9), 6, .inl (fun _ => 0))), (h0, .inr (10, [.int 0, .int 0, .int 0, .int 0, .ref (md 4), .ref (md 5), .ref (md 6), .ref (md 7), .ref (md 8), .ref (md 9), .ref (md 10), .ref (md 11), .int 0, .ref (md 13), .ref (md 14), .ref (md 15), .ref (md 16), .ref (md 17), .ref (md 18), .ref (md 19), .int 0, .int 0, .int 0, .int 0, .int (-1), .int 0, .ref (md 26), .ref (md 27), .ref (md 28), .ref (md 29), .ref (md 30), .ref (md 31), .ref (md 32), .ref (md 33), .ref (md 34), .ref (md 35), .int 0, .int 0, .int 0, .int 0, .int 0, .int 0, .int 0, .int 0, .int (-1), .int 0, .int 0, .ref (md 47), .ref (md 48), .ref (md 49), .ref (md 50)]))] _ := hP
  have hD : va_D _ [((md 4), .inl ((mq 4), 6, .inl (fun _ => 0))), ((md 5), .inl ((mq 5), 6, .inl (fun _ => 0))), ((md 6), .inl ((mq 6), 6, .inl (fun _ => 0))), ((md 7), .inl ((mq 7), 6, .inl fs)), ((md 8), .inl ((mq 8), 6, .inl (fun _ => 0))), ((md 9), .inl ((mq 9), 6, .inl (fun _ => 0))), (h0, .inr (10, [.int 0, .int 0, .int 0, .int 0, .ref (md 4), .ref (md 5), .ref (md 6), .ref (md 7), .ref (md 8), .ref (md 9), .ref (md 10), .ref (md 11), .int 0, .ref (md 13), .ref (md 14), .ref (md 15), .ref (md 16), .ref (md 17), .ref (md 18), .ref (md 19), .int 0, .int 0, .int 0, .int 0, .int (-1), .int 0, .ref (md 26), .ref (md 27), .ref (md 28), .ref (md 29), .ref (md 30), .ref (md 31), .ref (md 32), .ref (md 33), .ref (md 34), .ref (md 35), .int 0, .int 0, .int 0, .int 0, .int 0, .int 0, .int 0, .int 0, .int (-1), .int 0, .int 0, .ref (md 47), .ref (md 48), .ref (md 49), .ref (md 50)]))] := hD
  have hK : va_K (dC, dI) vwCl [((mq 4), .int), ((mq 5), .int), ((mq 6), .int), ((mq 7), .int), ((mq 8), .int), ((mq 9), .int)] s := hK
  refine W.eq (g2 := F0 m 5 ls [.int 1]) rfl ?_
  refine lv_if_eq (tgt := 30) hx hb dX10_vat_5 (by decide) (fun c_8 => ?_) (fun c_8 => ?_)
  · exact absurd c_8 (by decide)
  refine lv_aload_n hx hb dX10_vat_8 rfl (lv_at hl 0 rfl) ?_
  refine lv_iload_n hx hb dX10_vat_9 rfl (lv_at hl 2 rfl) ?_
  refine lv_if_lt (tgt := 22) hx hb dX10_vat_10 (by decide) (fun c_9 => ?_) (fun c_9 => ?_)
  · refine lv_iconst (v := 0) hx hb dX10_vat_22 (by decide) ?_
    refine lv_iconst (v := 1) hx hb dX10_vat_23 (by decide) ?_
    refine go_V (wr := [((md 4), .inl ((mq 4), 6, .inl (fun _ => 0))), ((md 5), .inl ((mq 5), 6, .inl (fun _ => 0))), ((md 6), .inl ((mq 6), 6, .inl (fun _ => 0))), ((md 7), .inl ((mq 7), 6, .inl fs)), ((md 8), .inl ((mq 8), 6, .inl (fun _ => 0))), ((md 9), .inl ((mq 9), 6, .inl (fun _ => 0)))]) ⟨hx, hb, hml, hown, hts⟩ (c_X10_right_1 l dC dI sa hlt _ h0 md ) (cwV 2 hts gX10_vat_X10_right rfl rfl rfl (by decide +kernel) ⟨Nat.le_of_ble_eq_true rfl, Nat.le_of_ble_eq_true rfl⟩) hP hD hK hS hA hev [6] [0, 1, 2, 3, 4, 5] [] rfl rfl rfl rfl (by decide) rfl 6 10 rfl rfl rfl rfl hl.1 rfl (Nat.le_of_ble_eq_true rfl) dX10_vat_24 ⟨Nat.le_of_ble_eq_true rfl, Nat.le_of_ble_eq_true rfl⟩ (fun r u H locs hw hP hD hK hS => ?_)
    have hw : r = some (.int 0) ∧ (True) := hw
    obtain ⟨rfl, hw_10⟩ := hw
    have hP : va_P (dC, dI) vwCl [((md 4), .inl ((mq 4), 6, .inl (fun _ => 0))), ((md 5), .inl ((mq 5), 6, .inl (fun _ => 0))), ((md 6), .inl ((mq 6), 6, .inl (fun _ => 0))), ((md 7), .inl ((mq 7), 6, .inl fs)), ((md 8), .inl ((mq 8), 6, .inl (fun _ => 0))), ((md 9), .inl ((mq 9), 6, .inl (fun _ => 0))), (h0, .inr (10, [.int 1, .int 0, .int 0, .int 0, .ref (md 4), .ref (md 5), .ref (md 6), .ref (md 7), .ref (md 8), .ref (md 9), .ref (md 10), .ref (md 11), .int 0, .ref (md 13), .ref (md 14), .ref (md 15), .ref (md 16), .ref (md 17), .ref (md 18), .ref (md 19), .int 0, .int 0, .int 0, .int 0, .int (-1), .int 0, .ref (md 26), .ref (md 27), .ref (md 28), .ref (md 29), .ref (md 30), .ref (md 31), .ref (md 32), .ref (md 33), .ref (md 34), .ref (md 35), .int 0, .int 0, .int 0, .int 0, .int 0, .int 0, .int 0, .int 0, .int (-1), .int 0, .int 0, .ref (md 47), .ref (md 48), .ref (md 49), .ref (md 50)]))] _ := hP
    have hD : va_D _ [((md 4), .inl ((mq 4), 6, .inl (fun _ => 0))), ((md 5), .inl ((mq 5), 6, .inl (fun _ => 0))), ((md 6), .inl ((mq 6), 6, .inl (fun _ => 0))), ((md 7), .inl ((mq 7), 6, .inl fs)), ((md 8), .inl ((mq 8), 6, .inl (fun _ => 0))), ((md 9), .inl ((mq 9), 6, .inl (fun _ => 0))), (h0, .inr (10, [.int 1, .int 0, .int 0, .int 0, .ref (md 4), .ref (md 5), .ref (md 6), .ref (md 7), .ref (md 8), .ref (md 9), .ref (md 10), .ref (md 11), .int 0, .ref (md 13), .ref (md 14), .ref (md 15), .ref (md 16), .ref (md 17), .ref (md 18), .ref (md 19), .int 0, .int 0, .int 0, .int 0, .int (-1), .int 0, .ref (md 26), .ref (md 27), .ref (md 28), .ref (md 29), .ref (md 30), .ref (md 31), .ref (md 32), .ref (md 33), .ref (md 34), .ref (md 35), .int 0, .int 0, .int 0, .int 0, .int 0, .int 0, .int 0, .int 0, .int (-1), .int 0, .int 0, .ref (md 47), .ref (md 48), .ref (md 49), .ref (md 50)]))] := hD
    have hK : va_K (dC, dI) vwCl [((mq 4), .int), ((mq 5), .int), ((mq 6), .int), ((mq 7), .int), ((mq 8), .int), ((mq 9), .int)] s := hK
    refine W.eq (g2 := F0 m 27 ls [.int 0]) rfl ?_
    refine lv_if_ne (tgt := 32) hx hb dX10_vat_27 (by decide) (fun c_11 => ?_) (fun c_11 => ?_)
    · exact absurd c_11 (by decide)
    refine lv_iconst (v := 0) hx hb dX10_vat_30 (by decide) ?_
    exact en_i hx hb hr hlocks hP hD hK hS (0, (fun k : Nat => match k with | 0 => 1 | 1 => 0 | 2 => 0 | 3 => 0 | 12 => 0 | 20 => 0 | 21 => 0 | 22 => 0 | 23 => 0 | 24 => (-1) | 25 => 0 | 36 => 0 | 37 => 0 | 38 => 0 | 39 => 0 | 40 => 0 | 41 => 0 | 42 => 0 | 43 => 0 | 44 => (-1) | 45 => 0 | 46 => 0 | _ => 0)) ⟨rfl, by have h9 := ne_out (Or.inl c_9); simp [E_vat, h9, c_1, c_2]⟩ [6] [] rfl rfl rfl (Nat.le_of_ble_eq_true rfl) (Nat.le_of_ble_eq_true rfl) dX10_vat_31
  · refine lv_iload_n hx hb dX10_vat_13 rfl (lv_at hl 2 rfl) ?_
    refine lv_iconst (v := 5) hx hb dX10_vat_14 (by decide) ?_
    refine lv_icmp_gt (tgt := 22) hx hb dX10_vat_15 (by decide) (fun c_12 => ?_) (fun c_12 => ?_)
    · refine lv_iconst (v := 0) hx hb dX10_vat_22 (by decide) ?_
      refine lv_iconst (v := 1) hx hb dX10_vat_23 (by decide) ?_
      refine go_V (wr := [((md 4), .inl ((mq 4), 6, .inl (fun _ => 0))), ((md 5), .inl ((mq 5), 6, .inl (fun _ => 0))), ((md 6), .inl ((mq 6), 6, .inl (fun _ => 0))), ((md 7), .inl ((mq 7), 6, .inl fs)), ((md 8), .inl ((mq 8), 6, .inl (fun _ => 0))), ((md 9), .inl ((mq 9), 6, .inl (fun _ => 0)))]) ⟨hx, hb, hml, hown, hts⟩ (c_X10_right_1 l dC dI sa hlt _ h0 md ) (cwV 2 hts gX10_vat_X10_right rfl rfl rfl (by decide +kernel) ⟨Nat.le_of_ble_eq_true rfl, Nat.le_of_ble_eq_true rfl⟩) hP hD hK hS hA hev [6] [0, 1, 2, 3, 4, 5] [] rfl rfl rfl rfl (by decide) rfl 6 10 rfl rfl rfl rfl hl.1 rfl (Nat.le_of_ble_eq_true rfl) dX10_vat_24 ⟨Nat.le_of_ble_eq_true rfl, Nat.le_of_ble_eq_true rfl⟩ (fun r u H locs hw hP hD hK hS => ?_)
      have hw : r = some (.int 0) ∧ (True) := hw
      obtain ⟨rfl, hw_13⟩ := hw
      have hP : va_P (dC, dI) vwCl [((md 4), .inl ((mq 4), 6, .inl (fun _ => 0))), ((md 5), .inl ((mq 5), 6, .inl (fun _ => 0))), ((md 6), .inl ((mq 6), 6, .inl (fun _ => 0))), ((md 7), .inl ((mq 7), 6, .inl fs)), ((md 8), .inl ((mq 8), 6, .inl (fun _ => 0))), ((md 9), .inl ((mq 9), 6, .inl (fun _ => 0))), (h0, .inr (10, [.int 1, .int 0, .int 0, .int 0, .ref (md 4), .ref (md 5), .ref (md 6), .ref (md 7), .ref (md 8), .ref (md 9), .ref (md 10), .ref (md 11), .int 0, .ref (md 13), .ref (md 14), .ref (md 15), .ref (md 16), .ref (md 17), .ref (md 18), .ref (md 19), .int 0, .int 0, .int 0, .int 0, .int (-1), .int 0, .ref (md 26), .ref (md 27), .ref (md 28), .ref (md 29), .ref (md 30), .ref (md 31), .ref (md 32), .ref (md 33), .ref (md 34), .ref (md 35), .int 0, .int 0, .int 0, .int 0, .int 0, .int 0, .int 0, .int 0, .int (-1), .int 0, .int 0, .ref (md 47), .ref (md 48), .ref (md 49), .ref (md 50)]))] _ := hP
      have hD : va_D _ [((md 4), .inl ((mq 4), 6, .inl (fun _ => 0))), ((md 5), .inl ((mq 5), 6, .inl (fun _ => 0))), ((md 6), .inl ((mq 6), 6, .inl (fun _ => 0))), ((md 7), .inl ((mq 7), 6, .inl fs)), ((md 8), .inl ((mq 8), 6, .inl (fun _ => 0))), ((md 9), .inl ((mq 9), 6, .inl (fun _ => 0))), (h0, .inr (10, [.int 1, .int 0, .int 0, .int 0, .ref (md 4), .ref (md 5), .ref (md 6), .ref (md 7), .ref (md 8), .ref (md 9), .ref (md 10), .ref (md 11), .int 0, .ref (md 13), .ref (md 14), .ref (md 15), .ref (md 16), .ref (md 17), .ref (md 18), .ref (md 19), .int 0, .int 0, .int 0, .int 0, .int (-1), .int 0, .ref (md 26), .ref (md 27), .ref (md 28), .ref (md 29), .ref (md 30), .ref (md 31), .ref (md 32), .ref (md 33), .ref (md 34), .ref (md 35), .int 0, .int 0, .int 0, .int 0, .int 0, .int 0, .int 0, .int 0, .int (-1), .int 0, .int 0, .ref (md 47), .ref (md 48), .ref (md 49), .ref (md 50)]))] := hD
      have hK : va_K (dC, dI) vwCl [((mq 4), .int), ((mq 5), .int), ((mq 6), .int), ((mq 7), .int), ((mq 8), .int), ((mq 9), .int)] s := hK
      refine W.eq (g2 := F0 m 27 ls [.int 0]) rfl ?_
      refine lv_if_ne (tgt := 32) hx hb dX10_vat_27 (by decide) (fun c_14 => ?_) (fun c_14 => ?_)
      · exact absurd c_14 (by decide)
      refine lv_iconst (v := 0) hx hb dX10_vat_30 (by decide) ?_
      exact en_i hx hb hr hlocks hP hD hK hS (0, (fun k : Nat => match k with | 0 => 1 | 1 => 0 | 2 => 0 | 3 => 0 | 12 => 0 | 20 => 0 | 21 => 0 | 22 => 0 | 23 => 0 | 24 => (-1) | 25 => 0 | 36 => 0 | 37 => 0 | 38 => 0 | 39 => 0 | 40 => 0 | 41 => 0 | 42 => 0 | 43 => 0 | 44 => (-1) | 45 => 0 | 46 => 0 | _ => 0)) ⟨rfl, by have h9 := ne_out (Or.inr c_12); simp [E_vat, h9, c_1, c_2]⟩ [6] [] rfl rfl rfl (Nat.le_of_ble_eq_true rfl) (Nat.le_of_ble_eq_true rfl) dX10_vat_31
    · refine lv_iconst (v := 1) hx hb dX10_vat_18 (by decide) ?_
      refine lv_goto (tgt := 23) hx hb dX10_vat_19 (by decide) ?_
      refine lv_iconst (v := 1) hx hb dX10_vat_23 (by decide) ?_
      refine go_V (wr := [((md 4), .inl ((mq 4), 6, .inl (fun _ => 0))), ((md 5), .inl ((mq 5), 6, .inl (fun _ => 0))), ((md 6), .inl ((mq 6), 6, .inl (fun _ => 0))), ((md 7), .inl ((mq 7), 6, .inl fs)), ((md 8), .inl ((mq 8), 6, .inl (fun _ => 0))), ((md 9), .inl ((mq 9), 6, .inl (fun _ => 0)))]) ⟨hx, hb, hml, hown, hts⟩ (c_X10_right_ok l dC dI sa hlt _ h0 md 1 ) (cwV 2 hts gX10_vat_X10_right rfl rfl rfl (by decide +kernel) ⟨Nat.le_of_ble_eq_true rfl, Nat.le_of_ble_eq_true rfl⟩) hP hD hK hS hA hev [6] [0, 1, 2, 3, 4, 5] [] rfl rfl rfl rfl (by decide) rfl 6 10 rfl rfl rfl rfl hl.1 rfl (Nat.le_of_ble_eq_true rfl) dX10_vat_24 ⟨Nat.le_of_ble_eq_true rfl, Nat.le_of_ble_eq_true rfl⟩ (fun r u H locs hw hP hD hK hS => ?_)
      have hw : r = some (.int 1) ∧ (True) := hw
      obtain ⟨rfl, hw_15⟩ := hw
      have hP : va_P (dC, dI) vwCl [((md 4), .inl ((mq 4), 6, .inl (fun _ => 0))), ((md 5), .inl ((mq 5), 6, .inl (fun _ => 0))), ((md 6), .inl ((mq 6), 6, .inl (fun _ => 0))), ((md 7), .inl ((mq 7), 6, .inl fs)), ((md 8), .inl ((mq 8), 6, .inl (fun _ => 0))), ((md 9), .inl ((mq 9), 6, .inl (fun _ => 0))), (h0, .inr (10, [.int 0, .int 0, .int 0, .int 0, .ref (md 4), .ref (md 5), .ref (md 6), .ref (md 7), .ref (md 8), .ref (md 9), .ref (md 10), .ref (md 11), .int 0, .ref (md 13), .ref (md 14), .ref (md 15), .ref (md 16), .ref (md 17), .ref (md 18), .ref (md 19), .int 0, .int 0, .int 0, .int 0, .int (-1), .int 0, .ref (md 26), .ref (md 27), .ref (md 28), .ref (md 29), .ref (md 30), .ref (md 31), .ref (md 32), .ref (md 33), .ref (md 34), .ref (md 35), .int 0, .int 0, .int 0, .int 0, .int 0, .int 0, .int 0, .int 0, .int (-1), .int 0, .int 0, .ref (md 47), .ref (md 48), .ref (md 49), .ref (md 50)]))] _ := hP
      have hD : va_D _ [((md 4), .inl ((mq 4), 6, .inl (fun _ => 0))), ((md 5), .inl ((mq 5), 6, .inl (fun _ => 0))), ((md 6), .inl ((mq 6), 6, .inl (fun _ => 0))), ((md 7), .inl ((mq 7), 6, .inl fs)), ((md 8), .inl ((mq 8), 6, .inl (fun _ => 0))), ((md 9), .inl ((mq 9), 6, .inl (fun _ => 0))), (h0, .inr (10, [.int 0, .int 0, .int 0, .int 0, .ref (md 4), .ref (md 5), .ref (md 6), .ref (md 7), .ref (md 8), .ref (md 9), .ref (md 10), .ref (md 11), .int 0, .ref (md 13), .ref (md 14), .ref (md 15), .ref (md 16), .ref (md 17), .ref (md 18), .ref (md 19), .int 0, .int 0, .int 0, .int 0, .int (-1), .int 0, .ref (md 26), .ref (md 27), .ref (md 28), .ref (md 29), .ref (md 30), .ref (md 31), .ref (md 32), .ref (md 33), .ref (md 34), .ref (md 35), .int 0, .int 0, .int 0, .int 0, .int 0, .int 0, .int 0, .int 0, .int (-1), .int 0, .int 0, .ref (md 47), .ref (md 48), .ref (md 49), .ref (md 50)]))] := hD
      have hK : va_K (dC, dI) vwCl [((mq 4), .int), ((mq 5), .int), ((mq 6), .int), ((mq 7), .int), ((mq 8), .int), ((mq 9), .int)] s := hK
      refine W.eq (g2 := F0 m 27 ls [.int 1]) rfl ?_
      refine lv_if_ne (tgt := 32) hx hb dX10_vat_27 (by decide) (fun c_16 => ?_) (fun c_16 => ?_)
      rotate_left
      · exact absurd c_16 (by decide)
      refine lv_iload_n hx hb dX10_vat_32 rfl (lv_at hl 2 rfl) ?_
      by_cases c_17 : p1 = 0
      · refine lv_tableIn (tgt := 68) hx hb dX10_vat_33 (by rw [c_17]; decide) (by rw [c_17]; decide) (by rw [c_17]; rfl) (by decide) ?_
        refine lv_aload_n hx hb dX10_vat_68 rfl (lv_at hl 0 rfl) ?_
        refine va_get (D := (dC, dI)) (ci := 10) (v := .ref (md 4)) (C := RX10) (T := TX10) (N := 51) hx hb hts inw_X10_vat_10 hown hK hP 6 rfl rfl 4 (by decide) (hts (.fieldLink RX10 7 "VatHouseModel" "grains" "[I") (by decide +kernel)) (fun _ h9 => h9) rfl dX10_vat_69 ?_
        refine lv_iload_n hx hb dX10_vat_72 rfl (lv_at hl 1 rfl) ?_
        refine va_iald hx hb hK hP 0 0 rfl rfl (vin 6 (by decide) rfl c_1 c_2) dX10_vat_73 ?_
        refine lv_topi (fun z_18 ez_18 => ?_)
        obtain rfl : z_18 = 0 := ez_18
        exact en_i hx hb hr hlocks hP hD hK hS (0, (fun k : Nat => match k with | 0 => 0 | 1 => 0 | 2 => 0 | 3 => 0 | 12 => 0 | 20 => 0 | 21 => 0 | 22 => 0 | 23 => 0 | 24 => (-1) | 25 => 0 | 36 => 0 | 37 => 0 | 38 => 0 | 39 => 0 | 40 => 0 | 41 => 0 | 42 => 0 | 43 => 0 | 44 => (-1) | 45 => 0 | 46 => 0 | _ => 0)) ⟨rfl, by rw [c_17]; simp [E_vat, hfs _ (vlt 6 (by decide) rfl c_1 c_2), c_1, c_2]⟩ [6] [] rfl rfl rfl (Nat.le_of_ble_eq_true rfl) (Nat.le_of_ble_eq_true rfl) dX10_vat_74
      by_cases c_19 : p1 = 1
      · refine lv_tableIn (tgt := 75) hx hb dX10_vat_33 (by rw [c_19]; decide) (by rw [c_19]; decide) (by rw [c_19]; rfl) (by decide) ?_
        refine lv_aload_n hx hb dX10_vat_75 rfl (lv_at hl 0 rfl) ?_
        refine va_get (D := (dC, dI)) (ci := 10) (v := .ref (md 5)) (C := RX10) (T := TX10) (N := 51) hx hb hts inw_X10_vat_10 hown hK hP 6 rfl rfl 5 (by decide) (hts (.fieldLink RX10 13 "VatHouseModel" "food" "[I") (by decide +kernel)) (fun _ h9 => h9) rfl dX10_vat_76 ?_
        refine lv_iload_n hx hb dX10_vat_79 rfl (lv_at hl 1 rfl) ?_
        refine va_iald hx hb hK hP 1 1 rfl rfl (vin 6 (by decide) rfl c_1 c_2) dX10_vat_80 ?_
        refine lv_topi (fun z_20 ez_20 => ?_)
        obtain rfl : z_20 = 0 := ez_20
        exact en_i hx hb hr hlocks hP hD hK hS (0, (fun k : Nat => match k with | 0 => 0 | 1 => 0 | 2 => 0 | 3 => 0 | 12 => 0 | 20 => 0 | 21 => 0 | 22 => 0 | 23 => 0 | 24 => (-1) | 25 => 0 | 36 => 0 | 37 => 0 | 38 => 0 | 39 => 0 | 40 => 0 | 41 => 0 | 42 => 0 | 43 => 0 | 44 => (-1) | 45 => 0 | 46 => 0 | _ => 0)) ⟨rfl, by rw [c_19]; simp [E_vat, hfs _ (vlt 6 (by decide) rfl c_1 c_2), c_1, c_2]⟩ [6] [] rfl rfl rfl (Nat.le_of_ble_eq_true rfl) (Nat.le_of_ble_eq_true rfl) dX10_vat_81
      by_cases c_21 : p1 = 2
      · refine lv_tableIn (tgt := 82) hx hb dX10_vat_33 (by rw [c_21]; decide) (by rw [c_21]; decide) (by rw [c_21]; rfl) (by decide) ?_
        refine lv_aload_n hx hb dX10_vat_82 rfl (lv_at hl 0 rfl) ?_
        refine va_get (D := (dC, dI)) (ci := 10) (v := .ref (md 6)) (C := RX10) (T := TX10) (N := 51) hx hb hts inw_X10_vat_10 hown hK hP 6 rfl rfl 6 (by decide) (hts (.fieldLink RX10 16 "VatHouseModel" "minutes" "[I") (by decide +kernel)) (fun _ h9 => h9) rfl dX10_vat_83 ?_
        refine lv_iload_n hx hb dX10_vat_86 rfl (lv_at hl 1 rfl) ?_
        refine va_iald hx hb hK hP 2 2 rfl rfl (vin 6 (by decide) rfl c_1 c_2) dX10_vat_87 ?_
        refine lv_topi (fun z_22 ez_22 => ?_)
        obtain rfl : z_22 = 0 := ez_22
        exact en_i hx hb hr hlocks hP hD hK hS (0, (fun k : Nat => match k with | 0 => 0 | 1 => 0 | 2 => 0 | 3 => 0 | 12 => 0 | 20 => 0 | 21 => 0 | 22 => 0 | 23 => 0 | 24 => (-1) | 25 => 0 | 36 => 0 | 37 => 0 | 38 => 0 | 39 => 0 | 40 => 0 | 41 => 0 | 42 => 0 | 43 => 0 | 44 => (-1) | 45 => 0 | 46 => 0 | _ => 0)) ⟨rfl, by rw [c_21]; simp [E_vat, hfs _ (vlt 6 (by decide) rfl c_1 c_2), c_1, c_2]⟩ [6] [] rfl rfl rfl (Nat.le_of_ble_eq_true rfl) (Nat.le_of_ble_eq_true rfl) dX10_vat_88
      by_cases c_23 : p1 = 3
      · refine lv_tableIn (tgt := 89) hx hb dX10_vat_33 (by rw [c_23]; decide) (by rw [c_23]; decide) (by rw [c_23]; rfl) (by decide) ?_
        refine lv_aload_n hx hb dX10_vat_89 rfl (lv_at hl 0 rfl) ?_
        refine va_get (D := (dC, dI)) (ci := 10) (v := .ref (md 7)) (C := RX10) (T := TX10) (N := 51) hx hb hts inw_X10_vat_10 hown hK hP 6 rfl rfl 7 (by decide) (hts (.fieldLink RX10 19 "VatHouseModel" "state" "[I") (by decide +kernel)) (fun _ h9 => h9) rfl dX10_vat_90 ?_
        refine lv_iload_n hx hb dX10_vat_93 rfl (lv_at hl 1 rfl) ?_
        refine va_iald hx hb hK hP 3 3 rfl rfl (vin 6 (by decide) rfl c_1 c_2) dX10_vat_94 ?_
        refine lv_topi (fun z_24 ez_24 => ?_)
        exact en_i hx hb hr hlocks hP hD hK hS (z_24, (fun k : Nat => match k with | 0 => 0 | 1 => 0 | 2 => 0 | 3 => 0 | 12 => 0 | 20 => 0 | 21 => 0 | 22 => 0 | 23 => 0 | 24 => (-1) | 25 => 0 | 36 => 0 | 37 => 0 | 38 => 0 | 39 => 0 | 40 => 0 | 41 => 0 | 42 => 0 | 43 => 0 | 44 => (-1) | 45 => 0 | 46 => 0 | _ => 0)) ⟨rfl, by rw [ez_24]; rw [c_23]; simp [E_vat, hfs _ (vlt 6 (by decide) rfl c_1 c_2), c_1, c_2]⟩ [6] [] rfl rfl rfl (Nat.le_of_ble_eq_true rfl) (Nat.le_of_ble_eq_true rfl) dX10_vat_95
      by_cases c_25 : p1 = 4
      · refine lv_tableIn (tgt := 96) hx hb dX10_vat_33 (by rw [c_25]; decide) (by rw [c_25]; decide) (by rw [c_25]; rfl) (by decide) ?_
        refine lv_aload_n hx hb dX10_vat_96 rfl (lv_at hl 0 rfl) ?_
        refine va_get (D := (dC, dI)) (ci := 10) (v := .ref (md 8)) (C := RX10) (T := TX10) (N := 51) hx hb hts inw_X10_vat_10 hown hK hP 6 rfl rfl 8 (by decide) (hts (.fieldLink RX10 22 "VatHouseModel" "dips" "[I") (by decide +kernel)) (fun _ h9 => h9) rfl dX10_vat_97 ?_
        refine lv_iload_n hx hb dX10_vat_100 rfl (lv_at hl 1 rfl) ?_
        refine va_iald hx hb hK hP 4 4 rfl rfl (vin 6 (by decide) rfl c_1 c_2) dX10_vat_101 ?_
        refine lv_topi (fun z_26 ez_26 => ?_)
        obtain rfl : z_26 = 0 := ez_26
        exact en_i hx hb hr hlocks hP hD hK hS (0, (fun k : Nat => match k with | 0 => 0 | 1 => 0 | 2 => 0 | 3 => 0 | 12 => 0 | 20 => 0 | 21 => 0 | 22 => 0 | 23 => 0 | 24 => (-1) | 25 => 0 | 36 => 0 | 37 => 0 | 38 => 0 | 39 => 0 | 40 => 0 | 41 => 0 | 42 => 0 | 43 => 0 | 44 => (-1) | 45 => 0 | 46 => 0 | _ => 0)) ⟨rfl, by rw [c_25]; simp [E_vat, hfs _ (vlt 6 (by decide) rfl c_1 c_2), c_1, c_2]⟩ [6] [] rfl rfl rfl (Nat.le_of_ble_eq_true rfl) (Nat.le_of_ble_eq_true rfl) dX10_vat_102
      refine lv_tableOut (tgt := 103) hx hb dX10_vat_33 (tab_out5 c_17 c_19 c_21 c_23 c_25) (by decide) ?_
      refine lv_aload_n hx hb dX10_vat_103 rfl (lv_at hl 0 rfl) ?_
      refine va_get (D := (dC, dI)) (ci := 10) (v := .ref (md 9)) (C := RX10) (T := TX10) (N := 51) hx hb hts inw_X10_vat_10 hown hK hP 6 rfl rfl 9 (by decide) (hts (.fieldLink RX10 25 "VatHouseModel" "dyed" "[I") (by decide +kernel)) (fun _ h9 => h9) rfl dX10_vat_104 ?_
      refine lv_iload_n hx hb dX10_vat_107 rfl (lv_at hl 1 rfl) ?_
      refine va_iald hx hb hK hP 5 5 rfl rfl (vin 6 (by decide) rfl c_1 c_2) dX10_vat_108 ?_
      refine lv_topi (fun z_27 ez_27 => ?_)
      obtain rfl : z_27 = 0 := ez_27
      exact en_i hx hb hr hlocks hP hD hK hS (0, (fun k : Nat => match k with | 0 => 0 | 1 => 0 | 2 => 0 | 3 => 0 | 12 => 0 | 20 => 0 | 21 => 0 | 22 => 0 | 23 => 0 | 24 => (-1) | 25 => 0 | 36 => 0 | 37 => 0 | 38 => 0 | 39 => 0 | 40 => 0 | 41 => 0 | 42 => 0 | 43 => 0 | 44 => (-1) | 45 => 0 | 46 => 0 | _ => 0)) ⟨rfl, by have h9 := is5 c_9 c_12 c_17 c_19 c_21 c_23 c_25; rw [h9]; simp [E_vat, hfs _ (vlt 6 (by decide) rfl c_1 c_2), c_1, c_2]⟩ [6] [] rfl rfl rfl (Nat.le_of_ble_eq_true rfl) (Nat.le_of_ble_eq_true rfl) dX10_vat_109

abbrev rm_X10_fault : Room := { frames := 1, cells := 0, slots := 0, locals := 22 }
theorem inw_X10_fault_10 : ∀ w ∈ wsX100, w ∈ wsX10_fault := by decide +kernel
set_option maxHeartbeats 800000 in
set_option maxRecDepth 100000 in
theorem c_X10_fault (l : Launch) (dC : Nat → ClassId) (dI : Nat → Nat → Nat) (sa : Nat → Nat) (hlt : l.stackTraces = false) (sz : Nat) (h0 : Nat) (md : Nat → Nat) (mq : Nat → ClassId) (p0 : Int32) : CT l dC dI sa yX10_fault wsX10_fault rm_X10_fault [.ref h0, .int p0] [(h0, .inr (10, [.int 0, .int 0, .int 0, .int 0, .ref (md 4), .ref (md 5), .ref (md 6), .ref (md 7), .ref (md 8), .ref (md 9), .ref (md 10), .ref (md 11), .int 0, .ref (md 13), .ref (md 14), .ref (md 15), .ref (md 16), .ref (md 17), .ref (md 18), .ref (md 19), .int 0, .int 0, .int 0, .int 0, .int (-1), .int 0, .ref (md 26), .ref (md 27), .ref (md 28), .ref (md 29), .ref (md 30), .ref (md 31), .ref (md 32), .ref (md 33), .ref (md 34), .ref (md 35), .int 0, .int 0, .int 0, .int 0, .int 0, .int 0, .int 0, .int 0, .int (-1), .int 0, .int 0, .ref (md 47), .ref (md 48), .ref (md 49), .ref (md 50)]))] [] sz (fun (r : Option Value) (u : Int32 × (Nat → Int32)) => match u with | (x, J) => r = some (.int x) ∧ (E_fault p0 = (J 0, x))) (fun (u : Int32 × (Nat → Int32)) => match u with | (x, J) => [(h0, .inr (10, [.int (J 0), .int (J 1), .int (J 2), .int (J 3), .ref (md 4), .ref (md 5), .ref (md 6), .ref (md 7), .ref (md 8), .ref (md 9), .ref (md 10), .ref (md 11), .int (J 12), .ref (md 13), .ref (md 14), .ref (md 15), .ref (md 16), .ref (md 17), .ref (md 18), .ref (md 19), .int (J 20), .int (J 21), .int (J 22), .int (J 23), .int (J 24), .int (J 25), .ref (md 26), .ref (md 27), .ref (md 28), .ref (md 29), .ref (md 30), .ref (md 31), .ref (md 32), .ref (md 33), .ref (md 34), .ref (md 35), .int (J 36), .int (J 37), .int (J 38), .int (J 39), .int (J 40), .int (J 41), .int (J 42), .int (J 43), .int (J 44), .int (J 45), .int (J 46), .ref (md 47), .ref (md 48), .ref (md 49), .ref (md 50)]))]) (fun (u : Int32 × (Nat → Int32)) => match u with | (x, J) => []) 0 0 := by
  refine CT.start (cc := cX10_fault) (maxL := 2) (ret := (some .int)) (by decide) rfl (Nat.le_of_ble_eq_true rfl) ?_
  intro p e s m below meth c ls hst hP hK hD hev hS hl
  obtain ⟨hx, hb, hr, hml, hts, hown, hlocks, hin⟩ := hst
  have hown : s.vm.findClass RX10 = some m.cls := hown
  have hin : meth.name = yX10_fault.name := hin
  have hA : ∀ q : Nat, s.heap.size ≤ q → va_A [(h0, .inr (10, [.int 0, .int 0, .int 0, .int 0, .ref (md 4), .ref (md 5), .ref (md 6), .ref (md 7), .ref (md 8), .ref (md 9), .ref (md 10), .ref (md 11), .int 0, .ref (md 13), .ref (md 14), .ref (md 15), .ref (md 16), .ref (md 17), .ref (md 18), .ref (md 19), .int 0, .int 0, .int 0, .int 0, .int (-1), .int 0, .ref (md 26), .ref (md 27), .ref (md 28), .ref (md 29), .ref (md 30), .ref (md 31), .ref (md 32), .ref (md 33), .ref (md 34), .ref (md 35), .int 0, .int 0, .int 0, .int 0, .int 0, .int 0, .int 0, .int 0, .int (-1), .int 0, .int 0, .ref (md 47), .ref (md 48), .ref (md 49), .ref (md 50)]))] s.heap.size q := fun _ h => Or.inr h
  have hl : lv_has ls 2 [(0, .ref h0), (1, .int p0)] := hl
  refine lv_aload_n hx hb dX10_fault_0 rfl (lv_at hl 0 rfl) ?_
  refine lv_iconst (v := 0) hx hb dX10_fault_1 (by decide) ?_
  refine va_put (D := (dC, dI)) (ci := 10) (v := .int 0) (ty := .int) (C := RX10) (T := TX10) (N := 51) hx hb hts inw_X10_fault_10 tyX10 tyX10_ok nmX10 hown hK hP hD hS 0 rfl rfl 0 (by decide) (hts (.fieldLink RX10 105 "VatHouseModel" "thrown" "I") (by decide +kernel)) (fun _ h9 => h9) rfl (by decide +kernel) rfl rfl (Nat.le_of_ble_eq_true rfl) dX10_fault_2 (fun H locs hP hD hS => ?_)
  have hP : va_P (dC, dI) vwCl [(h0, .inr (10, [.int 0, .int 0, .int 0, .int 0, .ref (md 4), .ref (md 5), .ref (md 6), .ref (md 7), .ref (md 8), .ref (md 9), .ref (md 10), .ref (md 11), .int 0, .ref (md 13), .ref (md 14), .ref (md 15), .ref (md 16), .ref (md 17), .ref (md 18), .ref (md 19), .int 0, .int 0, .int 0, .int 0, .int (-1), .int 0, .ref (md 26), .ref (md 27), .ref (md 28), .ref (md 29), .ref (md 30), .ref (md 31), .ref (md 32), .ref (md 33), .ref (md 34), .ref (md 35), .int 0, .int 0, .int 0, .int 0, .int 0, .int 0, .int 0, .int 0, .int (-1), .int 0, .int 0, .ref (md 47), .ref (md 48), .ref (md 49), .ref (md 50)]))] _ := hP
  have hD : va_D _ [(h0, .inr (10, [.int 0, .int 0, .int 0, .int 0, .ref (md 4), .ref (md 5), .ref (md 6), .ref (md 7), .ref (md 8), .ref (md 9), .ref (md 10), .ref (md 11), .int 0, .ref (md 13), .ref (md 14), .ref (md 15), .ref (md 16), .ref (md 17), .ref (md 18), .ref (md 19), .int 0, .int 0, .int 0, .int 0, .int (-1), .int 0, .ref (md 26), .ref (md 27), .ref (md 28), .ref (md 29), .ref (md 30), .ref (md 31), .ref (md 32), .ref (md 33), .ref (md 34), .ref (md 35), .int 0, .int 0, .int 0, .int 0, .int 0, .int 0, .int 0, .int 0, .int (-1), .int 0, .int 0, .ref (md 47), .ref (md 48), .ref (md 49), .ref (md 50)]))] := hD
  refine lv_aload_n hx hb dX10_fault_5 rfl (lv_at hl 0 rfl) ?_
  refine lv_iload_n hx hb dX10_fault_6 rfl (lv_at hl 1 rfl) ?_
  refine lv_if_eq (tgt := 15) hx hb dX10_fault_7 (by decide) (fun c_1 => ?_) (fun c_1 => ?_)
  · refine lv_iconst (v := 1) hx hb dX10_fault_15 (by decide) ?_
    refine lv_goto (tgt := 20) hx hb dX10_fault_16 (by decide) ?_
    refine lv_iconst (v := 1) hx hb dX10_fault_20 (by decide) ?_
    refine go_V (wr := []) ⟨hx, hb, hml, hown, hts⟩ (c_X10_right_ok l dC dI sa hlt _ h0 md 1 ) (cwV 2 hts gX10_fault_X10_right rfl rfl rfl (by decide +kernel) ⟨Nat.le_of_ble_eq_true rfl, Nat.le_of_ble_eq_true rfl⟩) hP hD hK hS hA hev [0] [] [] rfl rfl rfl rfl (by decide) rfl 0 10 rfl rfl rfl rfl hl.1 rfl (Nat.le_of_ble_eq_true rfl) dX10_fault_21 ⟨Nat.le_of_ble_eq_true rfl, Nat.le_of_ble_eq_true rfl⟩ (fun r u H locs hw hP hD hK hS => ?_)
    have hw : r = some (.int 1) ∧ (True) := hw
    obtain ⟨rfl, hw_2⟩ := hw
    have hP : va_P (dC, dI) vwCl [(h0, .inr (10, [.int 0, .int 0, .int 0, .int 0, .ref (md 4), .ref (md 5), .ref (md 6), .ref (md 7), .ref (md 8), .ref (md 9), .ref (md 10), .ref (md 11), .int 0, .ref (md 13), .ref (md 14), .ref (md 15), .ref (md 16), .ref (md 17), .ref (md 18), .ref (md 19), .int 0, .int 0, .int 0, .int 0, .int (-1), .int 0, .ref (md 26), .ref (md 27), .ref (md 28), .ref (md 29), .ref (md 30), .ref (md 31), .ref (md 32), .ref (md 33), .ref (md 34), .ref (md 35), .int 0, .int 0, .int 0, .int 0, .int 0, .int 0, .int 0, .int 0, .int (-1), .int 0, .int 0, .ref (md 47), .ref (md 48), .ref (md 49), .ref (md 50)]))] _ := hP
    have hD : va_D _ [(h0, .inr (10, [.int 0, .int 0, .int 0, .int 0, .ref (md 4), .ref (md 5), .ref (md 6), .ref (md 7), .ref (md 8), .ref (md 9), .ref (md 10), .ref (md 11), .int 0, .ref (md 13), .ref (md 14), .ref (md 15), .ref (md 16), .ref (md 17), .ref (md 18), .ref (md 19), .int 0, .int 0, .int 0, .int 0, .int (-1), .int 0, .ref (md 26), .ref (md 27), .ref (md 28), .ref (md 29), .ref (md 30), .ref (md 31), .ref (md 32), .ref (md 33), .ref (md 34), .ref (md 35), .int 0, .int 0, .int 0, .int 0, .int 0, .int 0, .int 0, .int 0, .int (-1), .int 0, .int 0, .ref (md 47), .ref (md 48), .ref (md 49), .ref (md 50)]))] := hD
    have hK : va_K (dC, dI) vwCl [] s := hK
    refine W.eq (g2 := F0 m 24 ls [.int 1]) rfl ?_
    refine lv_if_ne (tgt := 29) hx hb dX10_fault_24 (by decide) (fun c_3 => ?_) (fun c_3 => ?_)
    rotate_left
    · exact absurd c_3 (by decide)
    refine lv_iload_n hx hb dX10_fault_29 rfl (lv_at hl 1 rfl) ?_
    refine lv_if_ne (tgt := 40) hx hb dX10_fault_30 (by decide) (fun c_4 => ?_) (fun c_4 => ?_)
    · exact absurd c_4 (fun h => h c_1)
    refine lv_aload_n hx hb dX10_fault_33 rfl (lv_at hl 0 rfl) ?_
    refine va_get (D := (dC, dI)) (ci := 10) (v := .int 0) (C := RX10) (T := TX10) (N := 51) hx hb hts inw_X10_fault_10 hown hK hP 0 rfl rfl 23 (by decide) (hts (.fieldLink RX10 165 "VatHouseModel" "faultKind" "I") (by decide +kernel)) (fun _ h9 => h9) rfl dX10_fault_34 ?_
    refine lv_goto (tgt := 44) hx hb dX10_fault_37 (by decide) ?_
    exact en_i hx hb hr hlocks hP hD hK hS (0, (fun k : Nat => match k with | 0 => 0 | 1 => 0 | 2 => 0 | 3 => 0 | 12 => 0 | 20 => 0 | 21 => 0 | 22 => 0 | 23 => 0 | 24 => (-1) | 25 => 0 | 36 => 0 | 37 => 0 | 38 => 0 | 39 => 0 | 40 => 0 | 41 => 0 | 42 => 0 | 43 => 0 | 44 => (-1) | 45 => 0 | 46 => 0 | _ => 0)) ⟨rfl, by simp [E_fault, c_1]⟩ [0] [] rfl rfl rfl (Nat.le_of_ble_eq_true rfl) (Nat.le_of_ble_eq_true rfl) dX10_fault_44
  · refine lv_iload_n hx hb dX10_fault_10 rfl (lv_at hl 1 rfl) ?_
    refine lv_iconst (v := 1) hx hb dX10_fault_11 (by decide) ?_
    refine lv_icmp_ne (tgt := 19) hx hb dX10_fault_12 (by decide) (fun c_5 => ?_) (fun c_5 => ?_)
    · refine lv_iconst (v := 0) hx hb dX10_fault_19 (by decide) ?_
      refine lv_iconst (v := 1) hx hb dX10_fault_20 (by decide) ?_
      refine go_V (wr := []) ⟨hx, hb, hml, hown, hts⟩ (c_X10_right_1 l dC dI sa hlt _ h0 md ) (cwV 2 hts gX10_fault_X10_right rfl rfl rfl (by decide +kernel) ⟨Nat.le_of_ble_eq_true rfl, Nat.le_of_ble_eq_true rfl⟩) hP hD hK hS hA hev [0] [] [] rfl rfl rfl rfl (by decide) rfl 0 10 rfl rfl rfl rfl hl.1 rfl (Nat.le_of_ble_eq_true rfl) dX10_fault_21 ⟨Nat.le_of_ble_eq_true rfl, Nat.le_of_ble_eq_true rfl⟩ (fun r u H locs hw hP hD hK hS => ?_)
      have hw : r = some (.int 0) ∧ (True) := hw
      obtain ⟨rfl, hw_6⟩ := hw
      have hP : va_P (dC, dI) vwCl [(h0, .inr (10, [.int 1, .int 0, .int 0, .int 0, .ref (md 4), .ref (md 5), .ref (md 6), .ref (md 7), .ref (md 8), .ref (md 9), .ref (md 10), .ref (md 11), .int 0, .ref (md 13), .ref (md 14), .ref (md 15), .ref (md 16), .ref (md 17), .ref (md 18), .ref (md 19), .int 0, .int 0, .int 0, .int 0, .int (-1), .int 0, .ref (md 26), .ref (md 27), .ref (md 28), .ref (md 29), .ref (md 30), .ref (md 31), .ref (md 32), .ref (md 33), .ref (md 34), .ref (md 35), .int 0, .int 0, .int 0, .int 0, .int 0, .int 0, .int 0, .int 0, .int (-1), .int 0, .int 0, .ref (md 47), .ref (md 48), .ref (md 49), .ref (md 50)]))] _ := hP
      have hD : va_D _ [(h0, .inr (10, [.int 1, .int 0, .int 0, .int 0, .ref (md 4), .ref (md 5), .ref (md 6), .ref (md 7), .ref (md 8), .ref (md 9), .ref (md 10), .ref (md 11), .int 0, .ref (md 13), .ref (md 14), .ref (md 15), .ref (md 16), .ref (md 17), .ref (md 18), .ref (md 19), .int 0, .int 0, .int 0, .int 0, .int (-1), .int 0, .ref (md 26), .ref (md 27), .ref (md 28), .ref (md 29), .ref (md 30), .ref (md 31), .ref (md 32), .ref (md 33), .ref (md 34), .ref (md 35), .int 0, .int 0, .int 0, .int 0, .int 0, .int 0, .int 0, .int 0, .int (-1), .int 0, .int 0, .ref (md 47), .ref (md 48), .ref (md 49), .ref (md 50)]))] := hD
      have hK : va_K (dC, dI) vwCl [] s := hK
      refine W.eq (g2 := F0 m 24 ls [.int 0]) rfl ?_
      refine lv_if_ne (tgt := 29) hx hb dX10_fault_24 (by decide) (fun c_7 => ?_) (fun c_7 => ?_)
      · exact absurd c_7 (by decide)
      refine lv_iconst (v := 0) hx hb dX10_fault_27 (by decide) ?_
      exact en_i hx hb hr hlocks hP hD hK hS (0, (fun k : Nat => match k with | 0 => 1 | 1 => 0 | 2 => 0 | 3 => 0 | 12 => 0 | 20 => 0 | 21 => 0 | 22 => 0 | 23 => 0 | 24 => (-1) | 25 => 0 | 36 => 0 | 37 => 0 | 38 => 0 | 39 => 0 | 40 => 0 | 41 => 0 | 42 => 0 | 43 => 0 | 44 => (-1) | 45 => 0 | 46 => 0 | _ => 0)) ⟨rfl, by simp [E_fault, c_1, c_5]⟩ [0] [] rfl rfl rfl (Nat.le_of_ble_eq_true rfl) (Nat.le_of_ble_eq_true rfl) dX10_fault_28
    · refine lv_iconst (v := 1) hx hb dX10_fault_15 (by decide) ?_
      refine lv_goto (tgt := 20) hx hb dX10_fault_16 (by decide) ?_
      refine lv_iconst (v := 1) hx hb dX10_fault_20 (by decide) ?_
      refine go_V (wr := []) ⟨hx, hb, hml, hown, hts⟩ (c_X10_right_ok l dC dI sa hlt _ h0 md 1 ) (cwV 2 hts gX10_fault_X10_right rfl rfl rfl (by decide +kernel) ⟨Nat.le_of_ble_eq_true rfl, Nat.le_of_ble_eq_true rfl⟩) hP hD hK hS hA hev [0] [] [] rfl rfl rfl rfl (by decide) rfl 0 10 rfl rfl rfl rfl hl.1 rfl (Nat.le_of_ble_eq_true rfl) dX10_fault_21 ⟨Nat.le_of_ble_eq_true rfl, Nat.le_of_ble_eq_true rfl⟩ (fun r u H locs hw hP hD hK hS => ?_)
      have hw : r = some (.int 1) ∧ (True) := hw
      obtain ⟨rfl, hw_8⟩ := hw
      have hP : va_P (dC, dI) vwCl [(h0, .inr (10, [.int 0, .int 0, .int 0, .int 0, .ref (md 4), .ref (md 5), .ref (md 6), .ref (md 7), .ref (md 8), .ref (md 9), .ref (md 10), .ref (md 11), .int 0, .ref (md 13), .ref (md 14), .ref (md 15), .ref (md 16), .ref (md 17), .ref (md 18), .ref (md 19), .int 0, .int 0, .int 0, .int 0, .int (-1), .int 0, .ref (md 26), .ref (md 27), .ref (md 28), .ref (md 29), .ref (md 30), .ref (md 31), .ref (md 32), .ref (md 33), .ref (md 34), .ref (md 35), .int 0, .int 0, .int 0, .int 0, .int 0, .int 0, .int 0, .int 0, .int (-1), .int 0, .int 0, .ref (md 47), .ref (md 48), .ref (md 49), .ref (md 50)]))] _ := hP
      have hD : va_D _ [(h0, .inr (10, [.int 0, .int 0, .int 0, .int 0, .ref (md 4), .ref (md 5), .ref (md 6), .ref (md 7), .ref (md 8), .ref (md 9), .ref (md 10), .ref (md 11), .int 0, .ref (md 13), .ref (md 14), .ref (md 15), .ref (md 16), .ref (md 17), .ref (md 18), .ref (md 19), .int 0, .int 0, .int 0, .int 0, .int (-1), .int 0, .ref (md 26), .ref (md 27), .ref (md 28), .ref (md 29), .ref (md 30), .ref (md 31), .ref (md 32), .ref (md 33), .ref (md 34), .ref (md 35), .int 0, .int 0, .int 0, .int 0, .int 0, .int 0, .int 0, .int 0, .int (-1), .int 0, .int 0, .ref (md 47), .ref (md 48), .ref (md 49), .ref (md 50)]))] := hD
      have hK : va_K (dC, dI) vwCl [] s := hK
      refine W.eq (g2 := F0 m 24 ls [.int 1]) rfl ?_
      refine lv_if_ne (tgt := 29) hx hb dX10_fault_24 (by decide) (fun c_9 => ?_) (fun c_9 => ?_)
      rotate_left
      · exact absurd c_9 (by decide)
      refine lv_iload_n hx hb dX10_fault_29 rfl (lv_at hl 1 rfl) ?_
      refine lv_if_ne (tgt := 40) hx hb dX10_fault_30 (by decide) (fun c_10 => ?_) (fun c_10 => ?_)
      rotate_left
      · exact absurd c_10 c_1
      refine lv_aload_n hx hb dX10_fault_40 rfl (lv_at hl 0 rfl) ?_
      refine va_get (D := (dC, dI)) (ci := 10) (v := .int (-1)) (C := RX10) (T := TX10) (N := 51) hx hb hts inw_X10_fault_10 hown hK hP 0 rfl rfl 24 (by decide) (hts (.fieldLink RX10 56 "VatHouseModel" "faultPlace" "I") (by decide +kernel)) (fun _ h9 => h9) rfl dX10_fault_41 ?_
      exact en_i hx hb hr hlocks hP hD hK hS ((-1), (fun k : Nat => match k with | 0 => 0 | 1 => 0 | 2 => 0 | 3 => 0 | 12 => 0 | 20 => 0 | 21 => 0 | 22 => 0 | 23 => 0 | 24 => (-1) | 25 => 0 | 36 => 0 | 37 => 0 | 38 => 0 | 39 => 0 | 40 => 0 | 41 => 0 | 42 => 0 | 43 => 0 | 44 => (-1) | 45 => 0 | 46 => 0 | _ => 0)) ⟨rfl, by simp [E_fault, c_1, c_5]⟩ [0] [] rfl rfl rfl (Nat.le_of_ble_eq_true rfl) (Nat.le_of_ble_eq_true rfl) dX10_fault_44

abbrev rm_X10_planned : Room := { frames := 1, cells := 0, slots := 0, locals := 22 }
theorem inw_X10_planned_10 : ∀ w ∈ wsX100, w ∈ wsX10_planned := by decide +kernel
set_option maxHeartbeats 800000 in
set_option maxRecDepth 100000 in
theorem c_X10_planned (l : Launch) (dC : Nat → ClassId) (dI : Nat → Nat → Nat) (sa : Nat → Nat) (hlt : l.stackTraces = false) (sz : Nat) (h0 : Nat) (md : Nat → Nat) (mq : Nat → ClassId) (p0 : Int32) (p1 : Int32) : CT l dC dI sa yX10_planned wsX10_planned rm_X10_planned [.ref h0, .int p0, .int p1] [(h0, .inr (10, [.int 0, .int 0, .int 0, .int 0, .ref (md 4), .ref (md 5), .ref (md 6), .ref (md 7), .ref (md 8), .ref (md 9), .ref (md 10), .ref (md 11), .int 0, .ref (md 13), .ref (md 14), .ref (md 15), .ref (md 16), .ref (md 17), .ref (md 18), .ref (md 19), .int 0, .int 0, .int 0, .int 0, .int (-1), .int 0, .ref (md 26), .ref (md 27), .ref (md 28), .ref (md 29), .ref (md 30), .ref (md 31), .ref (md 32), .ref (md 33), .ref (md 34), .ref (md 35), .int 0, .int 0, .int 0, .int 0, .int 0, .int 0, .int 0, .int 0, .int (-1), .int 0, .int 0, .ref (md 47), .ref (md 48), .ref (md 49), .ref (md 50)]))] [] sz (fun (r : Option Value) (u : Int32 × (Nat → Int32)) => match u with | (x, J) => r = some (.int x) ∧ (J 0 = 1)) (fun (u : Int32 × (Nat → Int32)) => match u with | (x, J) => [(h0, .inr (10, [.int (J 0), .int (J 1), .int (J 2), .int (J 3), .ref (md 4), .ref (md 5), .ref (md 6), .ref (md 7), .ref (md 8), .ref (md 9), .ref (md 10), .ref (md 11), .int (J 12), .ref (md 13), .ref (md 14), .ref (md 15), .ref (md 16), .ref (md 17), .ref (md 18), .ref (md 19), .int (J 20), .int (J 21), .int (J 22), .int (J 23), .int (J 24), .int (J 25), .ref (md 26), .ref (md 27), .ref (md 28), .ref (md 29), .ref (md 30), .ref (md 31), .ref (md 32), .ref (md 33), .ref (md 34), .ref (md 35), .int (J 36), .int (J 37), .int (J 38), .int (J 39), .int (J 40), .int (J 41), .int (J 42), .int (J 43), .int (J 44), .int (J 45), .int (J 46), .ref (md 47), .ref (md 48), .ref (md 49), .ref (md 50)]))]) (fun (u : Int32 × (Nat → Int32)) => match u with | (x, J) => []) 0 0 := by
  refine CT.start (cc := cX10_planned) (maxL := 3) (ret := (some .int)) (by decide) rfl (Nat.le_of_ble_eq_true rfl) ?_
  intro p e s m below meth c ls hst hP hK hD hev hS hl
  obtain ⟨hx, hb, hr, hml, hts, hown, hlocks, hin⟩ := hst
  have hown : s.vm.findClass RX10 = some m.cls := hown
  have hin : meth.name = yX10_planned.name := hin
  have hA : ∀ q : Nat, s.heap.size ≤ q → va_A [(h0, .inr (10, [.int 0, .int 0, .int 0, .int 0, .ref (md 4), .ref (md 5), .ref (md 6), .ref (md 7), .ref (md 8), .ref (md 9), .ref (md 10), .ref (md 11), .int 0, .ref (md 13), .ref (md 14), .ref (md 15), .ref (md 16), .ref (md 17), .ref (md 18), .ref (md 19), .int 0, .int 0, .int 0, .int 0, .int (-1), .int 0, .ref (md 26), .ref (md 27), .ref (md 28), .ref (md 29), .ref (md 30), .ref (md 31), .ref (md 32), .ref (md 33), .ref (md 34), .ref (md 35), .int 0, .int 0, .int 0, .int 0, .int 0, .int 0, .int 0, .int 0, .int (-1), .int 0, .int 0, .ref (md 47), .ref (md 48), .ref (md 49), .ref (md 50)]))] s.heap.size q := fun _ h => Or.inr h
  have hl : lv_has ls 3 [(0, .ref h0), (1, .int p0), (2, .int p1)] := hl
  refine lv_aload_n hx hb dX10_planned_0 rfl (lv_at hl 0 rfl) ?_
  refine lv_iconst (v := 0) hx hb dX10_planned_1 (by decide) ?_
  refine va_put (D := (dC, dI)) (ci := 10) (v := .int 0) (ty := .int) (C := RX10) (T := TX10) (N := 51) hx hb hts inw_X10_planned_10 tyX10 tyX10_ok nmX10 hown hK hP hD hS 0 rfl rfl 0 (by decide) (hts (.fieldLink RX10 105 "VatHouseModel" "thrown" "I") (by decide +kernel)) (fun _ h9 => h9) rfl (by decide +kernel) rfl rfl (Nat.le_of_ble_eq_true rfl) dX10_planned_2 (fun H locs hP hD hS => ?_)
  have hP : va_P (dC, dI) vwCl [(h0, .inr (10, [.int 0, .int 0, .int 0, .int 0, .ref (md 4), .ref (md 5), .ref (md 6), .ref (md 7), .ref (md 8), .ref (md 9), .ref (md 10), .ref (md 11), .int 0, .ref (md 13), .ref (md 14), .ref (md 15), .ref (md 16), .ref (md 17), .ref (md 18), .ref (md 19), .int 0, .int 0, .int 0, .int 0, .int (-1), .int 0, .ref (md 26), .ref (md 27), .ref (md 28), .ref (md 29), .ref (md 30), .ref (md 31), .ref (md 32), .ref (md 33), .ref (md 34), .ref (md 35), .int 0, .int 0, .int 0, .int 0, .int 0, .int 0, .int 0, .int 0, .int (-1), .int 0, .int 0, .ref (md 47), .ref (md 48), .ref (md 49), .ref (md 50)]))] _ := hP
  have hD : va_D _ [(h0, .inr (10, [.int 0, .int 0, .int 0, .int 0, .ref (md 4), .ref (md 5), .ref (md 6), .ref (md 7), .ref (md 8), .ref (md 9), .ref (md 10), .ref (md 11), .int 0, .ref (md 13), .ref (md 14), .ref (md 15), .ref (md 16), .ref (md 17), .ref (md 18), .ref (md 19), .int 0, .int 0, .int 0, .int 0, .int (-1), .int 0, .ref (md 26), .ref (md 27), .ref (md 28), .ref (md 29), .ref (md 30), .ref (md 31), .ref (md 32), .ref (md 33), .ref (md 34), .ref (md 35), .int 0, .int 0, .int 0, .int 0, .int 0, .int 0, .int 0, .int 0, .int (-1), .int 0, .int 0, .ref (md 47), .ref (md 48), .ref (md 49), .ref (md 50)]))] := hD
  refine lv_aload_n hx hb dX10_planned_5 rfl (lv_at hl 0 rfl) ?_
  refine lv_iload_n hx hb dX10_planned_6 rfl (lv_at hl 1 rfl) ?_
  refine lv_if_lt (tgt := 31) hx hb dX10_planned_7 (by decide) (fun c_1 => ?_) (fun c_1 => ?_)
  · refine lv_iconst (v := 0) hx hb dX10_planned_31 (by decide) ?_
    refine lv_iconst (v := 1) hx hb dX10_planned_32 (by decide) ?_
    refine go_V (wr := []) ⟨hx, hb, hml, hown, hts⟩ (c_X10_right_1 l dC dI sa hlt _ h0 md ) (cwV 2 hts gX10_planned_X10_right rfl rfl rfl (by decide +kernel) ⟨Nat.le_of_ble_eq_true rfl, Nat.le_of_ble_eq_true rfl⟩) hP hD hK hS hA hev [0] [] [] rfl rfl rfl rfl (by decide) rfl 0 10 rfl rfl rfl rfl hl.1 rfl (Nat.le_of_ble_eq_true rfl) dX10_planned_33 ⟨Nat.le_of_ble_eq_true rfl, Nat.le_of_ble_eq_true rfl⟩ (fun r u H locs hw hP hD hK hS => ?_)
    have hw : r = some (.int 0) ∧ (True) := hw
    obtain ⟨rfl, hw_2⟩ := hw
    have hP : va_P (dC, dI) vwCl [(h0, .inr (10, [.int 1, .int 0, .int 0, .int 0, .ref (md 4), .ref (md 5), .ref (md 6), .ref (md 7), .ref (md 8), .ref (md 9), .ref (md 10), .ref (md 11), .int 0, .ref (md 13), .ref (md 14), .ref (md 15), .ref (md 16), .ref (md 17), .ref (md 18), .ref (md 19), .int 0, .int 0, .int 0, .int 0, .int (-1), .int 0, .ref (md 26), .ref (md 27), .ref (md 28), .ref (md 29), .ref (md 30), .ref (md 31), .ref (md 32), .ref (md 33), .ref (md 34), .ref (md 35), .int 0, .int 0, .int 0, .int 0, .int 0, .int 0, .int 0, .int 0, .int (-1), .int 0, .int 0, .ref (md 47), .ref (md 48), .ref (md 49), .ref (md 50)]))] _ := hP
    have hD : va_D _ [(h0, .inr (10, [.int 1, .int 0, .int 0, .int 0, .ref (md 4), .ref (md 5), .ref (md 6), .ref (md 7), .ref (md 8), .ref (md 9), .ref (md 10), .ref (md 11), .int 0, .ref (md 13), .ref (md 14), .ref (md 15), .ref (md 16), .ref (md 17), .ref (md 18), .ref (md 19), .int 0, .int 0, .int 0, .int 0, .int (-1), .int 0, .ref (md 26), .ref (md 27), .ref (md 28), .ref (md 29), .ref (md 30), .ref (md 31), .ref (md 32), .ref (md 33), .ref (md 34), .ref (md 35), .int 0, .int 0, .int 0, .int 0, .int 0, .int 0, .int 0, .int 0, .int (-1), .int 0, .int 0, .ref (md 47), .ref (md 48), .ref (md 49), .ref (md 50)]))] := hD
    have hK : va_K (dC, dI) vwCl [] s := hK
    refine W.eq (g2 := F0 m 36 ls [.int 0]) rfl ?_
    refine lv_if_ne (tgt := 41) hx hb dX10_planned_36 (by decide) (fun c_3 => ?_) (fun c_3 => ?_)
    · exact absurd c_3 (by decide)
    refine lv_iconst (v := 0) hx hb dX10_planned_39 (by decide) ?_
    exact en_i hx hb hr hlocks hP hD hK hS (0, (fun k : Nat => match k with | 0 => 1 | 1 => 0 | 2 => 0 | 3 => 0 | 12 => 0 | 20 => 0 | 21 => 0 | 22 => 0 | 23 => 0 | 24 => (-1) | 25 => 0 | 36 => 0 | 37 => 0 | 38 => 0 | 39 => 0 | 40 => 0 | 41 => 0 | 42 => 0 | 43 => 0 | 44 => (-1) | 45 => 0 | 46 => 0 | _ => 0)) ⟨rfl, rfl⟩ [0] [] rfl rfl rfl (Nat.le_of_ble_eq_true rfl) (Nat.le_of_ble_eq_true rfl) dX10_planned_40
  · refine lv_iload_n hx hb dX10_planned_10 rfl (lv_at hl 1 rfl) ?_
    refine lv_aload_n hx hb dX10_planned_11 rfl (lv_at hl 0 rfl) ?_
    refine va_get (D := (dC, dI)) (ci := 10) (v := .int 0) (C := RX10) (T := TX10) (N := 51) hx hb hts inw_X10_planned_10 hown hK hP 0 rfl rfl 46 (by decide) (hts (.fieldLink RX10 346 "VatHouseModel" "kept" "I") (by decide +kernel)) (fun _ h9 => h9) rfl dX10_planned_12 ?_
    refine lv_icmp_ge (tgt := 31) hx hb dX10_planned_15 (by decide) (fun c_4 => ?_) (fun c_4 => ?_)
    rotate_left
    · exact absurd c_4 (fun h => h (nlt_le c_1))
    refine lv_iconst (v := 0) hx hb dX10_planned_31 (by decide) ?_
    refine lv_iconst (v := 1) hx hb dX10_planned_32 (by decide) ?_
    refine go_V (wr := []) ⟨hx, hb, hml, hown, hts⟩ (c_X10_right_1 l dC dI sa hlt _ h0 md ) (cwV 2 hts gX10_planned_X10_right rfl rfl rfl (by decide +kernel) ⟨Nat.le_of_ble_eq_true rfl, Nat.le_of_ble_eq_true rfl⟩) hP hD hK hS hA hev [0] [] [] rfl rfl rfl rfl (by decide) rfl 0 10 rfl rfl rfl rfl hl.1 rfl (Nat.le_of_ble_eq_true rfl) dX10_planned_33 ⟨Nat.le_of_ble_eq_true rfl, Nat.le_of_ble_eq_true rfl⟩ (fun r u H locs hw hP hD hK hS => ?_)
    have hw : r = some (.int 0) ∧ (True) := hw
    obtain ⟨rfl, hw_5⟩ := hw
    have hP : va_P (dC, dI) vwCl [(h0, .inr (10, [.int 1, .int 0, .int 0, .int 0, .ref (md 4), .ref (md 5), .ref (md 6), .ref (md 7), .ref (md 8), .ref (md 9), .ref (md 10), .ref (md 11), .int 0, .ref (md 13), .ref (md 14), .ref (md 15), .ref (md 16), .ref (md 17), .ref (md 18), .ref (md 19), .int 0, .int 0, .int 0, .int 0, .int (-1), .int 0, .ref (md 26), .ref (md 27), .ref (md 28), .ref (md 29), .ref (md 30), .ref (md 31), .ref (md 32), .ref (md 33), .ref (md 34), .ref (md 35), .int 0, .int 0, .int 0, .int 0, .int 0, .int 0, .int 0, .int 0, .int (-1), .int 0, .int 0, .ref (md 47), .ref (md 48), .ref (md 49), .ref (md 50)]))] _ := hP
    have hD : va_D _ [(h0, .inr (10, [.int 1, .int 0, .int 0, .int 0, .ref (md 4), .ref (md 5), .ref (md 6), .ref (md 7), .ref (md 8), .ref (md 9), .ref (md 10), .ref (md 11), .int 0, .ref (md 13), .ref (md 14), .ref (md 15), .ref (md 16), .ref (md 17), .ref (md 18), .ref (md 19), .int 0, .int 0, .int 0, .int 0, .int (-1), .int 0, .ref (md 26), .ref (md 27), .ref (md 28), .ref (md 29), .ref (md 30), .ref (md 31), .ref (md 32), .ref (md 33), .ref (md 34), .ref (md 35), .int 0, .int 0, .int 0, .int 0, .int 0, .int 0, .int 0, .int 0, .int (-1), .int 0, .int 0, .ref (md 47), .ref (md 48), .ref (md 49), .ref (md 50)]))] := hD
    have hK : va_K (dC, dI) vwCl [] s := hK
    refine W.eq (g2 := F0 m 36 ls [.int 0]) rfl ?_
    refine lv_if_ne (tgt := 41) hx hb dX10_planned_36 (by decide) (fun c_6 => ?_) (fun c_6 => ?_)
    · exact absurd c_6 (by decide)
    refine lv_iconst (v := 0) hx hb dX10_planned_39 (by decide) ?_
    exact en_i hx hb hr hlocks hP hD hK hS (0, (fun k : Nat => match k with | 0 => 1 | 1 => 0 | 2 => 0 | 3 => 0 | 12 => 0 | 20 => 0 | 21 => 0 | 22 => 0 | 23 => 0 | 24 => (-1) | 25 => 0 | 36 => 0 | 37 => 0 | 38 => 0 | 39 => 0 | 40 => 0 | 41 => 0 | 42 => 0 | 43 => 0 | 44 => (-1) | 45 => 0 | 46 => 0 | _ => 0)) ⟨rfl, rfl⟩ [0] [] rfl rfl rfl (Nat.le_of_ble_eq_true rfl) (Nat.le_of_ble_eq_true rfl) dX10_planned_40

abbrev rm_X10_cloth : Room := { frames := 0, cells := 0, slots := 0, locals := 0 }
theorem inw_X10_cloth_10 : ∀ w ∈ wsX100, w ∈ wsX10_cloth := by decide +kernel
set_option maxHeartbeats 800000 in
set_option maxRecDepth 100000 in
theorem c_X10_cloth (l : Launch) (dC : Nat → ClassId) (dI : Nat → Nat → Nat) (sa : Nat → Nat) (hlt : l.stackTraces = false) (sz : Nat) (h0 : Nat) (md : Nat → Nat) (mq : Nat → ClassId) (p0 : Int32) : CT l dC dI sa yX10_cloth wsX10_cloth rm_X10_cloth [.ref h0, .int p0] [(h0, .inr (10, [.int 0, .int 0, .int 0, .int 0, .ref (md 4), .ref (md 5), .ref (md 6), .ref (md 7), .ref (md 8), .ref (md 9), .ref (md 10), .ref (md 11), .int 0, .ref (md 13), .ref (md 14), .ref (md 15), .ref (md 16), .ref (md 17), .ref (md 18), .ref (md 19), .int 0, .int 0, .int 0, .int 0, .int (-1), .int 0, .ref (md 26), .ref (md 27), .ref (md 28), .ref (md 29), .ref (md 30), .ref (md 31), .ref (md 32), .ref (md 33), .ref (md 34), .ref (md 35), .int 0, .int 0, .int 0, .int 0, .int 0, .int 0, .int 0, .int 0, .int (-1), .int 0, .int 0, .ref (md 47), .ref (md 48), .ref (md 49), .ref (md 50)])), ((md 13), .inl ((mq 13), 30, .inl (fun _ => 0)))] [((mq 13), .int)] sz (fun (r : Option Value) (u : Int32 × (Nat → Int32)) => match u with | (x, J) => r = some (.int x) ∧ (E_cloth p0 = x)) (fun (u : Int32 × (Nat → Int32)) => match u with | (x, J) => [(h0, .inr (10, [.int (J 0), .int (J 1), .int (J 2), .int (J 3), .ref (md 4), .ref (md 5), .ref (md 6), .ref (md 7), .ref (md 8), .ref (md 9), .ref (md 10), .ref (md 11), .int (J 12), .ref (md 13), .ref (md 14), .ref (md 15), .ref (md 16), .ref (md 17), .ref (md 18), .ref (md 19), .int (J 20), .int (J 21), .int (J 22), .int (J 23), .int (J 24), .int (J 25), .ref (md 26), .ref (md 27), .ref (md 28), .ref (md 29), .ref (md 30), .ref (md 31), .ref (md 32), .ref (md 33), .ref (md 34), .ref (md 35), .int (J 36), .int (J 37), .int (J 38), .int (J 39), .int (J 40), .int (J 41), .int (J 42), .int (J 43), .int (J 44), .int (J 45), .int (J 46), .ref (md 47), .ref (md 48), .ref (md 49), .ref (md 50)]))]) (fun (u : Int32 × (Nat → Int32)) => match u with | (x, J) => []) 0 0 := by
  refine CT.start (cc := cX10_cloth) (maxL := 2) (ret := (some .int)) (by decide) rfl (Nat.le_of_ble_eq_true rfl) ?_
  intro p e s m below meth c ls hst hP hK hD hev hS hl
  obtain ⟨hx, hb, hr, hml, hts, hown, hlocks, hin⟩ := hst
  have hown : s.vm.findClass RX10 = some m.cls := hown
  have hin : meth.name = yX10_cloth.name := hin
  have hA : ∀ q : Nat, s.heap.size ≤ q → va_A [(h0, .inr (10, [.int 0, .int 0, .int 0, .int 0, .ref (md 4), .ref (md 5), .ref (md 6), .ref (md 7), .ref (md 8), .ref (md 9), .ref (md 10), .ref (md 11), .int 0, .ref (md 13), .ref (md 14), .ref (md 15), .ref (md 16), .ref (md 17), .ref (md 18), .ref (md 19), .int 0, .int 0, .int 0, .int 0, .int (-1), .int 0, .ref (md 26), .ref (md 27), .ref (md 28), .ref (md 29), .ref (md 30), .ref (md 31), .ref (md 32), .ref (md 33), .ref (md 34), .ref (md 35), .int 0, .int 0, .int 0, .int 0, .int 0, .int 0, .int 0, .int 0, .int (-1), .int 0, .int 0, .ref (md 47), .ref (md 48), .ref (md 49), .ref (md 50)])), ((md 13), .inl ((mq 13), 30, .inl (fun _ => 0)))] s.heap.size q := fun _ h => Or.inr h
  have hl : lv_has ls 2 [(0, .ref h0), (1, .int p0)] := hl
  refine lv_aload_n hx hb dX10_cloth_0 rfl (lv_at hl 0 rfl) ?_
  refine lv_iconst (v := 0) hx hb dX10_cloth_1 (by decide) ?_
  refine va_put (D := (dC, dI)) (ci := 10) (v := .int 0) (ty := .int) (C := RX10) (T := TX10) (N := 51) hx hb hts inw_X10_cloth_10 tyX10 tyX10_ok nmX10 hown hK hP hD hS 0 rfl rfl 0 (by decide) (hts (.fieldLink RX10 105 "VatHouseModel" "thrown" "I") (by decide +kernel)) (fun _ h9 => h9) rfl (by decide +kernel) rfl rfl (Nat.le_of_ble_eq_true rfl) dX10_cloth_2 (fun H locs hP hD hS => ?_)
  have hP : va_P (dC, dI) vwCl [(h0, .inr (10, [.int 0, .int 0, .int 0, .int 0, .ref (md 4), .ref (md 5), .ref (md 6), .ref (md 7), .ref (md 8), .ref (md 9), .ref (md 10), .ref (md 11), .int 0, .ref (md 13), .ref (md 14), .ref (md 15), .ref (md 16), .ref (md 17), .ref (md 18), .ref (md 19), .int 0, .int 0, .int 0, .int 0, .int (-1), .int 0, .ref (md 26), .ref (md 27), .ref (md 28), .ref (md 29), .ref (md 30), .ref (md 31), .ref (md 32), .ref (md 33), .ref (md 34), .ref (md 35), .int 0, .int 0, .int 0, .int 0, .int 0, .int 0, .int 0, .int 0, .int (-1), .int 0, .int 0, .ref (md 47), .ref (md 48), .ref (md 49), .ref (md 50)])), ((md 13), .inl ((mq 13), 30, .inl (fun _ => 0)))] _ := hP
  have hD : va_D _ [(h0, .inr (10, [.int 0, .int 0, .int 0, .int 0, .ref (md 4), .ref (md 5), .ref (md 6), .ref (md 7), .ref (md 8), .ref (md 9), .ref (md 10), .ref (md 11), .int 0, .ref (md 13), .ref (md 14), .ref (md 15), .ref (md 16), .ref (md 17), .ref (md 18), .ref (md 19), .int 0, .int 0, .int 0, .int 0, .int (-1), .int 0, .ref (md 26), .ref (md 27), .ref (md 28), .ref (md 29), .ref (md 30), .ref (md 31), .ref (md 32), .ref (md 33), .ref (md 34), .ref (md 35), .int 0, .int 0, .int 0, .int 0, .int 0, .int 0, .int 0, .int 0, .int (-1), .int 0, .int 0, .ref (md 47), .ref (md 48), .ref (md 49), .ref (md 50)])), ((md 13), .inl ((mq 13), 30, .inl (fun _ => 0)))] := hD
  refine lv_aload_n hx hb dX10_cloth_5 rfl (lv_at hl 0 rfl) ?_
  refine va_get (D := (dC, dI)) (ci := 10) (v := .int 0) (C := RX10) (T := TX10) (N := 51) hx hb hts inw_X10_cloth_10 hown hK hP 0 rfl rfl 12 (by decide) (hts (.fieldLink RX10 112 "VatHouseModel" "cloths" "I") (by decide +kernel)) (fun _ h9 => h9) rfl dX10_cloth_6 ?_
  refine lv_bipush (v := 30) hx hb dX10_cloth_9 (by decide) ?_
  refine lv_icmp_eq (tgt := 25) hx hb dX10_cloth_11 (by decide) (fun c_1 => ?_) (fun c_1 => ?_)
  · exact absurd c_1 (by decide)
  refine lv_iload_n hx hb dX10_cloth_14 rfl (lv_at hl 1 rfl) ?_
  refine lv_iconst (v := 1) hx hb dX10_cloth_15 (by decide) ?_
  refine lv_icmp_lt (tgt := 25) hx hb dX10_cloth_16 (by decide) (fun c_2 => ?_) (fun c_2 => ?_)
  · refine lv_iconst (v := (-1)) hx hb dX10_cloth_25 (by decide) ?_
    exact en_i hx hb hr hlocks hP hD hK hS ((-1), (fun k : Nat => match k with | 0 => 0 | 1 => 0 | 2 => 0 | 3 => 0 | 12 => 0 | 20 => 0 | 21 => 0 | 22 => 0 | 23 => 0 | 24 => (-1) | 25 => 0 | 36 => 0 | 37 => 0 | 38 => 0 | 39 => 0 | 40 => 0 | 41 => 0 | 42 => 0 | 43 => 0 | 44 => (-1) | 45 => 0 | 46 => 0 | _ => 0)) ⟨rfl, by simp [E_cloth, c_2]⟩ [0] [] rfl rfl rfl (Nat.le_of_ble_eq_true rfl) (Nat.le_of_ble_eq_true rfl) dX10_cloth_26
  · refine lv_iload_n hx hb dX10_cloth_19 rfl (lv_at hl 1 rfl) ?_
    refine lv_bipush (v := 50) hx hb dX10_cloth_20 (by decide) ?_
    refine lv_icmp_le (tgt := 27) hx hb dX10_cloth_22 (by decide) (fun c_3 => ?_) (fun c_3 => ?_)
    · refine lv_aload_n hx hb dX10_cloth_27 rfl (lv_at hl 0 rfl) ?_
      refine va_get (D := (dC, dI)) (ci := 10) (v := .ref (md 13)) (C := RX10) (T := TX10) (N := 51) hx hb hts inw_X10_cloth_10 hown hK hP 0 rfl rfl 13 (by decide) (hts (.fieldLink RX10 35 "VatHouseModel" "weight" "[I") (by decide +kernel)) (fun _ h9 => h9) rfl dX10_cloth_28 ?_
      refine lv_aload_n hx hb dX10_cloth_31 rfl (lv_at hl 0 rfl) ?_
      refine va_get (D := (dC, dI)) (ci := 10) (v := .int 0) (C := RX10) (T := TX10) (N := 51) hx hb hts inw_X10_cloth_10 hown hK hP 0 rfl rfl 12 (by decide) (hts (.fieldLink RX10 112 "VatHouseModel" "cloths" "I") (by decide +kernel)) (fun _ h9 => h9) rfl dX10_cloth_32 ?_
      refine lv_iload_n hx hb dX10_cloth_35 rfl (lv_at hl 1 rfl) ?_
      refine va_iast hx hb hK hP hD hS 1 0 rfl rfl (by unfold vp_in; decide) dX10_cloth_36 (fun H locs hP hD hS => ?_)
      have hP : va_P (dC, dI) vwCl [(h0, .inr (10, [.int 0, .int 0, .int 0, .int 0, .ref (md 4), .ref (md 5), .ref (md 6), .ref (md 7), .ref (md 8), .ref (md 9), .ref (md 10), .ref (md 11), .int 0, .ref (md 13), .ref (md 14), .ref (md 15), .ref (md 16), .ref (md 17), .ref (md 18), .ref (md 19), .int 0, .int 0, .int 0, .int 0, .int (-1), .int 0, .ref (md 26), .ref (md 27), .ref (md 28), .ref (md 29), .ref (md 30), .ref (md 31), .ref (md 32), .ref (md 33), .ref (md 34), .ref (md 35), .int 0, .int 0, .int 0, .int 0, .int 0, .int 0, .int 0, .int 0, .int (-1), .int 0, .int 0, .ref (md 47), .ref (md 48), .ref (md 49), .ref (md 50)])), ((md 13), .inl ((mq 13), 30, .inl (upd (fun _ => 0) (0 : Int32).toNatClampNeg p0)))] _ := hP
      have hD : va_D _ [(h0, .inr (10, [.int 0, .int 0, .int 0, .int 0, .ref (md 4), .ref (md 5), .ref (md 6), .ref (md 7), .ref (md 8), .ref (md 9), .ref (md 10), .ref (md 11), .int 0, .ref (md 13), .ref (md 14), .ref (md 15), .ref (md 16), .ref (md 17), .ref (md 18), .ref (md 19), .int 0, .int 0, .int 0, .int 0, .int (-1), .int 0, .ref (md 26), .ref (md 27), .ref (md 28), .ref (md 29), .ref (md 30), .ref (md 31), .ref (md 32), .ref (md 33), .ref (md 34), .ref (md 35), .int 0, .int 0, .int 0, .int 0, .int 0, .int 0, .int 0, .int 0, .int (-1), .int 0, .int 0, .ref (md 47), .ref (md 48), .ref (md 49), .ref (md 50)])), ((md 13), .inl ((mq 13), 30, .inl (upd (fun _ => 0) (0 : Int32).toNatClampNeg p0)))] := hD
      obtain ⟨f_4, ef_4⟩ : ∃ z, z = (upd (fun _ => 0) (0 : Int32).toNatClampNeg p0) := ⟨_, rfl⟩
      rw [← ef_4] at hP hD
      refine lv_aload_n hx hb dX10_cloth_37 rfl (lv_at hl 0 rfl) ?_
      refine lv_dup hx hb dX10_cloth_38 rfl ?_
      refine va_get (D := (dC, dI)) (ci := 10) (v := .int 0) (C := RX10) (T := TX10) (N := 51) hx hb hts inw_X10_cloth_10 hown hK hP 0 rfl rfl 12 (by decide) (hts (.fieldLink RX10 112 "VatHouseModel" "cloths" "I") (by decide +kernel)) (fun _ h9 => h9) rfl dX10_cloth_39 ?_
      refine lv_iconst (v := 1) hx hb dX10_cloth_42 (by decide) ?_
      refine lv_iadd hx hb dX10_cloth_43 ?_
      refine lv_topi (fun z_5 ez_5 => ?_)
      obtain rfl : z_5 = 1 := ez_5.trans (by decide)
      refine va_put (D := (dC, dI)) (ci := 10) (v := .int 1) (ty := .int) (C := RX10) (T := TX10) (N := 51) hx hb hts inw_X10_cloth_10 tyX10 tyX10_ok nmX10 hown hK hP hD hS 0 rfl rfl 12 (by decide) (hts (.fieldLink RX10 112 "VatHouseModel" "cloths" "I") (by decide +kernel)) (fun _ h9 => h9) rfl (by decide +kernel) rfl rfl (Nat.le_of_ble_eq_true rfl) dX10_cloth_44 (fun H locs hP hD hS => ?_)
      have hP : va_P (dC, dI) vwCl [(h0, .inr (10, [.int 0, .int 0, .int 0, .int 0, .ref (md 4), .ref (md 5), .ref (md 6), .ref (md 7), .ref (md 8), .ref (md 9), .ref (md 10), .ref (md 11), .int 1, .ref (md 13), .ref (md 14), .ref (md 15), .ref (md 16), .ref (md 17), .ref (md 18), .ref (md 19), .int 0, .int 0, .int 0, .int 0, .int (-1), .int 0, .ref (md 26), .ref (md 27), .ref (md 28), .ref (md 29), .ref (md 30), .ref (md 31), .ref (md 32), .ref (md 33), .ref (md 34), .ref (md 35), .int 0, .int 0, .int 0, .int 0, .int 0, .int 0, .int 0, .int 0, .int (-1), .int 0, .int 0, .ref (md 47), .ref (md 48), .ref (md 49), .ref (md 50)])), ((md 13), .inl ((mq 13), 30, .inl f_4))] _ := hP
      have hD : va_D _ [(h0, .inr (10, [.int 0, .int 0, .int 0, .int 0, .ref (md 4), .ref (md 5), .ref (md 6), .ref (md 7), .ref (md 8), .ref (md 9), .ref (md 10), .ref (md 11), .int 1, .ref (md 13), .ref (md 14), .ref (md 15), .ref (md 16), .ref (md 17), .ref (md 18), .ref (md 19), .int 0, .int 0, .int 0, .int 0, .int (-1), .int 0, .ref (md 26), .ref (md 27), .ref (md 28), .ref (md 29), .ref (md 30), .ref (md 31), .ref (md 32), .ref (md 33), .ref (md 34), .ref (md 35), .int 0, .int 0, .int 0, .int 0, .int 0, .int 0, .int 0, .int 0, .int (-1), .int 0, .int 0, .ref (md 47), .ref (md 48), .ref (md 49), .ref (md 50)])), ((md 13), .inl ((mq 13), 30, .inl f_4))] := hD
      refine lv_aload_n hx hb dX10_cloth_47 rfl (lv_at hl 0 rfl) ?_
      refine va_get (D := (dC, dI)) (ci := 10) (v := .int 1) (C := RX10) (T := TX10) (N := 51) hx hb hts inw_X10_cloth_10 hown hK hP 0 rfl rfl 12 (by decide) (hts (.fieldLink RX10 112 "VatHouseModel" "cloths" "I") (by decide +kernel)) (fun _ h9 => h9) rfl dX10_cloth_48 ?_
      refine lv_iconst (v := 1) hx hb dX10_cloth_51 (by decide) ?_
      refine lv_isub hx hb dX10_cloth_52 ?_
      refine lv_topi (fun z_6 ez_6 => ?_)
      obtain rfl : z_6 = 0 := ez_6.trans (by decide)
      exact en_i hx hb hr hlocks hP hD hK hS (0, (fun k : Nat => match k with | 0 => 0 | 1 => 0 | 2 => 0 | 3 => 0 | 12 => 1 | 20 => 0 | 21 => 0 | 22 => 0 | 23 => 0 | 24 => (-1) | 25 => 0 | 36 => 0 | 37 => 0 | 38 => 0 | 39 => 0 | 40 => 0 | 41 => 0 | 42 => 0 | 43 => 0 | 44 => (-1) | 45 => 0 | 46 => 0 | _ => 0)) ⟨rfl, by simp [E_cloth, c_2, c_3]⟩ [0] [] rfl rfl rfl (Nat.le_of_ble_eq_true rfl) (Nat.le_of_ble_eq_true rfl) dX10_cloth_53
    · refine lv_iconst (v := (-1)) hx hb dX10_cloth_25 (by decide) ?_
      exact en_i hx hb hr hlocks hP hD hK hS ((-1), (fun k : Nat => match k with | 0 => 0 | 1 => 0 | 2 => 0 | 3 => 0 | 12 => 0 | 20 => 0 | 21 => 0 | 22 => 0 | 23 => 0 | 24 => (-1) | 25 => 0 | 36 => 0 | 37 => 0 | 38 => 0 | 39 => 0 | 40 => 0 | 41 => 0 | 42 => 0 | 43 => 0 | 44 => (-1) | 45 => 0 | 46 => 0 | _ => 0)) ⟨rfl, by simp [E_cloth, c_2, c_3]⟩ [0] [] rfl rfl rfl (Nat.le_of_ble_eq_true rfl) (Nat.le_of_ble_eq_true rfl) dX10_cloth_26

abbrev rm_X10_lays_0 : Room := { frames := 0, cells := 0, slots := 0, locals := 0 }
theorem inw_X10_lays_10 : ∀ w ∈ wsX100, w ∈ wsX10_lays := by decide +kernel
set_option maxHeartbeats 800000 in
set_option maxRecDepth 100000 in
theorem c_X10_lays_0 (l : Launch) (dC : Nat → ClassId) (dI : Nat → Nat → Nat) (sa : Nat → Nat) (hlt : l.stackTraces = false) (sz : Nat) (h0 : Nat) (md : Nat → Nat) (mq : Nat → ClassId) (ft : Nat → Int32) (n : Int32) : CT l dC dI sa yX10_lays wsX10_lays rm_X10_lays_0 [.ref h0, .int n] [(h0, .inr (10, [.int 0, .int 0, .int 0, .int 0, .ref (md 4), .ref (md 5), .ref (md 6), .ref (md 7), .ref (md 8), .ref (md 9), .ref (md 10), .ref (md 11), .int 0, .ref (md 13), .ref (md 14), .ref (md 15), .ref (md 16), .ref (md 17), .ref (md 18), .ref (md 19), .int 0, .int 0, .int 0, .int 0, .int (-1), .int 0, .ref (md 26), .ref (md 27), .ref (md 28), .ref (md 29), .ref (md 30), .ref (md 31), .ref (md 32), .ref (md 33), .ref (md 34), .ref (md 35), .int 0, .int 0, .int 0, .int 0, .int 0, .int 0, .int 0, .int 0, .int (-1), .int 0, .int 0, .ref (md 47), .ref (md 48), .ref (md 49), .ref (md 50)])), ((md 19), .inl ((mq 19), 1500, .inl ft))] [((mq 19), .int)] sz (fun (r : Option Value) (g : (Nat → Int32)) => r = none ∧ (True)) (fun (g : (Nat → Int32)) => [(h0, .inr (10, [.int 0, .int 0, .int 0, .int 0, .ref (md 4), .ref (md 5), .ref (md 6), .ref (md 7), .ref (md 8), .ref (md 9), .ref (md 10), .ref (md 11), .int 0, .ref (md 13), .ref (md 14), .ref (md 15), .ref (md 16), .ref (md 17), .ref (md 18), .ref (md 19), .int 4, .int 0, .int 0, .int 0, .int (-1), .int 0, .ref (md 26), .ref (md 27), .ref (md 28), .ref (md 29), .ref (md 30), .ref (md 31), .ref (md 32), .ref (md 33), .ref (md 34), .ref (md 35), .int 0, .int 0, .int 0, .int 0, .int 0, .int 0, .int 0, .int 0, .int (-1), .int 0, .int 0, .ref (md 47), .ref (md 48), .ref (md 49), .ref (md 50)])), ((md 19), .inl ((mq 19), 1500, .inl g))]) (fun (g : (Nat → Int32)) => []) 0 0 := by
  refine CT.start (cc := cX10_lays) (maxL := 3) (ret := none) (by decide) rfl (Nat.le_of_ble_eq_true rfl) ?_
  intro p e s m below meth c ls hst hP hK hD hev hS hl
  obtain ⟨hx, hb, hr, hml, hts, hown, hlocks, hin⟩ := hst
  have hown : s.vm.findClass RX10 = some m.cls := hown
  have hin : meth.name = yX10_lays.name := hin
  have hA : ∀ q : Nat, s.heap.size ≤ q → va_A [(h0, .inr (10, [.int 0, .int 0, .int 0, .int 0, .ref (md 4), .ref (md 5), .ref (md 6), .ref (md 7), .ref (md 8), .ref (md 9), .ref (md 10), .ref (md 11), .int 0, .ref (md 13), .ref (md 14), .ref (md 15), .ref (md 16), .ref (md 17), .ref (md 18), .ref (md 19), .int 0, .int 0, .int 0, .int 0, .int (-1), .int 0, .ref (md 26), .ref (md 27), .ref (md 28), .ref (md 29), .ref (md 30), .ref (md 31), .ref (md 32), .ref (md 33), .ref (md 34), .ref (md 35), .int 0, .int 0, .int 0, .int 0, .int 0, .int 0, .int 0, .int 0, .int (-1), .int 0, .int 0, .ref (md 47), .ref (md 48), .ref (md 49), .ref (md 50)])), ((md 19), .inl ((mq 19), 1500, .inl ft))] s.heap.size q := fun _ h => Or.inr h
  have hl : lv_has ls 3 [(0, .ref h0), (1, .int n)] := hl
  refine lv_bipush (v := 24) hx hb dX10_lays_0 (by decide) ?_
  refine lv_istore_n (lv' := [(2, .int 24), (0, .ref h0), (1, .int n)]) hx hb dX10_lays_2 rfl hl (by decide) rfl (fun ls hl => ?_)
  refine lv_iload_n hx hb dX10_lays_3 rfl (lv_at hl 0 rfl) ?_
  refine lv_if_lt (tgt := 39) hx hb dX10_lays_4 (by decide) (fun c_1 => ?_) (fun c_1 => ?_)
  · exact absurd c_1 (by decide)
  refine lv_aload_n hx hb dX10_lays_7 rfl (lv_at hl 1 rfl) ?_
  refine va_get (D := (dC, dI)) (ci := 10) (v := .ref (md 19)) (C := RX10) (T := TX10) (N := 51) hx hb hts inw_X10_lays_10 hown hK hP 0 rfl rfl 19 (by decide) (hts (.fieldLink RX10 53 "VatHouseModel" "tape" "[I") (by decide +kernel)) (fun _ h9 => h9) rfl dX10_lays_8 ?_
  refine lv_aload_n hx hb dX10_lays_11 rfl (lv_at hl 1 rfl) ?_
  refine va_get (D := (dC, dI)) (ci := 10) (v := .int 0) (C := RX10) (T := TX10) (N := 51) hx hb hts inw_X10_lays_10 hown hK hP 0 rfl rfl 20 (by decide) (hts (.fieldLink RX10 159 "VatHouseModel" "taped" "I") (by decide +kernel)) (fun _ h9 => h9) rfl dX10_lays_12 ?_
  refine lv_iload_n hx hb dX10_lays_15 rfl (lv_at hl 2 rfl) ?_
  refine lv_iload_n hx hb dX10_lays_16 rfl (lv_at hl 0 rfl) ?_
  refine lv_ishr hx hb dX10_lays_17 ?_
  refine lv_topi (fun z_2 ez_2 => ?_)
  refine lv_sipush (v := 255) hx hb dX10_lays_18 (by decide) ?_
  refine lv_iand hx hb dX10_lays_21 ?_
  refine lv_topi (fun z_3 ez_3 => ?_)
  refine va_iast hx hb hK hP hD hS 1 0 rfl rfl (by unfold vp_in; decide) dX10_lays_22 (fun H locs hP hD hS => ?_)
  have hP : va_P (dC, dI) vwCl [(h0, .inr (10, [.int 0, .int 0, .int 0, .int 0, .ref (md 4), .ref (md 5), .ref (md 6), .ref (md 7), .ref (md 8), .ref (md 9), .ref (md 10), .ref (md 11), .int 0, .ref (md 13), .ref (md 14), .ref (md 15), .ref (md 16), .ref (md 17), .ref (md 18), .ref (md 19), .int 0, .int 0, .int 0, .int 0, .int (-1), .int 0, .ref (md 26), .ref (md 27), .ref (md 28), .ref (md 29), .ref (md 30), .ref (md 31), .ref (md 32), .ref (md 33), .ref (md 34), .ref (md 35), .int 0, .int 0, .int 0, .int 0, .int 0, .int 0, .int 0, .int 0, .int (-1), .int 0, .int 0, .ref (md 47), .ref (md 48), .ref (md 49), .ref (md 50)])), ((md 19), .inl ((mq 19), 1500, .inl (upd ft (0 : Int32).toNatClampNeg z_3)))] _ := hP
  have hD : va_D _ [(h0, .inr (10, [.int 0, .int 0, .int 0, .int 0, .ref (md 4), .ref (md 5), .ref (md 6), .ref (md 7), .ref (md 8), .ref (md 9), .ref (md 10), .ref (md 11), .int 0, .ref (md 13), .ref (md 14), .ref (md 15), .ref (md 16), .ref (md 17), .ref (md 18), .ref (md 19), .int 0, .int 0, .int 0, .int 0, .int (-1), .int 0, .ref (md 26), .ref (md 27), .ref (md 28), .ref (md 29), .ref (md 30), .ref (md 31), .ref (md 32), .ref (md 33), .ref (md 34), .ref (md 35), .int 0, .int 0, .int 0, .int 0, .int 0, .int 0, .int 0, .int 0, .int (-1), .int 0, .int 0, .ref (md 47), .ref (md 48), .ref (md 49), .ref (md 50)])), ((md 19), .inl ((mq 19), 1500, .inl (upd ft (0 : Int32).toNatClampNeg z_3)))] := hD
  obtain ⟨f_4, ef_4⟩ : ∃ z, z = (upd ft (0 : Int32).toNatClampNeg z_3) := ⟨_, rfl⟩
  rw [← ef_4] at hP hD
  refine lv_aload_n hx hb dX10_lays_23 rfl (lv_at hl 1 rfl) ?_
  refine lv_dup hx hb dX10_lays_24 rfl ?_
  refine va_get (D := (dC, dI)) (ci := 10) (v := .int 0) (C := RX10) (T := TX10) (N := 51) hx hb hts inw_X10_lays_10 hown hK hP 0 rfl rfl 20 (by decide) (hts (.fieldLink RX10 159 "VatHouseModel" "taped" "I") (by decide +kernel)) (fun _ h9 => h9) rfl dX10_lays_25 ?_
  refine lv_iconst (v := 1) hx hb dX10_lays_28 (by decide) ?_
  refine lv_iadd hx hb dX10_lays_29 ?_
  refine lv_topi (fun z_5 ez_5 => ?_)
  obtain rfl : z_5 = 1 := ez_5.trans (by decide)
  refine va_put (D := (dC, dI)) (ci := 10) (v := .int 1) (ty := .int) (C := RX10) (T := TX10) (N := 51) hx hb hts inw_X10_lays_10 tyX10 tyX10_ok nmX10 hown hK hP hD hS 0 rfl rfl 20 (by decide) (hts (.fieldLink RX10 159 "VatHouseModel" "taped" "I") (by decide +kernel)) (fun _ h9 => h9) rfl (by decide +kernel) rfl rfl (Nat.le_of_ble_eq_true rfl) dX10_lays_30 (fun H locs hP hD hS => ?_)
  have hP : va_P (dC, dI) vwCl [(h0, .inr (10, [.int 0, .int 0, .int 0, .int 0, .ref (md 4), .ref (md 5), .ref (md 6), .ref (md 7), .ref (md 8), .ref (md 9), .ref (md 10), .ref (md 11), .int 0, .ref (md 13), .ref (md 14), .ref (md 15), .ref (md 16), .ref (md 17), .ref (md 18), .ref (md 19), .int 1, .int 0, .int 0, .int 0, .int (-1), .int 0, .ref (md 26), .ref (md 27), .ref (md 28), .ref (md 29), .ref (md 30), .ref (md 31), .ref (md 32), .ref (md 33), .ref (md 34), .ref (md 35), .int 0, .int 0, .int 0, .int 0, .int 0, .int 0, .int 0, .int 0, .int (-1), .int 0, .int 0, .ref (md 47), .ref (md 48), .ref (md 49), .ref (md 50)])), ((md 19), .inl ((mq 19), 1500, .inl f_4))] _ := hP
  have hD : va_D _ [(h0, .inr (10, [.int 0, .int 0, .int 0, .int 0, .ref (md 4), .ref (md 5), .ref (md 6), .ref (md 7), .ref (md 8), .ref (md 9), .ref (md 10), .ref (md 11), .int 0, .ref (md 13), .ref (md 14), .ref (md 15), .ref (md 16), .ref (md 17), .ref (md 18), .ref (md 19), .int 1, .int 0, .int 0, .int 0, .int (-1), .int 0, .ref (md 26), .ref (md 27), .ref (md 28), .ref (md 29), .ref (md 30), .ref (md 31), .ref (md 32), .ref (md 33), .ref (md 34), .ref (md 35), .int 0, .int 0, .int 0, .int 0, .int 0, .int 0, .int 0, .int 0, .int (-1), .int 0, .int 0, .ref (md 47), .ref (md 48), .ref (md 49), .ref (md 50)])), ((md 19), .inl ((mq 19), 1500, .inl f_4))] := hD
  refine lv_iinc (v := 16) (lv' := [(2, .int 16), (0, .ref h0), (1, .int n)]) hx hb dX10_lays_33 hl (k := 0) rfl (by decide) (by decide) rfl (fun ls hl => ?_)
  refine lv_goto (tgt := 3) hx hb dX10_lays_36 (by decide) ?_
  refine lv_iload_n hx hb dX10_lays_3 rfl (lv_at hl 0 rfl) ?_
  refine lv_if_lt (tgt := 39) hx hb dX10_lays_4 (by decide) (fun c_6 => ?_) (fun c_6 => ?_)
  · exact absurd c_6 (by decide)
  refine lv_aload_n hx hb dX10_lays_7 rfl (lv_at hl 1 rfl) ?_
  refine va_get (D := (dC, dI)) (ci := 10) (v := .ref (md 19)) (C := RX10) (T := TX10) (N := 51) hx hb hts inw_X10_lays_10 hown hK hP 0 rfl rfl 19 (by decide) (hts (.fieldLink RX10 53 "VatHouseModel" "tape" "[I") (by decide +kernel)) (fun _ h9 => h9) rfl dX10_lays_8 ?_
  refine lv_aload_n hx hb dX10_lays_11 rfl (lv_at hl 1 rfl) ?_
  refine va_get (D := (dC, dI)) (ci := 10) (v := .int 1) (C := RX10) (T := TX10) (N := 51) hx hb hts inw_X10_lays_10 hown hK hP 0 rfl rfl 20 (by decide) (hts (.fieldLink RX10 159 "VatHouseModel" "taped" "I") (by decide +kernel)) (fun _ h9 => h9) rfl dX10_lays_12 ?_
  refine lv_iload_n hx hb dX10_lays_15 rfl (lv_at hl 2 rfl) ?_
  refine lv_iload_n hx hb dX10_lays_16 rfl (lv_at hl 0 rfl) ?_
  refine lv_ishr hx hb dX10_lays_17 ?_
  refine lv_topi (fun z_7 ez_7 => ?_)
  refine lv_sipush (v := 255) hx hb dX10_lays_18 (by decide) ?_
  refine lv_iand hx hb dX10_lays_21 ?_
  refine lv_topi (fun z_8 ez_8 => ?_)
  refine va_iast hx hb hK hP hD hS 1 0 rfl rfl (by unfold vp_in; decide) dX10_lays_22 (fun H locs hP hD hS => ?_)
  have hP : va_P (dC, dI) vwCl [(h0, .inr (10, [.int 0, .int 0, .int 0, .int 0, .ref (md 4), .ref (md 5), .ref (md 6), .ref (md 7), .ref (md 8), .ref (md 9), .ref (md 10), .ref (md 11), .int 0, .ref (md 13), .ref (md 14), .ref (md 15), .ref (md 16), .ref (md 17), .ref (md 18), .ref (md 19), .int 1, .int 0, .int 0, .int 0, .int (-1), .int 0, .ref (md 26), .ref (md 27), .ref (md 28), .ref (md 29), .ref (md 30), .ref (md 31), .ref (md 32), .ref (md 33), .ref (md 34), .ref (md 35), .int 0, .int 0, .int 0, .int 0, .int 0, .int 0, .int 0, .int 0, .int (-1), .int 0, .int 0, .ref (md 47), .ref (md 48), .ref (md 49), .ref (md 50)])), ((md 19), .inl ((mq 19), 1500, .inl (upd f_4 (1 : Int32).toNatClampNeg z_8)))] _ := hP
  have hD : va_D _ [(h0, .inr (10, [.int 0, .int 0, .int 0, .int 0, .ref (md 4), .ref (md 5), .ref (md 6), .ref (md 7), .ref (md 8), .ref (md 9), .ref (md 10), .ref (md 11), .int 0, .ref (md 13), .ref (md 14), .ref (md 15), .ref (md 16), .ref (md 17), .ref (md 18), .ref (md 19), .int 1, .int 0, .int 0, .int 0, .int (-1), .int 0, .ref (md 26), .ref (md 27), .ref (md 28), .ref (md 29), .ref (md 30), .ref (md 31), .ref (md 32), .ref (md 33), .ref (md 34), .ref (md 35), .int 0, .int 0, .int 0, .int 0, .int 0, .int 0, .int 0, .int 0, .int (-1), .int 0, .int 0, .ref (md 47), .ref (md 48), .ref (md 49), .ref (md 50)])), ((md 19), .inl ((mq 19), 1500, .inl (upd f_4 (1 : Int32).toNatClampNeg z_8)))] := hD
  obtain ⟨f_9, ef_9⟩ : ∃ z, z = (upd f_4 (1 : Int32).toNatClampNeg z_8) := ⟨_, rfl⟩
  rw [← ef_9] at hP hD
  refine lv_aload_n hx hb dX10_lays_23 rfl (lv_at hl 1 rfl) ?_
  refine lv_dup hx hb dX10_lays_24 rfl ?_
  refine va_get (D := (dC, dI)) (ci := 10) (v := .int 1) (C := RX10) (T := TX10) (N := 51) hx hb hts inw_X10_lays_10 hown hK hP 0 rfl rfl 20 (by decide) (hts (.fieldLink RX10 159 "VatHouseModel" "taped" "I") (by decide +kernel)) (fun _ h9 => h9) rfl dX10_lays_25 ?_
  refine lv_iconst (v := 1) hx hb dX10_lays_28 (by decide) ?_
  refine lv_iadd hx hb dX10_lays_29 ?_
  refine lv_topi (fun z_10 ez_10 => ?_)
  obtain rfl : z_10 = 2 := ez_10.trans (by decide)
  refine va_put (D := (dC, dI)) (ci := 10) (v := .int 2) (ty := .int) (C := RX10) (T := TX10) (N := 51) hx hb hts inw_X10_lays_10 tyX10 tyX10_ok nmX10 hown hK hP hD hS 0 rfl rfl 20 (by decide) (hts (.fieldLink RX10 159 "VatHouseModel" "taped" "I") (by decide +kernel)) (fun _ h9 => h9) rfl (by decide +kernel) rfl rfl (Nat.le_of_ble_eq_true rfl) dX10_lays_30 (fun H locs hP hD hS => ?_)
  have hP : va_P (dC, dI) vwCl [(h0, .inr (10, [.int 0, .int 0, .int 0, .int 0, .ref (md 4), .ref (md 5), .ref (md 6), .ref (md 7), .ref (md 8), .ref (md 9), .ref (md 10), .ref (md 11), .int 0, .ref (md 13), .ref (md 14), .ref (md 15), .ref (md 16), .ref (md 17), .ref (md 18), .ref (md 19), .int 2, .int 0, .int 0, .int 0, .int (-1), .int 0, .ref (md 26), .ref (md 27), .ref (md 28), .ref (md 29), .ref (md 30), .ref (md 31), .ref (md 32), .ref (md 33), .ref (md 34), .ref (md 35), .int 0, .int 0, .int 0, .int 0, .int 0, .int 0, .int 0, .int 0, .int (-1), .int 0, .int 0, .ref (md 47), .ref (md 48), .ref (md 49), .ref (md 50)])), ((md 19), .inl ((mq 19), 1500, .inl f_9))] _ := hP
  have hD : va_D _ [(h0, .inr (10, [.int 0, .int 0, .int 0, .int 0, .ref (md 4), .ref (md 5), .ref (md 6), .ref (md 7), .ref (md 8), .ref (md 9), .ref (md 10), .ref (md 11), .int 0, .ref (md 13), .ref (md 14), .ref (md 15), .ref (md 16), .ref (md 17), .ref (md 18), .ref (md 19), .int 2, .int 0, .int 0, .int 0, .int (-1), .int 0, .ref (md 26), .ref (md 27), .ref (md 28), .ref (md 29), .ref (md 30), .ref (md 31), .ref (md 32), .ref (md 33), .ref (md 34), .ref (md 35), .int 0, .int 0, .int 0, .int 0, .int 0, .int 0, .int 0, .int 0, .int (-1), .int 0, .int 0, .ref (md 47), .ref (md 48), .ref (md 49), .ref (md 50)])), ((md 19), .inl ((mq 19), 1500, .inl f_9))] := hD
  refine lv_iinc (v := 8) (lv' := [(2, .int 8), (0, .ref h0), (1, .int n)]) hx hb dX10_lays_33 hl (k := 0) rfl (by decide) (by decide) rfl (fun ls hl => ?_)
  refine lv_goto (tgt := 3) hx hb dX10_lays_36 (by decide) ?_
  refine lv_iload_n hx hb dX10_lays_3 rfl (lv_at hl 0 rfl) ?_
  refine lv_if_lt (tgt := 39) hx hb dX10_lays_4 (by decide) (fun c_11 => ?_) (fun c_11 => ?_)
  · exact absurd c_11 (by decide)
  refine lv_aload_n hx hb dX10_lays_7 rfl (lv_at hl 1 rfl) ?_
  refine va_get (D := (dC, dI)) (ci := 10) (v := .ref (md 19)) (C := RX10) (T := TX10) (N := 51) hx hb hts inw_X10_lays_10 hown hK hP 0 rfl rfl 19 (by decide) (hts (.fieldLink RX10 53 "VatHouseModel" "tape" "[I") (by decide +kernel)) (fun _ h9 => h9) rfl dX10_lays_8 ?_
  refine lv_aload_n hx hb dX10_lays_11 rfl (lv_at hl 1 rfl) ?_
  refine va_get (D := (dC, dI)) (ci := 10) (v := .int 2) (C := RX10) (T := TX10) (N := 51) hx hb hts inw_X10_lays_10 hown hK hP 0 rfl rfl 20 (by decide) (hts (.fieldLink RX10 159 "VatHouseModel" "taped" "I") (by decide +kernel)) (fun _ h9 => h9) rfl dX10_lays_12 ?_
  refine lv_iload_n hx hb dX10_lays_15 rfl (lv_at hl 2 rfl) ?_
  refine lv_iload_n hx hb dX10_lays_16 rfl (lv_at hl 0 rfl) ?_
  refine lv_ishr hx hb dX10_lays_17 ?_
  refine lv_topi (fun z_12 ez_12 => ?_)
  refine lv_sipush (v := 255) hx hb dX10_lays_18 (by decide) ?_
  refine lv_iand hx hb dX10_lays_21 ?_
  refine lv_topi (fun z_13 ez_13 => ?_)
  refine va_iast hx hb hK hP hD hS 1 0 rfl rfl (by unfold vp_in; decide) dX10_lays_22 (fun H locs hP hD hS => ?_)
  have hP : va_P (dC, dI) vwCl [(h0, .inr (10, [.int 0, .int 0, .int 0, .int 0, .ref (md 4), .ref (md 5), .ref (md 6), .ref (md 7), .ref (md 8), .ref (md 9), .ref (md 10), .ref (md 11), .int 0, .ref (md 13), .ref (md 14), .ref (md 15), .ref (md 16), .ref (md 17), .ref (md 18), .ref (md 19), .int 2, .int 0, .int 0, .int 0, .int (-1), .int 0, .ref (md 26), .ref (md 27), .ref (md 28), .ref (md 29), .ref (md 30), .ref (md 31), .ref (md 32), .ref (md 33), .ref (md 34), .ref (md 35), .int 0, .int 0, .int 0, .int 0, .int 0, .int 0, .int 0, .int 0, .int (-1), .int 0, .int 0, .ref (md 47), .ref (md 48), .ref (md 49), .ref (md 50)])), ((md 19), .inl ((mq 19), 1500, .inl (upd f_9 (2 : Int32).toNatClampNeg z_13)))] _ := hP
  have hD : va_D _ [(h0, .inr (10, [.int 0, .int 0, .int 0, .int 0, .ref (md 4), .ref (md 5), .ref (md 6), .ref (md 7), .ref (md 8), .ref (md 9), .ref (md 10), .ref (md 11), .int 0, .ref (md 13), .ref (md 14), .ref (md 15), .ref (md 16), .ref (md 17), .ref (md 18), .ref (md 19), .int 2, .int 0, .int 0, .int 0, .int (-1), .int 0, .ref (md 26), .ref (md 27), .ref (md 28), .ref (md 29), .ref (md 30), .ref (md 31), .ref (md 32), .ref (md 33), .ref (md 34), .ref (md 35), .int 0, .int 0, .int 0, .int 0, .int 0, .int 0, .int 0, .int 0, .int (-1), .int 0, .int 0, .ref (md 47), .ref (md 48), .ref (md 49), .ref (md 50)])), ((md 19), .inl ((mq 19), 1500, .inl (upd f_9 (2 : Int32).toNatClampNeg z_13)))] := hD
  obtain ⟨f_14, ef_14⟩ : ∃ z, z = (upd f_9 (2 : Int32).toNatClampNeg z_13) := ⟨_, rfl⟩
  rw [← ef_14] at hP hD
  refine lv_aload_n hx hb dX10_lays_23 rfl (lv_at hl 1 rfl) ?_
  refine lv_dup hx hb dX10_lays_24 rfl ?_
  refine va_get (D := (dC, dI)) (ci := 10) (v := .int 2) (C := RX10) (T := TX10) (N := 51) hx hb hts inw_X10_lays_10 hown hK hP 0 rfl rfl 20 (by decide) (hts (.fieldLink RX10 159 "VatHouseModel" "taped" "I") (by decide +kernel)) (fun _ h9 => h9) rfl dX10_lays_25 ?_
  refine lv_iconst (v := 1) hx hb dX10_lays_28 (by decide) ?_
  refine lv_iadd hx hb dX10_lays_29 ?_
  refine lv_topi (fun z_15 ez_15 => ?_)
  obtain rfl : z_15 = 3 := ez_15.trans (by decide)
  refine va_put (D := (dC, dI)) (ci := 10) (v := .int 3) (ty := .int) (C := RX10) (T := TX10) (N := 51) hx hb hts inw_X10_lays_10 tyX10 tyX10_ok nmX10 hown hK hP hD hS 0 rfl rfl 20 (by decide) (hts (.fieldLink RX10 159 "VatHouseModel" "taped" "I") (by decide +kernel)) (fun _ h9 => h9) rfl (by decide +kernel) rfl rfl (Nat.le_of_ble_eq_true rfl) dX10_lays_30 (fun H locs hP hD hS => ?_)
  have hP : va_P (dC, dI) vwCl [(h0, .inr (10, [.int 0, .int 0, .int 0, .int 0, .ref (md 4), .ref (md 5), .ref (md 6), .ref (md 7), .ref (md 8), .ref (md 9), .ref (md 10), .ref (md 11), .int 0, .ref (md 13), .ref (md 14), .ref (md 15), .ref (md 16), .ref (md 17), .ref (md 18), .ref (md 19), .int 3, .int 0, .int 0, .int 0, .int (-1), .int 0, .ref (md 26), .ref (md 27), .ref (md 28), .ref (md 29), .ref (md 30), .ref (md 31), .ref (md 32), .ref (md 33), .ref (md 34), .ref (md 35), .int 0, .int 0, .int 0, .int 0, .int 0, .int 0, .int 0, .int 0, .int (-1), .int 0, .int 0, .ref (md 47), .ref (md 48), .ref (md 49), .ref (md 50)])), ((md 19), .inl ((mq 19), 1500, .inl f_14))] _ := hP
  have hD : va_D _ [(h0, .inr (10, [.int 0, .int 0, .int 0, .int 0, .ref (md 4), .ref (md 5), .ref (md 6), .ref (md 7), .ref (md 8), .ref (md 9), .ref (md 10), .ref (md 11), .int 0, .ref (md 13), .ref (md 14), .ref (md 15), .ref (md 16), .ref (md 17), .ref (md 18), .ref (md 19), .int 3, .int 0, .int 0, .int 0, .int (-1), .int 0, .ref (md 26), .ref (md 27), .ref (md 28), .ref (md 29), .ref (md 30), .ref (md 31), .ref (md 32), .ref (md 33), .ref (md 34), .ref (md 35), .int 0, .int 0, .int 0, .int 0, .int 0, .int 0, .int 0, .int 0, .int (-1), .int 0, .int 0, .ref (md 47), .ref (md 48), .ref (md 49), .ref (md 50)])), ((md 19), .inl ((mq 19), 1500, .inl f_14))] := hD
  refine lv_iinc (v := 0) (lv' := [(2, .int 0), (0, .ref h0), (1, .int n)]) hx hb dX10_lays_33 hl (k := 0) rfl (by decide) (by decide) rfl (fun ls hl => ?_)
  refine lv_goto (tgt := 3) hx hb dX10_lays_36 (by decide) ?_
  refine lv_iload_n hx hb dX10_lays_3 rfl (lv_at hl 0 rfl) ?_
  refine lv_if_lt (tgt := 39) hx hb dX10_lays_4 (by decide) (fun c_16 => ?_) (fun c_16 => ?_)
  · exact absurd c_16 (by decide)
  refine lv_aload_n hx hb dX10_lays_7 rfl (lv_at hl 1 rfl) ?_
  refine va_get (D := (dC, dI)) (ci := 10) (v := .ref (md 19)) (C := RX10) (T := TX10) (N := 51) hx hb hts inw_X10_lays_10 hown hK hP 0 rfl rfl 19 (by decide) (hts (.fieldLink RX10 53 "VatHouseModel" "tape" "[I") (by decide +kernel)) (fun _ h9 => h9) rfl dX10_lays_8 ?_
  refine lv_aload_n hx hb dX10_lays_11 rfl (lv_at hl 1 rfl) ?_
  refine va_get (D := (dC, dI)) (ci := 10) (v := .int 3) (C := RX10) (T := TX10) (N := 51) hx hb hts inw_X10_lays_10 hown hK hP 0 rfl rfl 20 (by decide) (hts (.fieldLink RX10 159 "VatHouseModel" "taped" "I") (by decide +kernel)) (fun _ h9 => h9) rfl dX10_lays_12 ?_
  refine lv_iload_n hx hb dX10_lays_15 rfl (lv_at hl 2 rfl) ?_
  refine lv_iload_n hx hb dX10_lays_16 rfl (lv_at hl 0 rfl) ?_
  refine lv_ishr hx hb dX10_lays_17 ?_
  refine lv_topi (fun z_17 ez_17 => ?_)
  refine lv_sipush (v := 255) hx hb dX10_lays_18 (by decide) ?_
  refine lv_iand hx hb dX10_lays_21 ?_
  refine lv_topi (fun z_18 ez_18 => ?_)
  refine va_iast hx hb hK hP hD hS 1 0 rfl rfl (by unfold vp_in; decide) dX10_lays_22 (fun H locs hP hD hS => ?_)
  have hP : va_P (dC, dI) vwCl [(h0, .inr (10, [.int 0, .int 0, .int 0, .int 0, .ref (md 4), .ref (md 5), .ref (md 6), .ref (md 7), .ref (md 8), .ref (md 9), .ref (md 10), .ref (md 11), .int 0, .ref (md 13), .ref (md 14), .ref (md 15), .ref (md 16), .ref (md 17), .ref (md 18), .ref (md 19), .int 3, .int 0, .int 0, .int 0, .int (-1), .int 0, .ref (md 26), .ref (md 27), .ref (md 28), .ref (md 29), .ref (md 30), .ref (md 31), .ref (md 32), .ref (md 33), .ref (md 34), .ref (md 35), .int 0, .int 0, .int 0, .int 0, .int 0, .int 0, .int 0, .int 0, .int (-1), .int 0, .int 0, .ref (md 47), .ref (md 48), .ref (md 49), .ref (md 50)])), ((md 19), .inl ((mq 19), 1500, .inl (upd f_14 (3 : Int32).toNatClampNeg z_18)))] _ := hP
  have hD : va_D _ [(h0, .inr (10, [.int 0, .int 0, .int 0, .int 0, .ref (md 4), .ref (md 5), .ref (md 6), .ref (md 7), .ref (md 8), .ref (md 9), .ref (md 10), .ref (md 11), .int 0, .ref (md 13), .ref (md 14), .ref (md 15), .ref (md 16), .ref (md 17), .ref (md 18), .ref (md 19), .int 3, .int 0, .int 0, .int 0, .int (-1), .int 0, .ref (md 26), .ref (md 27), .ref (md 28), .ref (md 29), .ref (md 30), .ref (md 31), .ref (md 32), .ref (md 33), .ref (md 34), .ref (md 35), .int 0, .int 0, .int 0, .int 0, .int 0, .int 0, .int 0, .int 0, .int (-1), .int 0, .int 0, .ref (md 47), .ref (md 48), .ref (md 49), .ref (md 50)])), ((md 19), .inl ((mq 19), 1500, .inl (upd f_14 (3 : Int32).toNatClampNeg z_18)))] := hD
  obtain ⟨f_19, ef_19⟩ : ∃ z, z = (upd f_14 (3 : Int32).toNatClampNeg z_18) := ⟨_, rfl⟩
  rw [← ef_19] at hP hD
  refine lv_aload_n hx hb dX10_lays_23 rfl (lv_at hl 1 rfl) ?_
  refine lv_dup hx hb dX10_lays_24 rfl ?_
  refine va_get (D := (dC, dI)) (ci := 10) (v := .int 3) (C := RX10) (T := TX10) (N := 51) hx hb hts inw_X10_lays_10 hown hK hP 0 rfl rfl 20 (by decide) (hts (.fieldLink RX10 159 "VatHouseModel" "taped" "I") (by decide +kernel)) (fun _ h9 => h9) rfl dX10_lays_25 ?_
  refine lv_iconst (v := 1) hx hb dX10_lays_28 (by decide) ?_
  refine lv_iadd hx hb dX10_lays_29 ?_
  refine lv_topi (fun z_20 ez_20 => ?_)
  obtain rfl : z_20 = 4 := ez_20.trans (by decide)
  refine va_put (D := (dC, dI)) (ci := 10) (v := .int 4) (ty := .int) (C := RX10) (T := TX10) (N := 51) hx hb hts inw_X10_lays_10 tyX10 tyX10_ok nmX10 hown hK hP hD hS 0 rfl rfl 20 (by decide) (hts (.fieldLink RX10 159 "VatHouseModel" "taped" "I") (by decide +kernel)) (fun _ h9 => h9) rfl (by decide +kernel) rfl rfl (Nat.le_of_ble_eq_true rfl) dX10_lays_30 (fun H locs hP hD hS => ?_)
  have hP : va_P (dC, dI) vwCl [(h0, .inr (10, [.int 0, .int 0, .int 0, .int 0, .ref (md 4), .ref (md 5), .ref (md 6), .ref (md 7), .ref (md 8), .ref (md 9), .ref (md 10), .ref (md 11), .int 0, .ref (md 13), .ref (md 14), .ref (md 15), .ref (md 16), .ref (md 17), .ref (md 18), .ref (md 19), .int 4, .int 0, .int 0, .int 0, .int (-1), .int 0, .ref (md 26), .ref (md 27), .ref (md 28), .ref (md 29), .ref (md 30), .ref (md 31), .ref (md 32), .ref (md 33), .ref (md 34), .ref (md 35), .int 0, .int 0, .int 0, .int 0, .int 0, .int 0, .int 0, .int 0, .int (-1), .int 0, .int 0, .ref (md 47), .ref (md 48), .ref (md 49), .ref (md 50)])), ((md 19), .inl ((mq 19), 1500, .inl f_19))] _ := hP
  have hD : va_D _ [(h0, .inr (10, [.int 0, .int 0, .int 0, .int 0, .ref (md 4), .ref (md 5), .ref (md 6), .ref (md 7), .ref (md 8), .ref (md 9), .ref (md 10), .ref (md 11), .int 0, .ref (md 13), .ref (md 14), .ref (md 15), .ref (md 16), .ref (md 17), .ref (md 18), .ref (md 19), .int 4, .int 0, .int 0, .int 0, .int (-1), .int 0, .ref (md 26), .ref (md 27), .ref (md 28), .ref (md 29), .ref (md 30), .ref (md 31), .ref (md 32), .ref (md 33), .ref (md 34), .ref (md 35), .int 0, .int 0, .int 0, .int 0, .int 0, .int 0, .int 0, .int 0, .int (-1), .int 0, .int 0, .ref (md 47), .ref (md 48), .ref (md 49), .ref (md 50)])), ((md 19), .inl ((mq 19), 1500, .inl f_19))] := hD
  refine lv_iinc (v := (-8)) (lv' := [(2, .int (-8)), (0, .ref h0), (1, .int n)]) hx hb dX10_lays_33 hl (k := 0) rfl (by decide) (by decide) rfl (fun ls hl => ?_)
  refine lv_goto (tgt := 3) hx hb dX10_lays_36 (by decide) ?_
  refine lv_iload_n hx hb dX10_lays_3 rfl (lv_at hl 0 rfl) ?_
  refine lv_if_lt (tgt := 39) hx hb dX10_lays_4 (by decide) (fun c_21 => ?_) (fun c_21 => ?_)
  rotate_left
  · exact absurd c_21 (by decide)
  exact en_v hx hb hr hlocks hP hD hK hS f_19 ⟨rfl, trivial⟩ [0, 1] [] rfl rfl rfl (Nat.le_of_ble_eq_true rfl) (Nat.le_of_ble_eq_true rfl) dX10_lays_39

abbrev rm_X10_lays_4 : Room := { frames := 0, cells := 0, slots := 0, locals := 0 }
set_option maxHeartbeats 800000 in
set_option maxRecDepth 100000 in
theorem c_X10_lays_4 (l : Launch) (dC : Nat → ClassId) (dI : Nat → Nat → Nat) (sa : Nat → Nat) (hlt : l.stackTraces = false) (sz : Nat) (h0 : Nat) (md : Nat → Nat) (mq : Nat → ClassId) (ft : Nat → Int32) (n : Int32) : CT l dC dI sa yX10_lays wsX10_lays rm_X10_lays_4 [.ref h0, .int n] [(h0, .inr (10, [.int 0, .int 0, .int 0, .int 0, .ref (md 4), .ref (md 5), .ref (md 6), .ref (md 7), .ref (md 8), .ref (md 9), .ref (md 10), .ref (md 11), .int 0, .ref (md 13), .ref (md 14), .ref (md 15), .ref (md 16), .ref (md 17), .ref (md 18), .ref (md 19), .int 4, .int 0, .int 0, .int 0, .int (-1), .int 0, .ref (md 26), .ref (md 27), .ref (md 28), .ref (md 29), .ref (md 30), .ref (md 31), .ref (md 32), .ref (md 33), .ref (md 34), .ref (md 35), .int 0, .int 0, .int 0, .int 0, .int 0, .int 0, .int 0, .int 0, .int (-1), .int 0, .int 0, .ref (md 47), .ref (md 48), .ref (md 49), .ref (md 50)])), ((md 19), .inl ((mq 19), 1500, .inl ft))] [((mq 19), .int)] sz (fun (r : Option Value) (g : (Nat → Int32)) => r = none ∧ (True)) (fun (g : (Nat → Int32)) => [(h0, .inr (10, [.int 0, .int 0, .int 0, .int 0, .ref (md 4), .ref (md 5), .ref (md 6), .ref (md 7), .ref (md 8), .ref (md 9), .ref (md 10), .ref (md 11), .int 0, .ref (md 13), .ref (md 14), .ref (md 15), .ref (md 16), .ref (md 17), .ref (md 18), .ref (md 19), .int 8, .int 0, .int 0, .int 0, .int (-1), .int 0, .ref (md 26), .ref (md 27), .ref (md 28), .ref (md 29), .ref (md 30), .ref (md 31), .ref (md 32), .ref (md 33), .ref (md 34), .ref (md 35), .int 0, .int 0, .int 0, .int 0, .int 0, .int 0, .int 0, .int 0, .int (-1), .int 0, .int 0, .ref (md 47), .ref (md 48), .ref (md 49), .ref (md 50)])), ((md 19), .inl ((mq 19), 1500, .inl g))]) (fun (g : (Nat → Int32)) => []) 0 0 := by
  refine CT.start (cc := cX10_lays) (maxL := 3) (ret := none) (by decide) rfl (Nat.le_of_ble_eq_true rfl) ?_
  intro p e s m below meth c ls hst hP hK hD hev hS hl
  obtain ⟨hx, hb, hr, hml, hts, hown, hlocks, hin⟩ := hst
  have hown : s.vm.findClass RX10 = some m.cls := hown
  have hin : meth.name = yX10_lays.name := hin
  have hA : ∀ q : Nat, s.heap.size ≤ q → va_A [(h0, .inr (10, [.int 0, .int 0, .int 0, .int 0, .ref (md 4), .ref (md 5), .ref (md 6), .ref (md 7), .ref (md 8), .ref (md 9), .ref (md 10), .ref (md 11), .int 0, .ref (md 13), .ref (md 14), .ref (md 15), .ref (md 16), .ref (md 17), .ref (md 18), .ref (md 19), .int 4, .int 0, .int 0, .int 0, .int (-1), .int 0, .ref (md 26), .ref (md 27), .ref (md 28), .ref (md 29), .ref (md 30), .ref (md 31), .ref (md 32), .ref (md 33), .ref (md 34), .ref (md 35), .int 0, .int 0, .int 0, .int 0, .int 0, .int 0, .int 0, .int 0, .int (-1), .int 0, .int 0, .ref (md 47), .ref (md 48), .ref (md 49), .ref (md 50)])), ((md 19), .inl ((mq 19), 1500, .inl ft))] s.heap.size q := fun _ h => Or.inr h
  have hl : lv_has ls 3 [(0, .ref h0), (1, .int n)] := hl
  refine lv_bipush (v := 24) hx hb dX10_lays_0 (by decide) ?_
  refine lv_istore_n (lv' := [(2, .int 24), (0, .ref h0), (1, .int n)]) hx hb dX10_lays_2 rfl hl (by decide) rfl (fun ls hl => ?_)
  refine lv_iload_n hx hb dX10_lays_3 rfl (lv_at hl 0 rfl) ?_
  refine lv_if_lt (tgt := 39) hx hb dX10_lays_4 (by decide) (fun c_1 => ?_) (fun c_1 => ?_)
  · exact absurd c_1 (by decide)
  refine lv_aload_n hx hb dX10_lays_7 rfl (lv_at hl 1 rfl) ?_
  refine va_get (D := (dC, dI)) (ci := 10) (v := .ref (md 19)) (C := RX10) (T := TX10) (N := 51) hx hb hts inw_X10_lays_10 hown hK hP 0 rfl rfl 19 (by decide) (hts (.fieldLink RX10 53 "VatHouseModel" "tape" "[I") (by decide +kernel)) (fun _ h9 => h9) rfl dX10_lays_8 ?_
  refine lv_aload_n hx hb dX10_lays_11 rfl (lv_at hl 1 rfl) ?_
  refine va_get (D := (dC, dI)) (ci := 10) (v := .int 4) (C := RX10) (T := TX10) (N := 51) hx hb hts inw_X10_lays_10 hown hK hP 0 rfl rfl 20 (by decide) (hts (.fieldLink RX10 159 "VatHouseModel" "taped" "I") (by decide +kernel)) (fun _ h9 => h9) rfl dX10_lays_12 ?_
  refine lv_iload_n hx hb dX10_lays_15 rfl (lv_at hl 2 rfl) ?_
  refine lv_iload_n hx hb dX10_lays_16 rfl (lv_at hl 0 rfl) ?_
  refine lv_ishr hx hb dX10_lays_17 ?_
  refine lv_topi (fun z_2 ez_2 => ?_)
  refine lv_sipush (v := 255) hx hb dX10_lays_18 (by decide) ?_
  refine lv_iand hx hb dX10_lays_21 ?_
  refine lv_topi (fun z_3 ez_3 => ?_)
  refine va_iast hx hb hK hP hD hS 1 0 rfl rfl (by unfold vp_in; decide) dX10_lays_22 (fun H locs hP hD hS => ?_)
  have hP : va_P (dC, dI) vwCl [(h0, .inr (10, [.int 0, .int 0, .int 0, .int 0, .ref (md 4), .ref (md 5), .ref (md 6), .ref (md 7), .ref (md 8), .ref (md 9), .ref (md 10), .ref (md 11), .int 0, .ref (md 13), .ref (md 14), .ref (md 15), .ref (md 16), .ref (md 17), .ref (md 18), .ref (md 19), .int 4, .int 0, .int 0, .int 0, .int (-1), .int 0, .ref (md 26), .ref (md 27), .ref (md 28), .ref (md 29), .ref (md 30), .ref (md 31), .ref (md 32), .ref (md 33), .ref (md 34), .ref (md 35), .int 0, .int 0, .int 0, .int 0, .int 0, .int 0, .int 0, .int 0, .int (-1), .int 0, .int 0, .ref (md 47), .ref (md 48), .ref (md 49), .ref (md 50)])), ((md 19), .inl ((mq 19), 1500, .inl (upd ft (4 : Int32).toNatClampNeg z_3)))] _ := hP
  have hD : va_D _ [(h0, .inr (10, [.int 0, .int 0, .int 0, .int 0, .ref (md 4), .ref (md 5), .ref (md 6), .ref (md 7), .ref (md 8), .ref (md 9), .ref (md 10), .ref (md 11), .int 0, .ref (md 13), .ref (md 14), .ref (md 15), .ref (md 16), .ref (md 17), .ref (md 18), .ref (md 19), .int 4, .int 0, .int 0, .int 0, .int (-1), .int 0, .ref (md 26), .ref (md 27), .ref (md 28), .ref (md 29), .ref (md 30), .ref (md 31), .ref (md 32), .ref (md 33), .ref (md 34), .ref (md 35), .int 0, .int 0, .int 0, .int 0, .int 0, .int 0, .int 0, .int 0, .int (-1), .int 0, .int 0, .ref (md 47), .ref (md 48), .ref (md 49), .ref (md 50)])), ((md 19), .inl ((mq 19), 1500, .inl (upd ft (4 : Int32).toNatClampNeg z_3)))] := hD
  obtain ⟨f_4, ef_4⟩ : ∃ z, z = (upd ft (4 : Int32).toNatClampNeg z_3) := ⟨_, rfl⟩
  rw [← ef_4] at hP hD
  refine lv_aload_n hx hb dX10_lays_23 rfl (lv_at hl 1 rfl) ?_
  refine lv_dup hx hb dX10_lays_24 rfl ?_
  refine va_get (D := (dC, dI)) (ci := 10) (v := .int 4) (C := RX10) (T := TX10) (N := 51) hx hb hts inw_X10_lays_10 hown hK hP 0 rfl rfl 20 (by decide) (hts (.fieldLink RX10 159 "VatHouseModel" "taped" "I") (by decide +kernel)) (fun _ h9 => h9) rfl dX10_lays_25 ?_
  refine lv_iconst (v := 1) hx hb dX10_lays_28 (by decide) ?_
  refine lv_iadd hx hb dX10_lays_29 ?_
  refine lv_topi (fun z_5 ez_5 => ?_)
  obtain rfl : z_5 = 5 := ez_5.trans (by decide)
  refine va_put (D := (dC, dI)) (ci := 10) (v := .int 5) (ty := .int) (C := RX10) (T := TX10) (N := 51) hx hb hts inw_X10_lays_10 tyX10 tyX10_ok nmX10 hown hK hP hD hS 0 rfl rfl 20 (by decide) (hts (.fieldLink RX10 159 "VatHouseModel" "taped" "I") (by decide +kernel)) (fun _ h9 => h9) rfl (by decide +kernel) rfl rfl (Nat.le_of_ble_eq_true rfl) dX10_lays_30 (fun H locs hP hD hS => ?_)
  have hP : va_P (dC, dI) vwCl [(h0, .inr (10, [.int 0, .int 0, .int 0, .int 0, .ref (md 4), .ref (md 5), .ref (md 6), .ref (md 7), .ref (md 8), .ref (md 9), .ref (md 10), .ref (md 11), .int 0, .ref (md 13), .ref (md 14), .ref (md 15), .ref (md 16), .ref (md 17), .ref (md 18), .ref (md 19), .int 5, .int 0, .int 0, .int 0, .int (-1), .int 0, .ref (md 26), .ref (md 27), .ref (md 28), .ref (md 29), .ref (md 30), .ref (md 31), .ref (md 32), .ref (md 33), .ref (md 34), .ref (md 35), .int 0, .int 0, .int 0, .int 0, .int 0, .int 0, .int 0, .int 0, .int (-1), .int 0, .int 0, .ref (md 47), .ref (md 48), .ref (md 49), .ref (md 50)])), ((md 19), .inl ((mq 19), 1500, .inl f_4))] _ := hP
  have hD : va_D _ [(h0, .inr (10, [.int 0, .int 0, .int 0, .int 0, .ref (md 4), .ref (md 5), .ref (md 6), .ref (md 7), .ref (md 8), .ref (md 9), .ref (md 10), .ref (md 11), .int 0, .ref (md 13), .ref (md 14), .ref (md 15), .ref (md 16), .ref (md 17), .ref (md 18), .ref (md 19), .int 5, .int 0, .int 0, .int 0, .int (-1), .int 0, .ref (md 26), .ref (md 27), .ref (md 28), .ref (md 29), .ref (md 30), .ref (md 31), .ref (md 32), .ref (md 33), .ref (md 34), .ref (md 35), .int 0, .int 0, .int 0, .int 0, .int 0, .int 0, .int 0, .int 0, .int (-1), .int 0, .int 0, .ref (md 47), .ref (md 48), .ref (md 49), .ref (md 50)])), ((md 19), .inl ((mq 19), 1500, .inl f_4))] := hD
  refine lv_iinc (v := 16) (lv' := [(2, .int 16), (0, .ref h0), (1, .int n)]) hx hb dX10_lays_33 hl (k := 0) rfl (by decide) (by decide) rfl (fun ls hl => ?_)
  refine lv_goto (tgt := 3) hx hb dX10_lays_36 (by decide) ?_
  refine lv_iload_n hx hb dX10_lays_3 rfl (lv_at hl 0 rfl) ?_
  refine lv_if_lt (tgt := 39) hx hb dX10_lays_4 (by decide) (fun c_6 => ?_) (fun c_6 => ?_)
  · exact absurd c_6 (by decide)
  refine lv_aload_n hx hb dX10_lays_7 rfl (lv_at hl 1 rfl) ?_
  refine va_get (D := (dC, dI)) (ci := 10) (v := .ref (md 19)) (C := RX10) (T := TX10) (N := 51) hx hb hts inw_X10_lays_10 hown hK hP 0 rfl rfl 19 (by decide) (hts (.fieldLink RX10 53 "VatHouseModel" "tape" "[I") (by decide +kernel)) (fun _ h9 => h9) rfl dX10_lays_8 ?_
  refine lv_aload_n hx hb dX10_lays_11 rfl (lv_at hl 1 rfl) ?_
  refine va_get (D := (dC, dI)) (ci := 10) (v := .int 5) (C := RX10) (T := TX10) (N := 51) hx hb hts inw_X10_lays_10 hown hK hP 0 rfl rfl 20 (by decide) (hts (.fieldLink RX10 159 "VatHouseModel" "taped" "I") (by decide +kernel)) (fun _ h9 => h9) rfl dX10_lays_12 ?_
  refine lv_iload_n hx hb dX10_lays_15 rfl (lv_at hl 2 rfl) ?_
  refine lv_iload_n hx hb dX10_lays_16 rfl (lv_at hl 0 rfl) ?_
  refine lv_ishr hx hb dX10_lays_17 ?_
  refine lv_topi (fun z_7 ez_7 => ?_)
  refine lv_sipush (v := 255) hx hb dX10_lays_18 (by decide) ?_
  refine lv_iand hx hb dX10_lays_21 ?_
  refine lv_topi (fun z_8 ez_8 => ?_)
  refine va_iast hx hb hK hP hD hS 1 0 rfl rfl (by unfold vp_in; decide) dX10_lays_22 (fun H locs hP hD hS => ?_)
  have hP : va_P (dC, dI) vwCl [(h0, .inr (10, [.int 0, .int 0, .int 0, .int 0, .ref (md 4), .ref (md 5), .ref (md 6), .ref (md 7), .ref (md 8), .ref (md 9), .ref (md 10), .ref (md 11), .int 0, .ref (md 13), .ref (md 14), .ref (md 15), .ref (md 16), .ref (md 17), .ref (md 18), .ref (md 19), .int 5, .int 0, .int 0, .int 0, .int (-1), .int 0, .ref (md 26), .ref (md 27), .ref (md 28), .ref (md 29), .ref (md 30), .ref (md 31), .ref (md 32), .ref (md 33), .ref (md 34), .ref (md 35), .int 0, .int 0, .int 0, .int 0, .int 0, .int 0, .int 0, .int 0, .int (-1), .int 0, .int 0, .ref (md 47), .ref (md 48), .ref (md 49), .ref (md 50)])), ((md 19), .inl ((mq 19), 1500, .inl (upd f_4 (5 : Int32).toNatClampNeg z_8)))] _ := hP
  have hD : va_D _ [(h0, .inr (10, [.int 0, .int 0, .int 0, .int 0, .ref (md 4), .ref (md 5), .ref (md 6), .ref (md 7), .ref (md 8), .ref (md 9), .ref (md 10), .ref (md 11), .int 0, .ref (md 13), .ref (md 14), .ref (md 15), .ref (md 16), .ref (md 17), .ref (md 18), .ref (md 19), .int 5, .int 0, .int 0, .int 0, .int (-1), .int 0, .ref (md 26), .ref (md 27), .ref (md 28), .ref (md 29), .ref (md 30), .ref (md 31), .ref (md 32), .ref (md 33), .ref (md 34), .ref (md 35), .int 0, .int 0, .int 0, .int 0, .int 0, .int 0, .int 0, .int 0, .int (-1), .int 0, .int 0, .ref (md 47), .ref (md 48), .ref (md 49), .ref (md 50)])), ((md 19), .inl ((mq 19), 1500, .inl (upd f_4 (5 : Int32).toNatClampNeg z_8)))] := hD
  obtain ⟨f_9, ef_9⟩ : ∃ z, z = (upd f_4 (5 : Int32).toNatClampNeg z_8) := ⟨_, rfl⟩
  rw [← ef_9] at hP hD
  refine lv_aload_n hx hb dX10_lays_23 rfl (lv_at hl 1 rfl) ?_
  refine lv_dup hx hb dX10_lays_24 rfl ?_
  refine va_get (D := (dC, dI)) (ci := 10) (v := .int 5) (C := RX10) (T := TX10) (N := 51) hx hb hts inw_X10_lays_10 hown hK hP 0 rfl rfl 20 (by decide) (hts (.fieldLink RX10 159 "VatHouseModel" "taped" "I") (by decide +kernel)) (fun _ h9 => h9) rfl dX10_lays_25 ?_
  refine lv_iconst (v := 1) hx hb dX10_lays_28 (by decide) ?_
  refine lv_iadd hx hb dX10_lays_29 ?_
  refine lv_topi (fun z_10 ez_10 => ?_)
  obtain rfl : z_10 = 6 := ez_10.trans (by decide)
  refine va_put (D := (dC, dI)) (ci := 10) (v := .int 6) (ty := .int) (C := RX10) (T := TX10) (N := 51) hx hb hts inw_X10_lays_10 tyX10 tyX10_ok nmX10 hown hK hP hD hS 0 rfl rfl 20 (by decide) (hts (.fieldLink RX10 159 "VatHouseModel" "taped" "I") (by decide +kernel)) (fun _ h9 => h9) rfl (by decide +kernel) rfl rfl (Nat.le_of_ble_eq_true rfl) dX10_lays_30 (fun H locs hP hD hS => ?_)
  have hP : va_P (dC, dI) vwCl [(h0, .inr (10, [.int 0, .int 0, .int 0, .int 0, .ref (md 4), .ref (md 5), .ref (md 6), .ref (md 7), .ref (md 8), .ref (md 9), .ref (md 10), .ref (md 11), .int 0, .ref (md 13), .ref (md 14), .ref (md 15), .ref (md 16), .ref (md 17), .ref (md 18), .ref (md 19), .int 6, .int 0, .int 0, .int 0, .int (-1), .int 0, .ref (md 26), .ref (md 27), .ref (md 28), .ref (md 29), .ref (md 30), .ref (md 31), .ref (md 32), .ref (md 33), .ref (md 34), .ref (md 35), .int 0, .int 0, .int 0, .int 0, .int 0, .int 0, .int 0, .int 0, .int (-1), .int 0, .int 0, .ref (md 47), .ref (md 48), .ref (md 49), .ref (md 50)])), ((md 19), .inl ((mq 19), 1500, .inl f_9))] _ := hP
  have hD : va_D _ [(h0, .inr (10, [.int 0, .int 0, .int 0, .int 0, .ref (md 4), .ref (md 5), .ref (md 6), .ref (md 7), .ref (md 8), .ref (md 9), .ref (md 10), .ref (md 11), .int 0, .ref (md 13), .ref (md 14), .ref (md 15), .ref (md 16), .ref (md 17), .ref (md 18), .ref (md 19), .int 6, .int 0, .int 0, .int 0, .int (-1), .int 0, .ref (md 26), .ref (md 27), .ref (md 28), .ref (md 29), .ref (md 30), .ref (md 31), .ref (md 32), .ref (md 33), .ref (md 34), .ref (md 35), .int 0, .int 0, .int 0, .int 0, .int 0, .int 0, .int 0, .int 0, .int (-1), .int 0, .int 0, .ref (md 47), .ref (md 48), .ref (md 49), .ref (md 50)])), ((md 19), .inl ((mq 19), 1500, .inl f_9))] := hD
  refine lv_iinc (v := 8) (lv' := [(2, .int 8), (0, .ref h0), (1, .int n)]) hx hb dX10_lays_33 hl (k := 0) rfl (by decide) (by decide) rfl (fun ls hl => ?_)
  refine lv_goto (tgt := 3) hx hb dX10_lays_36 (by decide) ?_
  refine lv_iload_n hx hb dX10_lays_3 rfl (lv_at hl 0 rfl) ?_
  refine lv_if_lt (tgt := 39) hx hb dX10_lays_4 (by decide) (fun c_11 => ?_) (fun c_11 => ?_)
  · exact absurd c_11 (by decide)
  refine lv_aload_n hx hb dX10_lays_7 rfl (lv_at hl 1 rfl) ?_
  refine va_get (D := (dC, dI)) (ci := 10) (v := .ref (md 19)) (C := RX10) (T := TX10) (N := 51) hx hb hts inw_X10_lays_10 hown hK hP 0 rfl rfl 19 (by decide) (hts (.fieldLink RX10 53 "VatHouseModel" "tape" "[I") (by decide +kernel)) (fun _ h9 => h9) rfl dX10_lays_8 ?_
  refine lv_aload_n hx hb dX10_lays_11 rfl (lv_at hl 1 rfl) ?_
  refine va_get (D := (dC, dI)) (ci := 10) (v := .int 6) (C := RX10) (T := TX10) (N := 51) hx hb hts inw_X10_lays_10 hown hK hP 0 rfl rfl 20 (by decide) (hts (.fieldLink RX10 159 "VatHouseModel" "taped" "I") (by decide +kernel)) (fun _ h9 => h9) rfl dX10_lays_12 ?_
  refine lv_iload_n hx hb dX10_lays_15 rfl (lv_at hl 2 rfl) ?_
  refine lv_iload_n hx hb dX10_lays_16 rfl (lv_at hl 0 rfl) ?_
  refine lv_ishr hx hb dX10_lays_17 ?_
  refine lv_topi (fun z_12 ez_12 => ?_)
  refine lv_sipush (v := 255) hx hb dX10_lays_18 (by decide) ?_
  refine lv_iand hx hb dX10_lays_21 ?_
  refine lv_topi (fun z_13 ez_13 => ?_)
  refine va_iast hx hb hK hP hD hS 1 0 rfl rfl (by unfold vp_in; decide) dX10_lays_22 (fun H locs hP hD hS => ?_)
  have hP : va_P (dC, dI) vwCl [(h0, .inr (10, [.int 0, .int 0, .int 0, .int 0, .ref (md 4), .ref (md 5), .ref (md 6), .ref (md 7), .ref (md 8), .ref (md 9), .ref (md 10), .ref (md 11), .int 0, .ref (md 13), .ref (md 14), .ref (md 15), .ref (md 16), .ref (md 17), .ref (md 18), .ref (md 19), .int 6, .int 0, .int 0, .int 0, .int (-1), .int 0, .ref (md 26), .ref (md 27), .ref (md 28), .ref (md 29), .ref (md 30), .ref (md 31), .ref (md 32), .ref (md 33), .ref (md 34), .ref (md 35), .int 0, .int 0, .int 0, .int 0, .int 0, .int 0, .int 0, .int 0, .int (-1), .int 0, .int 0, .ref (md 47), .ref (md 48), .ref (md 49), .ref (md 50)])), ((md 19), .inl ((mq 19), 1500, .inl (upd f_9 (6 : Int32).toNatClampNeg z_13)))] _ := hP
  have hD : va_D _ [(h0, .inr (10, [.int 0, .int 0, .int 0, .int 0, .ref (md 4), .ref (md 5), .ref (md 6), .ref (md 7), .ref (md 8), .ref (md 9), .ref (md 10), .ref (md 11), .int 0, .ref (md 13), .ref (md 14), .ref (md 15), .ref (md 16), .ref (md 17), .ref (md 18), .ref (md 19), .int 6, .int 0, .int 0, .int 0, .int (-1), .int 0, .ref (md 26), .ref (md 27), .ref (md 28), .ref (md 29), .ref (md 30), .ref (md 31), .ref (md 32), .ref (md 33), .ref (md 34), .ref (md 35), .int 0, .int 0, .int 0, .int 0, .int 0, .int 0, .int 0, .int 0, .int (-1), .int 0, .int 0, .ref (md 47), .ref (md 48), .ref (md 49), .ref (md 50)])), ((md 19), .inl ((mq 19), 1500, .inl (upd f_9 (6 : Int32).toNatClampNeg z_13)))] := hD
  obtain ⟨f_14, ef_14⟩ : ∃ z, z = (upd f_9 (6 : Int32).toNatClampNeg z_13) := ⟨_, rfl⟩
  rw [← ef_14] at hP hD
  refine lv_aload_n hx hb dX10_lays_23 rfl (lv_at hl 1 rfl) ?_
  refine lv_dup hx hb dX10_lays_24 rfl ?_
  refine va_get (D := (dC, dI)) (ci := 10) (v := .int 6) (C := RX10) (T := TX10) (N := 51) hx hb hts inw_X10_lays_10 hown hK hP 0 rfl rfl 20 (by decide) (hts (.fieldLink RX10 159 "VatHouseModel" "taped" "I") (by decide +kernel)) (fun _ h9 => h9) rfl dX10_lays_25 ?_
  refine lv_iconst (v := 1) hx hb dX10_lays_28 (by decide) ?_
  refine lv_iadd hx hb dX10_lays_29 ?_
  refine lv_topi (fun z_15 ez_15 => ?_)
  obtain rfl : z_15 = 7 := ez_15.trans (by decide)
  refine va_put (D := (dC, dI)) (ci := 10) (v := .int 7) (ty := .int) (C := RX10) (T := TX10) (N := 51) hx hb hts inw_X10_lays_10 tyX10 tyX10_ok nmX10 hown hK hP hD hS 0 rfl rfl 20 (by decide) (hts (.fieldLink RX10 159 "VatHouseModel" "taped" "I") (by decide +kernel)) (fun _ h9 => h9) rfl (by decide +kernel) rfl rfl (Nat.le_of_ble_eq_true rfl) dX10_lays_30 (fun H locs hP hD hS => ?_)
  have hP : va_P (dC, dI) vwCl [(h0, .inr (10, [.int 0, .int 0, .int 0, .int 0, .ref (md 4), .ref (md 5), .ref (md 6), .ref (md 7), .ref (md 8), .ref (md 9), .ref (md 10), .ref (md 11), .int 0, .ref (md 13), .ref (md 14), .ref (md 15), .ref (md 16), .ref (md 17), .ref (md 18), .ref (md 19), .int 7, .int 0, .int 0, .int 0, .int (-1), .int 0, .ref (md 26), .ref (md 27), .ref (md 28), .ref (md 29), .ref (md 30), .ref (md 31), .ref (md 32), .ref (md 33), .ref (md 34), .ref (md 35), .int 0, .int 0, .int 0, .int 0, .int 0, .int 0, .int 0, .int 0, .int (-1), .int 0, .int 0, .ref (md 47), .ref (md 48), .ref (md 49), .ref (md 50)])), ((md 19), .inl ((mq 19), 1500, .inl f_14))] _ := hP
  have hD : va_D _ [(h0, .inr (10, [.int 0, .int 0, .int 0, .int 0, .ref (md 4), .ref (md 5), .ref (md 6), .ref (md 7), .ref (md 8), .ref (md 9), .ref (md 10), .ref (md 11), .int 0, .ref (md 13), .ref (md 14), .ref (md 15), .ref (md 16), .ref (md 17), .ref (md 18), .ref (md 19), .int 7, .int 0, .int 0, .int 0, .int (-1), .int 0, .ref (md 26), .ref (md 27), .ref (md 28), .ref (md 29), .ref (md 30), .ref (md 31), .ref (md 32), .ref (md 33), .ref (md 34), .ref (md 35), .int 0, .int 0, .int 0, .int 0, .int 0, .int 0, .int 0, .int 0, .int (-1), .int 0, .int 0, .ref (md 47), .ref (md 48), .ref (md 49), .ref (md 50)])), ((md 19), .inl ((mq 19), 1500, .inl f_14))] := hD
  refine lv_iinc (v := 0) (lv' := [(2, .int 0), (0, .ref h0), (1, .int n)]) hx hb dX10_lays_33 hl (k := 0) rfl (by decide) (by decide) rfl (fun ls hl => ?_)
  refine lv_goto (tgt := 3) hx hb dX10_lays_36 (by decide) ?_
  refine lv_iload_n hx hb dX10_lays_3 rfl (lv_at hl 0 rfl) ?_
  refine lv_if_lt (tgt := 39) hx hb dX10_lays_4 (by decide) (fun c_16 => ?_) (fun c_16 => ?_)
  · exact absurd c_16 (by decide)
  refine lv_aload_n hx hb dX10_lays_7 rfl (lv_at hl 1 rfl) ?_
  refine va_get (D := (dC, dI)) (ci := 10) (v := .ref (md 19)) (C := RX10) (T := TX10) (N := 51) hx hb hts inw_X10_lays_10 hown hK hP 0 rfl rfl 19 (by decide) (hts (.fieldLink RX10 53 "VatHouseModel" "tape" "[I") (by decide +kernel)) (fun _ h9 => h9) rfl dX10_lays_8 ?_
  refine lv_aload_n hx hb dX10_lays_11 rfl (lv_at hl 1 rfl) ?_
  refine va_get (D := (dC, dI)) (ci := 10) (v := .int 7) (C := RX10) (T := TX10) (N := 51) hx hb hts inw_X10_lays_10 hown hK hP 0 rfl rfl 20 (by decide) (hts (.fieldLink RX10 159 "VatHouseModel" "taped" "I") (by decide +kernel)) (fun _ h9 => h9) rfl dX10_lays_12 ?_
  refine lv_iload_n hx hb dX10_lays_15 rfl (lv_at hl 2 rfl) ?_
  refine lv_iload_n hx hb dX10_lays_16 rfl (lv_at hl 0 rfl) ?_
  refine lv_ishr hx hb dX10_lays_17 ?_
  refine lv_topi (fun z_17 ez_17 => ?_)
  refine lv_sipush (v := 255) hx hb dX10_lays_18 (by decide) ?_
  refine lv_iand hx hb dX10_lays_21 ?_
  refine lv_topi (fun z_18 ez_18 => ?_)
  refine va_iast hx hb hK hP hD hS 1 0 rfl rfl (by unfold vp_in; decide) dX10_lays_22 (fun H locs hP hD hS => ?_)
  have hP : va_P (dC, dI) vwCl [(h0, .inr (10, [.int 0, .int 0, .int 0, .int 0, .ref (md 4), .ref (md 5), .ref (md 6), .ref (md 7), .ref (md 8), .ref (md 9), .ref (md 10), .ref (md 11), .int 0, .ref (md 13), .ref (md 14), .ref (md 15), .ref (md 16), .ref (md 17), .ref (md 18), .ref (md 19), .int 7, .int 0, .int 0, .int 0, .int (-1), .int 0, .ref (md 26), .ref (md 27), .ref (md 28), .ref (md 29), .ref (md 30), .ref (md 31), .ref (md 32), .ref (md 33), .ref (md 34), .ref (md 35), .int 0, .int 0, .int 0, .int 0, .int 0, .int 0, .int 0, .int 0, .int (-1), .int 0, .int 0, .ref (md 47), .ref (md 48), .ref (md 49), .ref (md 50)])), ((md 19), .inl ((mq 19), 1500, .inl (upd f_14 (7 : Int32).toNatClampNeg z_18)))] _ := hP
  have hD : va_D _ [(h0, .inr (10, [.int 0, .int 0, .int 0, .int 0, .ref (md 4), .ref (md 5), .ref (md 6), .ref (md 7), .ref (md 8), .ref (md 9), .ref (md 10), .ref (md 11), .int 0, .ref (md 13), .ref (md 14), .ref (md 15), .ref (md 16), .ref (md 17), .ref (md 18), .ref (md 19), .int 7, .int 0, .int 0, .int 0, .int (-1), .int 0, .ref (md 26), .ref (md 27), .ref (md 28), .ref (md 29), .ref (md 30), .ref (md 31), .ref (md 32), .ref (md 33), .ref (md 34), .ref (md 35), .int 0, .int 0, .int 0, .int 0, .int 0, .int 0, .int 0, .int 0, .int (-1), .int 0, .int 0, .ref (md 47), .ref (md 48), .ref (md 49), .ref (md 50)])), ((md 19), .inl ((mq 19), 1500, .inl (upd f_14 (7 : Int32).toNatClampNeg z_18)))] := hD
  obtain ⟨f_19, ef_19⟩ : ∃ z, z = (upd f_14 (7 : Int32).toNatClampNeg z_18) := ⟨_, rfl⟩
  rw [← ef_19] at hP hD
  refine lv_aload_n hx hb dX10_lays_23 rfl (lv_at hl 1 rfl) ?_
  refine lv_dup hx hb dX10_lays_24 rfl ?_
  refine va_get (D := (dC, dI)) (ci := 10) (v := .int 7) (C := RX10) (T := TX10) (N := 51) hx hb hts inw_X10_lays_10 hown hK hP 0 rfl rfl 20 (by decide) (hts (.fieldLink RX10 159 "VatHouseModel" "taped" "I") (by decide +kernel)) (fun _ h9 => h9) rfl dX10_lays_25 ?_
  refine lv_iconst (v := 1) hx hb dX10_lays_28 (by decide) ?_
  refine lv_iadd hx hb dX10_lays_29 ?_
  refine lv_topi (fun z_20 ez_20 => ?_)
  obtain rfl : z_20 = 8 := ez_20.trans (by decide)
  refine va_put (D := (dC, dI)) (ci := 10) (v := .int 8) (ty := .int) (C := RX10) (T := TX10) (N := 51) hx hb hts inw_X10_lays_10 tyX10 tyX10_ok nmX10 hown hK hP hD hS 0 rfl rfl 20 (by decide) (hts (.fieldLink RX10 159 "VatHouseModel" "taped" "I") (by decide +kernel)) (fun _ h9 => h9) rfl (by decide +kernel) rfl rfl (Nat.le_of_ble_eq_true rfl) dX10_lays_30 (fun H locs hP hD hS => ?_)
  have hP : va_P (dC, dI) vwCl [(h0, .inr (10, [.int 0, .int 0, .int 0, .int 0, .ref (md 4), .ref (md 5), .ref (md 6), .ref (md 7), .ref (md 8), .ref (md 9), .ref (md 10), .ref (md 11), .int 0, .ref (md 13), .ref (md 14), .ref (md 15), .ref (md 16), .ref (md 17), .ref (md 18), .ref (md 19), .int 8, .int 0, .int 0, .int 0, .int (-1), .int 0, .ref (md 26), .ref (md 27), .ref (md 28), .ref (md 29), .ref (md 30), .ref (md 31), .ref (md 32), .ref (md 33), .ref (md 34), .ref (md 35), .int 0, .int 0, .int 0, .int 0, .int 0, .int 0, .int 0, .int 0, .int (-1), .int 0, .int 0, .ref (md 47), .ref (md 48), .ref (md 49), .ref (md 50)])), ((md 19), .inl ((mq 19), 1500, .inl f_19))] _ := hP
  have hD : va_D _ [(h0, .inr (10, [.int 0, .int 0, .int 0, .int 0, .ref (md 4), .ref (md 5), .ref (md 6), .ref (md 7), .ref (md 8), .ref (md 9), .ref (md 10), .ref (md 11), .int 0, .ref (md 13), .ref (md 14), .ref (md 15), .ref (md 16), .ref (md 17), .ref (md 18), .ref (md 19), .int 8, .int 0, .int 0, .int 0, .int (-1), .int 0, .ref (md 26), .ref (md 27), .ref (md 28), .ref (md 29), .ref (md 30), .ref (md 31), .ref (md 32), .ref (md 33), .ref (md 34), .ref (md 35), .int 0, .int 0, .int 0, .int 0, .int 0, .int 0, .int 0, .int 0, .int (-1), .int 0, .int 0, .ref (md 47), .ref (md 48), .ref (md 49), .ref (md 50)])), ((md 19), .inl ((mq 19), 1500, .inl f_19))] := hD
  refine lv_iinc (v := (-8)) (lv' := [(2, .int (-8)), (0, .ref h0), (1, .int n)]) hx hb dX10_lays_33 hl (k := 0) rfl (by decide) (by decide) rfl (fun ls hl => ?_)
  refine lv_goto (tgt := 3) hx hb dX10_lays_36 (by decide) ?_
  refine lv_iload_n hx hb dX10_lays_3 rfl (lv_at hl 0 rfl) ?_
  refine lv_if_lt (tgt := 39) hx hb dX10_lays_4 (by decide) (fun c_21 => ?_) (fun c_21 => ?_)
  rotate_left
  · exact absurd c_21 (by decide)
  exact en_v hx hb hr hlocks hP hD hK hS f_19 ⟨rfl, trivial⟩ [0, 1] [] rfl rfl rfl (Nat.le_of_ble_eq_true rfl) (Nat.le_of_ble_eq_true rfl) dX10_lays_39

abbrev rm_X10_lays_8 : Room := { frames := 0, cells := 0, slots := 0, locals := 0 }
set_option maxHeartbeats 800000 in
set_option maxRecDepth 100000 in
theorem c_X10_lays_8 (l : Launch) (dC : Nat → ClassId) (dI : Nat → Nat → Nat) (sa : Nat → Nat) (hlt : l.stackTraces = false) (sz : Nat) (h0 : Nat) (md : Nat → Nat) (mq : Nat → ClassId) (ft : Nat → Int32) (n : Int32) : CT l dC dI sa yX10_lays wsX10_lays rm_X10_lays_8 [.ref h0, .int n] [(h0, .inr (10, [.int 0, .int 0, .int 0, .int 0, .ref (md 4), .ref (md 5), .ref (md 6), .ref (md 7), .ref (md 8), .ref (md 9), .ref (md 10), .ref (md 11), .int 0, .ref (md 13), .ref (md 14), .ref (md 15), .ref (md 16), .ref (md 17), .ref (md 18), .ref (md 19), .int 8, .int 0, .int 0, .int 0, .int (-1), .int 0, .ref (md 26), .ref (md 27), .ref (md 28), .ref (md 29), .ref (md 30), .ref (md 31), .ref (md 32), .ref (md 33), .ref (md 34), .ref (md 35), .int 0, .int 0, .int 0, .int 0, .int 0, .int 0, .int 0, .int 0, .int (-1), .int 0, .int 0, .ref (md 47), .ref (md 48), .ref (md 49), .ref (md 50)])), ((md 19), .inl ((mq 19), 1500, .inl ft))] [((mq 19), .int)] sz (fun (r : Option Value) (g : (Nat → Int32)) => r = none ∧ (True)) (fun (g : (Nat → Int32)) => [(h0, .inr (10, [.int 0, .int 0, .int 0, .int 0, .ref (md 4), .ref (md 5), .ref (md 6), .ref (md 7), .ref (md 8), .ref (md 9), .ref (md 10), .ref (md 11), .int 0, .ref (md 13), .ref (md 14), .ref (md 15), .ref (md 16), .ref (md 17), .ref (md 18), .ref (md 19), .int 12, .int 0, .int 0, .int 0, .int (-1), .int 0, .ref (md 26), .ref (md 27), .ref (md 28), .ref (md 29), .ref (md 30), .ref (md 31), .ref (md 32), .ref (md 33), .ref (md 34), .ref (md 35), .int 0, .int 0, .int 0, .int 0, .int 0, .int 0, .int 0, .int 0, .int (-1), .int 0, .int 0, .ref (md 47), .ref (md 48), .ref (md 49), .ref (md 50)])), ((md 19), .inl ((mq 19), 1500, .inl g))]) (fun (g : (Nat → Int32)) => []) 0 0 := by
  refine CT.start (cc := cX10_lays) (maxL := 3) (ret := none) (by decide) rfl (Nat.le_of_ble_eq_true rfl) ?_
  intro p e s m below meth c ls hst hP hK hD hev hS hl
  obtain ⟨hx, hb, hr, hml, hts, hown, hlocks, hin⟩ := hst
  have hown : s.vm.findClass RX10 = some m.cls := hown
  have hin : meth.name = yX10_lays.name := hin
  have hA : ∀ q : Nat, s.heap.size ≤ q → va_A [(h0, .inr (10, [.int 0, .int 0, .int 0, .int 0, .ref (md 4), .ref (md 5), .ref (md 6), .ref (md 7), .ref (md 8), .ref (md 9), .ref (md 10), .ref (md 11), .int 0, .ref (md 13), .ref (md 14), .ref (md 15), .ref (md 16), .ref (md 17), .ref (md 18), .ref (md 19), .int 8, .int 0, .int 0, .int 0, .int (-1), .int 0, .ref (md 26), .ref (md 27), .ref (md 28), .ref (md 29), .ref (md 30), .ref (md 31), .ref (md 32), .ref (md 33), .ref (md 34), .ref (md 35), .int 0, .int 0, .int 0, .int 0, .int 0, .int 0, .int 0, .int 0, .int (-1), .int 0, .int 0, .ref (md 47), .ref (md 48), .ref (md 49), .ref (md 50)])), ((md 19), .inl ((mq 19), 1500, .inl ft))] s.heap.size q := fun _ h => Or.inr h
  have hl : lv_has ls 3 [(0, .ref h0), (1, .int n)] := hl
  refine lv_bipush (v := 24) hx hb dX10_lays_0 (by decide) ?_
  refine lv_istore_n (lv' := [(2, .int 24), (0, .ref h0), (1, .int n)]) hx hb dX10_lays_2 rfl hl (by decide) rfl (fun ls hl => ?_)
  refine lv_iload_n hx hb dX10_lays_3 rfl (lv_at hl 0 rfl) ?_
  refine lv_if_lt (tgt := 39) hx hb dX10_lays_4 (by decide) (fun c_1 => ?_) (fun c_1 => ?_)
  · exact absurd c_1 (by decide)
  refine lv_aload_n hx hb dX10_lays_7 rfl (lv_at hl 1 rfl) ?_
  refine va_get (D := (dC, dI)) (ci := 10) (v := .ref (md 19)) (C := RX10) (T := TX10) (N := 51) hx hb hts inw_X10_lays_10 hown hK hP 0 rfl rfl 19 (by decide) (hts (.fieldLink RX10 53 "VatHouseModel" "tape" "[I") (by decide +kernel)) (fun _ h9 => h9) rfl dX10_lays_8 ?_
  refine lv_aload_n hx hb dX10_lays_11 rfl (lv_at hl 1 rfl) ?_
  refine va_get (D := (dC, dI)) (ci := 10) (v := .int 8) (C := RX10) (T := TX10) (N := 51) hx hb hts inw_X10_lays_10 hown hK hP 0 rfl rfl 20 (by decide) (hts (.fieldLink RX10 159 "VatHouseModel" "taped" "I") (by decide +kernel)) (fun _ h9 => h9) rfl dX10_lays_12 ?_
  refine lv_iload_n hx hb dX10_lays_15 rfl (lv_at hl 2 rfl) ?_
  refine lv_iload_n hx hb dX10_lays_16 rfl (lv_at hl 0 rfl) ?_
  refine lv_ishr hx hb dX10_lays_17 ?_
  refine lv_topi (fun z_2 ez_2 => ?_)
  refine lv_sipush (v := 255) hx hb dX10_lays_18 (by decide) ?_
  refine lv_iand hx hb dX10_lays_21 ?_
  refine lv_topi (fun z_3 ez_3 => ?_)
  refine va_iast hx hb hK hP hD hS 1 0 rfl rfl (by unfold vp_in; decide) dX10_lays_22 (fun H locs hP hD hS => ?_)
  have hP : va_P (dC, dI) vwCl [(h0, .inr (10, [.int 0, .int 0, .int 0, .int 0, .ref (md 4), .ref (md 5), .ref (md 6), .ref (md 7), .ref (md 8), .ref (md 9), .ref (md 10), .ref (md 11), .int 0, .ref (md 13), .ref (md 14), .ref (md 15), .ref (md 16), .ref (md 17), .ref (md 18), .ref (md 19), .int 8, .int 0, .int 0, .int 0, .int (-1), .int 0, .ref (md 26), .ref (md 27), .ref (md 28), .ref (md 29), .ref (md 30), .ref (md 31), .ref (md 32), .ref (md 33), .ref (md 34), .ref (md 35), .int 0, .int 0, .int 0, .int 0, .int 0, .int 0, .int 0, .int 0, .int (-1), .int 0, .int 0, .ref (md 47), .ref (md 48), .ref (md 49), .ref (md 50)])), ((md 19), .inl ((mq 19), 1500, .inl (upd ft (8 : Int32).toNatClampNeg z_3)))] _ := hP
  have hD : va_D _ [(h0, .inr (10, [.int 0, .int 0, .int 0, .int 0, .ref (md 4), .ref (md 5), .ref (md 6), .ref (md 7), .ref (md 8), .ref (md 9), .ref (md 10), .ref (md 11), .int 0, .ref (md 13), .ref (md 14), .ref (md 15), .ref (md 16), .ref (md 17), .ref (md 18), .ref (md 19), .int 8, .int 0, .int 0, .int 0, .int (-1), .int 0, .ref (md 26), .ref (md 27), .ref (md 28), .ref (md 29), .ref (md 30), .ref (md 31), .ref (md 32), .ref (md 33), .ref (md 34), .ref (md 35), .int 0, .int 0, .int 0, .int 0, .int 0, .int 0, .int 0, .int 0, .int (-1), .int 0, .int 0, .ref (md 47), .ref (md 48), .ref (md 49), .ref (md 50)])), ((md 19), .inl ((mq 19), 1500, .inl (upd ft (8 : Int32).toNatClampNeg z_3)))] := hD
  obtain ⟨f_4, ef_4⟩ : ∃ z, z = (upd ft (8 : Int32).toNatClampNeg z_3) := ⟨_, rfl⟩
  rw [← ef_4] at hP hD
  refine lv_aload_n hx hb dX10_lays_23 rfl (lv_at hl 1 rfl) ?_
  refine lv_dup hx hb dX10_lays_24 rfl ?_
  refine va_get (D := (dC, dI)) (ci := 10) (v := .int 8) (C := RX10) (T := TX10) (N := 51) hx hb hts inw_X10_lays_10 hown hK hP 0 rfl rfl 20 (by decide) (hts (.fieldLink RX10 159 "VatHouseModel" "taped" "I") (by decide +kernel)) (fun _ h9 => h9) rfl dX10_lays_25 ?_
  refine lv_iconst (v := 1) hx hb dX10_lays_28 (by decide) ?_
  refine lv_iadd hx hb dX10_lays_29 ?_
  refine lv_topi (fun z_5 ez_5 => ?_)
  obtain rfl : z_5 = 9 := ez_5.trans (by decide)
  refine va_put (D := (dC, dI)) (ci := 10) (v := .int 9) (ty := .int) (C := RX10) (T := TX10) (N := 51) hx hb hts inw_X10_lays_10 tyX10 tyX10_ok nmX10 hown hK hP hD hS 0 rfl rfl 20 (by decide) (hts (.fieldLink RX10 159 "VatHouseModel" "taped" "I") (by decide +kernel)) (fun _ h9 => h9) rfl (by decide +kernel) rfl rfl (Nat.le_of_ble_eq_true rfl) dX10_lays_30 (fun H locs hP hD hS => ?_)
  have hP : va_P (dC, dI) vwCl [(h0, .inr (10, [.int 0, .int 0, .int 0, .int 0, .ref (md 4), .ref (md 5), .ref (md 6), .ref (md 7), .ref (md 8), .ref (md 9), .ref (md 10), .ref (md 11), .int 0, .ref (md 13), .ref (md 14), .ref (md 15), .ref (md 16), .ref (md 17), .ref (md 18), .ref (md 19), .int 9, .int 0, .int 0, .int 0, .int (-1), .int 0, .ref (md 26), .ref (md 27), .ref (md 28), .ref (md 29), .ref (md 30), .ref (md 31), .ref (md 32), .ref (md 33), .ref (md 34), .ref (md 35), .int 0, .int 0, .int 0, .int 0, .int 0, .int 0, .int 0, .int 0, .int (-1), .int 0, .int 0, .ref (md 47), .ref (md 48), .ref (md 49), .ref (md 50)])), ((md 19), .inl ((mq 19), 1500, .inl f_4))] _ := hP
  have hD : va_D _ [(h0, .inr (10, [.int 0, .int 0, .int 0, .int 0, .ref (md 4), .ref (md 5), .ref (md 6), .ref (md 7), .ref (md 8), .ref (md 9), .ref (md 10), .ref (md 11), .int 0, .ref (md 13), .ref (md 14), .ref (md 15), .ref (md 16), .ref (md 17), .ref (md 18), .ref (md 19), .int 9, .int 0, .int 0, .int 0, .int (-1), .int 0, .ref (md 26), .ref (md 27), .ref (md 28), .ref (md 29), .ref (md 30), .ref (md 31), .ref (md 32), .ref (md 33), .ref (md 34), .ref (md 35), .int 0, .int 0, .int 0, .int 0, .int 0, .int 0, .int 0, .int 0, .int (-1), .int 0, .int 0, .ref (md 47), .ref (md 48), .ref (md 49), .ref (md 50)])), ((md 19), .inl ((mq 19), 1500, .inl f_4))] := hD
  refine lv_iinc (v := 16) (lv' := [(2, .int 16), (0, .ref h0), (1, .int n)]) hx hb dX10_lays_33 hl (k := 0) rfl (by decide) (by decide) rfl (fun ls hl => ?_)
  refine lv_goto (tgt := 3) hx hb dX10_lays_36 (by decide) ?_
  refine lv_iload_n hx hb dX10_lays_3 rfl (lv_at hl 0 rfl) ?_
  refine lv_if_lt (tgt := 39) hx hb dX10_lays_4 (by decide) (fun c_6 => ?_) (fun c_6 => ?_)
  · exact absurd c_6 (by decide)
  refine lv_aload_n hx hb dX10_lays_7 rfl (lv_at hl 1 rfl) ?_
  refine va_get (D := (dC, dI)) (ci := 10) (v := .ref (md 19)) (C := RX10) (T := TX10) (N := 51) hx hb hts inw_X10_lays_10 hown hK hP 0 rfl rfl 19 (by decide) (hts (.fieldLink RX10 53 "VatHouseModel" "tape" "[I") (by decide +kernel)) (fun _ h9 => h9) rfl dX10_lays_8 ?_
  refine lv_aload_n hx hb dX10_lays_11 rfl (lv_at hl 1 rfl) ?_
  refine va_get (D := (dC, dI)) (ci := 10) (v := .int 9) (C := RX10) (T := TX10) (N := 51) hx hb hts inw_X10_lays_10 hown hK hP 0 rfl rfl 20 (by decide) (hts (.fieldLink RX10 159 "VatHouseModel" "taped" "I") (by decide +kernel)) (fun _ h9 => h9) rfl dX10_lays_12 ?_
  refine lv_iload_n hx hb dX10_lays_15 rfl (lv_at hl 2 rfl) ?_
  refine lv_iload_n hx hb dX10_lays_16 rfl (lv_at hl 0 rfl) ?_
  refine lv_ishr hx hb dX10_lays_17 ?_
  refine lv_topi (fun z_7 ez_7 => ?_)
  refine lv_sipush (v := 255) hx hb dX10_lays_18 (by decide) ?_
  refine lv_iand hx hb dX10_lays_21 ?_
  refine lv_topi (fun z_8 ez_8 => ?_)
  refine va_iast hx hb hK hP hD hS 1 0 rfl rfl (by unfold vp_in; decide) dX10_lays_22 (fun H locs hP hD hS => ?_)
  have hP : va_P (dC, dI) vwCl [(h0, .inr (10, [.int 0, .int 0, .int 0, .int 0, .ref (md 4), .ref (md 5), .ref (md 6), .ref (md 7), .ref (md 8), .ref (md 9), .ref (md 10), .ref (md 11), .int 0, .ref (md 13), .ref (md 14), .ref (md 15), .ref (md 16), .ref (md 17), .ref (md 18), .ref (md 19), .int 9, .int 0, .int 0, .int 0, .int (-1), .int 0, .ref (md 26), .ref (md 27), .ref (md 28), .ref (md 29), .ref (md 30), .ref (md 31), .ref (md 32), .ref (md 33), .ref (md 34), .ref (md 35), .int 0, .int 0, .int 0, .int 0, .int 0, .int 0, .int 0, .int 0, .int (-1), .int 0, .int 0, .ref (md 47), .ref (md 48), .ref (md 49), .ref (md 50)])), ((md 19), .inl ((mq 19), 1500, .inl (upd f_4 (9 : Int32).toNatClampNeg z_8)))] _ := hP
  have hD : va_D _ [(h0, .inr (10, [.int 0, .int 0, .int 0, .int 0, .ref (md 4), .ref (md 5), .ref (md 6), .ref (md 7), .ref (md 8), .ref (md 9), .ref (md 10), .ref (md 11), .int 0, .ref (md 13), .ref (md 14), .ref (md 15), .ref (md 16), .ref (md 17), .ref (md 18), .ref (md 19), .int 9, .int 0, .int 0, .int 0, .int (-1), .int 0, .ref (md 26), .ref (md 27), .ref (md 28), .ref (md 29), .ref (md 30), .ref (md 31), .ref (md 32), .ref (md 33), .ref (md 34), .ref (md 35), .int 0, .int 0, .int 0, .int 0, .int 0, .int 0, .int 0, .int 0, .int (-1), .int 0, .int 0, .ref (md 47), .ref (md 48), .ref (md 49), .ref (md 50)])), ((md 19), .inl ((mq 19), 1500, .inl (upd f_4 (9 : Int32).toNatClampNeg z_8)))] := hD
  obtain ⟨f_9, ef_9⟩ : ∃ z, z = (upd f_4 (9 : Int32).toNatClampNeg z_8) := ⟨_, rfl⟩
  rw [← ef_9] at hP hD
  refine lv_aload_n hx hb dX10_lays_23 rfl (lv_at hl 1 rfl) ?_
  refine lv_dup hx hb dX10_lays_24 rfl ?_
  refine va_get (D := (dC, dI)) (ci := 10) (v := .int 9) (C := RX10) (T := TX10) (N := 51) hx hb hts inw_X10_lays_10 hown hK hP 0 rfl rfl 20 (by decide) (hts (.fieldLink RX10 159 "VatHouseModel" "taped" "I") (by decide +kernel)) (fun _ h9 => h9) rfl dX10_lays_25 ?_
  refine lv_iconst (v := 1) hx hb dX10_lays_28 (by decide) ?_
  refine lv_iadd hx hb dX10_lays_29 ?_
  refine lv_topi (fun z_10 ez_10 => ?_)
  obtain rfl : z_10 = 10 := ez_10.trans (by decide)
  refine va_put (D := (dC, dI)) (ci := 10) (v := .int 10) (ty := .int) (C := RX10) (T := TX10) (N := 51) hx hb hts inw_X10_lays_10 tyX10 tyX10_ok nmX10 hown hK hP hD hS 0 rfl rfl 20 (by decide) (hts (.fieldLink RX10 159 "VatHouseModel" "taped" "I") (by decide +kernel)) (fun _ h9 => h9) rfl (by decide +kernel) rfl rfl (Nat.le_of_ble_eq_true rfl) dX10_lays_30 (fun H locs hP hD hS => ?_)
  have hP : va_P (dC, dI) vwCl [(h0, .inr (10, [.int 0, .int 0, .int 0, .int 0, .ref (md 4), .ref (md 5), .ref (md 6), .ref (md 7), .ref (md 8), .ref (md 9), .ref (md 10), .ref (md 11), .int 0, .ref (md 13), .ref (md 14), .ref (md 15), .ref (md 16), .ref (md 17), .ref (md 18), .ref (md 19), .int 10, .int 0, .int 0, .int 0, .int (-1), .int 0, .ref (md 26), .ref (md 27), .ref (md 28), .ref (md 29), .ref (md 30), .ref (md 31), .ref (md 32), .ref (md 33), .ref (md 34), .ref (md 35), .int 0, .int 0, .int 0, .int 0, .int 0, .int 0, .int 0, .int 0, .int (-1), .int 0, .int 0, .ref (md 47), .ref (md 48), .ref (md 49), .ref (md 50)])), ((md 19), .inl ((mq 19), 1500, .inl f_9))] _ := hP
  have hD : va_D _ [(h0, .inr (10, [.int 0, .int 0, .int 0, .int 0, .ref (md 4), .ref (md 5), .ref (md 6), .ref (md 7), .ref (md 8), .ref (md 9), .ref (md 10), .ref (md 11), .int 0, .ref (md 13), .ref (md 14), .ref (md 15), .ref (md 16), .ref (md 17), .ref (md 18), .ref (md 19), .int 10, .int 0, .int 0, .int 0, .int (-1), .int 0, .ref (md 26), .ref (md 27), .ref (md 28), .ref (md 29), .ref (md 30), .ref (md 31), .ref (md 32), .ref (md 33), .ref (md 34), .ref (md 35), .int 0, .int 0, .int 0, .int 0, .int 0, .int 0, .int 0, .int 0, .int (-1), .int 0, .int 0, .ref (md 47), .ref (md 48), .ref (md 49), .ref (md 50)])), ((md 19), .inl ((mq 19), 1500, .inl f_9))] := hD
  refine lv_iinc (v := 8) (lv' := [(2, .int 8), (0, .ref h0), (1, .int n)]) hx hb dX10_lays_33 hl (k := 0) rfl (by decide) (by decide) rfl (fun ls hl => ?_)
  refine lv_goto (tgt := 3) hx hb dX10_lays_36 (by decide) ?_
  refine lv_iload_n hx hb dX10_lays_3 rfl (lv_at hl 0 rfl) ?_
  refine lv_if_lt (tgt := 39) hx hb dX10_lays_4 (by decide) (fun c_11 => ?_) (fun c_11 => ?_)
  · exact absurd c_11 (by decide)
  refine lv_aload_n hx hb dX10_lays_7 rfl (lv_at hl 1 rfl) ?_
  refine va_get (D := (dC, dI)) (ci := 10) (v := .ref (md 19)) (C := RX10) (T := TX10) (N := 51) hx hb hts inw_X10_lays_10 hown hK hP 0 rfl rfl 19 (by decide) (hts (.fieldLink RX10 53 "VatHouseModel" "tape" "[I") (by decide +kernel)) (fun _ h9 => h9) rfl dX10_lays_8 ?_
  refine lv_aload_n hx hb dX10_lays_11 rfl (lv_at hl 1 rfl) ?_
  refine va_get (D := (dC, dI)) (ci := 10) (v := .int 10) (C := RX10) (T := TX10) (N := 51) hx hb hts inw_X10_lays_10 hown hK hP 0 rfl rfl 20 (by decide) (hts (.fieldLink RX10 159 "VatHouseModel" "taped" "I") (by decide +kernel)) (fun _ h9 => h9) rfl dX10_lays_12 ?_
  refine lv_iload_n hx hb dX10_lays_15 rfl (lv_at hl 2 rfl) ?_
  refine lv_iload_n hx hb dX10_lays_16 rfl (lv_at hl 0 rfl) ?_
  refine lv_ishr hx hb dX10_lays_17 ?_
  refine lv_topi (fun z_12 ez_12 => ?_)
  refine lv_sipush (v := 255) hx hb dX10_lays_18 (by decide) ?_
  refine lv_iand hx hb dX10_lays_21 ?_
  refine lv_topi (fun z_13 ez_13 => ?_)
  refine va_iast hx hb hK hP hD hS 1 0 rfl rfl (by unfold vp_in; decide) dX10_lays_22 (fun H locs hP hD hS => ?_)
  have hP : va_P (dC, dI) vwCl [(h0, .inr (10, [.int 0, .int 0, .int 0, .int 0, .ref (md 4), .ref (md 5), .ref (md 6), .ref (md 7), .ref (md 8), .ref (md 9), .ref (md 10), .ref (md 11), .int 0, .ref (md 13), .ref (md 14), .ref (md 15), .ref (md 16), .ref (md 17), .ref (md 18), .ref (md 19), .int 10, .int 0, .int 0, .int 0, .int (-1), .int 0, .ref (md 26), .ref (md 27), .ref (md 28), .ref (md 29), .ref (md 30), .ref (md 31), .ref (md 32), .ref (md 33), .ref (md 34), .ref (md 35), .int 0, .int 0, .int 0, .int 0, .int 0, .int 0, .int 0, .int 0, .int (-1), .int 0, .int 0, .ref (md 47), .ref (md 48), .ref (md 49), .ref (md 50)])), ((md 19), .inl ((mq 19), 1500, .inl (upd f_9 (10 : Int32).toNatClampNeg z_13)))] _ := hP
  have hD : va_D _ [(h0, .inr (10, [.int 0, .int 0, .int 0, .int 0, .ref (md 4), .ref (md 5), .ref (md 6), .ref (md 7), .ref (md 8), .ref (md 9), .ref (md 10), .ref (md 11), .int 0, .ref (md 13), .ref (md 14), .ref (md 15), .ref (md 16), .ref (md 17), .ref (md 18), .ref (md 19), .int 10, .int 0, .int 0, .int 0, .int (-1), .int 0, .ref (md 26), .ref (md 27), .ref (md 28), .ref (md 29), .ref (md 30), .ref (md 31), .ref (md 32), .ref (md 33), .ref (md 34), .ref (md 35), .int 0, .int 0, .int 0, .int 0, .int 0, .int 0, .int 0, .int 0, .int (-1), .int 0, .int 0, .ref (md 47), .ref (md 48), .ref (md 49), .ref (md 50)])), ((md 19), .inl ((mq 19), 1500, .inl (upd f_9 (10 : Int32).toNatClampNeg z_13)))] := hD
  obtain ⟨f_14, ef_14⟩ : ∃ z, z = (upd f_9 (10 : Int32).toNatClampNeg z_13) := ⟨_, rfl⟩
  rw [← ef_14] at hP hD
  refine lv_aload_n hx hb dX10_lays_23 rfl (lv_at hl 1 rfl) ?_
  refine lv_dup hx hb dX10_lays_24 rfl ?_
  refine va_get (D := (dC, dI)) (ci := 10) (v := .int 10) (C := RX10) (T := TX10) (N := 51) hx hb hts inw_X10_lays_10 hown hK hP 0 rfl rfl 20 (by decide) (hts (.fieldLink RX10 159 "VatHouseModel" "taped" "I") (by decide +kernel)) (fun _ h9 => h9) rfl dX10_lays_25 ?_
  refine lv_iconst (v := 1) hx hb dX10_lays_28 (by decide) ?_
  refine lv_iadd hx hb dX10_lays_29 ?_
  refine lv_topi (fun z_15 ez_15 => ?_)
  obtain rfl : z_15 = 11 := ez_15.trans (by decide)
  refine va_put (D := (dC, dI)) (ci := 10) (v := .int 11) (ty := .int) (C := RX10) (T := TX10) (N := 51) hx hb hts inw_X10_lays_10 tyX10 tyX10_ok nmX10 hown hK hP hD hS 0 rfl rfl 20 (by decide) (hts (.fieldLink RX10 159 "VatHouseModel" "taped" "I") (by decide +kernel)) (fun _ h9 => h9) rfl (by decide +kernel) rfl rfl (Nat.le_of_ble_eq_true rfl) dX10_lays_30 (fun H locs hP hD hS => ?_)
  have hP : va_P (dC, dI) vwCl [(h0, .inr (10, [.int 0, .int 0, .int 0, .int 0, .ref (md 4), .ref (md 5), .ref (md 6), .ref (md 7), .ref (md 8), .ref (md 9), .ref (md 10), .ref (md 11), .int 0, .ref (md 13), .ref (md 14), .ref (md 15), .ref (md 16), .ref (md 17), .ref (md 18), .ref (md 19), .int 11, .int 0, .int 0, .int 0, .int (-1), .int 0, .ref (md 26), .ref (md 27), .ref (md 28), .ref (md 29), .ref (md 30), .ref (md 31), .ref (md 32), .ref (md 33), .ref (md 34), .ref (md 35), .int 0, .int 0, .int 0, .int 0, .int 0, .int 0, .int 0, .int 0, .int (-1), .int 0, .int 0, .ref (md 47), .ref (md 48), .ref (md 49), .ref (md 50)])), ((md 19), .inl ((mq 19), 1500, .inl f_14))] _ := hP
  have hD : va_D _ [(h0, .inr (10, [.int 0, .int 0, .int 0, .int 0, .ref (md 4), .ref (md 5), .ref (md 6), .ref (md 7), .ref (md 8), .ref (md 9), .ref (md 10), .ref (md 11), .int 0, .ref (md 13), .ref (md 14), .ref (md 15), .ref (md 16), .ref (md 17), .ref (md 18), .ref (md 19), .int 11, .int 0, .int 0, .int 0, .int (-1), .int 0, .ref (md 26), .ref (md 27), .ref (md 28), .ref (md 29), .ref (md 30), .ref (md 31), .ref (md 32), .ref (md 33), .ref (md 34), .ref (md 35), .int 0, .int 0, .int 0, .int 0, .int 0, .int 0, .int 0, .int 0, .int (-1), .int 0, .int 0, .ref (md 47), .ref (md 48), .ref (md 49), .ref (md 50)])), ((md 19), .inl ((mq 19), 1500, .inl f_14))] := hD
  refine lv_iinc (v := 0) (lv' := [(2, .int 0), (0, .ref h0), (1, .int n)]) hx hb dX10_lays_33 hl (k := 0) rfl (by decide) (by decide) rfl (fun ls hl => ?_)
  refine lv_goto (tgt := 3) hx hb dX10_lays_36 (by decide) ?_
  refine lv_iload_n hx hb dX10_lays_3 rfl (lv_at hl 0 rfl) ?_
  refine lv_if_lt (tgt := 39) hx hb dX10_lays_4 (by decide) (fun c_16 => ?_) (fun c_16 => ?_)
  · exact absurd c_16 (by decide)
  refine lv_aload_n hx hb dX10_lays_7 rfl (lv_at hl 1 rfl) ?_
  refine va_get (D := (dC, dI)) (ci := 10) (v := .ref (md 19)) (C := RX10) (T := TX10) (N := 51) hx hb hts inw_X10_lays_10 hown hK hP 0 rfl rfl 19 (by decide) (hts (.fieldLink RX10 53 "VatHouseModel" "tape" "[I") (by decide +kernel)) (fun _ h9 => h9) rfl dX10_lays_8 ?_
  refine lv_aload_n hx hb dX10_lays_11 rfl (lv_at hl 1 rfl) ?_
  refine va_get (D := (dC, dI)) (ci := 10) (v := .int 11) (C := RX10) (T := TX10) (N := 51) hx hb hts inw_X10_lays_10 hown hK hP 0 rfl rfl 20 (by decide) (hts (.fieldLink RX10 159 "VatHouseModel" "taped" "I") (by decide +kernel)) (fun _ h9 => h9) rfl dX10_lays_12 ?_
  refine lv_iload_n hx hb dX10_lays_15 rfl (lv_at hl 2 rfl) ?_
  refine lv_iload_n hx hb dX10_lays_16 rfl (lv_at hl 0 rfl) ?_
  refine lv_ishr hx hb dX10_lays_17 ?_
  refine lv_topi (fun z_17 ez_17 => ?_)
  refine lv_sipush (v := 255) hx hb dX10_lays_18 (by decide) ?_
  refine lv_iand hx hb dX10_lays_21 ?_
  refine lv_topi (fun z_18 ez_18 => ?_)
  refine va_iast hx hb hK hP hD hS 1 0 rfl rfl (by unfold vp_in; decide) dX10_lays_22 (fun H locs hP hD hS => ?_)
  have hP : va_P (dC, dI) vwCl [(h0, .inr (10, [.int 0, .int 0, .int 0, .int 0, .ref (md 4), .ref (md 5), .ref (md 6), .ref (md 7), .ref (md 8), .ref (md 9), .ref (md 10), .ref (md 11), .int 0, .ref (md 13), .ref (md 14), .ref (md 15), .ref (md 16), .ref (md 17), .ref (md 18), .ref (md 19), .int 11, .int 0, .int 0, .int 0, .int (-1), .int 0, .ref (md 26), .ref (md 27), .ref (md 28), .ref (md 29), .ref (md 30), .ref (md 31), .ref (md 32), .ref (md 33), .ref (md 34), .ref (md 35), .int 0, .int 0, .int 0, .int 0, .int 0, .int 0, .int 0, .int 0, .int (-1), .int 0, .int 0, .ref (md 47), .ref (md 48), .ref (md 49), .ref (md 50)])), ((md 19), .inl ((mq 19), 1500, .inl (upd f_14 (11 : Int32).toNatClampNeg z_18)))] _ := hP
  have hD : va_D _ [(h0, .inr (10, [.int 0, .int 0, .int 0, .int 0, .ref (md 4), .ref (md 5), .ref (md 6), .ref (md 7), .ref (md 8), .ref (md 9), .ref (md 10), .ref (md 11), .int 0, .ref (md 13), .ref (md 14), .ref (md 15), .ref (md 16), .ref (md 17), .ref (md 18), .ref (md 19), .int 11, .int 0, .int 0, .int 0, .int (-1), .int 0, .ref (md 26), .ref (md 27), .ref (md 28), .ref (md 29), .ref (md 30), .ref (md 31), .ref (md 32), .ref (md 33), .ref (md 34), .ref (md 35), .int 0, .int 0, .int 0, .int 0, .int 0, .int 0, .int 0, .int 0, .int (-1), .int 0, .int 0, .ref (md 47), .ref (md 48), .ref (md 49), .ref (md 50)])), ((md 19), .inl ((mq 19), 1500, .inl (upd f_14 (11 : Int32).toNatClampNeg z_18)))] := hD
  obtain ⟨f_19, ef_19⟩ : ∃ z, z = (upd f_14 (11 : Int32).toNatClampNeg z_18) := ⟨_, rfl⟩
  rw [← ef_19] at hP hD
  refine lv_aload_n hx hb dX10_lays_23 rfl (lv_at hl 1 rfl) ?_
  refine lv_dup hx hb dX10_lays_24 rfl ?_
  refine va_get (D := (dC, dI)) (ci := 10) (v := .int 11) (C := RX10) (T := TX10) (N := 51) hx hb hts inw_X10_lays_10 hown hK hP 0 rfl rfl 20 (by decide) (hts (.fieldLink RX10 159 "VatHouseModel" "taped" "I") (by decide +kernel)) (fun _ h9 => h9) rfl dX10_lays_25 ?_
  refine lv_iconst (v := 1) hx hb dX10_lays_28 (by decide) ?_
  refine lv_iadd hx hb dX10_lays_29 ?_
  refine lv_topi (fun z_20 ez_20 => ?_)
  obtain rfl : z_20 = 12 := ez_20.trans (by decide)
  refine va_put (D := (dC, dI)) (ci := 10) (v := .int 12) (ty := .int) (C := RX10) (T := TX10) (N := 51) hx hb hts inw_X10_lays_10 tyX10 tyX10_ok nmX10 hown hK hP hD hS 0 rfl rfl 20 (by decide) (hts (.fieldLink RX10 159 "VatHouseModel" "taped" "I") (by decide +kernel)) (fun _ h9 => h9) rfl (by decide +kernel) rfl rfl (Nat.le_of_ble_eq_true rfl) dX10_lays_30 (fun H locs hP hD hS => ?_)
  have hP : va_P (dC, dI) vwCl [(h0, .inr (10, [.int 0, .int 0, .int 0, .int 0, .ref (md 4), .ref (md 5), .ref (md 6), .ref (md 7), .ref (md 8), .ref (md 9), .ref (md 10), .ref (md 11), .int 0, .ref (md 13), .ref (md 14), .ref (md 15), .ref (md 16), .ref (md 17), .ref (md 18), .ref (md 19), .int 12, .int 0, .int 0, .int 0, .int (-1), .int 0, .ref (md 26), .ref (md 27), .ref (md 28), .ref (md 29), .ref (md 30), .ref (md 31), .ref (md 32), .ref (md 33), .ref (md 34), .ref (md 35), .int 0, .int 0, .int 0, .int 0, .int 0, .int 0, .int 0, .int 0, .int (-1), .int 0, .int 0, .ref (md 47), .ref (md 48), .ref (md 49), .ref (md 50)])), ((md 19), .inl ((mq 19), 1500, .inl f_19))] _ := hP
  have hD : va_D _ [(h0, .inr (10, [.int 0, .int 0, .int 0, .int 0, .ref (md 4), .ref (md 5), .ref (md 6), .ref (md 7), .ref (md 8), .ref (md 9), .ref (md 10), .ref (md 11), .int 0, .ref (md 13), .ref (md 14), .ref (md 15), .ref (md 16), .ref (md 17), .ref (md 18), .ref (md 19), .int 12, .int 0, .int 0, .int 0, .int (-1), .int 0, .ref (md 26), .ref (md 27), .ref (md 28), .ref (md 29), .ref (md 30), .ref (md 31), .ref (md 32), .ref (md 33), .ref (md 34), .ref (md 35), .int 0, .int 0, .int 0, .int 0, .int 0, .int 0, .int 0, .int 0, .int (-1), .int 0, .int 0, .ref (md 47), .ref (md 48), .ref (md 49), .ref (md 50)])), ((md 19), .inl ((mq 19), 1500, .inl f_19))] := hD
  refine lv_iinc (v := (-8)) (lv' := [(2, .int (-8)), (0, .ref h0), (1, .int n)]) hx hb dX10_lays_33 hl (k := 0) rfl (by decide) (by decide) rfl (fun ls hl => ?_)
  refine lv_goto (tgt := 3) hx hb dX10_lays_36 (by decide) ?_
  refine lv_iload_n hx hb dX10_lays_3 rfl (lv_at hl 0 rfl) ?_
  refine lv_if_lt (tgt := 39) hx hb dX10_lays_4 (by decide) (fun c_21 => ?_) (fun c_21 => ?_)
  rotate_left
  · exact absurd c_21 (by decide)
  exact en_v hx hb hr hlocks hP hD hK hS f_19 ⟨rfl, trivial⟩ [0, 1] [] rfl rfl rfl (Nat.le_of_ble_eq_true rfl) (Nat.le_of_ble_eq_true rfl) dX10_lays_39

abbrev rm_X10_lays_12 : Room := { frames := 0, cells := 0, slots := 0, locals := 0 }
set_option maxHeartbeats 800000 in
set_option maxRecDepth 100000 in
theorem c_X10_lays_12 (l : Launch) (dC : Nat → ClassId) (dI : Nat → Nat → Nat) (sa : Nat → Nat) (hlt : l.stackTraces = false) (sz : Nat) (h0 : Nat) (md : Nat → Nat) (mq : Nat → ClassId) (ft : Nat → Int32) (n : Int32) : CT l dC dI sa yX10_lays wsX10_lays rm_X10_lays_12 [.ref h0, .int n] [(h0, .inr (10, [.int 0, .int 0, .int 0, .int 0, .ref (md 4), .ref (md 5), .ref (md 6), .ref (md 7), .ref (md 8), .ref (md 9), .ref (md 10), .ref (md 11), .int 0, .ref (md 13), .ref (md 14), .ref (md 15), .ref (md 16), .ref (md 17), .ref (md 18), .ref (md 19), .int 12, .int 0, .int 0, .int 0, .int (-1), .int 0, .ref (md 26), .ref (md 27), .ref (md 28), .ref (md 29), .ref (md 30), .ref (md 31), .ref (md 32), .ref (md 33), .ref (md 34), .ref (md 35), .int 0, .int 0, .int 0, .int 0, .int 0, .int 0, .int 0, .int 0, .int (-1), .int 0, .int 0, .ref (md 47), .ref (md 48), .ref (md 49), .ref (md 50)])), ((md 19), .inl ((mq 19), 1500, .inl ft))] [((mq 19), .int)] sz (fun (r : Option Value) (g : (Nat → Int32)) => r = none ∧ (True)) (fun (g : (Nat → Int32)) => [(h0, .inr (10, [.int 0, .int 0, .int 0, .int 0, .ref (md 4), .ref (md 5), .ref (md 6), .ref (md 7), .ref (md 8), .ref (md 9), .ref (md 10), .ref (md 11), .int 0, .ref (md 13), .ref (md 14), .ref (md 15), .ref (md 16), .ref (md 17), .ref (md 18), .ref (md 19), .int 16, .int 0, .int 0, .int 0, .int (-1), .int 0, .ref (md 26), .ref (md 27), .ref (md 28), .ref (md 29), .ref (md 30), .ref (md 31), .ref (md 32), .ref (md 33), .ref (md 34), .ref (md 35), .int 0, .int 0, .int 0, .int 0, .int 0, .int 0, .int 0, .int 0, .int (-1), .int 0, .int 0, .ref (md 47), .ref (md 48), .ref (md 49), .ref (md 50)])), ((md 19), .inl ((mq 19), 1500, .inl g))]) (fun (g : (Nat → Int32)) => []) 0 0 := by
  refine CT.start (cc := cX10_lays) (maxL := 3) (ret := none) (by decide) rfl (Nat.le_of_ble_eq_true rfl) ?_
  intro p e s m below meth c ls hst hP hK hD hev hS hl
  obtain ⟨hx, hb, hr, hml, hts, hown, hlocks, hin⟩ := hst
  have hown : s.vm.findClass RX10 = some m.cls := hown
  have hin : meth.name = yX10_lays.name := hin
  have hA : ∀ q : Nat, s.heap.size ≤ q → va_A [(h0, .inr (10, [.int 0, .int 0, .int 0, .int 0, .ref (md 4), .ref (md 5), .ref (md 6), .ref (md 7), .ref (md 8), .ref (md 9), .ref (md 10), .ref (md 11), .int 0, .ref (md 13), .ref (md 14), .ref (md 15), .ref (md 16), .ref (md 17), .ref (md 18), .ref (md 19), .int 12, .int 0, .int 0, .int 0, .int (-1), .int 0, .ref (md 26), .ref (md 27), .ref (md 28), .ref (md 29), .ref (md 30), .ref (md 31), .ref (md 32), .ref (md 33), .ref (md 34), .ref (md 35), .int 0, .int 0, .int 0, .int 0, .int 0, .int 0, .int 0, .int 0, .int (-1), .int 0, .int 0, .ref (md 47), .ref (md 48), .ref (md 49), .ref (md 50)])), ((md 19), .inl ((mq 19), 1500, .inl ft))] s.heap.size q := fun _ h => Or.inr h
  have hl : lv_has ls 3 [(0, .ref h0), (1, .int n)] := hl
  refine lv_bipush (v := 24) hx hb dX10_lays_0 (by decide) ?_
  refine lv_istore_n (lv' := [(2, .int 24), (0, .ref h0), (1, .int n)]) hx hb dX10_lays_2 rfl hl (by decide) rfl (fun ls hl => ?_)
  refine lv_iload_n hx hb dX10_lays_3 rfl (lv_at hl 0 rfl) ?_
  refine lv_if_lt (tgt := 39) hx hb dX10_lays_4 (by decide) (fun c_1 => ?_) (fun c_1 => ?_)
  · exact absurd c_1 (by decide)
  refine lv_aload_n hx hb dX10_lays_7 rfl (lv_at hl 1 rfl) ?_
  refine va_get (D := (dC, dI)) (ci := 10) (v := .ref (md 19)) (C := RX10) (T := TX10) (N := 51) hx hb hts inw_X10_lays_10 hown hK hP 0 rfl rfl 19 (by decide) (hts (.fieldLink RX10 53 "VatHouseModel" "tape" "[I") (by decide +kernel)) (fun _ h9 => h9) rfl dX10_lays_8 ?_
  refine lv_aload_n hx hb dX10_lays_11 rfl (lv_at hl 1 rfl) ?_
  refine va_get (D := (dC, dI)) (ci := 10) (v := .int 12) (C := RX10) (T := TX10) (N := 51) hx hb hts inw_X10_lays_10 hown hK hP 0 rfl rfl 20 (by decide) (hts (.fieldLink RX10 159 "VatHouseModel" "taped" "I") (by decide +kernel)) (fun _ h9 => h9) rfl dX10_lays_12 ?_
  refine lv_iload_n hx hb dX10_lays_15 rfl (lv_at hl 2 rfl) ?_
  refine lv_iload_n hx hb dX10_lays_16 rfl (lv_at hl 0 rfl) ?_
  refine lv_ishr hx hb dX10_lays_17 ?_
  refine lv_topi (fun z_2 ez_2 => ?_)
  refine lv_sipush (v := 255) hx hb dX10_lays_18 (by decide) ?_
  refine lv_iand hx hb dX10_lays_21 ?_
  refine lv_topi (fun z_3 ez_3 => ?_)
  refine va_iast hx hb hK hP hD hS 1 0 rfl rfl (by unfold vp_in; decide) dX10_lays_22 (fun H locs hP hD hS => ?_)
  have hP : va_P (dC, dI) vwCl [(h0, .inr (10, [.int 0, .int 0, .int 0, .int 0, .ref (md 4), .ref (md 5), .ref (md 6), .ref (md 7), .ref (md 8), .ref (md 9), .ref (md 10), .ref (md 11), .int 0, .ref (md 13), .ref (md 14), .ref (md 15), .ref (md 16), .ref (md 17), .ref (md 18), .ref (md 19), .int 12, .int 0, .int 0, .int 0, .int (-1), .int 0, .ref (md 26), .ref (md 27), .ref (md 28), .ref (md 29), .ref (md 30), .ref (md 31), .ref (md 32), .ref (md 33), .ref (md 34), .ref (md 35), .int 0, .int 0, .int 0, .int 0, .int 0, .int 0, .int 0, .int 0, .int (-1), .int 0, .int 0, .ref (md 47), .ref (md 48), .ref (md 49), .ref (md 50)])), ((md 19), .inl ((mq 19), 1500, .inl (upd ft (12 : Int32).toNatClampNeg z_3)))] _ := hP
  have hD : va_D _ [(h0, .inr (10, [.int 0, .int 0, .int 0, .int 0, .ref (md 4), .ref (md 5), .ref (md 6), .ref (md 7), .ref (md 8), .ref (md 9), .ref (md 10), .ref (md 11), .int 0, .ref (md 13), .ref (md 14), .ref (md 15), .ref (md 16), .ref (md 17), .ref (md 18), .ref (md 19), .int 12, .int 0, .int 0, .int 0, .int (-1), .int 0, .ref (md 26), .ref (md 27), .ref (md 28), .ref (md 29), .ref (md 30), .ref (md 31), .ref (md 32), .ref (md 33), .ref (md 34), .ref (md 35), .int 0, .int 0, .int 0, .int 0, .int 0, .int 0, .int 0, .int 0, .int (-1), .int 0, .int 0, .ref (md 47), .ref (md 48), .ref (md 49), .ref (md 50)])), ((md 19), .inl ((mq 19), 1500, .inl (upd ft (12 : Int32).toNatClampNeg z_3)))] := hD
  obtain ⟨f_4, ef_4⟩ : ∃ z, z = (upd ft (12 : Int32).toNatClampNeg z_3) := ⟨_, rfl⟩
  rw [← ef_4] at hP hD
  refine lv_aload_n hx hb dX10_lays_23 rfl (lv_at hl 1 rfl) ?_
  refine lv_dup hx hb dX10_lays_24 rfl ?_
  refine va_get (D := (dC, dI)) (ci := 10) (v := .int 12) (C := RX10) (T := TX10) (N := 51) hx hb hts inw_X10_lays_10 hown hK hP 0 rfl rfl 20 (by decide) (hts (.fieldLink RX10 159 "VatHouseModel" "taped" "I") (by decide +kernel)) (fun _ h9 => h9) rfl dX10_lays_25 ?_
  refine lv_iconst (v := 1) hx hb dX10_lays_28 (by decide) ?_
  refine lv_iadd hx hb dX10_lays_29 ?_
  refine lv_topi (fun z_5 ez_5 => ?_)
  obtain rfl : z_5 = 13 := ez_5.trans (by decide)
  refine va_put (D := (dC, dI)) (ci := 10) (v := .int 13) (ty := .int) (C := RX10) (T := TX10) (N := 51) hx hb hts inw_X10_lays_10 tyX10 tyX10_ok nmX10 hown hK hP hD hS 0 rfl rfl 20 (by decide) (hts (.fieldLink RX10 159 "VatHouseModel" "taped" "I") (by decide +kernel)) (fun _ h9 => h9) rfl (by decide +kernel) rfl rfl (Nat.le_of_ble_eq_true rfl) dX10_lays_30 (fun H locs hP hD hS => ?_)
  have hP : va_P (dC, dI) vwCl [(h0, .inr (10, [.int 0, .int 0, .int 0, .int 0, .ref (md 4), .ref (md 5), .ref (md 6), .ref (md 7), .ref (md 8), .ref (md 9), .ref (md 10), .ref (md 11), .int 0, .ref (md 13), .ref (md 14), .ref (md 15), .ref (md 16), .ref (md 17), .ref (md 18), .ref (md 19), .int 13, .int 0, .int 0, .int 0, .int (-1), .int 0, .ref (md 26), .ref (md 27), .ref (md 28), .ref (md 29), .ref (md 30), .ref (md 31), .ref (md 32), .ref (md 33), .ref (md 34), .ref (md 35), .int 0, .int 0, .int 0, .int 0, .int 0, .int 0, .int 0, .int 0, .int (-1), .int 0, .int 0, .ref (md 47), .ref (md 48), .ref (md 49), .ref (md 50)])), ((md 19), .inl ((mq 19), 1500, .inl f_4))] _ := hP
  have hD : va_D _ [(h0, .inr (10, [.int 0, .int 0, .int 0, .int 0, .ref (md 4), .ref (md 5), .ref (md 6), .ref (md 7), .ref (md 8), .ref (md 9), .ref (md 10), .ref (md 11), .int 0, .ref (md 13), .ref (md 14), .ref (md 15), .ref (md 16), .ref (md 17), .ref (md 18), .ref (md 19), .int 13, .int 0, .int 0, .int 0, .int (-1), .int 0, .ref (md 26), .ref (md 27), .ref (md 28), .ref (md 29), .ref (md 30), .ref (md 31), .ref (md 32), .ref (md 33), .ref (md 34), .ref (md 35), .int 0, .int 0, .int 0, .int 0, .int 0, .int 0, .int 0, .int 0, .int (-1), .int 0, .int 0, .ref (md 47), .ref (md 48), .ref (md 49), .ref (md 50)])), ((md 19), .inl ((mq 19), 1500, .inl f_4))] := hD
  refine lv_iinc (v := 16) (lv' := [(2, .int 16), (0, .ref h0), (1, .int n)]) hx hb dX10_lays_33 hl (k := 0) rfl (by decide) (by decide) rfl (fun ls hl => ?_)
  refine lv_goto (tgt := 3) hx hb dX10_lays_36 (by decide) ?_
  refine lv_iload_n hx hb dX10_lays_3 rfl (lv_at hl 0 rfl) ?_
  refine lv_if_lt (tgt := 39) hx hb dX10_lays_4 (by decide) (fun c_6 => ?_) (fun c_6 => ?_)
  · exact absurd c_6 (by decide)
  refine lv_aload_n hx hb dX10_lays_7 rfl (lv_at hl 1 rfl) ?_
  refine va_get (D := (dC, dI)) (ci := 10) (v := .ref (md 19)) (C := RX10) (T := TX10) (N := 51) hx hb hts inw_X10_lays_10 hown hK hP 0 rfl rfl 19 (by decide) (hts (.fieldLink RX10 53 "VatHouseModel" "tape" "[I") (by decide +kernel)) (fun _ h9 => h9) rfl dX10_lays_8 ?_
  refine lv_aload_n hx hb dX10_lays_11 rfl (lv_at hl 1 rfl) ?_
  refine va_get (D := (dC, dI)) (ci := 10) (v := .int 13) (C := RX10) (T := TX10) (N := 51) hx hb hts inw_X10_lays_10 hown hK hP 0 rfl rfl 20 (by decide) (hts (.fieldLink RX10 159 "VatHouseModel" "taped" "I") (by decide +kernel)) (fun _ h9 => h9) rfl dX10_lays_12 ?_
  refine lv_iload_n hx hb dX10_lays_15 rfl (lv_at hl 2 rfl) ?_
  refine lv_iload_n hx hb dX10_lays_16 rfl (lv_at hl 0 rfl) ?_
  refine lv_ishr hx hb dX10_lays_17 ?_
  refine lv_topi (fun z_7 ez_7 => ?_)
  refine lv_sipush (v := 255) hx hb dX10_lays_18 (by decide) ?_
  refine lv_iand hx hb dX10_lays_21 ?_
  refine lv_topi (fun z_8 ez_8 => ?_)
  refine va_iast hx hb hK hP hD hS 1 0 rfl rfl (by unfold vp_in; decide) dX10_lays_22 (fun H locs hP hD hS => ?_)
  have hP : va_P (dC, dI) vwCl [(h0, .inr (10, [.int 0, .int 0, .int 0, .int 0, .ref (md 4), .ref (md 5), .ref (md 6), .ref (md 7), .ref (md 8), .ref (md 9), .ref (md 10), .ref (md 11), .int 0, .ref (md 13), .ref (md 14), .ref (md 15), .ref (md 16), .ref (md 17), .ref (md 18), .ref (md 19), .int 13, .int 0, .int 0, .int 0, .int (-1), .int 0, .ref (md 26), .ref (md 27), .ref (md 28), .ref (md 29), .ref (md 30), .ref (md 31), .ref (md 32), .ref (md 33), .ref (md 34), .ref (md 35), .int 0, .int 0, .int 0, .int 0, .int 0, .int 0, .int 0, .int 0, .int (-1), .int 0, .int 0, .ref (md 47), .ref (md 48), .ref (md 49), .ref (md 50)])), ((md 19), .inl ((mq 19), 1500, .inl (upd f_4 (13 : Int32).toNatClampNeg z_8)))] _ := hP
  have hD : va_D _ [(h0, .inr (10, [.int 0, .int 0, .int 0, .int 0, .ref (md 4), .ref (md 5), .ref (md 6), .ref (md 7), .ref (md 8), .ref (md 9), .ref (md 10), .ref (md 11), .int 0, .ref (md 13), .ref (md 14), .ref (md 15), .ref (md 16), .ref (md 17), .ref (md 18), .ref (md 19), .int 13, .int 0, .int 0, .int 0, .int (-1), .int 0, .ref (md 26), .ref (md 27), .ref (md 28), .ref (md 29), .ref (md 30), .ref (md 31), .ref (md 32), .ref (md 33), .ref (md 34), .ref (md 35), .int 0, .int 0, .int 0, .int 0, .int 0, .int 0, .int 0, .int 0, .int (-1), .int 0, .int 0, .ref (md 47), .ref (md 48), .ref (md 49), .ref (md 50)])), ((md 19), .inl ((mq 19), 1500, .inl (upd f_4 (13 : Int32).toNatClampNeg z_8)))] := hD
  obtain ⟨f_9, ef_9⟩ : ∃ z, z = (upd f_4 (13 : Int32).toNatClampNeg z_8) := ⟨_, rfl⟩
  rw [← ef_9] at hP hD
  refine lv_aload_n hx hb dX10_lays_23 rfl (lv_at hl 1 rfl) ?_
  refine lv_dup hx hb dX10_lays_24 rfl ?_
  refine va_get (D := (dC, dI)) (ci := 10) (v := .int 13) (C := RX10) (T := TX10) (N := 51) hx hb hts inw_X10_lays_10 hown hK hP 0 rfl rfl 20 (by decide) (hts (.fieldLink RX10 159 "VatHouseModel" "taped" "I") (by decide +kernel)) (fun _ h9 => h9) rfl dX10_lays_25 ?_
  refine lv_iconst (v := 1) hx hb dX10_lays_28 (by decide) ?_
  refine lv_iadd hx hb dX10_lays_29 ?_
  refine lv_topi (fun z_10 ez_10 => ?_)
  obtain rfl : z_10 = 14 := ez_10.trans (by decide)
  refine va_put (D := (dC, dI)) (ci := 10) (v := .int 14) (ty := .int) (C := RX10) (T := TX10) (N := 51) hx hb hts inw_X10_lays_10 tyX10 tyX10_ok nmX10 hown hK hP hD hS 0 rfl rfl 20 (by decide) (hts (.fieldLink RX10 159 "VatHouseModel" "taped" "I") (by decide +kernel)) (fun _ h9 => h9) rfl (by decide +kernel) rfl rfl (Nat.le_of_ble_eq_true rfl) dX10_lays_30 (fun H locs hP hD hS => ?_)
  have hP : va_P (dC, dI) vwCl [(h0, .inr (10, [.int 0, .int 0, .int 0, .int 0, .ref (md 4), .ref (md 5), .ref (md 6), .ref (md 7), .ref (md 8), .ref (md 9), .ref (md 10), .ref (md 11), .int 0, .ref (md 13), .ref (md 14), .ref (md 15), .ref (md 16), .ref (md 17), .ref (md 18), .ref (md 19), .int 14, .int 0, .int 0, .int 0, .int (-1), .int 0, .ref (md 26), .ref (md 27), .ref (md 28), .ref (md 29), .ref (md 30), .ref (md 31), .ref (md 32), .ref (md 33), .ref (md 34), .ref (md 35), .int 0, .int 0, .int 0, .int 0, .int 0, .int 0, .int 0, .int 0, .int (-1), .int 0, .int 0, .ref (md 47), .ref (md 48), .ref (md 49), .ref (md 50)])), ((md 19), .inl ((mq 19), 1500, .inl f_9))] _ := hP
  have hD : va_D _ [(h0, .inr (10, [.int 0, .int 0, .int 0, .int 0, .ref (md 4), .ref (md 5), .ref (md 6), .ref (md 7), .ref (md 8), .ref (md 9), .ref (md 10), .ref (md 11), .int 0, .ref (md 13), .ref (md 14), .ref (md 15), .ref (md 16), .ref (md 17), .ref (md 18), .ref (md 19), .int 14, .int 0, .int 0, .int 0, .int (-1), .int 0, .ref (md 26), .ref (md 27), .ref (md 28), .ref (md 29), .ref (md 30), .ref (md 31), .ref (md 32), .ref (md 33), .ref (md 34), .ref (md 35), .int 0, .int 0, .int 0, .int 0, .int 0, .int 0, .int 0, .int 0, .int (-1), .int 0, .int 0, .ref (md 47), .ref (md 48), .ref (md 49), .ref (md 50)])), ((md 19), .inl ((mq 19), 1500, .inl f_9))] := hD
  refine lv_iinc (v := 8) (lv' := [(2, .int 8), (0, .ref h0), (1, .int n)]) hx hb dX10_lays_33 hl (k := 0) rfl (by decide) (by decide) rfl (fun ls hl => ?_)
  refine lv_goto (tgt := 3) hx hb dX10_lays_36 (by decide) ?_
  refine lv_iload_n hx hb dX10_lays_3 rfl (lv_at hl 0 rfl) ?_
  refine lv_if_lt (tgt := 39) hx hb dX10_lays_4 (by decide) (fun c_11 => ?_) (fun c_11 => ?_)
  · exact absurd c_11 (by decide)
  refine lv_aload_n hx hb dX10_lays_7 rfl (lv_at hl 1 rfl) ?_
  refine va_get (D := (dC, dI)) (ci := 10) (v := .ref (md 19)) (C := RX10) (T := TX10) (N := 51) hx hb hts inw_X10_lays_10 hown hK hP 0 rfl rfl 19 (by decide) (hts (.fieldLink RX10 53 "VatHouseModel" "tape" "[I") (by decide +kernel)) (fun _ h9 => h9) rfl dX10_lays_8 ?_
  refine lv_aload_n hx hb dX10_lays_11 rfl (lv_at hl 1 rfl) ?_
  refine va_get (D := (dC, dI)) (ci := 10) (v := .int 14) (C := RX10) (T := TX10) (N := 51) hx hb hts inw_X10_lays_10 hown hK hP 0 rfl rfl 20 (by decide) (hts (.fieldLink RX10 159 "VatHouseModel" "taped" "I") (by decide +kernel)) (fun _ h9 => h9) rfl dX10_lays_12 ?_
  refine lv_iload_n hx hb dX10_lays_15 rfl (lv_at hl 2 rfl) ?_
  refine lv_iload_n hx hb dX10_lays_16 rfl (lv_at hl 0 rfl) ?_
  refine lv_ishr hx hb dX10_lays_17 ?_
  refine lv_topi (fun z_12 ez_12 => ?_)
  refine lv_sipush (v := 255) hx hb dX10_lays_18 (by decide) ?_
  refine lv_iand hx hb dX10_lays_21 ?_
  refine lv_topi (fun z_13 ez_13 => ?_)
  refine va_iast hx hb hK hP hD hS 1 0 rfl rfl (by unfold vp_in; decide) dX10_lays_22 (fun H locs hP hD hS => ?_)
  have hP : va_P (dC, dI) vwCl [(h0, .inr (10, [.int 0, .int 0, .int 0, .int 0, .ref (md 4), .ref (md 5), .ref (md 6), .ref (md 7), .ref (md 8), .ref (md 9), .ref (md 10), .ref (md 11), .int 0, .ref (md 13), .ref (md 14), .ref (md 15), .ref (md 16), .ref (md 17), .ref (md 18), .ref (md 19), .int 14, .int 0, .int 0, .int 0, .int (-1), .int 0, .ref (md 26), .ref (md 27), .ref (md 28), .ref (md 29), .ref (md 30), .ref (md 31), .ref (md 32), .ref (md 33), .ref (md 34), .ref (md 35), .int 0, .int 0, .int 0, .int 0, .int 0, .int 0, .int 0, .int 0, .int (-1), .int 0, .int 0, .ref (md 47), .ref (md 48), .ref (md 49), .ref (md 50)])), ((md 19), .inl ((mq 19), 1500, .inl (upd f_9 (14 : Int32).toNatClampNeg z_13)))] _ := hP
  have hD : va_D _ [(h0, .inr (10, [.int 0, .int 0, .int 0, .int 0, .ref (md 4), .ref (md 5), .ref (md 6), .ref (md 7), .ref (md 8), .ref (md 9), .ref (md 10), .ref (md 11), .int 0, .ref (md 13), .ref (md 14), .ref (md 15), .ref (md 16), .ref (md 17), .ref (md 18), .ref (md 19), .int 14, .int 0, .int 0, .int 0, .int (-1), .int 0, .ref (md 26), .ref (md 27), .ref (md 28), .ref (md 29), .ref (md 30), .ref (md 31), .ref (md 32), .ref (md 33), .ref (md 34), .ref (md 35), .int 0, .int 0, .int 0, .int 0, .int 0, .int 0, .int 0, .int 0, .int (-1), .int 0, .int 0, .ref (md 47), .ref (md 48), .ref (md 49), .ref (md 50)])), ((md 19), .inl ((mq 19), 1500, .inl (upd f_9 (14 : Int32).toNatClampNeg z_13)))] := hD
  obtain ⟨f_14, ef_14⟩ : ∃ z, z = (upd f_9 (14 : Int32).toNatClampNeg z_13) := ⟨_, rfl⟩
  rw [← ef_14] at hP hD
  refine lv_aload_n hx hb dX10_lays_23 rfl (lv_at hl 1 rfl) ?_
  refine lv_dup hx hb dX10_lays_24 rfl ?_
  refine va_get (D := (dC, dI)) (ci := 10) (v := .int 14) (C := RX10) (T := TX10) (N := 51) hx hb hts inw_X10_lays_10 hown hK hP 0 rfl rfl 20 (by decide) (hts (.fieldLink RX10 159 "VatHouseModel" "taped" "I") (by decide +kernel)) (fun _ h9 => h9) rfl dX10_lays_25 ?_
  refine lv_iconst (v := 1) hx hb dX10_lays_28 (by decide) ?_
  refine lv_iadd hx hb dX10_lays_29 ?_
  refine lv_topi (fun z_15 ez_15 => ?_)
  obtain rfl : z_15 = 15 := ez_15.trans (by decide)
  refine va_put (D := (dC, dI)) (ci := 10) (v := .int 15) (ty := .int) (C := RX10) (T := TX10) (N := 51) hx hb hts inw_X10_lays_10 tyX10 tyX10_ok nmX10 hown hK hP hD hS 0 rfl rfl 20 (by decide) (hts (.fieldLink RX10 159 "VatHouseModel" "taped" "I") (by decide +kernel)) (fun _ h9 => h9) rfl (by decide +kernel) rfl rfl (Nat.le_of_ble_eq_true rfl) dX10_lays_30 (fun H locs hP hD hS => ?_)
  have hP : va_P (dC, dI) vwCl [(h0, .inr (10, [.int 0, .int 0, .int 0, .int 0, .ref (md 4), .ref (md 5), .ref (md 6), .ref (md 7), .ref (md 8), .ref (md 9), .ref (md 10), .ref (md 11), .int 0, .ref (md 13), .ref (md 14), .ref (md 15), .ref (md 16), .ref (md 17), .ref (md 18), .ref (md 19), .int 15, .int 0, .int 0, .int 0, .int (-1), .int 0, .ref (md 26), .ref (md 27), .ref (md 28), .ref (md 29), .ref (md 30), .ref (md 31), .ref (md 32), .ref (md 33), .ref (md 34), .ref (md 35), .int 0, .int 0, .int 0, .int 0, .int 0, .int 0, .int 0, .int 0, .int (-1), .int 0, .int 0, .ref (md 47), .ref (md 48), .ref (md 49), .ref (md 50)])), ((md 19), .inl ((mq 19), 1500, .inl f_14))] _ := hP
  have hD : va_D _ [(h0, .inr (10, [.int 0, .int 0, .int 0, .int 0, .ref (md 4), .ref (md 5), .ref (md 6), .ref (md 7), .ref (md 8), .ref (md 9), .ref (md 10), .ref (md 11), .int 0, .ref (md 13), .ref (md 14), .ref (md 15), .ref (md 16), .ref (md 17), .ref (md 18), .ref (md 19), .int 15, .int 0, .int 0, .int 0, .int (-1), .int 0, .ref (md 26), .ref (md 27), .ref (md 28), .ref (md 29), .ref (md 30), .ref (md 31), .ref (md 32), .ref (md 33), .ref (md 34), .ref (md 35), .int 0, .int 0, .int 0, .int 0, .int 0, .int 0, .int 0, .int 0, .int (-1), .int 0, .int 0, .ref (md 47), .ref (md 48), .ref (md 49), .ref (md 50)])), ((md 19), .inl ((mq 19), 1500, .inl f_14))] := hD
  refine lv_iinc (v := 0) (lv' := [(2, .int 0), (0, .ref h0), (1, .int n)]) hx hb dX10_lays_33 hl (k := 0) rfl (by decide) (by decide) rfl (fun ls hl => ?_)
  refine lv_goto (tgt := 3) hx hb dX10_lays_36 (by decide) ?_
  refine lv_iload_n hx hb dX10_lays_3 rfl (lv_at hl 0 rfl) ?_
  refine lv_if_lt (tgt := 39) hx hb dX10_lays_4 (by decide) (fun c_16 => ?_) (fun c_16 => ?_)
  · exact absurd c_16 (by decide)
  refine lv_aload_n hx hb dX10_lays_7 rfl (lv_at hl 1 rfl) ?_
  refine va_get (D := (dC, dI)) (ci := 10) (v := .ref (md 19)) (C := RX10) (T := TX10) (N := 51) hx hb hts inw_X10_lays_10 hown hK hP 0 rfl rfl 19 (by decide) (hts (.fieldLink RX10 53 "VatHouseModel" "tape" "[I") (by decide +kernel)) (fun _ h9 => h9) rfl dX10_lays_8 ?_
  refine lv_aload_n hx hb dX10_lays_11 rfl (lv_at hl 1 rfl) ?_
  refine va_get (D := (dC, dI)) (ci := 10) (v := .int 15) (C := RX10) (T := TX10) (N := 51) hx hb hts inw_X10_lays_10 hown hK hP 0 rfl rfl 20 (by decide) (hts (.fieldLink RX10 159 "VatHouseModel" "taped" "I") (by decide +kernel)) (fun _ h9 => h9) rfl dX10_lays_12 ?_
  refine lv_iload_n hx hb dX10_lays_15 rfl (lv_at hl 2 rfl) ?_
  refine lv_iload_n hx hb dX10_lays_16 rfl (lv_at hl 0 rfl) ?_
  refine lv_ishr hx hb dX10_lays_17 ?_
  refine lv_topi (fun z_17 ez_17 => ?_)
  refine lv_sipush (v := 255) hx hb dX10_lays_18 (by decide) ?_
  refine lv_iand hx hb dX10_lays_21 ?_
  refine lv_topi (fun z_18 ez_18 => ?_)
  refine va_iast hx hb hK hP hD hS 1 0 rfl rfl (by unfold vp_in; decide) dX10_lays_22 (fun H locs hP hD hS => ?_)
  have hP : va_P (dC, dI) vwCl [(h0, .inr (10, [.int 0, .int 0, .int 0, .int 0, .ref (md 4), .ref (md 5), .ref (md 6), .ref (md 7), .ref (md 8), .ref (md 9), .ref (md 10), .ref (md 11), .int 0, .ref (md 13), .ref (md 14), .ref (md 15), .ref (md 16), .ref (md 17), .ref (md 18), .ref (md 19), .int 15, .int 0, .int 0, .int 0, .int (-1), .int 0, .ref (md 26), .ref (md 27), .ref (md 28), .ref (md 29), .ref (md 30), .ref (md 31), .ref (md 32), .ref (md 33), .ref (md 34), .ref (md 35), .int 0, .int 0, .int 0, .int 0, .int 0, .int 0, .int 0, .int 0, .int (-1), .int 0, .int 0, .ref (md 47), .ref (md 48), .ref (md 49), .ref (md 50)])), ((md 19), .inl ((mq 19), 1500, .inl (upd f_14 (15 : Int32).toNatClampNeg z_18)))] _ := hP
  have hD : va_D _ [(h0, .inr (10, [.int 0, .int 0, .int 0, .int 0, .ref (md 4), .ref (md 5), .ref (md 6), .ref (md 7), .ref (md 8), .ref (md 9), .ref (md 10), .ref (md 11), .int 0, .ref (md 13), .ref (md 14), .ref (md 15), .ref (md 16), .ref (md 17), .ref (md 18), .ref (md 19), .int 15, .int 0, .int 0, .int 0, .int (-1), .int 0, .ref (md 26), .ref (md 27), .ref (md 28), .ref (md 29), .ref (md 30), .ref (md 31), .ref (md 32), .ref (md 33), .ref (md 34), .ref (md 35), .int 0, .int 0, .int 0, .int 0, .int 0, .int 0, .int 0, .int 0, .int (-1), .int 0, .int 0, .ref (md 47), .ref (md 48), .ref (md 49), .ref (md 50)])), ((md 19), .inl ((mq 19), 1500, .inl (upd f_14 (15 : Int32).toNatClampNeg z_18)))] := hD
  obtain ⟨f_19, ef_19⟩ : ∃ z, z = (upd f_14 (15 : Int32).toNatClampNeg z_18) := ⟨_, rfl⟩
  rw [← ef_19] at hP hD
  refine lv_aload_n hx hb dX10_lays_23 rfl (lv_at hl 1 rfl) ?_
  refine lv_dup hx hb dX10_lays_24 rfl ?_
  refine va_get (D := (dC, dI)) (ci := 10) (v := .int 15) (C := RX10) (T := TX10) (N := 51) hx hb hts inw_X10_lays_10 hown hK hP 0 rfl rfl 20 (by decide) (hts (.fieldLink RX10 159 "VatHouseModel" "taped" "I") (by decide +kernel)) (fun _ h9 => h9) rfl dX10_lays_25 ?_
  refine lv_iconst (v := 1) hx hb dX10_lays_28 (by decide) ?_
  refine lv_iadd hx hb dX10_lays_29 ?_
  refine lv_topi (fun z_20 ez_20 => ?_)
  obtain rfl : z_20 = 16 := ez_20.trans (by decide)
  refine va_put (D := (dC, dI)) (ci := 10) (v := .int 16) (ty := .int) (C := RX10) (T := TX10) (N := 51) hx hb hts inw_X10_lays_10 tyX10 tyX10_ok nmX10 hown hK hP hD hS 0 rfl rfl 20 (by decide) (hts (.fieldLink RX10 159 "VatHouseModel" "taped" "I") (by decide +kernel)) (fun _ h9 => h9) rfl (by decide +kernel) rfl rfl (Nat.le_of_ble_eq_true rfl) dX10_lays_30 (fun H locs hP hD hS => ?_)
  have hP : va_P (dC, dI) vwCl [(h0, .inr (10, [.int 0, .int 0, .int 0, .int 0, .ref (md 4), .ref (md 5), .ref (md 6), .ref (md 7), .ref (md 8), .ref (md 9), .ref (md 10), .ref (md 11), .int 0, .ref (md 13), .ref (md 14), .ref (md 15), .ref (md 16), .ref (md 17), .ref (md 18), .ref (md 19), .int 16, .int 0, .int 0, .int 0, .int (-1), .int 0, .ref (md 26), .ref (md 27), .ref (md 28), .ref (md 29), .ref (md 30), .ref (md 31), .ref (md 32), .ref (md 33), .ref (md 34), .ref (md 35), .int 0, .int 0, .int 0, .int 0, .int 0, .int 0, .int 0, .int 0, .int (-1), .int 0, .int 0, .ref (md 47), .ref (md 48), .ref (md 49), .ref (md 50)])), ((md 19), .inl ((mq 19), 1500, .inl f_19))] _ := hP
  have hD : va_D _ [(h0, .inr (10, [.int 0, .int 0, .int 0, .int 0, .ref (md 4), .ref (md 5), .ref (md 6), .ref (md 7), .ref (md 8), .ref (md 9), .ref (md 10), .ref (md 11), .int 0, .ref (md 13), .ref (md 14), .ref (md 15), .ref (md 16), .ref (md 17), .ref (md 18), .ref (md 19), .int 16, .int 0, .int 0, .int 0, .int (-1), .int 0, .ref (md 26), .ref (md 27), .ref (md 28), .ref (md 29), .ref (md 30), .ref (md 31), .ref (md 32), .ref (md 33), .ref (md 34), .ref (md 35), .int 0, .int 0, .int 0, .int 0, .int 0, .int 0, .int 0, .int 0, .int (-1), .int 0, .int 0, .ref (md 47), .ref (md 48), .ref (md 49), .ref (md 50)])), ((md 19), .inl ((mq 19), 1500, .inl f_19))] := hD
  refine lv_iinc (v := (-8)) (lv' := [(2, .int (-8)), (0, .ref h0), (1, .int n)]) hx hb dX10_lays_33 hl (k := 0) rfl (by decide) (by decide) rfl (fun ls hl => ?_)
  refine lv_goto (tgt := 3) hx hb dX10_lays_36 (by decide) ?_
  refine lv_iload_n hx hb dX10_lays_3 rfl (lv_at hl 0 rfl) ?_
  refine lv_if_lt (tgt := 39) hx hb dX10_lays_4 (by decide) (fun c_21 => ?_) (fun c_21 => ?_)
  rotate_left
  · exact absurd c_21 (by decide)
  exact en_v hx hb hr hlocks hP hD hK hS f_19 ⟨rfl, trivial⟩ [0, 1] [] rfl rfl rfl (Nat.le_of_ble_eq_true rfl) (Nat.le_of_ble_eq_true rfl) dX10_lays_39

abbrev rm_X10_lays_16 : Room := { frames := 0, cells := 0, slots := 0, locals := 0 }
set_option maxHeartbeats 800000 in
set_option maxRecDepth 100000 in
theorem c_X10_lays_16 (l : Launch) (dC : Nat → ClassId) (dI : Nat → Nat → Nat) (sa : Nat → Nat) (hlt : l.stackTraces = false) (sz : Nat) (h0 : Nat) (md : Nat → Nat) (mq : Nat → ClassId) (ft : Nat → Int32) (n : Int32) : CT l dC dI sa yX10_lays wsX10_lays rm_X10_lays_16 [.ref h0, .int n] [(h0, .inr (10, [.int 0, .int 0, .int 0, .int 0, .ref (md 4), .ref (md 5), .ref (md 6), .ref (md 7), .ref (md 8), .ref (md 9), .ref (md 10), .ref (md 11), .int 0, .ref (md 13), .ref (md 14), .ref (md 15), .ref (md 16), .ref (md 17), .ref (md 18), .ref (md 19), .int 16, .int 0, .int 0, .int 0, .int (-1), .int 0, .ref (md 26), .ref (md 27), .ref (md 28), .ref (md 29), .ref (md 30), .ref (md 31), .ref (md 32), .ref (md 33), .ref (md 34), .ref (md 35), .int 0, .int 0, .int 0, .int 0, .int 0, .int 0, .int 0, .int 0, .int (-1), .int 0, .int 0, .ref (md 47), .ref (md 48), .ref (md 49), .ref (md 50)])), ((md 19), .inl ((mq 19), 1500, .inl ft))] [((mq 19), .int)] sz (fun (r : Option Value) (g : (Nat → Int32)) => r = none ∧ (True)) (fun (g : (Nat → Int32)) => [(h0, .inr (10, [.int 0, .int 0, .int 0, .int 0, .ref (md 4), .ref (md 5), .ref (md 6), .ref (md 7), .ref (md 8), .ref (md 9), .ref (md 10), .ref (md 11), .int 0, .ref (md 13), .ref (md 14), .ref (md 15), .ref (md 16), .ref (md 17), .ref (md 18), .ref (md 19), .int 20, .int 0, .int 0, .int 0, .int (-1), .int 0, .ref (md 26), .ref (md 27), .ref (md 28), .ref (md 29), .ref (md 30), .ref (md 31), .ref (md 32), .ref (md 33), .ref (md 34), .ref (md 35), .int 0, .int 0, .int 0, .int 0, .int 0, .int 0, .int 0, .int 0, .int (-1), .int 0, .int 0, .ref (md 47), .ref (md 48), .ref (md 49), .ref (md 50)])), ((md 19), .inl ((mq 19), 1500, .inl g))]) (fun (g : (Nat → Int32)) => []) 0 0 := by
  refine CT.start (cc := cX10_lays) (maxL := 3) (ret := none) (by decide) rfl (Nat.le_of_ble_eq_true rfl) ?_
  intro p e s m below meth c ls hst hP hK hD hev hS hl
  obtain ⟨hx, hb, hr, hml, hts, hown, hlocks, hin⟩ := hst
  have hown : s.vm.findClass RX10 = some m.cls := hown
  have hin : meth.name = yX10_lays.name := hin
  have hA : ∀ q : Nat, s.heap.size ≤ q → va_A [(h0, .inr (10, [.int 0, .int 0, .int 0, .int 0, .ref (md 4), .ref (md 5), .ref (md 6), .ref (md 7), .ref (md 8), .ref (md 9), .ref (md 10), .ref (md 11), .int 0, .ref (md 13), .ref (md 14), .ref (md 15), .ref (md 16), .ref (md 17), .ref (md 18), .ref (md 19), .int 16, .int 0, .int 0, .int 0, .int (-1), .int 0, .ref (md 26), .ref (md 27), .ref (md 28), .ref (md 29), .ref (md 30), .ref (md 31), .ref (md 32), .ref (md 33), .ref (md 34), .ref (md 35), .int 0, .int 0, .int 0, .int 0, .int 0, .int 0, .int 0, .int 0, .int (-1), .int 0, .int 0, .ref (md 47), .ref (md 48), .ref (md 49), .ref (md 50)])), ((md 19), .inl ((mq 19), 1500, .inl ft))] s.heap.size q := fun _ h => Or.inr h
  have hl : lv_has ls 3 [(0, .ref h0), (1, .int n)] := hl
  refine lv_bipush (v := 24) hx hb dX10_lays_0 (by decide) ?_
  refine lv_istore_n (lv' := [(2, .int 24), (0, .ref h0), (1, .int n)]) hx hb dX10_lays_2 rfl hl (by decide) rfl (fun ls hl => ?_)
  refine lv_iload_n hx hb dX10_lays_3 rfl (lv_at hl 0 rfl) ?_
  refine lv_if_lt (tgt := 39) hx hb dX10_lays_4 (by decide) (fun c_1 => ?_) (fun c_1 => ?_)
  · exact absurd c_1 (by decide)
  refine lv_aload_n hx hb dX10_lays_7 rfl (lv_at hl 1 rfl) ?_
  refine va_get (D := (dC, dI)) (ci := 10) (v := .ref (md 19)) (C := RX10) (T := TX10) (N := 51) hx hb hts inw_X10_lays_10 hown hK hP 0 rfl rfl 19 (by decide) (hts (.fieldLink RX10 53 "VatHouseModel" "tape" "[I") (by decide +kernel)) (fun _ h9 => h9) rfl dX10_lays_8 ?_
  refine lv_aload_n hx hb dX10_lays_11 rfl (lv_at hl 1 rfl) ?_
  refine va_get (D := (dC, dI)) (ci := 10) (v := .int 16) (C := RX10) (T := TX10) (N := 51) hx hb hts inw_X10_lays_10 hown hK hP 0 rfl rfl 20 (by decide) (hts (.fieldLink RX10 159 "VatHouseModel" "taped" "I") (by decide +kernel)) (fun _ h9 => h9) rfl dX10_lays_12 ?_
  refine lv_iload_n hx hb dX10_lays_15 rfl (lv_at hl 2 rfl) ?_
  refine lv_iload_n hx hb dX10_lays_16 rfl (lv_at hl 0 rfl) ?_
  refine lv_ishr hx hb dX10_lays_17 ?_
  refine lv_topi (fun z_2 ez_2 => ?_)
  refine lv_sipush (v := 255) hx hb dX10_lays_18 (by decide) ?_
  refine lv_iand hx hb dX10_lays_21 ?_
  refine lv_topi (fun z_3 ez_3 => ?_)
  refine va_iast hx hb hK hP hD hS 1 0 rfl rfl (by unfold vp_in; decide) dX10_lays_22 (fun H locs hP hD hS => ?_)
  have hP : va_P (dC, dI) vwCl [(h0, .inr (10, [.int 0, .int 0, .int 0, .int 0, .ref (md 4), .ref (md 5), .ref (md 6), .ref (md 7), .ref (md 8), .ref (md 9), .ref (md 10), .ref (md 11), .int 0, .ref (md 13), .ref (md 14), .ref (md 15), .ref (md 16), .ref (md 17), .ref (md 18), .ref (md 19), .int 16, .int 0, .int 0, .int 0, .int (-1), .int 0, .ref (md 26), .ref (md 27), .ref (md 28), .ref (md 29), .ref (md 30), .ref (md 31), .ref (md 32), .ref (md 33), .ref (md 34), .ref (md 35), .int 0, .int 0, .int 0, .int 0, .int 0, .int 0, .int 0, .int 0, .int (-1), .int 0, .int 0, .ref (md 47), .ref (md 48), .ref (md 49), .ref (md 50)])), ((md 19), .inl ((mq 19), 1500, .inl (upd ft (16 : Int32).toNatClampNeg z_3)))] _ := hP
  have hD : va_D _ [(h0, .inr (10, [.int 0, .int 0, .int 0, .int 0, .ref (md 4), .ref (md 5), .ref (md 6), .ref (md 7), .ref (md 8), .ref (md 9), .ref (md 10), .ref (md 11), .int 0, .ref (md 13), .ref (md 14), .ref (md 15), .ref (md 16), .ref (md 17), .ref (md 18), .ref (md 19), .int 16, .int 0, .int 0, .int 0, .int (-1), .int 0, .ref (md 26), .ref (md 27), .ref (md 28), .ref (md 29), .ref (md 30), .ref (md 31), .ref (md 32), .ref (md 33), .ref (md 34), .ref (md 35), .int 0, .int 0, .int 0, .int 0, .int 0, .int 0, .int 0, .int 0, .int (-1), .int 0, .int 0, .ref (md 47), .ref (md 48), .ref (md 49), .ref (md 50)])), ((md 19), .inl ((mq 19), 1500, .inl (upd ft (16 : Int32).toNatClampNeg z_3)))] := hD
  obtain ⟨f_4, ef_4⟩ : ∃ z, z = (upd ft (16 : Int32).toNatClampNeg z_3) := ⟨_, rfl⟩
  rw [← ef_4] at hP hD
  refine lv_aload_n hx hb dX10_lays_23 rfl (lv_at hl 1 rfl) ?_
  refine lv_dup hx hb dX10_lays_24 rfl ?_
  refine va_get (D := (dC, dI)) (ci := 10) (v := .int 16) (C := RX10) (T := TX10) (N := 51) hx hb hts inw_X10_lays_10 hown hK hP 0 rfl rfl 20 (by decide) (hts (.fieldLink RX10 159 "VatHouseModel" "taped" "I") (by decide +kernel)) (fun _ h9 => h9) rfl dX10_lays_25 ?_
  refine lv_iconst (v := 1) hx hb dX10_lays_28 (by decide) ?_
  refine lv_iadd hx hb dX10_lays_29 ?_
  refine lv_topi (fun z_5 ez_5 => ?_)
  obtain rfl : z_5 = 17 := ez_5.trans (by decide)
  refine va_put (D := (dC, dI)) (ci := 10) (v := .int 17) (ty := .int) (C := RX10) (T := TX10) (N := 51) hx hb hts inw_X10_lays_10 tyX10 tyX10_ok nmX10 hown hK hP hD hS 0 rfl rfl 20 (by decide) (hts (.fieldLink RX10 159 "VatHouseModel" "taped" "I") (by decide +kernel)) (fun _ h9 => h9) rfl (by decide +kernel) rfl rfl (Nat.le_of_ble_eq_true rfl) dX10_lays_30 (fun H locs hP hD hS => ?_)
  have hP : va_P (dC, dI) vwCl [(h0, .inr (10, [.int 0, .int 0, .int 0, .int 0, .ref (md 4), .ref (md 5), .ref (md 6), .ref (md 7), .ref (md 8), .ref (md 9), .ref (md 10), .ref (md 11), .int 0, .ref (md 13), .ref (md 14), .ref (md 15), .ref (md 16), .ref (md 17), .ref (md 18), .ref (md 19), .int 17, .int 0, .int 0, .int 0, .int (-1), .int 0, .ref (md 26), .ref (md 27), .ref (md 28), .ref (md 29), .ref (md 30), .ref (md 31), .ref (md 32), .ref (md 33), .ref (md 34), .ref (md 35), .int 0, .int 0, .int 0, .int 0, .int 0, .int 0, .int 0, .int 0, .int (-1), .int 0, .int 0, .ref (md 47), .ref (md 48), .ref (md 49), .ref (md 50)])), ((md 19), .inl ((mq 19), 1500, .inl f_4))] _ := hP
  have hD : va_D _ [(h0, .inr (10, [.int 0, .int 0, .int 0, .int 0, .ref (md 4), .ref (md 5), .ref (md 6), .ref (md 7), .ref (md 8), .ref (md 9), .ref (md 10), .ref (md 11), .int 0, .ref (md 13), .ref (md 14), .ref (md 15), .ref (md 16), .ref (md 17), .ref (md 18), .ref (md 19), .int 17, .int 0, .int 0, .int 0, .int (-1), .int 0, .ref (md 26), .ref (md 27), .ref (md 28), .ref (md 29), .ref (md 30), .ref (md 31), .ref (md 32), .ref (md 33), .ref (md 34), .ref (md 35), .int 0, .int 0, .int 0, .int 0, .int 0, .int 0, .int 0, .int 0, .int (-1), .int 0, .int 0, .ref (md 47), .ref (md 48), .ref (md 49), .ref (md 50)])), ((md 19), .inl ((mq 19), 1500, .inl f_4))] := hD
  refine lv_iinc (v := 16) (lv' := [(2, .int 16), (0, .ref h0), (1, .int n)]) hx hb dX10_lays_33 hl (k := 0) rfl (by decide) (by decide) rfl (fun ls hl => ?_)
  refine lv_goto (tgt := 3) hx hb dX10_lays_36 (by decide) ?_
  refine lv_iload_n hx hb dX10_lays_3 rfl (lv_at hl 0 rfl) ?_
  refine lv_if_lt (tgt := 39) hx hb dX10_lays_4 (by decide) (fun c_6 => ?_) (fun c_6 => ?_)
  · exact absurd c_6 (by decide)
  refine lv_aload_n hx hb dX10_lays_7 rfl (lv_at hl 1 rfl) ?_
  refine va_get (D := (dC, dI)) (ci := 10) (v := .ref (md 19)) (C := RX10) (T := TX10) (N := 51) hx hb hts inw_X10_lays_10 hown hK hP 0 rfl rfl 19 (by decide) (hts (.fieldLink RX10 53 "VatHouseModel" "tape" "[I") (by decide +kernel)) (fun _ h9 => h9) rfl dX10_lays_8 ?_
  refine lv_aload_n hx hb dX10_lays_11 rfl (lv_at hl 1 rfl) ?_
  refine va_get (D := (dC, dI)) (ci := 10) (v := .int 17) (C := RX10) (T := TX10) (N := 51) hx hb hts inw_X10_lays_10 hown hK hP 0 rfl rfl 20 (by decide) (hts (.fieldLink RX10 159 "VatHouseModel" "taped" "I") (by decide +kernel)) (fun _ h9 => h9) rfl dX10_lays_12 ?_
  refine lv_iload_n hx hb dX10_lays_15 rfl (lv_at hl 2 rfl) ?_
  refine lv_iload_n hx hb dX10_lays_16 rfl (lv_at hl 0 rfl) ?_
  refine lv_ishr hx hb dX10_lays_17 ?_
  refine lv_topi (fun z_7 ez_7 => ?_)
  refine lv_sipush (v := 255) hx hb dX10_lays_18 (by decide) ?_
  refine lv_iand hx hb dX10_lays_21 ?_
  refine lv_topi (fun z_8 ez_8 => ?_)
  refine va_iast hx hb hK hP hD hS 1 0 rfl rfl (by unfold vp_in; decide) dX10_lays_22 (fun H locs hP hD hS => ?_)
  have hP : va_P (dC, dI) vwCl [(h0, .inr (10, [.int 0, .int 0, .int 0, .int 0, .ref (md 4), .ref (md 5), .ref (md 6), .ref (md 7), .ref (md 8), .ref (md 9), .ref (md 10), .ref (md 11), .int 0, .ref (md 13), .ref (md 14), .ref (md 15), .ref (md 16), .ref (md 17), .ref (md 18), .ref (md 19), .int 17, .int 0, .int 0, .int 0, .int (-1), .int 0, .ref (md 26), .ref (md 27), .ref (md 28), .ref (md 29), .ref (md 30), .ref (md 31), .ref (md 32), .ref (md 33), .ref (md 34), .ref (md 35), .int 0, .int 0, .int 0, .int 0, .int 0, .int 0, .int 0, .int 0, .int (-1), .int 0, .int 0, .ref (md 47), .ref (md 48), .ref (md 49), .ref (md 50)])), ((md 19), .inl ((mq 19), 1500, .inl (upd f_4 (17 : Int32).toNatClampNeg z_8)))] _ := hP
  have hD : va_D _ [(h0, .inr (10, [.int 0, .int 0, .int 0, .int 0, .ref (md 4), .ref (md 5), .ref (md 6), .ref (md 7), .ref (md 8), .ref (md 9), .ref (md 10), .ref (md 11), .int 0, .ref (md 13), .ref (md 14), .ref (md 15), .ref (md 16), .ref (md 17), .ref (md 18), .ref (md 19), .int 17, .int 0, .int 0, .int 0, .int (-1), .int 0, .ref (md 26), .ref (md 27), .ref (md 28), .ref (md 29), .ref (md 30), .ref (md 31), .ref (md 32), .ref (md 33), .ref (md 34), .ref (md 35), .int 0, .int 0, .int 0, .int 0, .int 0, .int 0, .int 0, .int 0, .int (-1), .int 0, .int 0, .ref (md 47), .ref (md 48), .ref (md 49), .ref (md 50)])), ((md 19), .inl ((mq 19), 1500, .inl (upd f_4 (17 : Int32).toNatClampNeg z_8)))] := hD
  obtain ⟨f_9, ef_9⟩ : ∃ z, z = (upd f_4 (17 : Int32).toNatClampNeg z_8) := ⟨_, rfl⟩
  rw [← ef_9] at hP hD
  refine lv_aload_n hx hb dX10_lays_23 rfl (lv_at hl 1 rfl) ?_
  refine lv_dup hx hb dX10_lays_24 rfl ?_
  refine va_get (D := (dC, dI)) (ci := 10) (v := .int 17) (C := RX10) (T := TX10) (N := 51) hx hb hts inw_X10_lays_10 hown hK hP 0 rfl rfl 20 (by decide) (hts (.fieldLink RX10 159 "VatHouseModel" "taped" "I") (by decide +kernel)) (fun _ h9 => h9) rfl dX10_lays_25 ?_
  refine lv_iconst (v := 1) hx hb dX10_lays_28 (by decide) ?_
  refine lv_iadd hx hb dX10_lays_29 ?_
  refine lv_topi (fun z_10 ez_10 => ?_)
  obtain rfl : z_10 = 18 := ez_10.trans (by decide)
  refine va_put (D := (dC, dI)) (ci := 10) (v := .int 18) (ty := .int) (C := RX10) (T := TX10) (N := 51) hx hb hts inw_X10_lays_10 tyX10 tyX10_ok nmX10 hown hK hP hD hS 0 rfl rfl 20 (by decide) (hts (.fieldLink RX10 159 "VatHouseModel" "taped" "I") (by decide +kernel)) (fun _ h9 => h9) rfl (by decide +kernel) rfl rfl (Nat.le_of_ble_eq_true rfl) dX10_lays_30 (fun H locs hP hD hS => ?_)
  have hP : va_P (dC, dI) vwCl [(h0, .inr (10, [.int 0, .int 0, .int 0, .int 0, .ref (md 4), .ref (md 5), .ref (md 6), .ref (md 7), .ref (md 8), .ref (md 9), .ref (md 10), .ref (md 11), .int 0, .ref (md 13), .ref (md 14), .ref (md 15), .ref (md 16), .ref (md 17), .ref (md 18), .ref (md 19), .int 18, .int 0, .int 0, .int 0, .int (-1), .int 0, .ref (md 26), .ref (md 27), .ref (md 28), .ref (md 29), .ref (md 30), .ref (md 31), .ref (md 32), .ref (md 33), .ref (md 34), .ref (md 35), .int 0, .int 0, .int 0, .int 0, .int 0, .int 0, .int 0, .int 0, .int (-1), .int 0, .int 0, .ref (md 47), .ref (md 48), .ref (md 49), .ref (md 50)])), ((md 19), .inl ((mq 19), 1500, .inl f_9))] _ := hP
  have hD : va_D _ [(h0, .inr (10, [.int 0, .int 0, .int 0, .int 0, .ref (md 4), .ref (md 5), .ref (md 6), .ref (md 7), .ref (md 8), .ref (md 9), .ref (md 10), .ref (md 11), .int 0, .ref (md 13), .ref (md 14), .ref (md 15), .ref (md 16), .ref (md 17), .ref (md 18), .ref (md 19), .int 18, .int 0, .int 0, .int 0, .int (-1), .int 0, .ref (md 26), .ref (md 27), .ref (md 28), .ref (md 29), .ref (md 30), .ref (md 31), .ref (md 32), .ref (md 33), .ref (md 34), .ref (md 35), .int 0, .int 0, .int 0, .int 0, .int 0, .int 0, .int 0, .int 0, .int (-1), .int 0, .int 0, .ref (md 47), .ref (md 48), .ref (md 49), .ref (md 50)])), ((md 19), .inl ((mq 19), 1500, .inl f_9))] := hD
  refine lv_iinc (v := 8) (lv' := [(2, .int 8), (0, .ref h0), (1, .int n)]) hx hb dX10_lays_33 hl (k := 0) rfl (by decide) (by decide) rfl (fun ls hl => ?_)
  refine lv_goto (tgt := 3) hx hb dX10_lays_36 (by decide) ?_
  refine lv_iload_n hx hb dX10_lays_3 rfl (lv_at hl 0 rfl) ?_
  refine lv_if_lt (tgt := 39) hx hb dX10_lays_4 (by decide) (fun c_11 => ?_) (fun c_11 => ?_)
  · exact absurd c_11 (by decide)
  refine lv_aload_n hx hb dX10_lays_7 rfl (lv_at hl 1 rfl) ?_
  refine va_get (D := (dC, dI)) (ci := 10) (v := .ref (md 19)) (C := RX10) (T := TX10) (N := 51) hx hb hts inw_X10_lays_10 hown hK hP 0 rfl rfl 19 (by decide) (hts (.fieldLink RX10 53 "VatHouseModel" "tape" "[I") (by decide +kernel)) (fun _ h9 => h9) rfl dX10_lays_8 ?_
  refine lv_aload_n hx hb dX10_lays_11 rfl (lv_at hl 1 rfl) ?_
  refine va_get (D := (dC, dI)) (ci := 10) (v := .int 18) (C := RX10) (T := TX10) (N := 51) hx hb hts inw_X10_lays_10 hown hK hP 0 rfl rfl 20 (by decide) (hts (.fieldLink RX10 159 "VatHouseModel" "taped" "I") (by decide +kernel)) (fun _ h9 => h9) rfl dX10_lays_12 ?_
  refine lv_iload_n hx hb dX10_lays_15 rfl (lv_at hl 2 rfl) ?_
  refine lv_iload_n hx hb dX10_lays_16 rfl (lv_at hl 0 rfl) ?_
  refine lv_ishr hx hb dX10_lays_17 ?_
  refine lv_topi (fun z_12 ez_12 => ?_)
  refine lv_sipush (v := 255) hx hb dX10_lays_18 (by decide) ?_
  refine lv_iand hx hb dX10_lays_21 ?_
  refine lv_topi (fun z_13 ez_13 => ?_)
  refine va_iast hx hb hK hP hD hS 1 0 rfl rfl (by unfold vp_in; decide) dX10_lays_22 (fun H locs hP hD hS => ?_)
  have hP : va_P (dC, dI) vwCl [(h0, .inr (10, [.int 0, .int 0, .int 0, .int 0, .ref (md 4), .ref (md 5), .ref (md 6), .ref (md 7), .ref (md 8), .ref (md 9), .ref (md 10), .ref (md 11), .int 0, .ref (md 13), .ref (md 14), .ref (md 15), .ref (md 16), .ref (md 17), .ref (md 18), .ref (md 19), .int 18, .int 0, .int 0, .int 0, .int (-1), .int 0, .ref (md 26), .ref (md 27), .ref (md 28), .ref (md 29), .ref (md 30), .ref (md 31), .ref (md 32), .ref (md 33), .ref (md 34), .ref (md 35), .int 0, .int 0, .int 0, .int 0, .int 0, .int 0, .int 0, .int 0, .int (-1), .int 0, .int 0, .ref (md 47), .ref (md 48), .ref (md 49), .ref (md 50)])), ((md 19), .inl ((mq 19), 1500, .inl (upd f_9 (18 : Int32).toNatClampNeg z_13)))] _ := hP
  have hD : va_D _ [(h0, .inr (10, [.int 0, .int 0, .int 0, .int 0, .ref (md 4), .ref (md 5), .ref (md 6), .ref (md 7), .ref (md 8), .ref (md 9), .ref (md 10), .ref (md 11), .int 0, .ref (md 13), .ref (md 14), .ref (md 15), .ref (md 16), .ref (md 17), .ref (md 18), .ref (md 19), .int 18, .int 0, .int 0, .int 0, .int (-1), .int 0, .ref (md 26), .ref (md 27), .ref (md 28), .ref (md 29), .ref (md 30), .ref (md 31), .ref (md 32), .ref (md 33), .ref (md 34), .ref (md 35), .int 0, .int 0, .int 0, .int 0, .int 0, .int 0, .int 0, .int 0, .int (-1), .int 0, .int 0, .ref (md 47), .ref (md 48), .ref (md 49), .ref (md 50)])), ((md 19), .inl ((mq 19), 1500, .inl (upd f_9 (18 : Int32).toNatClampNeg z_13)))] := hD
  obtain ⟨f_14, ef_14⟩ : ∃ z, z = (upd f_9 (18 : Int32).toNatClampNeg z_13) := ⟨_, rfl⟩
  rw [← ef_14] at hP hD
  refine lv_aload_n hx hb dX10_lays_23 rfl (lv_at hl 1 rfl) ?_
  refine lv_dup hx hb dX10_lays_24 rfl ?_
  refine va_get (D := (dC, dI)) (ci := 10) (v := .int 18) (C := RX10) (T := TX10) (N := 51) hx hb hts inw_X10_lays_10 hown hK hP 0 rfl rfl 20 (by decide) (hts (.fieldLink RX10 159 "VatHouseModel" "taped" "I") (by decide +kernel)) (fun _ h9 => h9) rfl dX10_lays_25 ?_
  refine lv_iconst (v := 1) hx hb dX10_lays_28 (by decide) ?_
  refine lv_iadd hx hb dX10_lays_29 ?_
  refine lv_topi (fun z_15 ez_15 => ?_)
  obtain rfl : z_15 = 19 := ez_15.trans (by decide)
  refine va_put (D := (dC, dI)) (ci := 10) (v := .int 19) (ty := .int) (C := RX10) (T := TX10) (N := 51) hx hb hts inw_X10_lays_10 tyX10 tyX10_ok nmX10 hown hK hP hD hS 0 rfl rfl 20 (by decide) (hts (.fieldLink RX10 159 "VatHouseModel" "taped" "I") (by decide +kernel)) (fun _ h9 => h9) rfl (by decide +kernel) rfl rfl (Nat.le_of_ble_eq_true rfl) dX10_lays_30 (fun H locs hP hD hS => ?_)
  have hP : va_P (dC, dI) vwCl [(h0, .inr (10, [.int 0, .int 0, .int 0, .int 0, .ref (md 4), .ref (md 5), .ref (md 6), .ref (md 7), .ref (md 8), .ref (md 9), .ref (md 10), .ref (md 11), .int 0, .ref (md 13), .ref (md 14), .ref (md 15), .ref (md 16), .ref (md 17), .ref (md 18), .ref (md 19), .int 19, .int 0, .int 0, .int 0, .int (-1), .int 0, .ref (md 26), .ref (md 27), .ref (md 28), .ref (md 29), .ref (md 30), .ref (md 31), .ref (md 32), .ref (md 33), .ref (md 34), .ref (md 35), .int 0, .int 0, .int 0, .int 0, .int 0, .int 0, .int 0, .int 0, .int (-1), .int 0, .int 0, .ref (md 47), .ref (md 48), .ref (md 49), .ref (md 50)])), ((md 19), .inl ((mq 19), 1500, .inl f_14))] _ := hP
  have hD : va_D _ [(h0, .inr (10, [.int 0, .int 0, .int 0, .int 0, .ref (md 4), .ref (md 5), .ref (md 6), .ref (md 7), .ref (md 8), .ref (md 9), .ref (md 10), .ref (md 11), .int 0, .ref (md 13), .ref (md 14), .ref (md 15), .ref (md 16), .ref (md 17), .ref (md 18), .ref (md 19), .int 19, .int 0, .int 0, .int 0, .int (-1), .int 0, .ref (md 26), .ref (md 27), .ref (md 28), .ref (md 29), .ref (md 30), .ref (md 31), .ref (md 32), .ref (md 33), .ref (md 34), .ref (md 35), .int 0, .int 0, .int 0, .int 0, .int 0, .int 0, .int 0, .int 0, .int (-1), .int 0, .int 0, .ref (md 47), .ref (md 48), .ref (md 49), .ref (md 50)])), ((md 19), .inl ((mq 19), 1500, .inl f_14))] := hD
  refine lv_iinc (v := 0) (lv' := [(2, .int 0), (0, .ref h0), (1, .int n)]) hx hb dX10_lays_33 hl (k := 0) rfl (by decide) (by decide) rfl (fun ls hl => ?_)
  refine lv_goto (tgt := 3) hx hb dX10_lays_36 (by decide) ?_
  refine lv_iload_n hx hb dX10_lays_3 rfl (lv_at hl 0 rfl) ?_
  refine lv_if_lt (tgt := 39) hx hb dX10_lays_4 (by decide) (fun c_16 => ?_) (fun c_16 => ?_)
  · exact absurd c_16 (by decide)
  refine lv_aload_n hx hb dX10_lays_7 rfl (lv_at hl 1 rfl) ?_
  refine va_get (D := (dC, dI)) (ci := 10) (v := .ref (md 19)) (C := RX10) (T := TX10) (N := 51) hx hb hts inw_X10_lays_10 hown hK hP 0 rfl rfl 19 (by decide) (hts (.fieldLink RX10 53 "VatHouseModel" "tape" "[I") (by decide +kernel)) (fun _ h9 => h9) rfl dX10_lays_8 ?_
  refine lv_aload_n hx hb dX10_lays_11 rfl (lv_at hl 1 rfl) ?_
  refine va_get (D := (dC, dI)) (ci := 10) (v := .int 19) (C := RX10) (T := TX10) (N := 51) hx hb hts inw_X10_lays_10 hown hK hP 0 rfl rfl 20 (by decide) (hts (.fieldLink RX10 159 "VatHouseModel" "taped" "I") (by decide +kernel)) (fun _ h9 => h9) rfl dX10_lays_12 ?_
  refine lv_iload_n hx hb dX10_lays_15 rfl (lv_at hl 2 rfl) ?_
  refine lv_iload_n hx hb dX10_lays_16 rfl (lv_at hl 0 rfl) ?_
  refine lv_ishr hx hb dX10_lays_17 ?_
  refine lv_topi (fun z_17 ez_17 => ?_)
  refine lv_sipush (v := 255) hx hb dX10_lays_18 (by decide) ?_
  refine lv_iand hx hb dX10_lays_21 ?_
  refine lv_topi (fun z_18 ez_18 => ?_)
  refine va_iast hx hb hK hP hD hS 1 0 rfl rfl (by unfold vp_in; decide) dX10_lays_22 (fun H locs hP hD hS => ?_)
  have hP : va_P (dC, dI) vwCl [(h0, .inr (10, [.int 0, .int 0, .int 0, .int 0, .ref (md 4), .ref (md 5), .ref (md 6), .ref (md 7), .ref (md 8), .ref (md 9), .ref (md 10), .ref (md 11), .int 0, .ref (md 13), .ref (md 14), .ref (md 15), .ref (md 16), .ref (md 17), .ref (md 18), .ref (md 19), .int 19, .int 0, .int 0, .int 0, .int (-1), .int 0, .ref (md 26), .ref (md 27), .ref (md 28), .ref (md 29), .ref (md 30), .ref (md 31), .ref (md 32), .ref (md 33), .ref (md 34), .ref (md 35), .int 0, .int 0, .int 0, .int 0, .int 0, .int 0, .int 0, .int 0, .int (-1), .int 0, .int 0, .ref (md 47), .ref (md 48), .ref (md 49), .ref (md 50)])), ((md 19), .inl ((mq 19), 1500, .inl (upd f_14 (19 : Int32).toNatClampNeg z_18)))] _ := hP
  have hD : va_D _ [(h0, .inr (10, [.int 0, .int 0, .int 0, .int 0, .ref (md 4), .ref (md 5), .ref (md 6), .ref (md 7), .ref (md 8), .ref (md 9), .ref (md 10), .ref (md 11), .int 0, .ref (md 13), .ref (md 14), .ref (md 15), .ref (md 16), .ref (md 17), .ref (md 18), .ref (md 19), .int 19, .int 0, .int 0, .int 0, .int (-1), .int 0, .ref (md 26), .ref (md 27), .ref (md 28), .ref (md 29), .ref (md 30), .ref (md 31), .ref (md 32), .ref (md 33), .ref (md 34), .ref (md 35), .int 0, .int 0, .int 0, .int 0, .int 0, .int 0, .int 0, .int 0, .int (-1), .int 0, .int 0, .ref (md 47), .ref (md 48), .ref (md 49), .ref (md 50)])), ((md 19), .inl ((mq 19), 1500, .inl (upd f_14 (19 : Int32).toNatClampNeg z_18)))] := hD
  obtain ⟨f_19, ef_19⟩ : ∃ z, z = (upd f_14 (19 : Int32).toNatClampNeg z_18) := ⟨_, rfl⟩
  rw [← ef_19] at hP hD
  refine lv_aload_n hx hb dX10_lays_23 rfl (lv_at hl 1 rfl) ?_
  refine lv_dup hx hb dX10_lays_24 rfl ?_
  refine va_get (D := (dC, dI)) (ci := 10) (v := .int 19) (C := RX10) (T := TX10) (N := 51) hx hb hts inw_X10_lays_10 hown hK hP 0 rfl rfl 20 (by decide) (hts (.fieldLink RX10 159 "VatHouseModel" "taped" "I") (by decide +kernel)) (fun _ h9 => h9) rfl dX10_lays_25 ?_
  refine lv_iconst (v := 1) hx hb dX10_lays_28 (by decide) ?_
  refine lv_iadd hx hb dX10_lays_29 ?_
  refine lv_topi (fun z_20 ez_20 => ?_)
  obtain rfl : z_20 = 20 := ez_20.trans (by decide)
  refine va_put (D := (dC, dI)) (ci := 10) (v := .int 20) (ty := .int) (C := RX10) (T := TX10) (N := 51) hx hb hts inw_X10_lays_10 tyX10 tyX10_ok nmX10 hown hK hP hD hS 0 rfl rfl 20 (by decide) (hts (.fieldLink RX10 159 "VatHouseModel" "taped" "I") (by decide +kernel)) (fun _ h9 => h9) rfl (by decide +kernel) rfl rfl (Nat.le_of_ble_eq_true rfl) dX10_lays_30 (fun H locs hP hD hS => ?_)
  have hP : va_P (dC, dI) vwCl [(h0, .inr (10, [.int 0, .int 0, .int 0, .int 0, .ref (md 4), .ref (md 5), .ref (md 6), .ref (md 7), .ref (md 8), .ref (md 9), .ref (md 10), .ref (md 11), .int 0, .ref (md 13), .ref (md 14), .ref (md 15), .ref (md 16), .ref (md 17), .ref (md 18), .ref (md 19), .int 20, .int 0, .int 0, .int 0, .int (-1), .int 0, .ref (md 26), .ref (md 27), .ref (md 28), .ref (md 29), .ref (md 30), .ref (md 31), .ref (md 32), .ref (md 33), .ref (md 34), .ref (md 35), .int 0, .int 0, .int 0, .int 0, .int 0, .int 0, .int 0, .int 0, .int (-1), .int 0, .int 0, .ref (md 47), .ref (md 48), .ref (md 49), .ref (md 50)])), ((md 19), .inl ((mq 19), 1500, .inl f_19))] _ := hP
  have hD : va_D _ [(h0, .inr (10, [.int 0, .int 0, .int 0, .int 0, .ref (md 4), .ref (md 5), .ref (md 6), .ref (md 7), .ref (md 8), .ref (md 9), .ref (md 10), .ref (md 11), .int 0, .ref (md 13), .ref (md 14), .ref (md 15), .ref (md 16), .ref (md 17), .ref (md 18), .ref (md 19), .int 20, .int 0, .int 0, .int 0, .int (-1), .int 0, .ref (md 26), .ref (md 27), .ref (md 28), .ref (md 29), .ref (md 30), .ref (md 31), .ref (md 32), .ref (md 33), .ref (md 34), .ref (md 35), .int 0, .int 0, .int 0, .int 0, .int 0, .int 0, .int 0, .int 0, .int (-1), .int 0, .int 0, .ref (md 47), .ref (md 48), .ref (md 49), .ref (md 50)])), ((md 19), .inl ((mq 19), 1500, .inl f_19))] := hD
  refine lv_iinc (v := (-8)) (lv' := [(2, .int (-8)), (0, .ref h0), (1, .int n)]) hx hb dX10_lays_33 hl (k := 0) rfl (by decide) (by decide) rfl (fun ls hl => ?_)
  refine lv_goto (tgt := 3) hx hb dX10_lays_36 (by decide) ?_
  refine lv_iload_n hx hb dX10_lays_3 rfl (lv_at hl 0 rfl) ?_
  refine lv_if_lt (tgt := 39) hx hb dX10_lays_4 (by decide) (fun c_21 => ?_) (fun c_21 => ?_)
  rotate_left
  · exact absurd c_21 (by decide)
  exact en_v hx hb hr hlocks hP hD hK hS f_19 ⟨rfl, trivial⟩ [0, 1] [] rfl rfl rfl (Nat.le_of_ble_eq_true rfl) (Nat.le_of_ble_eq_true rfl) dX10_lays_39

abbrev rm_X10_put : Room := { frames := 1, cells := 0, slots := 0, locals := 22 }
theorem inw_X10_put_10 : ∀ w ∈ wsX100, w ∈ wsX10_put := by decide +kernel
set_option maxHeartbeats 800000 in
set_option maxRecDepth 100000 in
theorem c_X10_put (l : Launch) (dC : Nat → ClassId) (dI : Nat → Nat → Nat) (sa : Nat → Nat) (hlt : l.stackTraces = false) (sz : Nat) (h0 : Nat) (md : Nat → Nat) (mq : Nat → ClassId) (p0 : Int32) (p1 : Int32) (p2 : Int32) (p3 : Int32) (p4 : Int32) : CT l dC dI sa yX10_put wsX10_put rm_X10_put [.ref h0, .int p0, .int p1, .int p2, .int p3, .int p4] [(h0, .inr (10, [.int 0, .int 0, .int 0, .int 0, .ref (md 4), .ref (md 5), .ref (md 6), .ref (md 7), .ref (md 8), .ref (md 9), .ref (md 10), .ref (md 11), .int 0, .ref (md 13), .ref (md 14), .ref (md 15), .ref (md 16), .ref (md 17), .ref (md 18), .ref (md 19), .int 0, .int 0, .int 0, .int 0, .int (-1), .int 0, .ref (md 26), .ref (md 27), .ref (md 28), .ref (md 29), .ref (md 30), .ref (md 31), .ref (md 32), .ref (md 33), .ref (md 34), .ref (md 35), .int 0, .int 0, .int 0, .int 0, .int 0, .int 0, .int 0, .int 0, .int (-1), .int 0, .int 0, .ref (md 47), .ref (md 48), .ref (md 49), .ref (md 50)])), ((md 19), .inl ((mq 19), 1500, .inl (fun _ => 0)))] [((mq 19), .int)] sz (fun (r : Option Value) (u : Int32 × (Nat → Int32)) => match u with | (x, J) => r = some (.int x) ∧ (x = 20)) (fun (u : Int32 × (Nat → Int32)) => match u with | (x, J) => [(h0, .inr (10, [.int (J 0), .int (J 1), .int (J 2), .int (J 3), .ref (md 4), .ref (md 5), .ref (md 6), .ref (md 7), .ref (md 8), .ref (md 9), .ref (md 10), .ref (md 11), .int (J 12), .ref (md 13), .ref (md 14), .ref (md 15), .ref (md 16), .ref (md 17), .ref (md 18), .ref (md 19), .int (J 20), .int (J 21), .int (J 22), .int (J 23), .int (J 24), .int (J 25), .ref (md 26), .ref (md 27), .ref (md 28), .ref (md 29), .ref (md 30), .ref (md 31), .ref (md 32), .ref (md 33), .ref (md 34), .ref (md 35), .int (J 36), .int (J 37), .int (J 38), .int (J 39), .int (J 40), .int (J 41), .int (J 42), .int (J 43), .int (J 44), .int (J 45), .int (J 46), .ref (md 47), .ref (md 48), .ref (md 49), .ref (md 50)]))]) (fun (u : Int32 × (Nat → Int32)) => match u with | (x, J) => []) 0 0 := by
  refine CT.start (cc := cX10_put) (maxL := 6) (ret := (some .int)) (by decide) rfl (Nat.le_of_ble_eq_true rfl) ?_
  intro p e s m below meth c ls hst hP hK hD hev hS hl
  obtain ⟨hx, hb, hr, hml, hts, hown, hlocks, hin⟩ := hst
  have hown : s.vm.findClass RX10 = some m.cls := hown
  have hin : meth.name = yX10_put.name := hin
  have hA : ∀ q : Nat, s.heap.size ≤ q → va_A [(h0, .inr (10, [.int 0, .int 0, .int 0, .int 0, .ref (md 4), .ref (md 5), .ref (md 6), .ref (md 7), .ref (md 8), .ref (md 9), .ref (md 10), .ref (md 11), .int 0, .ref (md 13), .ref (md 14), .ref (md 15), .ref (md 16), .ref (md 17), .ref (md 18), .ref (md 19), .int 0, .int 0, .int 0, .int 0, .int (-1), .int 0, .ref (md 26), .ref (md 27), .ref (md 28), .ref (md 29), .ref (md 30), .ref (md 31), .ref (md 32), .ref (md 33), .ref (md 34), .ref (md 35), .int 0, .int 0, .int 0, .int 0, .int 0, .int 0, .int 0, .int 0, .int (-1), .int 0, .int 0, .ref (md 47), .ref (md 48), .ref (md 49), .ref (md 50)])), ((md 19), .inl ((mq 19), 1500, .inl (fun _ => 0)))] s.heap.size q := fun _ h => Or.inr h
  have hl : lv_has ls 6 [(0, .ref h0), (1, .int p0), (2, .int p1), (3, .int p2), (4, .int p3), (5, .int p4)] := hl
  refine lv_aload_n hx hb dX10_put_0 rfl (lv_at hl 0 rfl) ?_
  refine lv_iconst (v := 0) hx hb dX10_put_1 (by decide) ?_
  refine va_put (D := (dC, dI)) (ci := 10) (v := .int 0) (ty := .int) (C := RX10) (T := TX10) (N := 51) hx hb hts inw_X10_put_10 tyX10 tyX10_ok nmX10 hown hK hP hD hS 0 rfl rfl 0 (by decide) (hts (.fieldLink RX10 105 "VatHouseModel" "thrown" "I") (by decide +kernel)) (fun _ h9 => h9) rfl (by decide +kernel) rfl rfl (Nat.le_of_ble_eq_true rfl) dX10_put_2 (fun H locs hP hD hS => ?_)
  have hP : va_P (dC, dI) vwCl [(h0, .inr (10, [.int 0, .int 0, .int 0, .int 0, .ref (md 4), .ref (md 5), .ref (md 6), .ref (md 7), .ref (md 8), .ref (md 9), .ref (md 10), .ref (md 11), .int 0, .ref (md 13), .ref (md 14), .ref (md 15), .ref (md 16), .ref (md 17), .ref (md 18), .ref (md 19), .int 0, .int 0, .int 0, .int 0, .int (-1), .int 0, .ref (md 26), .ref (md 27), .ref (md 28), .ref (md 29), .ref (md 30), .ref (md 31), .ref (md 32), .ref (md 33), .ref (md 34), .ref (md 35), .int 0, .int 0, .int 0, .int 0, .int 0, .int 0, .int 0, .int 0, .int (-1), .int 0, .int 0, .ref (md 47), .ref (md 48), .ref (md 49), .ref (md 50)])), ((md 19), .inl ((mq 19), 1500, .inl (fun _ => 0)))] _ := hP
  have hD : va_D _ [(h0, .inr (10, [.int 0, .int 0, .int 0, .int 0, .ref (md 4), .ref (md 5), .ref (md 6), .ref (md 7), .ref (md 8), .ref (md 9), .ref (md 10), .ref (md 11), .int 0, .ref (md 13), .ref (md 14), .ref (md 15), .ref (md 16), .ref (md 17), .ref (md 18), .ref (md 19), .int 0, .int 0, .int 0, .int 0, .int (-1), .int 0, .ref (md 26), .ref (md 27), .ref (md 28), .ref (md 29), .ref (md 30), .ref (md 31), .ref (md 32), .ref (md 33), .ref (md 34), .ref (md 35), .int 0, .int 0, .int 0, .int 0, .int 0, .int 0, .int 0, .int 0, .int (-1), .int 0, .int 0, .ref (md 47), .ref (md 48), .ref (md 49), .ref (md 50)])), ((md 19), .inl ((mq 19), 1500, .inl (fun _ => 0)))] := hD
  refine lv_aload_n hx hb dX10_put_5 rfl (lv_at hl 0 rfl) ?_
  refine va_get (D := (dC, dI)) (ci := 10) (v := .int 0) (C := RX10) (T := TX10) (N := 51) hx hb hts inw_X10_put_10 hown hK hP 0 rfl rfl 20 (by decide) (hts (.fieldLink RX10 159 "VatHouseModel" "taped" "I") (by decide +kernel)) (fun _ h9 => h9) rfl dX10_put_6 ?_
  refine lv_bipush (v := 20) hx hb dX10_put_9 (by decide) ?_
  refine lv_iadd hx hb dX10_put_11 ?_
  refine lv_topi (fun z_1 ez_1 => ?_)
  obtain rfl : z_1 = 20 := ez_1.trans (by decide)
  refine lv_sipush (v := 1500) hx hb dX10_put_12 (by decide) ?_
  refine lv_icmp_le (tgt := 20) hx hb dX10_put_15 (by decide) (fun c_2 => ?_) (fun c_2 => ?_)
  rotate_left
  · exact absurd c_2 (by decide)
  refine lv_aload_n hx hb dX10_put_20 rfl (lv_at hl 0 rfl) ?_
  refine lv_iload_n hx hb dX10_put_21 rfl (lv_at hl 1 rfl) ?_
  refine go_V (wr := []) ⟨hx, hb, hml, hown, hts⟩ (c_X10_lays_0 l dC dI sa hlt _ h0 md mq (fun _ => 0) p0 ) (cwV 1 hts gX10_put_X10_lays rfl rfl rfl (by decide +kernel) ⟨Nat.le_of_ble_eq_true rfl, Nat.le_of_ble_eq_true rfl⟩) hP hD hK hS hA hev [0, 1] [] [0] rfl rfl rfl rfl (by decide) rfl 0 10 rfl rfl rfl rfl hl.1 rfl (Nat.le_of_ble_eq_true rfl) dX10_put_22 ⟨Nat.le_of_ble_eq_true rfl, Nat.le_of_ble_eq_true rfl⟩ (fun r u H locs hw hP hD hK hS => ?_)
  obtain ⟨g_3, rfl⟩ : ∃ z, z = u := ⟨_, rfl⟩
  have hw : r = none ∧ (True) := hw
  obtain ⟨rfl, hw_4⟩ := hw
  have hP : va_P (dC, dI) vwCl [(h0, .inr (10, [.int 0, .int 0, .int 0, .int 0, .ref (md 4), .ref (md 5), .ref (md 6), .ref (md 7), .ref (md 8), .ref (md 9), .ref (md 10), .ref (md 11), .int 0, .ref (md 13), .ref (md 14), .ref (md 15), .ref (md 16), .ref (md 17), .ref (md 18), .ref (md 19), .int 4, .int 0, .int 0, .int 0, .int (-1), .int 0, .ref (md 26), .ref (md 27), .ref (md 28), .ref (md 29), .ref (md 30), .ref (md 31), .ref (md 32), .ref (md 33), .ref (md 34), .ref (md 35), .int 0, .int 0, .int 0, .int 0, .int 0, .int 0, .int 0, .int 0, .int (-1), .int 0, .int 0, .ref (md 47), .ref (md 48), .ref (md 49), .ref (md 50)])), ((md 19), .inl ((mq 19), 1500, .inl g_3))] _ := hP
  have hD : va_D _ [(h0, .inr (10, [.int 0, .int 0, .int 0, .int 0, .ref (md 4), .ref (md 5), .ref (md 6), .ref (md 7), .ref (md 8), .ref (md 9), .ref (md 10), .ref (md 11), .int 0, .ref (md 13), .ref (md 14), .ref (md 15), .ref (md 16), .ref (md 17), .ref (md 18), .ref (md 19), .int 4, .int 0, .int 0, .int 0, .int (-1), .int 0, .ref (md 26), .ref (md 27), .ref (md 28), .ref (md 29), .ref (md 30), .ref (md 31), .ref (md 32), .ref (md 33), .ref (md 34), .ref (md 35), .int 0, .int 0, .int 0, .int 0, .int 0, .int 0, .int 0, .int 0, .int (-1), .int 0, .int 0, .ref (md 47), .ref (md 48), .ref (md 49), .ref (md 50)])), ((md 19), .inl ((mq 19), 1500, .inl g_3))] := hD
  have hK : va_K (dC, dI) vwCl [((mq 19), .int)] s := hK
  refine W.eq (g2 := F0 m 25 ls []) rfl ?_
  refine lv_aload_n hx hb dX10_put_25 rfl (lv_at hl 0 rfl) ?_
  refine lv_iload_n hx hb dX10_put_26 rfl (lv_at hl 2 rfl) ?_
  refine go_V (wr := []) ⟨hx, hb, hml, hown, hts⟩ (c_X10_lays_4 l dC dI sa hlt _ h0 md mq g_3 p1 ) (cwV 1 hts gX10_put_X10_lays rfl rfl rfl (by decide +kernel) ⟨Nat.le_of_ble_eq_true rfl, Nat.le_of_ble_eq_true rfl⟩) hP hD hK hS hA hev [0, 1] [] [0] rfl rfl rfl rfl (by decide) rfl 0 10 rfl rfl rfl rfl hl.1 rfl (Nat.le_of_ble_eq_true rfl) dX10_put_27 ⟨Nat.le_of_ble_eq_true rfl, Nat.le_of_ble_eq_true rfl⟩ (fun r u H locs hw hP hD hK hS => ?_)
  obtain ⟨g_5, rfl⟩ : ∃ z, z = u := ⟨_, rfl⟩
  have hw : r = none ∧ (True) := hw
  obtain ⟨rfl, hw_6⟩ := hw
  have hP : va_P (dC, dI) vwCl [(h0, .inr (10, [.int 0, .int 0, .int 0, .int 0, .ref (md 4), .ref (md 5), .ref (md 6), .ref (md 7), .ref (md 8), .ref (md 9), .ref (md 10), .ref (md 11), .int 0, .ref (md 13), .ref (md 14), .ref (md 15), .ref (md 16), .ref (md 17), .ref (md 18), .ref (md 19), .int 8, .int 0, .int 0, .int 0, .int (-1), .int 0, .ref (md 26), .ref (md 27), .ref (md 28), .ref (md 29), .ref (md 30), .ref (md 31), .ref (md 32), .ref (md 33), .ref (md 34), .ref (md 35), .int 0, .int 0, .int 0, .int 0, .int 0, .int 0, .int 0, .int 0, .int (-1), .int 0, .int 0, .ref (md 47), .ref (md 48), .ref (md 49), .ref (md 50)])), ((md 19), .inl ((mq 19), 1500, .inl g_5))] _ := hP
  have hD : va_D _ [(h0, .inr (10, [.int 0, .int 0, .int 0, .int 0, .ref (md 4), .ref (md 5), .ref (md 6), .ref (md 7), .ref (md 8), .ref (md 9), .ref (md 10), .ref (md 11), .int 0, .ref (md 13), .ref (md 14), .ref (md 15), .ref (md 16), .ref (md 17), .ref (md 18), .ref (md 19), .int 8, .int 0, .int 0, .int 0, .int (-1), .int 0, .ref (md 26), .ref (md 27), .ref (md 28), .ref (md 29), .ref (md 30), .ref (md 31), .ref (md 32), .ref (md 33), .ref (md 34), .ref (md 35), .int 0, .int 0, .int 0, .int 0, .int 0, .int 0, .int 0, .int 0, .int (-1), .int 0, .int 0, .ref (md 47), .ref (md 48), .ref (md 49), .ref (md 50)])), ((md 19), .inl ((mq 19), 1500, .inl g_5))] := hD
  have hK : va_K (dC, dI) vwCl [((mq 19), .int)] s := hK
  refine W.eq (g2 := F0 m 30 ls []) rfl ?_
  refine lv_aload_n hx hb dX10_put_30 rfl (lv_at hl 0 rfl) ?_
  refine lv_iload_n hx hb dX10_put_31 rfl (lv_at hl 3 rfl) ?_
  refine go_V (wr := []) ⟨hx, hb, hml, hown, hts⟩ (c_X10_lays_8 l dC dI sa hlt _ h0 md mq g_5 p2 ) (cwV 1 hts gX10_put_X10_lays rfl rfl rfl (by decide +kernel) ⟨Nat.le_of_ble_eq_true rfl, Nat.le_of_ble_eq_true rfl⟩) hP hD hK hS hA hev [0, 1] [] [0] rfl rfl rfl rfl (by decide) rfl 0 10 rfl rfl rfl rfl hl.1 rfl (Nat.le_of_ble_eq_true rfl) dX10_put_32 ⟨Nat.le_of_ble_eq_true rfl, Nat.le_of_ble_eq_true rfl⟩ (fun r u H locs hw hP hD hK hS => ?_)
  obtain ⟨g_7, rfl⟩ : ∃ z, z = u := ⟨_, rfl⟩
  have hw : r = none ∧ (True) := hw
  obtain ⟨rfl, hw_8⟩ := hw
  have hP : va_P (dC, dI) vwCl [(h0, .inr (10, [.int 0, .int 0, .int 0, .int 0, .ref (md 4), .ref (md 5), .ref (md 6), .ref (md 7), .ref (md 8), .ref (md 9), .ref (md 10), .ref (md 11), .int 0, .ref (md 13), .ref (md 14), .ref (md 15), .ref (md 16), .ref (md 17), .ref (md 18), .ref (md 19), .int 12, .int 0, .int 0, .int 0, .int (-1), .int 0, .ref (md 26), .ref (md 27), .ref (md 28), .ref (md 29), .ref (md 30), .ref (md 31), .ref (md 32), .ref (md 33), .ref (md 34), .ref (md 35), .int 0, .int 0, .int 0, .int 0, .int 0, .int 0, .int 0, .int 0, .int (-1), .int 0, .int 0, .ref (md 47), .ref (md 48), .ref (md 49), .ref (md 50)])), ((md 19), .inl ((mq 19), 1500, .inl g_7))] _ := hP
  have hD : va_D _ [(h0, .inr (10, [.int 0, .int 0, .int 0, .int 0, .ref (md 4), .ref (md 5), .ref (md 6), .ref (md 7), .ref (md 8), .ref (md 9), .ref (md 10), .ref (md 11), .int 0, .ref (md 13), .ref (md 14), .ref (md 15), .ref (md 16), .ref (md 17), .ref (md 18), .ref (md 19), .int 12, .int 0, .int 0, .int 0, .int (-1), .int 0, .ref (md 26), .ref (md 27), .ref (md 28), .ref (md 29), .ref (md 30), .ref (md 31), .ref (md 32), .ref (md 33), .ref (md 34), .ref (md 35), .int 0, .int 0, .int 0, .int 0, .int 0, .int 0, .int 0, .int 0, .int (-1), .int 0, .int 0, .ref (md 47), .ref (md 48), .ref (md 49), .ref (md 50)])), ((md 19), .inl ((mq 19), 1500, .inl g_7))] := hD
  have hK : va_K (dC, dI) vwCl [((mq 19), .int)] s := hK
  refine W.eq (g2 := F0 m 35 ls []) rfl ?_
  refine lv_aload_n hx hb dX10_put_35 rfl (lv_at hl 0 rfl) ?_
  refine lv_iload hx hb dX10_put_36 (lv_at hl 4 rfl) ?_
  refine go_V (wr := []) ⟨hx, hb, hml, hown, hts⟩ (c_X10_lays_12 l dC dI sa hlt _ h0 md mq g_7 p3 ) (cwV 1 hts gX10_put_X10_lays rfl rfl rfl (by decide +kernel) ⟨Nat.le_of_ble_eq_true rfl, Nat.le_of_ble_eq_true rfl⟩) hP hD hK hS hA hev [0, 1] [] [0] rfl rfl rfl rfl (by decide) rfl 0 10 rfl rfl rfl rfl hl.1 rfl (Nat.le_of_ble_eq_true rfl) dX10_put_38 ⟨Nat.le_of_ble_eq_true rfl, Nat.le_of_ble_eq_true rfl⟩ (fun r u H locs hw hP hD hK hS => ?_)
  obtain ⟨g_9, rfl⟩ : ∃ z, z = u := ⟨_, rfl⟩
  have hw : r = none ∧ (True) := hw
  obtain ⟨rfl, hw_10⟩ := hw
  have hP : va_P (dC, dI) vwCl [(h0, .inr (10, [.int 0, .int 0, .int 0, .int 0, .ref (md 4), .ref (md 5), .ref (md 6), .ref (md 7), .ref (md 8), .ref (md 9), .ref (md 10), .ref (md 11), .int 0, .ref (md 13), .ref (md 14), .ref (md 15), .ref (md 16), .ref (md 17), .ref (md 18), .ref (md 19), .int 16, .int 0, .int 0, .int 0, .int (-1), .int 0, .ref (md 26), .ref (md 27), .ref (md 28), .ref (md 29), .ref (md 30), .ref (md 31), .ref (md 32), .ref (md 33), .ref (md 34), .ref (md 35), .int 0, .int 0, .int 0, .int 0, .int 0, .int 0, .int 0, .int 0, .int (-1), .int 0, .int 0, .ref (md 47), .ref (md 48), .ref (md 49), .ref (md 50)])), ((md 19), .inl ((mq 19), 1500, .inl g_9))] _ := hP
  have hD : va_D _ [(h0, .inr (10, [.int 0, .int 0, .int 0, .int 0, .ref (md 4), .ref (md 5), .ref (md 6), .ref (md 7), .ref (md 8), .ref (md 9), .ref (md 10), .ref (md 11), .int 0, .ref (md 13), .ref (md 14), .ref (md 15), .ref (md 16), .ref (md 17), .ref (md 18), .ref (md 19), .int 16, .int 0, .int 0, .int 0, .int (-1), .int 0, .ref (md 26), .ref (md 27), .ref (md 28), .ref (md 29), .ref (md 30), .ref (md 31), .ref (md 32), .ref (md 33), .ref (md 34), .ref (md 35), .int 0, .int 0, .int 0, .int 0, .int 0, .int 0, .int 0, .int 0, .int (-1), .int 0, .int 0, .ref (md 47), .ref (md 48), .ref (md 49), .ref (md 50)])), ((md 19), .inl ((mq 19), 1500, .inl g_9))] := hD
  have hK : va_K (dC, dI) vwCl [((mq 19), .int)] s := hK
  refine W.eq (g2 := F0 m 41 ls []) rfl ?_
  refine lv_aload_n hx hb dX10_put_41 rfl (lv_at hl 0 rfl) ?_
  refine lv_iload hx hb dX10_put_42 (lv_at hl 5 rfl) ?_
  refine go_V (wr := []) ⟨hx, hb, hml, hown, hts⟩ (c_X10_lays_16 l dC dI sa hlt _ h0 md mq g_9 p4 ) (cwV 1 hts gX10_put_X10_lays rfl rfl rfl (by decide +kernel) ⟨Nat.le_of_ble_eq_true rfl, Nat.le_of_ble_eq_true rfl⟩) hP hD hK hS hA hev [0, 1] [] [0] rfl rfl rfl rfl (by decide) rfl 0 10 rfl rfl rfl rfl hl.1 rfl (Nat.le_of_ble_eq_true rfl) dX10_put_44 ⟨Nat.le_of_ble_eq_true rfl, Nat.le_of_ble_eq_true rfl⟩ (fun r u H locs hw hP hD hK hS => ?_)
  obtain ⟨g_11, rfl⟩ : ∃ z, z = u := ⟨_, rfl⟩
  have hw : r = none ∧ (True) := hw
  obtain ⟨rfl, hw_12⟩ := hw
  have hP : va_P (dC, dI) vwCl [(h0, .inr (10, [.int 0, .int 0, .int 0, .int 0, .ref (md 4), .ref (md 5), .ref (md 6), .ref (md 7), .ref (md 8), .ref (md 9), .ref (md 10), .ref (md 11), .int 0, .ref (md 13), .ref (md 14), .ref (md 15), .ref (md 16), .ref (md 17), .ref (md 18), .ref (md 19), .int 20, .int 0, .int 0, .int 0, .int (-1), .int 0, .ref (md 26), .ref (md 27), .ref (md 28), .ref (md 29), .ref (md 30), .ref (md 31), .ref (md 32), .ref (md 33), .ref (md 34), .ref (md 35), .int 0, .int 0, .int 0, .int 0, .int 0, .int 0, .int 0, .int 0, .int (-1), .int 0, .int 0, .ref (md 47), .ref (md 48), .ref (md 49), .ref (md 50)])), ((md 19), .inl ((mq 19), 1500, .inl g_11))] _ := hP
  have hD : va_D _ [(h0, .inr (10, [.int 0, .int 0, .int 0, .int 0, .ref (md 4), .ref (md 5), .ref (md 6), .ref (md 7), .ref (md 8), .ref (md 9), .ref (md 10), .ref (md 11), .int 0, .ref (md 13), .ref (md 14), .ref (md 15), .ref (md 16), .ref (md 17), .ref (md 18), .ref (md 19), .int 20, .int 0, .int 0, .int 0, .int (-1), .int 0, .ref (md 26), .ref (md 27), .ref (md 28), .ref (md 29), .ref (md 30), .ref (md 31), .ref (md 32), .ref (md 33), .ref (md 34), .ref (md 35), .int 0, .int 0, .int 0, .int 0, .int 0, .int 0, .int 0, .int 0, .int (-1), .int 0, .int 0, .ref (md 47), .ref (md 48), .ref (md 49), .ref (md 50)])), ((md 19), .inl ((mq 19), 1500, .inl g_11))] := hD
  have hK : va_K (dC, dI) vwCl [((mq 19), .int)] s := hK
  refine W.eq (g2 := F0 m 47 ls []) rfl ?_
  refine lv_aload_n hx hb dX10_put_47 rfl (lv_at hl 0 rfl) ?_
  refine va_get (D := (dC, dI)) (ci := 10) (v := .int 20) (C := RX10) (T := TX10) (N := 51) hx hb hts inw_X10_put_10 hown hK hP 0 rfl rfl 20 (by decide) (hts (.fieldLink RX10 159 "VatHouseModel" "taped" "I") (by decide +kernel)) (fun _ h9 => h9) rfl dX10_put_48 ?_
  exact en_i hx hb hr hlocks hP hD hK hS (20, (fun k : Nat => match k with | 0 => 0 | 1 => 0 | 2 => 0 | 3 => 0 | 12 => 0 | 20 => 20 | 21 => 0 | 22 => 0 | 23 => 0 | 24 => (-1) | 25 => 0 | 36 => 0 | 37 => 0 | 38 => 0 | 39 => 0 | 40 => 0 | 41 => 0 | 42 => 0 | 43 => 0 | 44 => (-1) | 45 => 0 | 46 => 0 | _ => 0)) ⟨rfl, rfl⟩ [0] [] rfl rfl rfl (Nat.le_of_ble_eq_true rfl) (Nat.le_of_ble_eq_true rfl) dX10_put_51

abbrev rm_X10_skip : Room := { frames := 0, cells := 0, slots := 0, locals := 0 }
theorem inw_X10_skip_10 : ∀ w ∈ wsX100, w ∈ wsX10_skip := by decide +kernel
set_option maxHeartbeats 800000 in
set_option maxRecDepth 100000 in
theorem c_X10_skip (l : Launch) (dC : Nat → ClassId) (dI : Nat → Nat → Nat) (sa : Nat → Nat) (hlt : l.stackTraces = false) (sz : Nat) (h0 : Nat) (md : Nat → Nat) : CT l dC dI sa yX10_skip wsX10_skip rm_X10_skip [.ref h0] [(h0, .inr (10, [.int 0, .int 0, .int 0, .int 0, .ref (md 4), .ref (md 5), .ref (md 6), .ref (md 7), .ref (md 8), .ref (md 9), .ref (md 10), .ref (md 11), .int 0, .ref (md 13), .ref (md 14), .ref (md 15), .ref (md 16), .ref (md 17), .ref (md 18), .ref (md 19), .int 0, .int 0, .int 0, .int 0, .int (-1), .int 0, .ref (md 26), .ref (md 27), .ref (md 28), .ref (md 29), .ref (md 30), .ref (md 31), .ref (md 32), .ref (md 33), .ref (md 34), .ref (md 35), .int 0, .int 0, .int 0, .int 0, .int 0, .int 0, .int 0, .int 0, .int (-1), .int 0, .int 0, .ref (md 47), .ref (md 48), .ref (md 49), .ref (md 50)]))] [] sz (fun (r : Option Value) (_ : Unit) => r = none ∧ (True)) (fun (_ : Unit) => [(h0, .inr (10, [.int 0, .int 0, .int 0, .int 0, .ref (md 4), .ref (md 5), .ref (md 6), .ref (md 7), .ref (md 8), .ref (md 9), .ref (md 10), .ref (md 11), .int 0, .ref (md 13), .ref (md 14), .ref (md 15), .ref (md 16), .ref (md 17), .ref (md 18), .ref (md 19), .int 0, .int 0, .int 0, .int 0, .int (-1), .int 0, .ref (md 26), .ref (md 27), .ref (md 28), .ref (md 29), .ref (md 30), .ref (md 31), .ref (md 32), .ref (md 33), .ref (md 34), .ref (md 35), .int 0, .int 0, .int 0, .int 0, .int 0, .int 0, .int 0, .int 0, .int (-1), .int 0, .int 0, .ref (md 47), .ref (md 48), .ref (md 49), .ref (md 50)]))]) (fun (_ : Unit) => []) 0 0 := by
  refine CT.start (cc := cX10_skip) (maxL := 1) (ret := none) (by decide) rfl (Nat.le_of_ble_eq_true rfl) ?_
  intro p e s m below meth c ls hst hP hK hD hev hS hl
  obtain ⟨hx, hb, hr, hml, hts, hown, hlocks, hin⟩ := hst
  have hown : s.vm.findClass RX10 = some m.cls := hown
  have hin : meth.name = yX10_skip.name := hin
  have hA : ∀ q : Nat, s.heap.size ≤ q → va_A [(h0, .inr (10, [.int 0, .int 0, .int 0, .int 0, .ref (md 4), .ref (md 5), .ref (md 6), .ref (md 7), .ref (md 8), .ref (md 9), .ref (md 10), .ref (md 11), .int 0, .ref (md 13), .ref (md 14), .ref (md 15), .ref (md 16), .ref (md 17), .ref (md 18), .ref (md 19), .int 0, .int 0, .int 0, .int 0, .int (-1), .int 0, .ref (md 26), .ref (md 27), .ref (md 28), .ref (md 29), .ref (md 30), .ref (md 31), .ref (md 32), .ref (md 33), .ref (md 34), .ref (md 35), .int 0, .int 0, .int 0, .int 0, .int 0, .int 0, .int 0, .int 0, .int (-1), .int 0, .int 0, .ref (md 47), .ref (md 48), .ref (md 49), .ref (md 50)]))] s.heap.size q := fun _ h => Or.inr h
  have hl : lv_has ls 1 [(0, .ref h0)] := hl
  refine lv_aload_n hx hb dX10_skip_0 rfl (lv_at hl 0 rfl) ?_
  refine va_get (D := (dC, dI)) (ci := 10) (v := .int 0) (C := RX10) (T := TX10) (N := 51) hx hb hts inw_X10_skip_10 hown hK hP 0 rfl rfl 22 (by decide) (hts (.fieldLink RX10 168 "VatHouseModel" "at" "I") (by decide +kernel)) (fun _ h9 => h9) rfl dX10_skip_1 ?_
  refine lv_aload_n hx hb dX10_skip_4 rfl (lv_at hl 0 rfl) ?_
  refine va_get (D := (dC, dI)) (ci := 10) (v := .int 0) (C := RX10) (T := TX10) (N := 51) hx hb hts inw_X10_skip_10 hown hK hP 0 rfl rfl 21 (by decide) (hts (.fieldLink RX10 171 "VatHouseModel" "size" "I") (by decide +kernel)) (fun _ h9 => h9) rfl dX10_skip_5 ?_
  refine lv_icmp_ge (tgt := 52) hx hb dX10_skip_8 (by decide) (fun c_1 => ?_) (fun c_1 => ?_)
  rotate_left
  · exact absurd c_1 (by decide)
  exact en_v hx hb hr hlocks hP hD hK hS () ⟨rfl, trivial⟩ [0] [] rfl rfl rfl (Nat.le_of_ble_eq_true rfl) (Nat.le_of_ble_eq_true rfl) dX10_skip_52

abbrev rm_X10_steps : Room := { frames := 1, cells := 0, slots := 0, locals := 20 }
theorem inw_X10_steps_10 : ∀ w ∈ wsX100, w ∈ wsX10_steps := by decide +kernel
set_option maxHeartbeats 800000 in
set_option maxRecDepth 100000 in
theorem c_X10_steps (l : Launch) (dC : Nat → ClassId) (dI : Nat → Nat → Nat) (sa : Nat → Nat) (hlt : l.stackTraces = false) (sz : Nat) (h0 : Nat) (md : Nat → Nat) : CT l dC dI sa yX10_steps wsX10_steps rm_X10_steps [.ref h0, .int 0] [(h0, .inr (10, [.int 0, .int 0, .int 0, .int 0, .ref (md 4), .ref (md 5), .ref (md 6), .ref (md 7), .ref (md 8), .ref (md 9), .ref (md 10), .ref (md 11), .int 0, .ref (md 13), .ref (md 14), .ref (md 15), .ref (md 16), .ref (md 17), .ref (md 18), .ref (md 19), .int 0, .int 0, .int 0, .int 0, .int (-1), .int 0, .ref (md 26), .ref (md 27), .ref (md 28), .ref (md 29), .ref (md 30), .ref (md 31), .ref (md 32), .ref (md 33), .ref (md 34), .ref (md 35), .int 0, .int 0, .int 0, .int 0, .int 0, .int 0, .int 0, .int 0, .int (-1), .int 0, .int 0, .ref (md 47), .ref (md 48), .ref (md 49), .ref (md 50)]))] [] sz (fun (r : Option Value) (_ : Unit) => r = some (.int (-1)) ∧ (True)) (fun (_ : Unit) => [(h0, .inr (10, [.int 0, .int 0, .int 0, .int 0, .ref (md 4), .ref (md 5), .ref (md 6), .ref (md 7), .ref (md 8), .ref (md 9), .ref (md 10), .ref (md 11), .int 0, .ref (md 13), .ref (md 14), .ref (md 15), .ref (md 16), .ref (md 17), .ref (md 18), .ref (md 19), .int 0, .int 0, .int 0, .int 0, .int (-1), .int 0, .ref (md 26), .ref (md 27), .ref (md 28), .ref (md 29), .ref (md 30), .ref (md 31), .ref (md 32), .ref (md 33), .ref (md 34), .ref (md 35), .int 0, .int 0, .int 0, .int 0, .int 0, .int 0, .int 0, .int 0, .int (-1), .int 0, .int 0, .ref (md 47), .ref (md 48), .ref (md 49), .ref (md 50)]))]) (fun (_ : Unit) => []) 0 0 := by
  refine CT.start (cc := cX10_steps) (maxL := 5) (ret := (some .int)) (by decide) rfl (Nat.le_of_ble_eq_true rfl) ?_
  intro p e s m below meth c ls hst hP hK hD hev hS hl
  obtain ⟨hx, hb, hr, hml, hts, hown, hlocks, hin⟩ := hst
  have hown : s.vm.findClass RX10 = some m.cls := hown
  have hin : meth.name = yX10_steps.name := hin
  have hA : ∀ q : Nat, s.heap.size ≤ q → va_A [(h0, .inr (10, [.int 0, .int 0, .int 0, .int 0, .ref (md 4), .ref (md 5), .ref (md 6), .ref (md 7), .ref (md 8), .ref (md 9), .ref (md 10), .ref (md 11), .int 0, .ref (md 13), .ref (md 14), .ref (md 15), .ref (md 16), .ref (md 17), .ref (md 18), .ref (md 19), .int 0, .int 0, .int 0, .int 0, .int (-1), .int 0, .ref (md 26), .ref (md 27), .ref (md 28), .ref (md 29), .ref (md 30), .ref (md 31), .ref (md 32), .ref (md 33), .ref (md 34), .ref (md 35), .int 0, .int 0, .int 0, .int 0, .int 0, .int 0, .int 0, .int 0, .int (-1), .int 0, .int 0, .ref (md 47), .ref (md 48), .ref (md 49), .ref (md 50)]))] s.heap.size q := fun _ h => Or.inr h
  have hl : lv_has ls 5 [(0, .ref h0), (1, .int 0)] := hl
  refine lv_iconst (v := (-1)) hx hb dX10_steps_0 (by decide) ?_
  refine lv_istore_n (lv' := [(2, .int (-1)), (0, .ref h0), (1, .int 0)]) hx hb dX10_steps_1 rfl hl (by decide) rfl (fun ls hl => ?_)
  refine lv_iconst (v := (-1)) hx hb dX10_steps_2 (by decide) ?_
  refine lv_istore_n (lv' := [(3, .int (-1)), (2, .int (-1)), (0, .ref h0), (1, .int 0)]) hx hb dX10_steps_3 rfl hl (by decide) rfl (fun ls hl => ?_)
  refine lv_aload_n hx hb dX10_steps_4 rfl (lv_at hl 2 rfl) ?_
  refine go_V (wr := []) ⟨hx, hb, hml, hown, hts⟩ (c_X10_skip l dC dI sa hlt _ h0 md ) (cwV 0 hts gX10_steps_X10_skip rfl rfl rfl (by decide +kernel) ⟨Nat.le_of_ble_eq_true rfl, Nat.le_of_ble_eq_true rfl⟩) hP hD hK hS hA hev [0] [] [] rfl rfl rfl rfl (by decide) rfl 0 10 rfl rfl rfl rfl hl.1 rfl (Nat.le_of_ble_eq_true rfl) dX10_steps_5 ⟨Nat.le_of_ble_eq_true rfl, Nat.le_of_ble_eq_true rfl⟩ (fun r u H locs hw hP hD hK hS => ?_)
  have hw : r = none ∧ (True) := hw
  obtain ⟨rfl, hw_1⟩ := hw
  have hP : va_P (dC, dI) vwCl [(h0, .inr (10, [.int 0, .int 0, .int 0, .int 0, .ref (md 4), .ref (md 5), .ref (md 6), .ref (md 7), .ref (md 8), .ref (md 9), .ref (md 10), .ref (md 11), .int 0, .ref (md 13), .ref (md 14), .ref (md 15), .ref (md 16), .ref (md 17), .ref (md 18), .ref (md 19), .int 0, .int 0, .int 0, .int 0, .int (-1), .int 0, .ref (md 26), .ref (md 27), .ref (md 28), .ref (md 29), .ref (md 30), .ref (md 31), .ref (md 32), .ref (md 33), .ref (md 34), .ref (md 35), .int 0, .int 0, .int 0, .int 0, .int 0, .int 0, .int 0, .int 0, .int (-1), .int 0, .int 0, .ref (md 47), .ref (md 48), .ref (md 49), .ref (md 50)]))] _ := hP
  have hD : va_D _ [(h0, .inr (10, [.int 0, .int 0, .int 0, .int 0, .ref (md 4), .ref (md 5), .ref (md 6), .ref (md 7), .ref (md 8), .ref (md 9), .ref (md 10), .ref (md 11), .int 0, .ref (md 13), .ref (md 14), .ref (md 15), .ref (md 16), .ref (md 17), .ref (md 18), .ref (md 19), .int 0, .int 0, .int 0, .int 0, .int (-1), .int 0, .ref (md 26), .ref (md 27), .ref (md 28), .ref (md 29), .ref (md 30), .ref (md 31), .ref (md 32), .ref (md 33), .ref (md 34), .ref (md 35), .int 0, .int 0, .int 0, .int 0, .int 0, .int 0, .int 0, .int 0, .int (-1), .int 0, .int 0, .ref (md 47), .ref (md 48), .ref (md 49), .ref (md 50)]))] := hD
  have hK : va_K (dC, dI) vwCl [] s := hK
  refine W.eq (g2 := F0 m 8 ls []) rfl ?_
  refine lv_iload_n hx hb dX10_steps_8 rfl (lv_at hl 3 rfl) ?_
  refine lv_if_eq (tgt := 24) hx hb dX10_steps_9 (by decide) (fun c_2 => ?_) (fun c_2 => ?_)
  rotate_left
  · exact absurd c_2 (by decide)
  refine lv_aload_n hx hb dX10_steps_24 rfl (lv_at hl 2 rfl) ?_
  refine va_get (D := (dC, dI)) (ci := 10) (v := .int 0) (C := RX10) (T := TX10) (N := 51) hx hb hts inw_X10_steps_10 hown hK hP 0 rfl rfl 22 (by decide) (hts (.fieldLink RX10 168 "VatHouseModel" "at" "I") (by decide +kernel)) (fun _ h9 => h9) rfl dX10_steps_25 ?_
  refine lv_aload_n hx hb dX10_steps_28 rfl (lv_at hl 2 rfl) ?_
  refine va_get (D := (dC, dI)) (ci := 10) (v := .int 0) (C := RX10) (T := TX10) (N := 51) hx hb hts inw_X10_steps_10 hown hK hP 0 rfl rfl 21 (by decide) (hts (.fieldLink RX10 171 "VatHouseModel" "size" "I") (by decide +kernel)) (fun _ h9 => h9) rfl dX10_steps_29 ?_
  refine lv_icmp_ge (tgt := 79) hx hb dX10_steps_32 (by decide) (fun c_3 => ?_) (fun c_3 => ?_)
  rotate_left
  · exact absurd c_3 (by decide)
  refine lv_iload_n hx hb dX10_steps_79 rfl (lv_at hl 3 rfl) ?_
  refine lv_if_eq (tgt := 93) hx hb dX10_steps_80 (by decide) (fun c_4 => ?_) (fun c_4 => ?_)
  rotate_left
  · exact absurd c_4 (by decide)
  refine lv_iload_n hx hb dX10_steps_93 rfl (lv_at hl 1 rfl) ?_
  exact en_i hx hb hr hlocks hP hD hK hS () ⟨rfl, trivial⟩ [0] [] rfl rfl rfl (Nat.le_of_ble_eq_true rfl) (Nat.le_of_ble_eq_true rfl) dX10_steps_94

abbrev rm_X10_recipe : Room := { frames := 2, cells := 0, slots := 0, locals := 44 }
theorem inw_X10_recipe_10 : ∀ w ∈ wsX100, w ∈ wsX10_recipe := by decide +kernel
set_option maxHeartbeats 800000 in
set_option maxRecDepth 100000 in
theorem c_X10_recipe (l : Launch) (dC : Nat → ClassId) (dI : Nat → Nat → Nat) (sa : Nat → Nat) (hlt : l.stackTraces = false) (sz : Nat) (h0 : Nat) (md : Nat → Nat) (mq : Nat → ClassId) (ff : Nat → Int32) (p0 : Int32) (p1 : Int32) : CT l dC dI sa yX10_recipe wsX10_recipe rm_X10_recipe [.ref h0, .int p0, .int p1] [(h0, .inr (10, [.int 0, .int 0, .int 0, .int 0, .ref (md 4), .ref (md 5), .ref (md 6), .ref (md 7), .ref (md 8), .ref (md 9), .ref (md 10), .ref (md 11), .int 0, .ref (md 13), .ref (md 14), .ref (md 15), .ref (md 16), .ref (md 17), .ref (md 18), .ref (md 19), .int 0, .int 0, .int 0, .int 0, .int (-1), .int 0, .ref (md 26), .ref (md 27), .ref (md 28), .ref (md 29), .ref (md 30), .ref (md 31), .ref (md 32), .ref (md 33), .ref (md 34), .ref (md 35), .int 0, .int 0, .int 0, .int 0, .int 0, .int 0, .int 0, .int 0, .int (-1), .int 0, .int 0, .ref (md 47), .ref (md 48), .ref (md 49), .ref (md 50)])), ((md 34), .inl ((mq 34), 8, .inl ff)), ((md 35), .inl ((mq 35), 8, .inl (fun _ => 0)))] [((mq 34), .int), ((mq 35), .int)] sz (fun (r : Option Value) (u : Int32 × (Nat → Int32)) => match u with | (x, J) => r = some (.int x) ∧ (E_recipe p0 p1 = (J 0, x))) (fun (u : Int32 × (Nat → Int32)) => match u with | (x, J) => [(h0, .inr (10, [.int (J 0), .int (J 1), .int (J 2), .int (J 3), .ref (md 4), .ref (md 5), .ref (md 6), .ref (md 7), .ref (md 8), .ref (md 9), .ref (md 10), .ref (md 11), .int (J 12), .ref (md 13), .ref (md 14), .ref (md 15), .ref (md 16), .ref (md 17), .ref (md 18), .ref (md 19), .int (J 20), .int (J 21), .int (J 22), .int (J 23), .int (J 24), .int (J 25), .ref (md 26), .ref (md 27), .ref (md 28), .ref (md 29), .ref (md 30), .ref (md 31), .ref (md 32), .ref (md 33), .ref (md 34), .ref (md 35), .int (J 36), .int (J 37), .int (J 38), .int (J 39), .int (J 40), .int (J 41), .int (J 42), .int (J 43), .int (J 44), .int (J 45), .int (J 46), .ref (md 47), .ref (md 48), .ref (md 49), .ref (md 50)]))]) (fun (u : Int32 × (Nat → Int32)) => match u with | (x, J) => []) 0 0 := by
  refine CT.start (cc := cX10_recipe) (maxL := 6) (ret := (some .int)) (by decide) rfl (Nat.le_of_ble_eq_true rfl) ?_
  intro p e s m below meth c ls hst hP hK hD hev hS hl
  obtain ⟨hx, hb, hr, hml, hts, hown, hlocks, hin⟩ := hst
  have hown : s.vm.findClass RX10 = some m.cls := hown
  have hin : meth.name = yX10_recipe.name := hin
  have hA : ∀ q : Nat, s.heap.size ≤ q → va_A [(h0, .inr (10, [.int 0, .int 0, .int 0, .int 0, .ref (md 4), .ref (md 5), .ref (md 6), .ref (md 7), .ref (md 8), .ref (md 9), .ref (md 10), .ref (md 11), .int 0, .ref (md 13), .ref (md 14), .ref (md 15), .ref (md 16), .ref (md 17), .ref (md 18), .ref (md 19), .int 0, .int 0, .int 0, .int 0, .int (-1), .int 0, .ref (md 26), .ref (md 27), .ref (md 28), .ref (md 29), .ref (md 30), .ref (md 31), .ref (md 32), .ref (md 33), .ref (md 34), .ref (md 35), .int 0, .int 0, .int 0, .int 0, .int 0, .int 0, .int 0, .int 0, .int (-1), .int 0, .int 0, .ref (md 47), .ref (md 48), .ref (md 49), .ref (md 50)])), ((md 34), .inl ((mq 34), 8, .inl ff)), ((md 35), .inl ((mq 35), 8, .inl (fun _ => 0)))] s.heap.size q := fun _ h => Or.inr h
  have hl : lv_has ls 6 [(0, .ref h0), (1, .int p0), (2, .int p1)] := hl
  refine lv_aload_n hx hb dX10_recipe_0 rfl (lv_at hl 0 rfl) ?_
  refine lv_iconst (v := 0) hx hb dX10_recipe_1 (by decide) ?_
  refine va_put (D := (dC, dI)) (ci := 10) (v := .int 0) (ty := .int) (C := RX10) (T := TX10) (N := 51) hx hb hts inw_X10_recipe_10 tyX10 tyX10_ok nmX10 hown hK hP hD hS 0 rfl rfl 0 (by decide) (hts (.fieldLink RX10 105 "VatHouseModel" "thrown" "I") (by decide +kernel)) (fun _ h9 => h9) rfl (by decide +kernel) rfl rfl (Nat.le_of_ble_eq_true rfl) dX10_recipe_2 (fun H locs hP hD hS => ?_)
  have hP : va_P (dC, dI) vwCl [(h0, .inr (10, [.int 0, .int 0, .int 0, .int 0, .ref (md 4), .ref (md 5), .ref (md 6), .ref (md 7), .ref (md 8), .ref (md 9), .ref (md 10), .ref (md 11), .int 0, .ref (md 13), .ref (md 14), .ref (md 15), .ref (md 16), .ref (md 17), .ref (md 18), .ref (md 19), .int 0, .int 0, .int 0, .int 0, .int (-1), .int 0, .ref (md 26), .ref (md 27), .ref (md 28), .ref (md 29), .ref (md 30), .ref (md 31), .ref (md 32), .ref (md 33), .ref (md 34), .ref (md 35), .int 0, .int 0, .int 0, .int 0, .int 0, .int 0, .int 0, .int 0, .int (-1), .int 0, .int 0, .ref (md 47), .ref (md 48), .ref (md 49), .ref (md 50)])), ((md 34), .inl ((mq 34), 8, .inl ff)), ((md 35), .inl ((mq 35), 8, .inl (fun _ => 0)))] _ := hP
  have hD : va_D _ [(h0, .inr (10, [.int 0, .int 0, .int 0, .int 0, .ref (md 4), .ref (md 5), .ref (md 6), .ref (md 7), .ref (md 8), .ref (md 9), .ref (md 10), .ref (md 11), .int 0, .ref (md 13), .ref (md 14), .ref (md 15), .ref (md 16), .ref (md 17), .ref (md 18), .ref (md 19), .int 0, .int 0, .int 0, .int 0, .int (-1), .int 0, .ref (md 26), .ref (md 27), .ref (md 28), .ref (md 29), .ref (md 30), .ref (md 31), .ref (md 32), .ref (md 33), .ref (md 34), .ref (md 35), .int 0, .int 0, .int 0, .int 0, .int 0, .int 0, .int 0, .int 0, .int (-1), .int 0, .int 0, .ref (md 47), .ref (md 48), .ref (md 49), .ref (md 50)])), ((md 34), .inl ((mq 34), 8, .inl ff)), ((md 35), .inl ((mq 35), 8, .inl (fun _ => 0)))] := hD
  refine lv_aload_n hx hb dX10_recipe_5 rfl (lv_at hl 0 rfl) ?_
  refine lv_iload_n hx hb dX10_recipe_6 rfl (lv_at hl 1 rfl) ?_
  refine lv_if_lt (tgt := 32) hx hb dX10_recipe_7 (by decide) (fun c_1 => ?_) (fun c_1 => ?_)
  · refine lv_iconst (v := 0) hx hb dX10_recipe_32 (by decide) ?_
    refine lv_iconst (v := 1) hx hb dX10_recipe_33 (by decide) ?_
    refine go_V (wr := [((md 34), .inl ((mq 34), 8, .inl ff)), ((md 35), .inl ((mq 35), 8, .inl (fun _ => 0)))]) ⟨hx, hb, hml, hown, hts⟩ (c_X10_right_1 l dC dI sa hlt _ h0 md ) (cwV 2 hts gX10_recipe_X10_right rfl rfl rfl (by decide +kernel) ⟨Nat.le_of_ble_eq_true rfl, Nat.le_of_ble_eq_true rfl⟩) hP hD hK hS hA hev [0] [1, 2] [] rfl rfl rfl rfl (by decide) rfl 0 10 rfl rfl rfl rfl hl.1 rfl (Nat.le_of_ble_eq_true rfl) dX10_recipe_34 ⟨Nat.le_of_ble_eq_true rfl, Nat.le_of_ble_eq_true rfl⟩ (fun r u H locs hw hP hD hK hS => ?_)
    have hw : r = some (.int 0) ∧ (True) := hw
    obtain ⟨rfl, hw_2⟩ := hw
    have hP : va_P (dC, dI) vwCl [((md 34), .inl ((mq 34), 8, .inl ff)), ((md 35), .inl ((mq 35), 8, .inl (fun _ => 0))), (h0, .inr (10, [.int 1, .int 0, .int 0, .int 0, .ref (md 4), .ref (md 5), .ref (md 6), .ref (md 7), .ref (md 8), .ref (md 9), .ref (md 10), .ref (md 11), .int 0, .ref (md 13), .ref (md 14), .ref (md 15), .ref (md 16), .ref (md 17), .ref (md 18), .ref (md 19), .int 0, .int 0, .int 0, .int 0, .int (-1), .int 0, .ref (md 26), .ref (md 27), .ref (md 28), .ref (md 29), .ref (md 30), .ref (md 31), .ref (md 32), .ref (md 33), .ref (md 34), .ref (md 35), .int 0, .int 0, .int 0, .int 0, .int 0, .int 0, .int 0, .int 0, .int (-1), .int 0, .int 0, .ref (md 47), .ref (md 48), .ref (md 49), .ref (md 50)]))] _ := hP
    have hD : va_D _ [((md 34), .inl ((mq 34), 8, .inl ff)), ((md 35), .inl ((mq 35), 8, .inl (fun _ => 0))), (h0, .inr (10, [.int 1, .int 0, .int 0, .int 0, .ref (md 4), .ref (md 5), .ref (md 6), .ref (md 7), .ref (md 8), .ref (md 9), .ref (md 10), .ref (md 11), .int 0, .ref (md 13), .ref (md 14), .ref (md 15), .ref (md 16), .ref (md 17), .ref (md 18), .ref (md 19), .int 0, .int 0, .int 0, .int 0, .int (-1), .int 0, .ref (md 26), .ref (md 27), .ref (md 28), .ref (md 29), .ref (md 30), .ref (md 31), .ref (md 32), .ref (md 33), .ref (md 34), .ref (md 35), .int 0, .int 0, .int 0, .int 0, .int 0, .int 0, .int 0, .int 0, .int (-1), .int 0, .int 0, .ref (md 47), .ref (md 48), .ref (md 49), .ref (md 50)]))] := hD
    have hK : va_K (dC, dI) vwCl [((mq 34), .int), ((mq 35), .int)] s := hK
    refine W.eq (g2 := F0 m 37 ls [.int 0]) rfl ?_
    refine lv_if_ne (tgt := 42) hx hb dX10_recipe_37 (by decide) (fun c_3 => ?_) (fun c_3 => ?_)
    · exact absurd c_3 (by decide)
    refine lv_iconst (v := 0) hx hb dX10_recipe_40 (by decide) ?_
    exact en_i hx hb hr hlocks hP hD hK hS (0, (fun k : Nat => match k with | 0 => 1 | 1 => 0 | 2 => 0 | 3 => 0 | 12 => 0 | 20 => 0 | 21 => 0 | 22 => 0 | 23 => 0 | 24 => (-1) | 25 => 0 | 36 => 0 | 37 => 0 | 38 => 0 | 39 => 0 | 40 => 0 | 41 => 0 | 42 => 0 | 43 => 0 | 44 => (-1) | 45 => 0 | 46 => 0 | _ => 0)) ⟨rfl, by simp [E_recipe, c_1]⟩ [2] [] rfl rfl rfl (Nat.le_of_ble_eq_true rfl) (Nat.le_of_ble_eq_true rfl) dX10_recipe_41
  · refine lv_iload_n hx hb dX10_recipe_10 rfl (lv_at hl 1 rfl) ?_
    refine lv_bipush (v := 8) hx hb dX10_recipe_11 (by decide) ?_
    refine lv_icmp_ge (tgt := 32) hx hb dX10_recipe_13 (by decide) (fun c_4 => ?_) (fun c_4 => ?_)
    · refine lv_iconst (v := 0) hx hb dX10_recipe_32 (by decide) ?_
      refine lv_iconst (v := 1) hx hb dX10_recipe_33 (by decide) ?_
      refine go_V (wr := [((md 34), .inl ((mq 34), 8, .inl ff)), ((md 35), .inl ((mq 35), 8, .inl (fun _ => 0)))]) ⟨hx, hb, hml, hown, hts⟩ (c_X10_right_1 l dC dI sa hlt _ h0 md ) (cwV 2 hts gX10_recipe_X10_right rfl rfl rfl (by decide +kernel) ⟨Nat.le_of_ble_eq_true rfl, Nat.le_of_ble_eq_true rfl⟩) hP hD hK hS hA hev [0] [1, 2] [] rfl rfl rfl rfl (by decide) rfl 0 10 rfl rfl rfl rfl hl.1 rfl (Nat.le_of_ble_eq_true rfl) dX10_recipe_34 ⟨Nat.le_of_ble_eq_true rfl, Nat.le_of_ble_eq_true rfl⟩ (fun r u H locs hw hP hD hK hS => ?_)
      have hw : r = some (.int 0) ∧ (True) := hw
      obtain ⟨rfl, hw_5⟩ := hw
      have hP : va_P (dC, dI) vwCl [((md 34), .inl ((mq 34), 8, .inl ff)), ((md 35), .inl ((mq 35), 8, .inl (fun _ => 0))), (h0, .inr (10, [.int 1, .int 0, .int 0, .int 0, .ref (md 4), .ref (md 5), .ref (md 6), .ref (md 7), .ref (md 8), .ref (md 9), .ref (md 10), .ref (md 11), .int 0, .ref (md 13), .ref (md 14), .ref (md 15), .ref (md 16), .ref (md 17), .ref (md 18), .ref (md 19), .int 0, .int 0, .int 0, .int 0, .int (-1), .int 0, .ref (md 26), .ref (md 27), .ref (md 28), .ref (md 29), .ref (md 30), .ref (md 31), .ref (md 32), .ref (md 33), .ref (md 34), .ref (md 35), .int 0, .int 0, .int 0, .int 0, .int 0, .int 0, .int 0, .int 0, .int (-1), .int 0, .int 0, .ref (md 47), .ref (md 48), .ref (md 49), .ref (md 50)]))] _ := hP
      have hD : va_D _ [((md 34), .inl ((mq 34), 8, .inl ff)), ((md 35), .inl ((mq 35), 8, .inl (fun _ => 0))), (h0, .inr (10, [.int 1, .int 0, .int 0, .int 0, .ref (md 4), .ref (md 5), .ref (md 6), .ref (md 7), .ref (md 8), .ref (md 9), .ref (md 10), .ref (md 11), .int 0, .ref (md 13), .ref (md 14), .ref (md 15), .ref (md 16), .ref (md 17), .ref (md 18), .ref (md 19), .int 0, .int 0, .int 0, .int 0, .int (-1), .int 0, .ref (md 26), .ref (md 27), .ref (md 28), .ref (md 29), .ref (md 30), .ref (md 31), .ref (md 32), .ref (md 33), .ref (md 34), .ref (md 35), .int 0, .int 0, .int 0, .int 0, .int 0, .int 0, .int 0, .int 0, .int (-1), .int 0, .int 0, .ref (md 47), .ref (md 48), .ref (md 49), .ref (md 50)]))] := hD
      have hK : va_K (dC, dI) vwCl [((mq 34), .int), ((mq 35), .int)] s := hK
      refine W.eq (g2 := F0 m 37 ls [.int 0]) rfl ?_
      refine lv_if_ne (tgt := 42) hx hb dX10_recipe_37 (by decide) (fun c_6 => ?_) (fun c_6 => ?_)
      · exact absurd c_6 (by decide)
      refine lv_iconst (v := 0) hx hb dX10_recipe_40 (by decide) ?_
      exact en_i hx hb hr hlocks hP hD hK hS (0, (fun k : Nat => match k with | 0 => 1 | 1 => 0 | 2 => 0 | 3 => 0 | 12 => 0 | 20 => 0 | 21 => 0 | 22 => 0 | 23 => 0 | 24 => (-1) | 25 => 0 | 36 => 0 | 37 => 0 | 38 => 0 | 39 => 0 | 40 => 0 | 41 => 0 | 42 => 0 | 43 => 0 | 44 => (-1) | 45 => 0 | 46 => 0 | _ => 0)) ⟨rfl, by simp [E_recipe, c_1, c_4]⟩ [2] [] rfl rfl rfl (Nat.le_of_ble_eq_true rfl) (Nat.le_of_ble_eq_true rfl) dX10_recipe_41
    · refine lv_iload_n hx hb dX10_recipe_16 rfl (lv_at hl 2 rfl) ?_
      refine lv_if_lt (tgt := 32) hx hb dX10_recipe_17 (by decide) (fun c_7 => ?_) (fun c_7 => ?_)
      · refine lv_iconst (v := 0) hx hb dX10_recipe_32 (by decide) ?_
        refine lv_iconst (v := 1) hx hb dX10_recipe_33 (by decide) ?_
        refine go_V (wr := [((md 34), .inl ((mq 34), 8, .inl ff)), ((md 35), .inl ((mq 35), 8, .inl (fun _ => 0)))]) ⟨hx, hb, hml, hown, hts⟩ (c_X10_right_1 l dC dI sa hlt _ h0 md ) (cwV 2 hts gX10_recipe_X10_right rfl rfl rfl (by decide +kernel) ⟨Nat.le_of_ble_eq_true rfl, Nat.le_of_ble_eq_true rfl⟩) hP hD hK hS hA hev [0] [1, 2] [] rfl rfl rfl rfl (by decide) rfl 0 10 rfl rfl rfl rfl hl.1 rfl (Nat.le_of_ble_eq_true rfl) dX10_recipe_34 ⟨Nat.le_of_ble_eq_true rfl, Nat.le_of_ble_eq_true rfl⟩ (fun r u H locs hw hP hD hK hS => ?_)
        have hw : r = some (.int 0) ∧ (True) := hw
        obtain ⟨rfl, hw_8⟩ := hw
        have hP : va_P (dC, dI) vwCl [((md 34), .inl ((mq 34), 8, .inl ff)), ((md 35), .inl ((mq 35), 8, .inl (fun _ => 0))), (h0, .inr (10, [.int 1, .int 0, .int 0, .int 0, .ref (md 4), .ref (md 5), .ref (md 6), .ref (md 7), .ref (md 8), .ref (md 9), .ref (md 10), .ref (md 11), .int 0, .ref (md 13), .ref (md 14), .ref (md 15), .ref (md 16), .ref (md 17), .ref (md 18), .ref (md 19), .int 0, .int 0, .int 0, .int 0, .int (-1), .int 0, .ref (md 26), .ref (md 27), .ref (md 28), .ref (md 29), .ref (md 30), .ref (md 31), .ref (md 32), .ref (md 33), .ref (md 34), .ref (md 35), .int 0, .int 0, .int 0, .int 0, .int 0, .int 0, .int 0, .int 0, .int (-1), .int 0, .int 0, .ref (md 47), .ref (md 48), .ref (md 49), .ref (md 50)]))] _ := hP
        have hD : va_D _ [((md 34), .inl ((mq 34), 8, .inl ff)), ((md 35), .inl ((mq 35), 8, .inl (fun _ => 0))), (h0, .inr (10, [.int 1, .int 0, .int 0, .int 0, .ref (md 4), .ref (md 5), .ref (md 6), .ref (md 7), .ref (md 8), .ref (md 9), .ref (md 10), .ref (md 11), .int 0, .ref (md 13), .ref (md 14), .ref (md 15), .ref (md 16), .ref (md 17), .ref (md 18), .ref (md 19), .int 0, .int 0, .int 0, .int 0, .int (-1), .int 0, .ref (md 26), .ref (md 27), .ref (md 28), .ref (md 29), .ref (md 30), .ref (md 31), .ref (md 32), .ref (md 33), .ref (md 34), .ref (md 35), .int 0, .int 0, .int 0, .int 0, .int 0, .int 0, .int 0, .int 0, .int (-1), .int 0, .int 0, .ref (md 47), .ref (md 48), .ref (md 49), .ref (md 50)]))] := hD
        have hK : va_K (dC, dI) vwCl [((mq 34), .int), ((mq 35), .int)] s := hK
        refine W.eq (g2 := F0 m 37 ls [.int 0]) rfl ?_
        refine lv_if_ne (tgt := 42) hx hb dX10_recipe_37 (by decide) (fun c_9 => ?_) (fun c_9 => ?_)
        · exact absurd c_9 (by decide)
        refine lv_iconst (v := 0) hx hb dX10_recipe_40 (by decide) ?_
        exact en_i hx hb hr hlocks hP hD hK hS (0, (fun k : Nat => match k with | 0 => 1 | 1 => 0 | 2 => 0 | 3 => 0 | 12 => 0 | 20 => 0 | 21 => 0 | 22 => 0 | 23 => 0 | 24 => (-1) | 25 => 0 | 36 => 0 | 37 => 0 | 38 => 0 | 39 => 0 | 40 => 0 | 41 => 0 | 42 => 0 | 43 => 0 | 44 => (-1) | 45 => 0 | 46 => 0 | _ => 0)) ⟨rfl, by simp [E_recipe, c_1, c_4, c_7]⟩ [2] [] rfl rfl rfl (Nat.le_of_ble_eq_true rfl) (Nat.le_of_ble_eq_true rfl) dX10_recipe_41
      · refine lv_iload_n hx hb dX10_recipe_20 rfl (lv_at hl 2 rfl) ?_
        refine lv_aload_n hx hb dX10_recipe_21 rfl (lv_at hl 0 rfl) ?_
        refine va_get (D := (dC, dI)) (ci := 10) (v := .int 0) (C := RX10) (T := TX10) (N := 51) hx hb hts inw_X10_recipe_10 hown hK hP 0 rfl rfl 20 (by decide) (hts (.fieldLink RX10 159 "VatHouseModel" "taped" "I") (by decide +kernel)) (fun _ h9 => h9) rfl dX10_recipe_22 ?_
        refine lv_icmp_gt (tgt := 32) hx hb dX10_recipe_25 (by decide) (fun c_10 => ?_) (fun c_10 => ?_)
        · refine lv_iconst (v := 0) hx hb dX10_recipe_32 (by decide) ?_
          refine lv_iconst (v := 1) hx hb dX10_recipe_33 (by decide) ?_
          refine go_V (wr := [((md 34), .inl ((mq 34), 8, .inl ff)), ((md 35), .inl ((mq 35), 8, .inl (fun _ => 0)))]) ⟨hx, hb, hml, hown, hts⟩ (c_X10_right_1 l dC dI sa hlt _ h0 md ) (cwV 2 hts gX10_recipe_X10_right rfl rfl rfl (by decide +kernel) ⟨Nat.le_of_ble_eq_true rfl, Nat.le_of_ble_eq_true rfl⟩) hP hD hK hS hA hev [0] [1, 2] [] rfl rfl rfl rfl (by decide) rfl 0 10 rfl rfl rfl rfl hl.1 rfl (Nat.le_of_ble_eq_true rfl) dX10_recipe_34 ⟨Nat.le_of_ble_eq_true rfl, Nat.le_of_ble_eq_true rfl⟩ (fun r u H locs hw hP hD hK hS => ?_)
          have hw : r = some (.int 0) ∧ (True) := hw
          obtain ⟨rfl, hw_11⟩ := hw
          have hP : va_P (dC, dI) vwCl [((md 34), .inl ((mq 34), 8, .inl ff)), ((md 35), .inl ((mq 35), 8, .inl (fun _ => 0))), (h0, .inr (10, [.int 1, .int 0, .int 0, .int 0, .ref (md 4), .ref (md 5), .ref (md 6), .ref (md 7), .ref (md 8), .ref (md 9), .ref (md 10), .ref (md 11), .int 0, .ref (md 13), .ref (md 14), .ref (md 15), .ref (md 16), .ref (md 17), .ref (md 18), .ref (md 19), .int 0, .int 0, .int 0, .int 0, .int (-1), .int 0, .ref (md 26), .ref (md 27), .ref (md 28), .ref (md 29), .ref (md 30), .ref (md 31), .ref (md 32), .ref (md 33), .ref (md 34), .ref (md 35), .int 0, .int 0, .int 0, .int 0, .int 0, .int 0, .int 0, .int 0, .int (-1), .int 0, .int 0, .ref (md 47), .ref (md 48), .ref (md 49), .ref (md 50)]))] _ := hP
          have hD : va_D _ [((md 34), .inl ((mq 34), 8, .inl ff)), ((md 35), .inl ((mq 35), 8, .inl (fun _ => 0))), (h0, .inr (10, [.int 1, .int 0, .int 0, .int 0, .ref (md 4), .ref (md 5), .ref (md 6), .ref (md 7), .ref (md 8), .ref (md 9), .ref (md 10), .ref (md 11), .int 0, .ref (md 13), .ref (md 14), .ref (md 15), .ref (md 16), .ref (md 17), .ref (md 18), .ref (md 19), .int 0, .int 0, .int 0, .int 0, .int (-1), .int 0, .ref (md 26), .ref (md 27), .ref (md 28), .ref (md 29), .ref (md 30), .ref (md 31), .ref (md 32), .ref (md 33), .ref (md 34), .ref (md 35), .int 0, .int 0, .int 0, .int 0, .int 0, .int 0, .int 0, .int 0, .int (-1), .int 0, .int 0, .ref (md 47), .ref (md 48), .ref (md 49), .ref (md 50)]))] := hD
          have hK : va_K (dC, dI) vwCl [((mq 34), .int), ((mq 35), .int)] s := hK
          refine W.eq (g2 := F0 m 37 ls [.int 0]) rfl ?_
          refine lv_if_ne (tgt := 42) hx hb dX10_recipe_37 (by decide) (fun c_12 => ?_) (fun c_12 => ?_)
          · exact absurd c_12 (by decide)
          refine lv_iconst (v := 0) hx hb dX10_recipe_40 (by decide) ?_
          exact en_i hx hb hr hlocks hP hD hK hS (0, (fun k : Nat => match k with | 0 => 1 | 1 => 0 | 2 => 0 | 3 => 0 | 12 => 0 | 20 => 0 | 21 => 0 | 22 => 0 | 23 => 0 | 24 => (-1) | 25 => 0 | 36 => 0 | 37 => 0 | 38 => 0 | 39 => 0 | 40 => 0 | 41 => 0 | 42 => 0 | 43 => 0 | 44 => (-1) | 45 => 0 | 46 => 0 | _ => 0)) ⟨rfl, by simp [E_recipe, c_1, c_4, c_7, c_10]⟩ [2] [] rfl rfl rfl (Nat.le_of_ble_eq_true rfl) (Nat.le_of_ble_eq_true rfl) dX10_recipe_41
        · refine lv_iconst (v := 1) hx hb dX10_recipe_28 (by decide) ?_
          refine lv_goto (tgt := 33) hx hb dX10_recipe_29 (by decide) ?_
          refine lv_iconst (v := 1) hx hb dX10_recipe_33 (by decide) ?_
          refine go_V (wr := [((md 34), .inl ((mq 34), 8, .inl ff)), ((md 35), .inl ((mq 35), 8, .inl (fun _ => 0)))]) ⟨hx, hb, hml, hown, hts⟩ (c_X10_right_ok l dC dI sa hlt _ h0 md 1 ) (cwV 2 hts gX10_recipe_X10_right rfl rfl rfl (by decide +kernel) ⟨Nat.le_of_ble_eq_true rfl, Nat.le_of_ble_eq_true rfl⟩) hP hD hK hS hA hev [0] [1, 2] [] rfl rfl rfl rfl (by decide) rfl 0 10 rfl rfl rfl rfl hl.1 rfl (Nat.le_of_ble_eq_true rfl) dX10_recipe_34 ⟨Nat.le_of_ble_eq_true rfl, Nat.le_of_ble_eq_true rfl⟩ (fun r u H locs hw hP hD hK hS => ?_)
          have hw : r = some (.int 1) ∧ (True) := hw
          obtain ⟨rfl, hw_13⟩ := hw
          have hP : va_P (dC, dI) vwCl [((md 34), .inl ((mq 34), 8, .inl ff)), ((md 35), .inl ((mq 35), 8, .inl (fun _ => 0))), (h0, .inr (10, [.int 0, .int 0, .int 0, .int 0, .ref (md 4), .ref (md 5), .ref (md 6), .ref (md 7), .ref (md 8), .ref (md 9), .ref (md 10), .ref (md 11), .int 0, .ref (md 13), .ref (md 14), .ref (md 15), .ref (md 16), .ref (md 17), .ref (md 18), .ref (md 19), .int 0, .int 0, .int 0, .int 0, .int (-1), .int 0, .ref (md 26), .ref (md 27), .ref (md 28), .ref (md 29), .ref (md 30), .ref (md 31), .ref (md 32), .ref (md 33), .ref (md 34), .ref (md 35), .int 0, .int 0, .int 0, .int 0, .int 0, .int 0, .int 0, .int 0, .int (-1), .int 0, .int 0, .ref (md 47), .ref (md 48), .ref (md 49), .ref (md 50)]))] _ := hP
          have hD : va_D _ [((md 34), .inl ((mq 34), 8, .inl ff)), ((md 35), .inl ((mq 35), 8, .inl (fun _ => 0))), (h0, .inr (10, [.int 0, .int 0, .int 0, .int 0, .ref (md 4), .ref (md 5), .ref (md 6), .ref (md 7), .ref (md 8), .ref (md 9), .ref (md 10), .ref (md 11), .int 0, .ref (md 13), .ref (md 14), .ref (md 15), .ref (md 16), .ref (md 17), .ref (md 18), .ref (md 19), .int 0, .int 0, .int 0, .int 0, .int (-1), .int 0, .ref (md 26), .ref (md 27), .ref (md 28), .ref (md 29), .ref (md 30), .ref (md 31), .ref (md 32), .ref (md 33), .ref (md 34), .ref (md 35), .int 0, .int 0, .int 0, .int 0, .int 0, .int 0, .int 0, .int 0, .int (-1), .int 0, .int 0, .ref (md 47), .ref (md 48), .ref (md 49), .ref (md 50)]))] := hD
          have hK : va_K (dC, dI) vwCl [((mq 34), .int), ((mq 35), .int)] s := hK
          refine W.eq (g2 := F0 m 37 ls [.int 1]) rfl ?_
          refine lv_if_ne (tgt := 42) hx hb dX10_recipe_37 (by decide) (fun c_14 => ?_) (fun c_14 => ?_)
          rotate_left
          · exact absurd c_14 (by decide)
          obtain rfl : p1 = 0 := eq0 c_7 c_10
          refine lv_aload_n hx hb dX10_recipe_42 rfl (lv_at hl 0 rfl) ?_
          refine lv_iload_n hx hb dX10_recipe_43 rfl (lv_at hl 2 rfl) ?_
          refine va_put (D := (dC, dI)) (ci := 10) (v := .int 0) (ty := .int) (C := RX10) (T := TX10) (N := 51) hx hb hts inw_X10_recipe_10 tyX10 tyX10_ok nmX10 hown hK hP hD hS 2 rfl rfl 21 (by decide) (hts (.fieldLink RX10 171 "VatHouseModel" "size" "I") (by decide +kernel)) (fun _ h9 => h9) rfl (by decide +kernel) rfl rfl (Nat.le_of_ble_eq_true rfl) dX10_recipe_44 (fun H locs hP hD hS => ?_)
          have hP : va_P (dC, dI) vwCl [((md 34), .inl ((mq 34), 8, .inl ff)), ((md 35), .inl ((mq 35), 8, .inl (fun _ => 0))), (h0, .inr (10, [.int 0, .int 0, .int 0, .int 0, .ref (md 4), .ref (md 5), .ref (md 6), .ref (md 7), .ref (md 8), .ref (md 9), .ref (md 10), .ref (md 11), .int 0, .ref (md 13), .ref (md 14), .ref (md 15), .ref (md 16), .ref (md 17), .ref (md 18), .ref (md 19), .int 0, .int 0, .int 0, .int 0, .int (-1), .int 0, .ref (md 26), .ref (md 27), .ref (md 28), .ref (md 29), .ref (md 30), .ref (md 31), .ref (md 32), .ref (md 33), .ref (md 34), .ref (md 35), .int 0, .int 0, .int 0, .int 0, .int 0, .int 0, .int 0, .int 0, .int (-1), .int 0, .int 0, .ref (md 47), .ref (md 48), .ref (md 49), .ref (md 50)]))] _ := hP
          have hD : va_D _ [((md 34), .inl ((mq 34), 8, .inl ff)), ((md 35), .inl ((mq 35), 8, .inl (fun _ => 0))), (h0, .inr (10, [.int 0, .int 0, .int 0, .int 0, .ref (md 4), .ref (md 5), .ref (md 6), .ref (md 7), .ref (md 8), .ref (md 9), .ref (md 10), .ref (md 11), .int 0, .ref (md 13), .ref (md 14), .ref (md 15), .ref (md 16), .ref (md 17), .ref (md 18), .ref (md 19), .int 0, .int 0, .int 0, .int 0, .int (-1), .int 0, .ref (md 26), .ref (md 27), .ref (md 28), .ref (md 29), .ref (md 30), .ref (md 31), .ref (md 32), .ref (md 33), .ref (md 34), .ref (md 35), .int 0, .int 0, .int 0, .int 0, .int 0, .int 0, .int 0, .int 0, .int (-1), .int 0, .int 0, .ref (md 47), .ref (md 48), .ref (md 49), .ref (md 50)]))] := hD
          refine lv_aload_n hx hb dX10_recipe_47 rfl (lv_at hl 0 rfl) ?_
          refine lv_iconst (v := 0) hx hb dX10_recipe_48 (by decide) ?_
          refine va_put (D := (dC, dI)) (ci := 10) (v := .int 0) (ty := .int) (C := RX10) (T := TX10) (N := 51) hx hb hts inw_X10_recipe_10 tyX10 tyX10_ok nmX10 hown hK hP hD hS 2 rfl rfl 22 (by decide) (hts (.fieldLink RX10 168 "VatHouseModel" "at" "I") (by decide +kernel)) (fun _ h9 => h9) rfl (by decide +kernel) rfl rfl (Nat.le_of_ble_eq_true rfl) dX10_recipe_49 (fun H locs hP hD hS => ?_)
          have hP : va_P (dC, dI) vwCl [((md 34), .inl ((mq 34), 8, .inl ff)), ((md 35), .inl ((mq 35), 8, .inl (fun _ => 0))), (h0, .inr (10, [.int 0, .int 0, .int 0, .int 0, .ref (md 4), .ref (md 5), .ref (md 6), .ref (md 7), .ref (md 8), .ref (md 9), .ref (md 10), .ref (md 11), .int 0, .ref (md 13), .ref (md 14), .ref (md 15), .ref (md 16), .ref (md 17), .ref (md 18), .ref (md 19), .int 0, .int 0, .int 0, .int 0, .int (-1), .int 0, .ref (md 26), .ref (md 27), .ref (md 28), .ref (md 29), .ref (md 30), .ref (md 31), .ref (md 32), .ref (md 33), .ref (md 34), .ref (md 35), .int 0, .int 0, .int 0, .int 0, .int 0, .int 0, .int 0, .int 0, .int (-1), .int 0, .int 0, .ref (md 47), .ref (md 48), .ref (md 49), .ref (md 50)]))] _ := hP
          have hD : va_D _ [((md 34), .inl ((mq 34), 8, .inl ff)), ((md 35), .inl ((mq 35), 8, .inl (fun _ => 0))), (h0, .inr (10, [.int 0, .int 0, .int 0, .int 0, .ref (md 4), .ref (md 5), .ref (md 6), .ref (md 7), .ref (md 8), .ref (md 9), .ref (md 10), .ref (md 11), .int 0, .ref (md 13), .ref (md 14), .ref (md 15), .ref (md 16), .ref (md 17), .ref (md 18), .ref (md 19), .int 0, .int 0, .int 0, .int 0, .int (-1), .int 0, .ref (md 26), .ref (md 27), .ref (md 28), .ref (md 29), .ref (md 30), .ref (md 31), .ref (md 32), .ref (md 33), .ref (md 34), .ref (md 35), .int 0, .int 0, .int 0, .int 0, .int 0, .int 0, .int 0, .int 0, .int (-1), .int 0, .int 0, .ref (md 47), .ref (md 48), .ref (md 49), .ref (md 50)]))] := hD
          refine lv_aload_n hx hb dX10_recipe_52 rfl (lv_at hl 0 rfl) ?_
          refine lv_iconst (v := 0) hx hb dX10_recipe_53 (by decide) ?_
          refine va_put (D := (dC, dI)) (ci := 10) (v := .int 0) (ty := .int) (C := RX10) (T := TX10) (N := 51) hx hb hts inw_X10_recipe_10 tyX10 tyX10_ok nmX10 hown hK hP hD hS 2 rfl rfl 20 (by decide) (hts (.fieldLink RX10 159 "VatHouseModel" "taped" "I") (by decide +kernel)) (fun _ h9 => h9) rfl (by decide +kernel) rfl rfl (Nat.le_of_ble_eq_true rfl) dX10_recipe_54 (fun H locs hP hD hS => ?_)
          have hP : va_P (dC, dI) vwCl [((md 34), .inl ((mq 34), 8, .inl ff)), ((md 35), .inl ((mq 35), 8, .inl (fun _ => 0))), (h0, .inr (10, [.int 0, .int 0, .int 0, .int 0, .ref (md 4), .ref (md 5), .ref (md 6), .ref (md 7), .ref (md 8), .ref (md 9), .ref (md 10), .ref (md 11), .int 0, .ref (md 13), .ref (md 14), .ref (md 15), .ref (md 16), .ref (md 17), .ref (md 18), .ref (md 19), .int 0, .int 0, .int 0, .int 0, .int (-1), .int 0, .ref (md 26), .ref (md 27), .ref (md 28), .ref (md 29), .ref (md 30), .ref (md 31), .ref (md 32), .ref (md 33), .ref (md 34), .ref (md 35), .int 0, .int 0, .int 0, .int 0, .int 0, .int 0, .int 0, .int 0, .int (-1), .int 0, .int 0, .ref (md 47), .ref (md 48), .ref (md 49), .ref (md 50)]))] _ := hP
          have hD : va_D _ [((md 34), .inl ((mq 34), 8, .inl ff)), ((md 35), .inl ((mq 35), 8, .inl (fun _ => 0))), (h0, .inr (10, [.int 0, .int 0, .int 0, .int 0, .ref (md 4), .ref (md 5), .ref (md 6), .ref (md 7), .ref (md 8), .ref (md 9), .ref (md 10), .ref (md 11), .int 0, .ref (md 13), .ref (md 14), .ref (md 15), .ref (md 16), .ref (md 17), .ref (md 18), .ref (md 19), .int 0, .int 0, .int 0, .int 0, .int (-1), .int 0, .ref (md 26), .ref (md 27), .ref (md 28), .ref (md 29), .ref (md 30), .ref (md 31), .ref (md 32), .ref (md 33), .ref (md 34), .ref (md 35), .int 0, .int 0, .int 0, .int 0, .int 0, .int 0, .int 0, .int 0, .int (-1), .int 0, .int 0, .ref (md 47), .ref (md 48), .ref (md 49), .ref (md 50)]))] := hD
          refine lv_aload_n hx hb dX10_recipe_57 rfl (lv_at hl 0 rfl) ?_
          refine lv_iconst (v := 0) hx hb dX10_recipe_58 (by decide) ?_
          refine va_put (D := (dC, dI)) (ci := 10) (v := .int 0) (ty := .int) (C := RX10) (T := TX10) (N := 51) hx hb hts inw_X10_recipe_10 tyX10 tyX10_ok nmX10 hown hK hP hD hS 2 rfl rfl 23 (by decide) (hts (.fieldLink RX10 165 "VatHouseModel" "faultKind" "I") (by decide +kernel)) (fun _ h9 => h9) rfl (by decide +kernel) rfl rfl (Nat.le_of_ble_eq_true rfl) dX10_recipe_59 (fun H locs hP hD hS => ?_)
          have hP : va_P (dC, dI) vwCl [((md 34), .inl ((mq 34), 8, .inl ff)), ((md 35), .inl ((mq 35), 8, .inl (fun _ => 0))), (h0, .inr (10, [.int 0, .int 0, .int 0, .int 0, .ref (md 4), .ref (md 5), .ref (md 6), .ref (md 7), .ref (md 8), .ref (md 9), .ref (md 10), .ref (md 11), .int 0, .ref (md 13), .ref (md 14), .ref (md 15), .ref (md 16), .ref (md 17), .ref (md 18), .ref (md 19), .int 0, .int 0, .int 0, .int 0, .int (-1), .int 0, .ref (md 26), .ref (md 27), .ref (md 28), .ref (md 29), .ref (md 30), .ref (md 31), .ref (md 32), .ref (md 33), .ref (md 34), .ref (md 35), .int 0, .int 0, .int 0, .int 0, .int 0, .int 0, .int 0, .int 0, .int (-1), .int 0, .int 0, .ref (md 47), .ref (md 48), .ref (md 49), .ref (md 50)]))] _ := hP
          have hD : va_D _ [((md 34), .inl ((mq 34), 8, .inl ff)), ((md 35), .inl ((mq 35), 8, .inl (fun _ => 0))), (h0, .inr (10, [.int 0, .int 0, .int 0, .int 0, .ref (md 4), .ref (md 5), .ref (md 6), .ref (md 7), .ref (md 8), .ref (md 9), .ref (md 10), .ref (md 11), .int 0, .ref (md 13), .ref (md 14), .ref (md 15), .ref (md 16), .ref (md 17), .ref (md 18), .ref (md 19), .int 0, .int 0, .int 0, .int 0, .int (-1), .int 0, .ref (md 26), .ref (md 27), .ref (md 28), .ref (md 29), .ref (md 30), .ref (md 31), .ref (md 32), .ref (md 33), .ref (md 34), .ref (md 35), .int 0, .int 0, .int 0, .int 0, .int 0, .int 0, .int 0, .int 0, .int (-1), .int 0, .int 0, .ref (md 47), .ref (md 48), .ref (md 49), .ref (md 50)]))] := hD
          refine lv_aload_n hx hb dX10_recipe_62 rfl (lv_at hl 0 rfl) ?_
          refine lv_iconst (v := (-1)) hx hb dX10_recipe_63 (by decide) ?_
          refine va_put (D := (dC, dI)) (ci := 10) (v := .int (-1)) (ty := .int) (C := RX10) (T := TX10) (N := 51) hx hb hts inw_X10_recipe_10 tyX10 tyX10_ok nmX10 hown hK hP hD hS 2 rfl rfl 24 (by decide) (hts (.fieldLink RX10 56 "VatHouseModel" "faultPlace" "I") (by decide +kernel)) (fun _ h9 => h9) rfl (by decide +kernel) rfl rfl (Nat.le_of_ble_eq_true rfl) dX10_recipe_64 (fun H locs hP hD hS => ?_)
          have hP : va_P (dC, dI) vwCl [((md 34), .inl ((mq 34), 8, .inl ff)), ((md 35), .inl ((mq 35), 8, .inl (fun _ => 0))), (h0, .inr (10, [.int 0, .int 0, .int 0, .int 0, .ref (md 4), .ref (md 5), .ref (md 6), .ref (md 7), .ref (md 8), .ref (md 9), .ref (md 10), .ref (md 11), .int 0, .ref (md 13), .ref (md 14), .ref (md 15), .ref (md 16), .ref (md 17), .ref (md 18), .ref (md 19), .int 0, .int 0, .int 0, .int 0, .int (-1), .int 0, .ref (md 26), .ref (md 27), .ref (md 28), .ref (md 29), .ref (md 30), .ref (md 31), .ref (md 32), .ref (md 33), .ref (md 34), .ref (md 35), .int 0, .int 0, .int 0, .int 0, .int 0, .int 0, .int 0, .int 0, .int (-1), .int 0, .int 0, .ref (md 47), .ref (md 48), .ref (md 49), .ref (md 50)]))] _ := hP
          have hD : va_D _ [((md 34), .inl ((mq 34), 8, .inl ff)), ((md 35), .inl ((mq 35), 8, .inl (fun _ => 0))), (h0, .inr (10, [.int 0, .int 0, .int 0, .int 0, .ref (md 4), .ref (md 5), .ref (md 6), .ref (md 7), .ref (md 8), .ref (md 9), .ref (md 10), .ref (md 11), .int 0, .ref (md 13), .ref (md 14), .ref (md 15), .ref (md 16), .ref (md 17), .ref (md 18), .ref (md 19), .int 0, .int 0, .int 0, .int 0, .int (-1), .int 0, .ref (md 26), .ref (md 27), .ref (md 28), .ref (md 29), .ref (md 30), .ref (md 31), .ref (md 32), .ref (md 33), .ref (md 34), .ref (md 35), .int 0, .int 0, .int 0, .int 0, .int 0, .int 0, .int 0, .int 0, .int (-1), .int 0, .int 0, .ref (md 47), .ref (md 48), .ref (md 49), .ref (md 50)]))] := hD
          refine lv_aload_n hx hb dX10_recipe_67 rfl (lv_at hl 0 rfl) ?_
          refine lv_iconst (v := 0) hx hb dX10_recipe_68 (by decide) ?_
          refine va_put (D := (dC, dI)) (ci := 10) (v := .int 0) (ty := .int) (C := RX10) (T := TX10) (N := 51) hx hb hts inw_X10_recipe_10 tyX10 tyX10_ok nmX10 hown hK hP hD hS 2 rfl rfl 36 (by decide) (hts (.fieldLink RX10 249 "VatHouseModel" "nodes" "I") (by decide +kernel)) (fun _ h9 => h9) rfl (by decide +kernel) rfl rfl (Nat.le_of_ble_eq_true rfl) dX10_recipe_69 (fun H locs hP hD hS => ?_)
          have hP : va_P (dC, dI) vwCl [((md 34), .inl ((mq 34), 8, .inl ff)), ((md 35), .inl ((mq 35), 8, .inl (fun _ => 0))), (h0, .inr (10, [.int 0, .int 0, .int 0, .int 0, .ref (md 4), .ref (md 5), .ref (md 6), .ref (md 7), .ref (md 8), .ref (md 9), .ref (md 10), .ref (md 11), .int 0, .ref (md 13), .ref (md 14), .ref (md 15), .ref (md 16), .ref (md 17), .ref (md 18), .ref (md 19), .int 0, .int 0, .int 0, .int 0, .int (-1), .int 0, .ref (md 26), .ref (md 27), .ref (md 28), .ref (md 29), .ref (md 30), .ref (md 31), .ref (md 32), .ref (md 33), .ref (md 34), .ref (md 35), .int 0, .int 0, .int 0, .int 0, .int 0, .int 0, .int 0, .int 0, .int (-1), .int 0, .int 0, .ref (md 47), .ref (md 48), .ref (md 49), .ref (md 50)]))] _ := hP
          have hD : va_D _ [((md 34), .inl ((mq 34), 8, .inl ff)), ((md 35), .inl ((mq 35), 8, .inl (fun _ => 0))), (h0, .inr (10, [.int 0, .int 0, .int 0, .int 0, .ref (md 4), .ref (md 5), .ref (md 6), .ref (md 7), .ref (md 8), .ref (md 9), .ref (md 10), .ref (md 11), .int 0, .ref (md 13), .ref (md 14), .ref (md 15), .ref (md 16), .ref (md 17), .ref (md 18), .ref (md 19), .int 0, .int 0, .int 0, .int 0, .int (-1), .int 0, .ref (md 26), .ref (md 27), .ref (md 28), .ref (md 29), .ref (md 30), .ref (md 31), .ref (md 32), .ref (md 33), .ref (md 34), .ref (md 35), .int 0, .int 0, .int 0, .int 0, .int 0, .int 0, .int 0, .int 0, .int (-1), .int 0, .int 0, .ref (md 47), .ref (md 48), .ref (md 49), .ref (md 50)]))] := hD
          refine lv_aload_n hx hb dX10_recipe_72 rfl (lv_at hl 0 rfl) ?_
          refine lv_iconst (v := 0) hx hb dX10_recipe_73 (by decide) ?_
          refine va_put (D := (dC, dI)) (ci := 10) (v := .int 0) (ty := .int) (C := RX10) (T := TX10) (N := 51) hx hb hts inw_X10_recipe_10 tyX10 tyX10_ok nmX10 hown hK hP hD hS 2 rfl rfl 38 (by decide) (hts (.fieldLink RX10 277 "VatHouseModel" "blocks" "I") (by decide +kernel)) (fun _ h9 => h9) rfl (by decide +kernel) rfl rfl (Nat.le_of_ble_eq_true rfl) dX10_recipe_74 (fun H locs hP hD hS => ?_)
          have hP : va_P (dC, dI) vwCl [((md 34), .inl ((mq 34), 8, .inl ff)), ((md 35), .inl ((mq 35), 8, .inl (fun _ => 0))), (h0, .inr (10, [.int 0, .int 0, .int 0, .int 0, .ref (md 4), .ref (md 5), .ref (md 6), .ref (md 7), .ref (md 8), .ref (md 9), .ref (md 10), .ref (md 11), .int 0, .ref (md 13), .ref (md 14), .ref (md 15), .ref (md 16), .ref (md 17), .ref (md 18), .ref (md 19), .int 0, .int 0, .int 0, .int 0, .int (-1), .int 0, .ref (md 26), .ref (md 27), .ref (md 28), .ref (md 29), .ref (md 30), .ref (md 31), .ref (md 32), .ref (md 33), .ref (md 34), .ref (md 35), .int 0, .int 0, .int 0, .int 0, .int 0, .int 0, .int 0, .int 0, .int (-1), .int 0, .int 0, .ref (md 47), .ref (md 48), .ref (md 49), .ref (md 50)]))] _ := hP
          have hD : va_D _ [((md 34), .inl ((mq 34), 8, .inl ff)), ((md 35), .inl ((mq 35), 8, .inl (fun _ => 0))), (h0, .inr (10, [.int 0, .int 0, .int 0, .int 0, .ref (md 4), .ref (md 5), .ref (md 6), .ref (md 7), .ref (md 8), .ref (md 9), .ref (md 10), .ref (md 11), .int 0, .ref (md 13), .ref (md 14), .ref (md 15), .ref (md 16), .ref (md 17), .ref (md 18), .ref (md 19), .int 0, .int 0, .int 0, .int 0, .int (-1), .int 0, .ref (md 26), .ref (md 27), .ref (md 28), .ref (md 29), .ref (md 30), .ref (md 31), .ref (md 32), .ref (md 33), .ref (md 34), .ref (md 35), .int 0, .int 0, .int 0, .int 0, .int 0, .int 0, .int 0, .int 0, .int (-1), .int 0, .int 0, .ref (md 47), .ref (md 48), .ref (md 49), .ref (md 50)]))] := hD
          refine lv_aload_n hx hb dX10_recipe_77 rfl (lv_at hl 0 rfl) ?_
          refine lv_iconst (v := 0) hx hb dX10_recipe_78 (by decide) ?_
          refine go_V (wr := [((md 34), .inl ((mq 34), 8, .inl ff)), ((md 35), .inl ((mq 35), 8, .inl (fun _ => 0)))]) ⟨hx, hb, hml, hown, hts⟩ (c_X10_steps l dC dI sa hlt _ h0 md ) (cwV 1 hts gX10_recipe_X10_steps rfl rfl rfl (by decide +kernel) ⟨Nat.le_of_ble_eq_true rfl, Nat.le_of_ble_eq_true rfl⟩) hP hD hK hS hA hev [2] [0, 1] [] rfl rfl rfl rfl (by decide) rfl 2 10 rfl rfl rfl rfl hl.1 rfl (Nat.le_of_ble_eq_true rfl) dX10_recipe_79 ⟨Nat.le_of_ble_eq_true rfl, Nat.le_of_ble_eq_true rfl⟩ (fun r u H locs hw hP hD hK hS => ?_)
          have hw : r = some (.int (-1)) ∧ (True) := hw
          obtain ⟨rfl, hw_15⟩ := hw
          have hP : va_P (dC, dI) vwCl [((md 34), .inl ((mq 34), 8, .inl ff)), ((md 35), .inl ((mq 35), 8, .inl (fun _ => 0))), (h0, .inr (10, [.int 0, .int 0, .int 0, .int 0, .ref (md 4), .ref (md 5), .ref (md 6), .ref (md 7), .ref (md 8), .ref (md 9), .ref (md 10), .ref (md 11), .int 0, .ref (md 13), .ref (md 14), .ref (md 15), .ref (md 16), .ref (md 17), .ref (md 18), .ref (md 19), .int 0, .int 0, .int 0, .int 0, .int (-1), .int 0, .ref (md 26), .ref (md 27), .ref (md 28), .ref (md 29), .ref (md 30), .ref (md 31), .ref (md 32), .ref (md 33), .ref (md 34), .ref (md 35), .int 0, .int 0, .int 0, .int 0, .int 0, .int 0, .int 0, .int 0, .int (-1), .int 0, .int 0, .ref (md 47), .ref (md 48), .ref (md 49), .ref (md 50)]))] _ := hP
          have hD : va_D _ [((md 34), .inl ((mq 34), 8, .inl ff)), ((md 35), .inl ((mq 35), 8, .inl (fun _ => 0))), (h0, .inr (10, [.int 0, .int 0, .int 0, .int 0, .ref (md 4), .ref (md 5), .ref (md 6), .ref (md 7), .ref (md 8), .ref (md 9), .ref (md 10), .ref (md 11), .int 0, .ref (md 13), .ref (md 14), .ref (md 15), .ref (md 16), .ref (md 17), .ref (md 18), .ref (md 19), .int 0, .int 0, .int 0, .int 0, .int (-1), .int 0, .ref (md 26), .ref (md 27), .ref (md 28), .ref (md 29), .ref (md 30), .ref (md 31), .ref (md 32), .ref (md 33), .ref (md 34), .ref (md 35), .int 0, .int 0, .int 0, .int 0, .int 0, .int 0, .int 0, .int 0, .int (-1), .int 0, .int 0, .ref (md 47), .ref (md 48), .ref (md 49), .ref (md 50)]))] := hD
          have hK : va_K (dC, dI) vwCl [((mq 34), .int), ((mq 35), .int)] s := hK
          refine W.eq (g2 := F0 m 82 ls [.int (-1)]) rfl ?_
          refine lv_istore_n (lv' := [(3, .int (-1)), (0, .ref h0), (1, .int p0), (2, .int 0)]) hx hb dX10_recipe_82 rfl hl (by decide) rfl (fun ls hl => ?_)
          refine lv_aload_n hx hb dX10_recipe_83 rfl (lv_at hl 1 rfl) ?_
          refine va_get (D := (dC, dI)) (ci := 10) (v := .int 0) (C := RX10) (T := TX10) (N := 51) hx hb hts inw_X10_recipe_10 hown hK hP 2 rfl rfl 23 (by decide) (hts (.fieldLink RX10 165 "VatHouseModel" "faultKind" "I") (by decide +kernel)) (fun _ h9 => h9) rfl dX10_recipe_84 ?_
          refine lv_if_le (tgt := 95) hx hb dX10_recipe_87 (by decide) (fun c_16 => ?_) (fun c_16 => ?_)
          rotate_left
          · exact absurd c_16 (by decide)
          refine lv_sipush (v := 300) hx hb dX10_recipe_95 (by decide) ?_
          refine lv_iload_n hx hb dX10_recipe_98 rfl (lv_at hl 2 rfl) ?_
          refine lv_imul hx hb dX10_recipe_99 ?_
          refine lv_topi (fun z_17 ez_17 => ?_)
          refine lv_sipush (v := 2400) hx hb dX10_recipe_100 (by decide) ?_
          refine lv_isub hx hb dX10_recipe_103 ?_
          refine lv_topi (fun z_18 ez_18 => ?_)
          refine lv_istore (lv' := [(4, .int z_18), (3, .int (-1)), (0, .ref h0), (1, .int p0), (2, .int 0)]) hx hb dX10_recipe_104 hl (by decide) rfl (fun ls hl => ?_)
          refine lv_sipush (v := 2400) hx hb dX10_recipe_106 (by decide) ?_
          refine lv_istore (lv' := [(5, .int 2400), (4, .int z_18), (3, .int (-1)), (0, .ref h0), (1, .int p0), (2, .int 0)]) hx hb dX10_recipe_109 hl (by decide) rfl (fun ls hl => ?_)
          refine lv_iload hx hb dX10_recipe_111 (lv_at hl 0 rfl) ?_
          refine lv_sipush (v := 2400) hx hb dX10_recipe_113 (by decide) ?_
          refine lv_aload_n hx hb dX10_recipe_116 rfl (lv_at hl 3 rfl) ?_
          refine va_get (D := (dC, dI)) (ci := 10) (v := .int 0) (C := RX10) (T := TX10) (N := 51) hx hb hts inw_X10_recipe_10 hown hK hP 2 rfl rfl 36 (by decide) (hts (.fieldLink RX10 249 "VatHouseModel" "nodes" "I") (by decide +kernel)) (fun _ h9 => h9) rfl dX10_recipe_117 ?_
          refine lv_iadd hx hb dX10_recipe_120 ?_
          refine lv_topi (fun z_19 ez_19 => ?_)
          obtain rfl : z_19 = 2400 := ez_19.trans (by decide)
          refine lv_icmp_ge (tgt := 320) hx hb dX10_recipe_121 (by decide) (fun c_20 => ?_) (fun c_20 => ?_)
          rotate_left
          · exact absurd c_20 (by decide)
          refine lv_aload_n hx hb dX10_recipe_320 rfl (lv_at hl 3 rfl) ?_
          refine va_get (D := (dC, dI)) (ci := 10) (v := .ref (md 34)) (C := RX10) (T := TX10) (N := 51) hx hb hts inw_X10_recipe_10 hown hK hP 2 rfl rfl 34 (by decide) (hts (.fieldLink RX10 84 "VatHouseModel" "first" "[I") (by decide +kernel)) (fun _ h9 => h9) rfl dX10_recipe_321 ?_
          refine lv_iload_n hx hb dX10_recipe_324 rfl (lv_at hl 4 rfl) ?_
          refine lv_iload_n hx hb dX10_recipe_325 rfl (lv_at hl 2 rfl) ?_
          refine lv_iconst (v := (-1)) hx hb dX10_recipe_326 (by decide) ?_
          refine lv_icmp_ne (tgt := 335) hx hb dX10_recipe_327 (by decide) (fun c_21 => ?_) (fun c_21 => ?_)
          · exact absurd c_21 (by decide)
          refine lv_bipush (v := (-2)) hx hb dX10_recipe_330 (by decide) ?_
          refine lv_goto (tgt := 339) hx hb dX10_recipe_332 (by decide) ?_
          refine va_iast hx hb hK hP hD hS 0 0 rfl rfl (vin 8 (by decide) rfl c_1 c_4) dX10_recipe_339 (fun H locs hP hD hS => ?_)
          have hP : va_P (dC, dI) vwCl [((md 34), .inl ((mq 34), 8, .inl (upd ff p0.toNatClampNeg (-2)))), ((md 35), .inl ((mq 35), 8, .inl (fun _ => 0))), (h0, .inr (10, [.int 0, .int 0, .int 0, .int 0, .ref (md 4), .ref (md 5), .ref (md 6), .ref (md 7), .ref (md 8), .ref (md 9), .ref (md 10), .ref (md 11), .int 0, .ref (md 13), .ref (md 14), .ref (md 15), .ref (md 16), .ref (md 17), .ref (md 18), .ref (md 19), .int 0, .int 0, .int 0, .int 0, .int (-1), .int 0, .ref (md 26), .ref (md 27), .ref (md 28), .ref (md 29), .ref (md 30), .ref (md 31), .ref (md 32), .ref (md 33), .ref (md 34), .ref (md 35), .int 0, .int 0, .int 0, .int 0, .int 0, .int 0, .int 0, .int 0, .int (-1), .int 0, .int 0, .ref (md 47), .ref (md 48), .ref (md 49), .ref (md 50)]))] _ := hP
          have hD : va_D _ [((md 34), .inl ((mq 34), 8, .inl (upd ff p0.toNatClampNeg (-2)))), ((md 35), .inl ((mq 35), 8, .inl (fun _ => 0))), (h0, .inr (10, [.int 0, .int 0, .int 0, .int 0, .ref (md 4), .ref (md 5), .ref (md 6), .ref (md 7), .ref (md 8), .ref (md 9), .ref (md 10), .ref (md 11), .int 0, .ref (md 13), .ref (md 14), .ref (md 15), .ref (md 16), .ref (md 17), .ref (md 18), .ref (md 19), .int 0, .int 0, .int 0, .int 0, .int (-1), .int 0, .ref (md 26), .ref (md 27), .ref (md 28), .ref (md 29), .ref (md 30), .ref (md 31), .ref (md 32), .ref (md 33), .ref (md 34), .ref (md 35), .int 0, .int 0, .int 0, .int 0, .int 0, .int 0, .int 0, .int 0, .int (-1), .int 0, .int 0, .ref (md 47), .ref (md 48), .ref (md 49), .ref (md 50)]))] := hD
          obtain ⟨f_22, ef_22⟩ : ∃ z, z = (upd ff p0.toNatClampNeg (-2)) := ⟨_, rfl⟩
          rw [← ef_22] at hP hD
          refine lv_aload_n hx hb dX10_recipe_340 rfl (lv_at hl 3 rfl) ?_
          refine va_get (D := (dC, dI)) (ci := 10) (v := .ref (md 35)) (C := RX10) (T := TX10) (N := 51) hx hb hts inw_X10_recipe_10 hown hK hP 2 rfl rfl 35 (by decide) (hts (.fieldLink RX10 87 "VatHouseModel" "many" "[I") (by decide +kernel)) (fun _ h9 => h9) rfl dX10_recipe_341 ?_
          refine lv_iload_n hx hb dX10_recipe_344 rfl (lv_at hl 4 rfl) ?_
          refine lv_aload_n hx hb dX10_recipe_345 rfl (lv_at hl 3 rfl) ?_
          refine va_get (D := (dC, dI)) (ci := 10) (v := .int 0) (C := RX10) (T := TX10) (N := 51) hx hb hts inw_X10_recipe_10 hown hK hP 2 rfl rfl 36 (by decide) (hts (.fieldLink RX10 249 "VatHouseModel" "nodes" "I") (by decide +kernel)) (fun _ h9 => h9) rfl dX10_recipe_346 ?_
          refine va_iast hx hb hK hP hD hS 1 1 rfl rfl (vin 8 (by decide) rfl c_1 c_4) dX10_recipe_349 (fun H locs hP hD hS => ?_)
          have hP : va_P (dC, dI) vwCl [((md 34), .inl ((mq 34), 8, .inl f_22)), ((md 35), .inl ((mq 35), 8, .inl (upd (fun _ => 0) p0.toNatClampNeg 0))), (h0, .inr (10, [.int 0, .int 0, .int 0, .int 0, .ref (md 4), .ref (md 5), .ref (md 6), .ref (md 7), .ref (md 8), .ref (md 9), .ref (md 10), .ref (md 11), .int 0, .ref (md 13), .ref (md 14), .ref (md 15), .ref (md 16), .ref (md 17), .ref (md 18), .ref (md 19), .int 0, .int 0, .int 0, .int 0, .int (-1), .int 0, .ref (md 26), .ref (md 27), .ref (md 28), .ref (md 29), .ref (md 30), .ref (md 31), .ref (md 32), .ref (md 33), .ref (md 34), .ref (md 35), .int 0, .int 0, .int 0, .int 0, .int 0, .int 0, .int 0, .int 0, .int (-1), .int 0, .int 0, .ref (md 47), .ref (md 48), .ref (md 49), .ref (md 50)]))] _ := hP
          have hD : va_D _ [((md 34), .inl ((mq 34), 8, .inl f_22)), ((md 35), .inl ((mq 35), 8, .inl (upd (fun _ => 0) p0.toNatClampNeg 0))), (h0, .inr (10, [.int 0, .int 0, .int 0, .int 0, .ref (md 4), .ref (md 5), .ref (md 6), .ref (md 7), .ref (md 8), .ref (md 9), .ref (md 10), .ref (md 11), .int 0, .ref (md 13), .ref (md 14), .ref (md 15), .ref (md 16), .ref (md 17), .ref (md 18), .ref (md 19), .int 0, .int 0, .int 0, .int 0, .int (-1), .int 0, .ref (md 26), .ref (md 27), .ref (md 28), .ref (md 29), .ref (md 30), .ref (md 31), .ref (md 32), .ref (md 33), .ref (md 34), .ref (md 35), .int 0, .int 0, .int 0, .int 0, .int 0, .int 0, .int 0, .int 0, .int (-1), .int 0, .int 0, .ref (md 47), .ref (md 48), .ref (md 49), .ref (md 50)]))] := hD
          obtain ⟨f_23, ef_23⟩ : ∃ z, z = (upd (fun _ => 0) p0.toNatClampNeg 0) := ⟨_, rfl⟩
          rw [← ef_23] at hP hD
          refine lv_aload_n hx hb dX10_recipe_350 rfl (lv_at hl 3 rfl) ?_
          refine lv_aload_n hx hb dX10_recipe_351 rfl (lv_at hl 3 rfl) ?_
          refine va_get (D := (dC, dI)) (ci := 10) (v := .int 0) (C := RX10) (T := TX10) (N := 51) hx hb hts inw_X10_recipe_10 hown hK hP 2 rfl rfl 36 (by decide) (hts (.fieldLink RX10 249 "VatHouseModel" "nodes" "I") (by decide +kernel)) (fun _ h9 => h9) rfl dX10_recipe_352 ?_
          refine va_put (D := (dC, dI)) (ci := 10) (v := .int 0) (ty := .int) (C := RX10) (T := TX10) (N := 51) hx hb hts inw_X10_recipe_10 tyX10 tyX10_ok nmX10 hown hK hP hD hS 2 rfl rfl 37 (by decide) (hts (.fieldLink RX10 284 "VatHouseModel" "latest" "I") (by decide +kernel)) (fun _ h9 => h9) rfl (by decide +kernel) rfl rfl (Nat.le_of_ble_eq_true rfl) dX10_recipe_355 (fun H locs hP hD hS => ?_)
          have hP : va_P (dC, dI) vwCl [((md 34), .inl ((mq 34), 8, .inl f_22)), ((md 35), .inl ((mq 35), 8, .inl f_23)), (h0, .inr (10, [.int 0, .int 0, .int 0, .int 0, .ref (md 4), .ref (md 5), .ref (md 6), .ref (md 7), .ref (md 8), .ref (md 9), .ref (md 10), .ref (md 11), .int 0, .ref (md 13), .ref (md 14), .ref (md 15), .ref (md 16), .ref (md 17), .ref (md 18), .ref (md 19), .int 0, .int 0, .int 0, .int 0, .int (-1), .int 0, .ref (md 26), .ref (md 27), .ref (md 28), .ref (md 29), .ref (md 30), .ref (md 31), .ref (md 32), .ref (md 33), .ref (md 34), .ref (md 35), .int 0, .int 0, .int 0, .int 0, .int 0, .int 0, .int 0, .int 0, .int (-1), .int 0, .int 0, .ref (md 47), .ref (md 48), .ref (md 49), .ref (md 50)]))] _ := hP
          have hD : va_D _ [((md 34), .inl ((mq 34), 8, .inl f_22)), ((md 35), .inl ((mq 35), 8, .inl f_23)), (h0, .inr (10, [.int 0, .int 0, .int 0, .int 0, .ref (md 4), .ref (md 5), .ref (md 6), .ref (md 7), .ref (md 8), .ref (md 9), .ref (md 10), .ref (md 11), .int 0, .ref (md 13), .ref (md 14), .ref (md 15), .ref (md 16), .ref (md 17), .ref (md 18), .ref (md 19), .int 0, .int 0, .int 0, .int 0, .int (-1), .int 0, .ref (md 26), .ref (md 27), .ref (md 28), .ref (md 29), .ref (md 30), .ref (md 31), .ref (md 32), .ref (md 33), .ref (md 34), .ref (md 35), .int 0, .int 0, .int 0, .int 0, .int 0, .int 0, .int 0, .int 0, .int (-1), .int 0, .int 0, .ref (md 47), .ref (md 48), .ref (md 49), .ref (md 50)]))] := hD
          refine lv_iconst (v := 0) hx hb dX10_recipe_358 (by decide) ?_
          exact en_i hx hb hr hlocks hP hD hK hS (0, (fun k : Nat => match k with | 0 => 0 | 1 => 0 | 2 => 0 | 3 => 0 | 12 => 0 | 20 => 0 | 21 => 0 | 22 => 0 | 23 => 0 | 24 => (-1) | 25 => 0 | 36 => 0 | 37 => 0 | 38 => 0 | 39 => 0 | 40 => 0 | 41 => 0 | 42 => 0 | 43 => 0 | 44 => (-1) | 45 => 0 | 46 => 0 | _ => 0)) ⟨rfl, by simp [E_recipe, c_1, c_4]⟩ [2] [] rfl rfl rfl (Nat.le_of_ble_eq_true rfl) (Nat.le_of_ble_eq_true rfl) dX10_recipe_359

