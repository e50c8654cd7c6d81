abbrev rm_X9_charge : Room := { frames := 7, cells := 1, slots := 6, locals := 103 }
theorem inw_X9_charge_7 : ∀ w ∈ wsX70, w ∈ wsX9_charge := by decide +kernel
theorem inw_X9_charge_9 : ∀ w ∈ wsX90, w ∈ wsX9_charge := by decide +kernel
set_option maxHeartbeats 800000 in
set_option maxRecDepth 100000 in
theorem c_X9_charge (l : Launch) (dC : Nat → ClassId) (dI : Nat → Nat → Nat) (sa : Nat → Nat) (hlt : l.stackTraces = false) (sz : Nat) (h0 : Nat) (ad : Nat → Nat) (ca : Nat → ClassId) (fv : Nat → Option Nat) (qv : Nat) (nn : Int32) (p0 : Int32) (p1 : Int32) (hfv : ∀ k, k < 6 → fv k = some (ad (2 + k))) (hq : ¬ p0 < 0 → ¬ 6 ≤ p0 → ad (2 + p0.toNatClampNeg) = qv) : CX l dC dI sa yX9_charge wsX9_charge rm_X9_charge [.ref h0, .int p0, .int p1] [(h0, .inr (9, [.ref (ad 0), .ref (ad 8), .int 0, .int 0, .ref (ad 9), .int 0, .ref (ad 10), .ref (ad 15), .int 0, .ref (ad 16), .ref (ad 17)])), ((ad 0), .inr (8, [.ref (ad 1), .int 0, .int 0])), ((ad 1), .inl ((ca 1), 6, .inr (.inr (.inr (.inr fv))))), (qv, .inr (7, [.int nn, .int 0, .int 0, .int 0, .int 2, .int 0, .int 0, .int (-2)]))] [((ca 1), .object "VatHouse$Vat")] sz (fun (r : Option Value) (x : Int32) => r = some (.int x) ∧ (E_charge p0 p1 = (0, x))) (fun (x : Int32) => []) (fun (x : Int32) => []) (fun E => E = NSE ∧ E_charge p0 p1 = (1, 0)) 1 6 := by
  refine CX.start (cc := cX9_charge) (maxL := 4) (ret := (some .int)) (by decide) rfl (Nat.le_of_ble_eq_true rfl) ?_
  intro p e s m below meth c ls hst hno hP hK hD hev hS hl
  obtain ⟨hx, hb, hr, hml, hts, hown, hlocks, hin⟩ := hst
  have hown : s.vm.findClass RX9 = some m.cls := hown
  have hin : meth.name = yX9_charge.name := hin
  have hA : ∀ q : Nat, s.heap.size ≤ q → va_A [(h0, .inr (9, [.ref (ad 0), .ref (ad 8), .int 0, .int 0, .ref (ad 9), .int 0, .ref (ad 10), .ref (ad 15), .int 0, .ref (ad 16), .ref (ad 17)])), ((ad 0), .inr (8, [.ref (ad 1), .int 0, .int 0])), ((ad 1), .inl ((ca 1), 6, .inr (.inr (.inr (.inr fv))))), (qv, .inr (7, [.int nn, .int 0, .int 0, .int 0, .int 2, .int 0, .int 0, .int (-2)]))] s.heap.size q := fun _ h => Or.inr h
  have hl : lv_has ls 4 [(0, .ref h0), (1, .int p0), (2, .int p1)] := hl
  refine lv_aload_n hx hb dX9_charge_0 rfl (lv_at hl 0 rfl) ?_
  refine va_get (D := (dC, dI)) (ci := 9) (v := .ref (ad 0)) (C := RX9) (T := TX9) (N := 11) hx hb hts inw_X9_charge_9 hown hK hP 0 rfl rfl 0 (by decide) (hts (.fieldLink RX9 10 "VatHouse" "works" "LVatHouse$Works;") (by decide +kernel)) (fun _ h9 => h9) rfl dX9_charge_1 ?_
  refine lv_iload_n hx hb dX9_charge_4 rfl (lv_at hl 1 rfl) ?_
  refine go_VX (wr := [(h0, .inr (9, [.ref (ad 0), .ref (ad 8), .int 0, .int 0, .ref (ad 9), .int 0, .ref (ad 10), .ref (ad 15), .int 0, .ref (ad 16), .ref (ad 17)])), (qv, .inr (7, [.int nn, .int 0, .int 0, .int 0, .int 2, .int 0, .int 0, .int (-2)]))]) ⟨hx, hb, hml, hown, hts⟩ (c_X8_vatAt l dC dI sa hlt _ ad ca fv p0 0 0 hfv) (cwV 1 hts gX9_charge_X8_vatAt rfl rfl rfl (by decide +kernel) ⟨Nat.le_of_ble_eq_true rfl, Nat.le_of_ble_eq_true rfl⟩) hP hD hK hS hA hev [1, 2] [0, 3] [0] rfl rfl rfl rfl (by decide) rfl 1 8 rfl rfl rfl rfl hl.1 rfl (Nat.le_of_ble_eq_true rfl) dX9_charge_5 ⟨Nat.le_of_ble_eq_true rfl, Nat.le_of_ble_eq_true rfl⟩ (fun E ce q9 H locs hpx hP hD hS hce hcv hcl => ?_) (fun r u H locs hw hP hD hK hS => ?_)
  · have hpx_1 : E = NSE ∧ (p0 < 0 ∨ 6 ≤ p0) := hpx
    obtain ⟨rfl, hpx_1⟩ := hpx_1
    exact go_out hno hlocks ⟨rfl, by rcases hpx_1 with h | h <;> simp [E_charge, h]⟩ hP hD hK hS hce hcv hcl [0, 2, 3, 1] rfl rfl (Nat.le_of_ble_eq_true rfl) (Nat.le_of_ble_eq_true rfl)
  have hw : r = some (.ref (ad (2 + p0.toNatClampNeg))) ∧ (¬ p0 < 0 ∧ ¬ 6 ≤ p0) := hw
  obtain ⟨rfl, hw_2⟩ := hw
  have hP : va_P (dC, dI) vwCl [(h0, .inr (9, [.ref (ad 0), .ref (ad 8), .int 0, .int 0, .ref (ad 9), .int 0, .ref (ad 10), .ref (ad 15), .int 0, .ref (ad 16), .ref (ad 17)])), (qv, .inr (7, [.int nn, .int 0, .int 0, .int 0, .int 2, .int 0, .int 0, .int (-2)])), ((ad 0), .inr (8, [.ref (ad 1), .int 0, .int 0])), ((ad 1), .inl ((ca 1), 6, .inr (.inr (.inr (.inr fv)))))] _ := hP
  have hD : va_D _ [(h0, .inr (9, [.ref (ad 0), .ref (ad 8), .int 0, .int 0, .ref (ad 9), .int 0, .ref (ad 10), .ref (ad 15), .int 0, .ref (ad 16), .ref (ad 17)])), (qv, .inr (7, [.int nn, .int 0, .int 0, .int 0, .int 2, .int 0, .int 0, .int (-2)])), ((ad 0), .inr (8, [.ref (ad 1), .int 0, .int 0])), ((ad 1), .inl ((ca 1), 6, .inr (.inr (.inr (.inr fv)))))] := hD
  have hK : va_K (dC, dI) vwCl [((ca 1), .object "VatHouse$Vat")] s := hK
  refine W.eq (g2 := F0 m 8 ls [.ref (ad (2 + p0.toNatClampNeg))]) rfl ?_
  rw [hq hw_2.1 hw_2.2]
  refine lv_astore_n (lv' := [(3, .ref qv), (0, .ref h0), (1, .int p0), (2, .int p1)]) hx hb dX9_charge_8 rfl hl (by decide) rfl (fun ls hl => ?_)
  refine lv_iload_n hx hb dX9_charge_9 rfl (lv_at hl 3 rfl) ?_
  refine lv_iconst (v := 1) hx hb dX9_charge_10 (by decide) ?_
  refine lv_icmp_lt (tgt := 25) hx hb dX9_charge_11 (by decide) (fun c_3 => ?_) (fun c_3 => ?_)
  · refine lv_iconst (v := (-1)) hx hb dX9_charge_25 (by decide) ?_
    refine vx_ret ?_
    exact en_i hx hb hr hlocks hP hD hK hS (-1) ⟨rfl, by simp [E_charge, hw_2, c_3]⟩ [] [] rfl rfl rfl (Nat.le_of_ble_eq_true rfl) (Nat.le_of_ble_eq_true rfl) dX9_charge_26
  · refine lv_iload_n hx hb dX9_charge_14 rfl (lv_at hl 3 rfl) ?_
    refine lv_ldc (v := 1000000) hx hb hown (hts (.constant RX9 61 (1000000)) (by decide +kernel)) dX9_charge_15 ?_
    refine lv_aload_n hx hb dX9_charge_17 rfl (lv_at hl 0 rfl) ?_
    refine va_get (D := (dC, dI)) (ci := 7) (v := .int 0) (C := RX7) (T := TX7) (N := 8) hx hb hts inw_X9_charge_7 hown hK hP 1 rfl rfl 1 (by decide) (hts (.fieldLink RX9 62 "VatHouse$Vat" "grains" "I") (by decide +kernel)) (fun _ h9 => h9) rfl dX9_charge_18 ?_
    refine lv_isub hx hb dX9_charge_21 ?_
    refine lv_topi (fun z_4 ez_4 => ?_)
    obtain rfl : z_4 = 1000000 := ez_4.trans (by decide)
    refine lv_icmp_le (tgt := 27) hx hb dX9_charge_22 (by decide) (fun c_5 => ?_) (fun c_5 => ?_)
    · refine lv_aload_n hx hb dX9_charge_27 rfl (lv_at hl 0 rfl) ?_
      refine lv_dup hx hb dX9_charge_28 rfl ?_
      refine va_get (D := (dC, dI)) (ci := 7) (v := .int 0) (C := RX7) (T := TX7) (N := 8) hx hb hts inw_X9_charge_7 hown hK hP 1 rfl rfl 1 (by decide) (hts (.fieldLink RX9 62 "VatHouse$Vat" "grains" "I") (by decide +kernel)) (fun _ h9 => h9) rfl dX9_charge_29 ?_
      refine lv_iload_n hx hb dX9_charge_32 rfl (lv_at hl 3 rfl) ?_
      refine lv_iadd hx hb dX9_charge_33 ?_
      refine lv_topi (fun z_6 ez_6 => ?_)
      refine va_put (D := (dC, dI)) (ci := 7) (v := .int z_6) (ty := .int) (C := RX7) (T := TX7) (N := 8) hx hb hts inw_X9_charge_7 tyX7 tyX7_ok nmX7 hown hK hP hD hS 1 rfl rfl 1 (by decide) (hts (.fieldLink RX9 62 "VatHouse$Vat" "grains" "I") (by decide +kernel)) (fun _ h9 => h9) rfl (by decide +kernel) rfl rfl (Nat.le_of_ble_eq_true rfl) dX9_charge_34 (fun H locs hP hD hS => ?_)
      have hP : va_P (dC, dI) vwCl [(h0, .inr (9, [.ref (ad 0), .ref (ad 8), .int 0, .int 0, .ref (ad 9), .int 0, .ref (ad 10), .ref (ad 15), .int 0, .ref (ad 16), .ref (ad 17)])), (qv, .inr (7, [.int nn, .int z_6, .int 0, .int 0, .int 2, .int 0, .int 0, .int (-2)])), ((ad 0), .inr (8, [.ref (ad 1), .int 0, .int 0])), ((ad 1), .inl ((ca 1), 6, .inr (.inr (.inr (.inr fv)))))] _ := hP
      have hD : va_D _ [(h0, .inr (9, [.ref (ad 0), .ref (ad 8), .int 0, .int 0, .ref (ad 9), .int 0, .ref (ad 10), .ref (ad 15), .int 0, .ref (ad 16), .ref (ad 17)])), (qv, .inr (7, [.int nn, .int z_6, .int 0, .int 0, .int 2, .int 0, .int 0, .int (-2)])), ((ad 0), .inr (8, [.ref (ad 1), .int 0, .int 0])), ((ad 1), .inl ((ca 1), 6, .inr (.inr (.inr (.inr fv)))))] := hD
      refine lv_aload_n hx hb dX9_charge_37 rfl (lv_at hl 1 rfl) ?_
      refine lv_dup hx hb dX9_charge_38 rfl ?_
      refine va_get (D := (dC, dI)) (ci := 9) (v := .int 0) (C := RX9) (T := TX9) (N := 11) hx hb hts inw_X9_charge_9 hown hK hP 0 rfl rfl 3 (by decide) (hts (.fieldLink RX9 68 "VatHouse" "grainsPutIn" "I") (by decide +kernel)) (fun _ h9 => h9) rfl dX9_charge_39 ?_
      refine lv_iload_n hx hb dX9_charge_42 rfl (lv_at hl 3 rfl) ?_
      refine lv_iadd hx hb dX9_charge_43 ?_
      refine lv_topi (fun z_7 ez_7 => ?_)
      refine va_put (D := (dC, dI)) (ci := 9) (v := .int z_7) (ty := .int) (C := RX9) (T := TX9) (N := 11) hx hb hts inw_X9_charge_9 tyX9 tyX9_ok nmX9 hown hK hP hD hS 0 rfl rfl 3 (by decide) (hts (.fieldLink RX9 68 "VatHouse" "grainsPutIn" "I") (by decide +kernel)) (fun _ h9 => h9) rfl (by decide +kernel) rfl rfl (Nat.le_of_ble_eq_true rfl) dX9_charge_44 (fun H locs hP hD hS => ?_)
      have hP : va_P (dC, dI) vwCl [(h0, .inr (9, [.ref (ad 0), .ref (ad 8), .int 0, .int z_7, .ref (ad 9), .int 0, .ref (ad 10), .ref (ad 15), .int 0, .ref (ad 16), .ref (ad 17)])), (qv, .inr (7, [.int nn, .int z_6, .int 0, .int 0, .int 2, .int 0, .int 0, .int (-2)])), ((ad 0), .inr (8, [.ref (ad 1), .int 0, .int 0])), ((ad 1), .inl ((ca 1), 6, .inr (.inr (.inr (.inr fv)))))] _ := hP
      have hD : va_D _ [(h0, .inr (9, [.ref (ad 0), .ref (ad 8), .int 0, .int z_7, .ref (ad 9), .int 0, .ref (ad 10), .ref (ad 15), .int 0, .ref (ad 16), .ref (ad 17)])), (qv, .inr (7, [.int nn, .int z_6, .int 0, .int 0, .int 2, .int 0, .int 0, .int (-2)])), ((ad 0), .inr (8, [.ref (ad 1), .int 0, .int 0])), ((ad 1), .inl ((ca 1), 6, .inr (.inr (.inr (.inr fv)))))] := hD
      refine lv_aload_n hx hb dX9_charge_47 rfl (lv_at hl 0 rfl) ?_
      refine va_get (D := (dC, dI)) (ci := 7) (v := .int z_6) (C := RX7) (T := TX7) (N := 8) hx hb hts inw_X9_charge_7 hown hK hP 1 rfl rfl 1 (by decide) (hts (.fieldLink RX9 62 "VatHouse$Vat" "grains" "I") (by decide +kernel)) (fun _ h9 => h9) rfl dX9_charge_48 ?_
      refine vx_ret ?_
      exact en_i hx hb hr hlocks hP hD hK hS z_6 ⟨rfl, by subst ez_6 ez_7; simp [E_charge, hw_2, c_3, c_5]⟩ [] [] rfl rfl rfl (Nat.le_of_ble_eq_true rfl) (Nat.le_of_ble_eq_true rfl) dX9_charge_51
    · refine lv_iconst (v := (-1)) hx hb dX9_charge_25 (by decide) ?_
      refine vx_ret ?_
      exact en_i hx hb hr hlocks hP hD hK hS (-1) ⟨rfl, by simp [E_charge, hw_2, c_3, c_5]⟩ [] [] rfl rfl rfl (Nat.le_of_ble_eq_true rfl) (Nat.le_of_ble_eq_true rfl) dX9_charge_26

abbrev rm_X9_feed : Room := { frames := 7, cells := 2, slots := 12, locals := 103 }
theorem inw_X9_feed_7 : ∀ w ∈ wsX70, w ∈ wsX9_feed := by decide +kernel
theorem inw_X9_feed_9 : ∀ w ∈ wsX90, w ∈ wsX9_feed := by decide +kernel
set_option maxHeartbeats 800000 in
set_option maxRecDepth 100000 in
theorem c_X9_feed (l : Launch) (dC : Nat → ClassId) (dI : Nat → Nat → Nat) (sa : Nat → Nat) (hlt : l.stackTraces = false) (sz : Nat) (h0 : Nat) (ad : Nat → Nat) (ca : Nat → ClassId) (fv : Nat → Option Nat) (qv : Nat) (nn : Int32) (p0 : Int32) (p1 : Int32) (hfv : ∀ k, k < 6 → fv k = some (ad (2 + k))) (hq : ¬ p0 < 0 → ¬ 6 ≤ p0 → ad (2 + p0.toNatClampNeg) = qv) : CX l dC dI sa yX9_feed wsX9_feed rm_X9_feed [.ref h0, .int p0, .int p1] [(h0, .inr (9, [.ref (ad 0), .ref (ad 8), .int 0, .int 0, .ref (ad 9), .int 0, .ref (ad 10), .ref (ad 15), .int 0, .ref (ad 16), .ref (ad 17)])), ((ad 0), .inr (8, [.ref (ad 1), .int 0, .int 0])), ((ad 1), .inl ((ca 1), 6, .inr (.inr (.inr (.inr fv))))), (qv, .inr (7, [.int nn, .int 0, .int 0, .int 0, .int 2, .int 0, .int 0, .int (-2)]))] [((ca 1), .object "VatHouse$Vat")] sz (fun (r : Option Value) (x : Int32) => r = some (.int x) ∧ (E_feed p0 p1 = (0, x))) (fun (x : Int32) => []) (fun (x : Int32) => []) (fun E => (E = NSE ∧ E_feed p0 p1 = (1, 0)) ∨ (E = IAE ∧ E_feed p0 p1 = (2, 0))) 2 12 := by
  refine CX.start (cc := cX9_feed) (maxL := 4) (ret := (some .int)) (by decide) rfl (Nat.le_of_ble_eq_true rfl) ?_
  intro p e s m below meth c ls hst hno hP hK hD hev hS hl
  obtain ⟨hx, hb, hr, hml, hts, hown, hlocks, hin⟩ := hst
  have hown : s.vm.findClass RX9 = some m.cls := hown
  have hin : meth.name = yX9_feed.name := hin
  have hA : ∀ q : Nat, s.heap.size ≤ q → va_A [(h0, .inr (9, [.ref (ad 0), .ref (ad 8), .int 0, .int 0, .ref (ad 9), .int 0, .ref (ad 10), .ref (ad 15), .int 0, .ref (ad 16), .ref (ad 17)])), ((ad 0), .inr (8, [.ref (ad 1), .int 0, .int 0])), ((ad 1), .inl ((ca 1), 6, .inr (.inr (.inr (.inr fv))))), (qv, .inr (7, [.int nn, .int 0, .int 0, .int 0, .int 2, .int 0, .int 0, .int (-2)]))] s.heap.size q := fun _ h => Or.inr h
  have hl : lv_has ls 4 [(0, .ref h0), (1, .int p0), (2, .int p1)] := hl
  refine lv_aload_n hx hb dX9_feed_0 rfl (lv_at hl 0 rfl) ?_
  refine va_get (D := (dC, dI)) (ci := 9) (v := .ref (ad 0)) (C := RX9) (T := TX9) (N := 11) hx hb hts inw_X9_feed_9 hown hK hP 0 rfl rfl 0 (by decide) (hts (.fieldLink RX9 10 "VatHouse" "works" "LVatHouse$Works;") (by decide +kernel)) (fun _ h9 => h9) rfl dX9_feed_1 ?_
  refine lv_iload_n hx hb dX9_feed_4 rfl (lv_at hl 1 rfl) ?_
  refine go_VX (wr := [(h0, .inr (9, [.ref (ad 0), .ref (ad 8), .int 0, .int 0, .ref (ad 9), .int 0, .ref (ad 10), .ref (ad 15), .int 0, .ref (ad 16), .ref (ad 17)])), (qv, .inr (7, [.int nn, .int 0, .int 0, .int 0, .int 2, .int 0, .int 0, .int (-2)]))]) ⟨hx, hb, hml, hown, hts⟩ (c_X8_vatAt l dC dI sa hlt _ ad ca fv p0 0 0 hfv) (cwV 1 hts gX9_feed_X8_vatAt rfl rfl rfl (by decide +kernel) ⟨Nat.le_of_ble_eq_true rfl, Nat.le_of_ble_eq_true rfl⟩) hP hD hK hS hA hev [1, 2] [0, 3] [0] rfl rfl rfl rfl (by decide) rfl 1 8 rfl rfl rfl rfl hl.1 rfl (Nat.le_of_ble_eq_true rfl) dX9_feed_5 ⟨Nat.le_of_ble_eq_true rfl, Nat.le_of_ble_eq_true rfl⟩ (fun E ce q9 H locs hpx hP hD hS hce hcv hcl => ?_) (fun r u H locs hw hP hD hK hS => ?_)
  · have hpx_1 : E = NSE ∧ (p0 < 0 ∨ 6 ≤ p0) := hpx
    obtain ⟨rfl, hpx_1⟩ := hpx_1
    exact go_out hno hlocks (Or.inl ⟨rfl, by rcases hpx_1 with h | h <;> simp [E_feed, h]⟩) hP hD hK hS hce hcv hcl [0, 2, 3, 1] rfl rfl (Nat.le_of_ble_eq_true rfl) (Nat.le_of_ble_eq_true rfl)
  have hw : r = some (.ref (ad (2 + p0.toNatClampNeg))) ∧ (¬ p0 < 0 ∧ ¬ 6 ≤ p0) := hw
  obtain ⟨rfl, hw_2⟩ := hw
  have hP : va_P (dC, dI) vwCl [(h0, .inr (9, [.ref (ad 0), .ref (ad 8), .int 0, .int 0, .ref (ad 9), .int 0, .ref (ad 10), .ref (ad 15), .int 0, .ref (ad 16), .ref (ad 17)])), (qv, .inr (7, [.int nn, .int 0, .int 0, .int 0, .int 2, .int 0, .int 0, .int (-2)])), ((ad 0), .inr (8, [.ref (ad 1), .int 0, .int 0])), ((ad 1), .inl ((ca 1), 6, .inr (.inr (.inr (.inr fv)))))] _ := hP
  have hD : va_D _ [(h0, .inr (9, [.ref (ad 0), .ref (ad 8), .int 0, .int 0, .ref (ad 9), .int 0, .ref (ad 10), .ref (ad 15), .int 0, .ref (ad 16), .ref (ad 17)])), (qv, .inr (7, [.int nn, .int 0, .int 0, .int 0, .int 2, .int 0, .int 0, .int (-2)])), ((ad 0), .inr (8, [.ref (ad 1), .int 0, .int 0])), ((ad 1), .inl ((ca 1), 6, .inr (.inr (.inr (.inr fv)))))] := hD
  have hK : va_K (dC, dI) vwCl [((ca 1), .object "VatHouse$Vat")] s := hK
  refine W.eq (g2 := F0 m 8 ls [.ref (ad (2 + p0.toNatClampNeg))]) rfl ?_
  rw [hq hw_2.1 hw_2.2]
  refine lv_astore_n (lv' := [(3, .ref qv), (0, .ref h0), (1, .int p0), (2, .int p1)]) hx hb dX9_feed_8 rfl hl (by decide) rfl (fun ls hl => ?_)
  refine lv_iload_n hx hb dX9_feed_9 rfl (lv_at hl 3 rfl) ?_
  refine lv_iconst (v := 1) hx hb dX9_feed_10 (by decide) ?_
  refine lv_icmp_lt (tgt := 25) hx hb dX9_feed_11 (by decide) (fun c_3 => ?_) (fun c_3 => ?_)
  · refine lv_iconst (v := 0) hx hb dX9_feed_25 (by decide) ?_
    refine go_SX (wr := [(h0, .inr (9, [.ref (ad 0), .ref (ad 8), .int 0, .int 0, .ref (ad 9), .int 0, .ref (ad 10), .ref (ad 15), .int 0, .ref (ad 16), .ref (ad 17)])), (qv, .inr (7, [.int nn, .int 0, .int 0, .int 0, .int 2, .int 0, .int 0, .int (-2)])), ((ad 0), .inr (8, [.ref (ad 1), .int 0, .int 0])), ((ad 1), .inl ((ca 1), 6, .inr (.inr (.inr (.inr fv)))))]) ⟨hx, hb, hml, hown, hts⟩ (c_X9_demand l dC dI sa hlt _ 0 ) (va_cwS 1 hts gX9_feed_X9_demand rfl rfl rfl (by decide +kernel) ⟨Nat.le_of_ble_eq_true rfl, Nat.le_of_ble_eq_true rfl⟩) hP hD hK hS hA hev [] [0, 1, 2, 3] [] rfl rfl rfl rfl (by decide) rfl rfl hl.1 rfl (Nat.le_of_ble_eq_true rfl) dX9_feed_26 ⟨Nat.le_of_ble_eq_true rfl, Nat.le_of_ble_eq_true rfl⟩ (fun E ce q9 H locs hpx hP hD hS hce hcv hcl => ?_) (fun r u H locs hw hP hD hK hS => ?_)
    · have hpx_4 : E = IAE ∧ (0 : Int32) = 0 := hpx
      obtain ⟨rfl, hpx_4⟩ := hpx_4
      exact go_out hno hlocks (Or.inr ⟨rfl, by simp [E_feed, hw_2, c_3, hpx_4]⟩) hP hD hK hS hce hcv hcl [0, 2, 3, 1] rfl rfl (Nat.le_of_ble_eq_true rfl) (Nat.le_of_ble_eq_true rfl)
    have hw : r = none ∧ (¬ (0 : Int32) = 0) := hw
    obtain ⟨rfl, hw_5⟩ := hw
    exact absurd rfl hw_5
  · refine lv_iload_n hx hb dX9_feed_14 rfl (lv_at hl 3 rfl) ?_
    refine lv_sipush (v := 1000) hx hb dX9_feed_15 (by decide) ?_
    refine lv_icmp_gt (tgt := 25) hx hb dX9_feed_18 (by decide) (fun c_6 => ?_) (fun c_6 => ?_)
    · refine lv_iconst (v := 0) hx hb dX9_feed_25 (by decide) ?_
      refine go_SX (wr := [(h0, .inr (9, [.ref (ad 0), .ref (ad 8), .int 0, .int 0, .ref (ad 9), .int 0, .ref (ad 10), .ref (ad 15), .int 0, .ref (ad 16), .ref (ad 17)])), (qv, .inr (7, [.int nn, .int 0, .int 0, .int 0, .int 2, .int 0, .int 0, .int (-2)])), ((ad 0), .inr (8, [.ref (ad 1), .int 0, .int 0])), ((ad 1), .inl ((ca 1), 6, .inr (.inr (.inr (.inr fv)))))]) ⟨hx, hb, hml, hown, hts⟩ (c_X9_demand l dC dI sa hlt _ 0 ) (va_cwS 1 hts gX9_feed_X9_demand rfl rfl rfl (by decide +kernel) ⟨Nat.le_of_ble_eq_true rfl, Nat.le_of_ble_eq_true rfl⟩) hP hD hK hS hA hev [] [0, 1, 2, 3] [] rfl rfl rfl rfl (by decide) rfl rfl hl.1 rfl (Nat.le_of_ble_eq_true rfl) dX9_feed_26 ⟨Nat.le_of_ble_eq_true rfl, Nat.le_of_ble_eq_true rfl⟩ (fun E ce q9 H locs hpx hP hD hS hce hcv hcl => ?_) (fun r u H locs hw hP hD hK hS => ?_)
      · have hpx_7 : E = IAE ∧ (0 : Int32) = 0 := hpx
        obtain ⟨rfl, hpx_7⟩ := hpx_7
        exact go_out hno hlocks (Or.inr ⟨rfl, by simp [E_feed, hw_2, c_3, c_6, hpx_7]⟩) hP hD hK hS hce hcv hcl [0, 2, 3, 1] rfl rfl (Nat.le_of_ble_eq_true rfl) (Nat.le_of_ble_eq_true rfl)
      have hw : r = none ∧ (¬ (0 : Int32) = 0) := hw
      obtain ⟨rfl, hw_8⟩ := hw
      exact absurd rfl hw_8
    · refine lv_iconst (v := 1) hx hb dX9_feed_21 (by decide) ?_
      refine lv_goto (tgt := 26) hx hb dX9_feed_22 (by decide) ?_
      refine go_SX (wr := [(h0, .inr (9, [.ref (ad 0), .ref (ad 8), .int 0, .int 0, .ref (ad 9), .int 0, .ref (ad 10), .ref (ad 15), .int 0, .ref (ad 16), .ref (ad 17)])), (qv, .inr (7, [.int nn, .int 0, .int 0, .int 0, .int 2, .int 0, .int 0, .int (-2)])), ((ad 0), .inr (8, [.ref (ad 1), .int 0, .int 0])), ((ad 1), .inl ((ca 1), 6, .inr (.inr (.inr (.inr fv)))))]) ⟨hx, hb, hml, hown, hts⟩ (c_X9_demand l dC dI sa hlt _ 1 ) (va_cwS 1 hts gX9_feed_X9_demand rfl rfl rfl (by decide +kernel) ⟨Nat.le_of_ble_eq_true rfl, Nat.le_of_ble_eq_true rfl⟩) hP hD hK hS hA hev [] [0, 1, 2, 3] [] rfl rfl rfl rfl (by decide) rfl rfl hl.1 rfl (Nat.le_of_ble_eq_true rfl) dX9_feed_26 ⟨Nat.le_of_ble_eq_true rfl, Nat.le_of_ble_eq_true rfl⟩ (fun E ce q9 H locs hpx hP hD hS hce hcv hcl => ?_) (fun r u H locs hw hP hD hK hS => ?_)
      · have hpx_9 : E = IAE ∧ (1 : Int32) = 0 := hpx
        exact absurd hpx_9.2 (by decide)
      have hw : r = none ∧ (¬ (1 : Int32) = 0) := hw
      obtain ⟨rfl, hw_10⟩ := hw
      have hP : va_P (dC, dI) vwCl [(h0, .inr (9, [.ref (ad 0), .ref (ad 8), .int 0, .int 0, .ref (ad 9), .int 0, .ref (ad 10), .ref (ad 15), .int 0, .ref (ad 16), .ref (ad 17)])), (qv, .inr (7, [.int nn, .int 0, .int 0, .int 0, .int 2, .int 0, .int 0, .int (-2)])), ((ad 0), .inr (8, [.ref (ad 1), .int 0, .int 0])), ((ad 1), .inl ((ca 1), 6, .inr (.inr (.inr (.inr fv)))))] _ := hP
      have hD : va_D _ [(h0, .inr (9, [.ref (ad 0), .ref (ad 8), .int 0, .int 0, .ref (ad 9), .int 0, .ref (ad 10), .ref (ad 15), .int 0, .ref (ad 16), .ref (ad 17)])), (qv, .inr (7, [.int nn, .int 0, .int 0, .int 0, .int 2, .int 0, .int 0, .int (-2)])), ((ad 0), .inr (8, [.ref (ad 1), .int 0, .int 0])), ((ad 1), .inl ((ca 1), 6, .inr (.inr (.inr (.inr fv)))))] := hD
      have hK : va_K (dC, dI) vwCl [((ca 1), .object "VatHouse$Vat")] s := hK
      refine W.eq (g2 := F0 m 29 ls []) rfl ?_
      refine lv_aload_n hx hb dX9_feed_29 rfl (lv_at hl 0 rfl) ?_
      refine lv_iload_n hx hb dX9_feed_30 rfl (lv_at hl 3 rfl) ?_
      refine go_V (wr := [(h0, .inr (9, [.ref (ad 0), .ref (ad 8), .int 0, .int 0, .ref (ad 9), .int 0, .ref (ad 10), .ref (ad 15), .int 0, .ref (ad 16), .ref (ad 17)])), ((ad 0), .inr (8, [.ref (ad 1), .int 0, .int 0])), ((ad 1), .inl ((ca 1), 6, .inr (.inr (.inr (.inr fv)))))]) ⟨hx, hb, hml, hown, hts⟩ (c_X7_takeFood l dC dI sa hlt _ qv nn 0 0 0 2 0 0 (-2) p1 ) (cwV 1 hts gX9_feed_X7_takeFood rfl rfl rfl (by decide +kernel) ⟨Nat.le_of_ble_eq_true rfl, Nat.le_of_ble_eq_true rfl⟩) hP hD hK hS hA hev [1] [0, 2, 3] [] rfl rfl rfl rfl (by decide) rfl 1 7 rfl rfl rfl rfl hl.1 rfl (Nat.le_of_ble_eq_true rfl) dX9_feed_31 ⟨Nat.le_of_ble_eq_true rfl, Nat.le_of_ble_eq_true rfl⟩ (fun r u H locs hw hP hD hK hS => ?_)
      obtain ⟨z_11, fo2_12, st2_13⟩ := u
      have hw : r = some (.int z_11) ∧ ((1000 < (0 : Int32) + p1 ∧ z_11 = 0 ∧ fo2_12 = 1000 ∧ st2_13 = 2) ∨ (¬ 1000 < (0 : Int32) + p1 ∧ z_11 = 1 ∧ fo2_12 = (0 : Int32) + p1 ∧ st2_13 = (2 : Int32))) := hw
      obtain ⟨rfl, hw_14⟩ := hw
      have hP : va_P (dC, dI) vwCl [(h0, .inr (9, [.ref (ad 0), .ref (ad 8), .int 0, .int 0, .ref (ad 9), .int 0, .ref (ad 10), .ref (ad 15), .int 0, .ref (ad 16), .ref (ad 17)])), ((ad 0), .inr (8, [.ref (ad 1), .int 0, .int 0])), ((ad 1), .inl ((ca 1), 6, .inr (.inr (.inr (.inr fv))))), (qv, .inr (7, [.int nn, .int 0, .int fo2_12, .int 0, .int st2_13, .int 0, .int 0, .int (-2)]))] _ := hP
      have hD : va_D _ [(h0, .inr (9, [.ref (ad 0), .ref (ad 8), .int 0, .int 0, .ref (ad 9), .int 0, .ref (ad 10), .ref (ad 15), .int 0, .ref (ad 16), .ref (ad 17)])), ((ad 0), .inr (8, [.ref (ad 1), .int 0, .int 0])), ((ad 1), .inl ((ca 1), 6, .inr (.inr (.inr (.inr fv))))), (qv, .inr (7, [.int nn, .int 0, .int fo2_12, .int 0, .int st2_13, .int 0, .int 0, .int (-2)]))] := hD
      have hK : va_K (dC, dI) vwCl [((ca 1), .object "VatHouse$Vat")] s := hK
      refine W.eq (g2 := F0 m 34 ls [.int z_11]) rfl ?_
      refine lv_pop hx hb dX9_feed_34 rfl ?_
      refine lv_aload_n hx hb dX9_feed_35 rfl (lv_at hl 0 rfl) ?_
      refine va_get (D := (dC, dI)) (ci := 7) (v := .int st2_13) (C := RX7) (T := TX7) (N := 8) hx hb hts inw_X9_feed_7 hown hK hP 3 rfl rfl 4 (by decide) (hts (.fieldLink RX9 79 "VatHouse$Vat" "state" "I") (by decide +kernel)) (fun _ h9 => h9) rfl dX9_feed_36 ?_
      refine vx_ret ?_
      exact en_i hx hb hr hlocks hP hD hK hS st2_13 ⟨rfl, by rcases hw_14 with ⟨_, _, _, h⟩ | ⟨_, _, _, h⟩ <;> simp [E_feed, h, hw_2, c_3, c_6, hw_10]⟩ [] [] rfl rfl rfl (Nat.le_of_ble_eq_true rfl) (Nat.le_of_ble_eq_true rfl) dX9_feed_39

abbrev rm_X9_lime : Room := { frames := 7, cells := 1, slots := 6, locals := 103 }
theorem inw_X9_lime_7 : ∀ w ∈ wsX70, w ∈ wsX9_lime := by decide +kernel
theorem inw_X9_lime_9 : ∀ w ∈ wsX90, w ∈ wsX9_lime := by decide +kernel
set_option maxHeartbeats 800000 in
set_option maxRecDepth 100000 in
theorem c_X9_lime (l : Launch) (dC : Nat → ClassId) (dI : Nat → Nat → Nat) (sa : Nat → Nat) (hlt : l.stackTraces = false) (sz : Nat) (h0 : Nat) (ad : Nat → Nat) (ca : Nat → ClassId) (fv : Nat → Option Nat) (qv : Nat) (nn : Int32) (p0 : Int32) (hfv : ∀ k, k < 6 → fv k = some (ad (2 + k))) (hq : ¬ p0 < 0 → ¬ 6 ≤ p0 → ad (2 + p0.toNatClampNeg) = qv) : CX l dC dI sa yX9_lime wsX9_lime rm_X9_lime [.ref h0, .int p0] [(h0, .inr (9, [.ref (ad 0), .ref (ad 8), .int 0, .int 0, .ref (ad 9), .int 0, .ref (ad 10), .ref (ad 15), .int 0, .ref (ad 16), .ref (ad 17)])), ((ad 0), .inr (8, [.ref (ad 1), .int 0, .int 0])), ((ad 1), .inl ((ca 1), 6, .inr (.inr (.inr (.inr fv))))), (qv, .inr (7, [.int nn, .int 0, .int 0, .int 0, .int 2, .int 0, .int 0, .int (-2)]))] [((ca 1), .object "VatHouse$Vat")] sz (fun (r : Option Value) (x : Int32) => r = some (.int x) ∧ (E_lime p0 = (0, x))) (fun (x : Int32) => []) (fun (x : Int32) => []) (fun E => E = NSE ∧ E_lime p0 = (1, 0)) 1 6 := by
  refine CX.start (cc := cX9_lime) (maxL := 3) (ret := (some .int)) (by decide) rfl (Nat.le_of_ble_eq_true rfl) ?_
  intro p e s m below meth c ls hst hno hP hK hD hev hS hl
  obtain ⟨hx, hb, hr, hml, hts, hown, hlocks, hin⟩ := hst
  have hown : s.vm.findClass RX9 = some m.cls := hown
  have hin : meth.name = yX9_lime.name := hin
  have hA : ∀ q : Nat, s.heap.size ≤ q → va_A [(h0, .inr (9, [.ref (ad 0), .ref (ad 8), .int 0, .int 0, .ref (ad 9), .int 0, .ref (ad 10), .ref (ad 15), .int 0, .ref (ad 16), .ref (ad 17)])), ((ad 0), .inr (8, [.ref (ad 1), .int 0, .int 0])), ((ad 1), .inl ((ca 1), 6, .inr (.inr (.inr (.inr fv))))), (qv, .inr (7, [.int nn, .int 0, .int 0, .int 0, .int 2, .int 0, .int 0, .int (-2)]))] s.heap.size q := fun _ h => Or.inr h
  have hl : lv_has ls 3 [(0, .ref h0), (1, .int p0)] := hl
  refine lv_aload_n hx hb dX9_lime_0 rfl (lv_at hl 0 rfl) ?_
  refine va_get (D := (dC, dI)) (ci := 9) (v := .ref (ad 0)) (C := RX9) (T := TX9) (N := 11) hx hb hts inw_X9_lime_9 hown hK hP 0 rfl rfl 0 (by decide) (hts (.fieldLink RX9 10 "VatHouse" "works" "LVatHouse$Works;") (by decide +kernel)) (fun _ h9 => h9) rfl dX9_lime_1 ?_
  refine lv_iload_n hx hb dX9_lime_4 rfl (lv_at hl 1 rfl) ?_
  refine go_VX (wr := [(h0, .inr (9, [.ref (ad 0), .ref (ad 8), .int 0, .int 0, .ref (ad 9), .int 0, .ref (ad 10), .ref (ad 15), .int 0, .ref (ad 16), .ref (ad 17)])), (qv, .inr (7, [.int nn, .int 0, .int 0, .int 0, .int 2, .int 0, .int 0, .int (-2)]))]) ⟨hx, hb, hml, hown, hts⟩ (c_X8_vatAt l dC dI sa hlt _ ad ca fv p0 0 0 hfv) (cwV 1 hts gX9_lime_X8_vatAt rfl rfl rfl (by decide +kernel) ⟨Nat.le_of_ble_eq_true rfl, Nat.le_of_ble_eq_true rfl⟩) hP hD hK hS hA hev [1, 2] [0, 3] [0] rfl rfl rfl rfl (by decide) rfl 1 8 rfl rfl rfl rfl hl.1 rfl (Nat.le_of_ble_eq_true rfl) dX9_lime_5 ⟨Nat.le_of_ble_eq_true rfl, Nat.le_of_ble_eq_true rfl⟩ (fun E ce q9 H locs hpx hP hD hS hce hcv hcl => ?_) (fun r u H locs hw hP hD hK hS => ?_)
  · have hpx_1 : E = NSE ∧ (p0 < 0 ∨ 6 ≤ p0) := hpx
    obtain ⟨rfl, hpx_1⟩ := hpx_1
    exact go_out hno hlocks ⟨rfl, by rcases hpx_1 with h | h <;> simp [E_lime, h]⟩ hP hD hK hS hce hcv hcl [0, 2, 3, 1] rfl rfl (Nat.le_of_ble_eq_true rfl) (Nat.le_of_ble_eq_true rfl)
  have hw : r = some (.ref (ad (2 + p0.toNatClampNeg))) ∧ (¬ p0 < 0 ∧ ¬ 6 ≤ p0) := hw
  obtain ⟨rfl, hw_2⟩ := hw
  have hP : va_P (dC, dI) vwCl [(h0, .inr (9, [.ref (ad 0), .ref (ad 8), .int 0, .int 0, .ref (ad 9), .int 0, .ref (ad 10), .ref (ad 15), .int 0, .ref (ad 16), .ref (ad 17)])), (qv, .inr (7, [.int nn, .int 0, .int 0, .int 0, .int 2, .int 0, .int 0, .int (-2)])), ((ad 0), .inr (8, [.ref (ad 1), .int 0, .int 0])), ((ad 1), .inl ((ca 1), 6, .inr (.inr (.inr (.inr fv)))))] _ := hP
  have hD : va_D _ [(h0, .inr (9, [.ref (ad 0), .ref (ad 8), .int 0, .int 0, .ref (ad 9), .int 0, .ref (ad 10), .ref (ad 15), .int 0, .ref (ad 16), .ref (ad 17)])), (qv, .inr (7, [.int nn, .int 0, .int 0, .int 0, .int 2, .int 0, .int 0, .int (-2)])), ((ad 0), .inr (8, [.ref (ad 1), .int 0, .int 0])), ((ad 1), .inl ((ca 1), 6, .inr (.inr (.inr (.inr fv)))))] := hD
  have hK : va_K (dC, dI) vwCl [((ca 1), .object "VatHouse$Vat")] s := hK
  refine W.eq (g2 := F0 m 8 ls [.ref (ad (2 + p0.toNatClampNeg))]) rfl ?_
  rw [hq hw_2.1 hw_2.2]
  refine lv_astore_n (lv' := [(2, .ref qv), (0, .ref h0), (1, .int p0)]) hx hb dX9_lime_8 rfl hl (by decide) rfl (fun ls hl => ?_)
  refine lv_aload_n hx hb dX9_lime_9 rfl (lv_at hl 0 rfl) ?_
  refine go_V (wr := [(h0, .inr (9, [.ref (ad 0), .ref (ad 8), .int 0, .int 0, .ref (ad 9), .int 0, .ref (ad 10), .ref (ad 15), .int 0, .ref (ad 16), .ref (ad 17)])), ((ad 0), .inr (8, [.ref (ad 1), .int 0, .int 0])), ((ad 1), .inl ((ca 1), 6, .inr (.inr (.inr (.inr fv)))))]) ⟨hx, hb, hml, hown, hts⟩ (c_X7_takeLime l dC dI sa hlt _ qv nn 0 0 0 2 0 0 (-2) ) (cwV 0 hts gX9_lime_X7_takeLime rfl rfl rfl (by decide +kernel) ⟨Nat.le_of_ble_eq_true rfl, Nat.le_of_ble_eq_true rfl⟩) hP hD hK hS hA hev [1] [0, 2, 3] [] rfl rfl rfl rfl (by decide) rfl 1 7 rfl rfl rfl rfl hl.1 rfl (Nat.le_of_ble_eq_true rfl) dX9_lime_10 ⟨Nat.le_of_ble_eq_true rfl, Nat.le_of_ble_eq_true rfl⟩ (fun r u H locs hw hP hD hK hS => ?_)
  obtain ⟨fo2_3, mi2_4, st2_5⟩ := u
  have hw : r = none ∧ (fo2_3 = (0 : Int32) / 2 ∧ mi2_4 = (if (2 : Int32) = 2 then 0 else (0 : Int32)) ∧ st2_5 = (if (2 : Int32) = 2 then (if (0 : Int32) ≤ 0 then (2 : Int32) else 1) else (2 : Int32))) := hw
  obtain ⟨rfl, hw_6⟩ := hw
  have hP : va_P (dC, dI) vwCl [(h0, .inr (9, [.ref (ad 0), .ref (ad 8), .int 0, .int 0, .ref (ad 9), .int 0, .ref (ad 10), .ref (ad 15), .int 0, .ref (ad 16), .ref (ad 17)])), ((ad 0), .inr (8, [.ref (ad 1), .int 0, .int 0])), ((ad 1), .inl ((ca 1), 6, .inr (.inr (.inr (.inr fv))))), (qv, .inr (7, [.int nn, .int 0, .int fo2_3, .int mi2_4, .int st2_5, .int 0, .int 0, .int (-2)]))] _ := hP
  have hD : va_D _ [(h0, .inr (9, [.ref (ad 0), .ref (ad 8), .int 0, .int 0, .ref (ad 9), .int 0, .ref (ad 10), .ref (ad 15), .int 0, .ref (ad 16), .ref (ad 17)])), ((ad 0), .inr (8, [.ref (ad 1), .int 0, .int 0])), ((ad 1), .inl ((ca 1), 6, .inr (.inr (.inr (.inr fv))))), (qv, .inr (7, [.int nn, .int 0, .int fo2_3, .int mi2_4, .int st2_5, .int 0, .int 0, .int (-2)]))] := hD
  have hK : va_K (dC, dI) vwCl [((ca 1), .object "VatHouse$Vat")] s := hK
  refine W.eq (g2 := F0 m 13 ls []) rfl ?_
  refine lv_aload_n hx hb dX9_lime_13 rfl (lv_at hl 0 rfl) ?_
  refine va_get (D := (dC, dI)) (ci := 7) (v := .int st2_5) (C := RX7) (T := TX7) (N := 8) hx hb hts inw_X9_lime_7 hown hK hP 3 rfl rfl 4 (by decide) (hts (.fieldLink RX9 79 "VatHouse$Vat" "state" "I") (by decide +kernel)) (fun _ h9 => h9) rfl dX9_lime_14 ?_
  refine vx_ret ?_
  exact en_i hx hb hr hlocks hP hD hK hS st2_5 ⟨rfl, by have h9 := hw_6.2.2; simp at h9; simp [E_lime, h9, hw_2]⟩ [] [] rfl rfl rfl (Nat.le_of_ble_eq_true rfl) (Nat.le_of_ble_eq_true rfl) dX9_lime_17

abbrev rm_X9_vat : Room := { frames := 7, cells := 2, slots := 12, locals := 103 }
theorem inw_X9_vat_7 : ∀ w ∈ wsX70, w ∈ wsX9_vat := by decide +kernel
theorem inw_X9_vat_9 : ∀ w ∈ wsX90, w ∈ wsX9_vat := by decide +kernel
theorem inx_X9_vat_9 : ∀ w ∈ (xN RX9 153).filter goodWord, w ∈ wsX9_vat := fun _ h => List.mem_cons_of_mem _ (List.mem_append_left _ (List.mem_append_right _ h))
set_option maxHeartbeats 800000 in
set_option maxRecDepth 100000 in
theorem c_X9_vat (l : Launch) (dC : Nat → ClassId) (dI : Nat → Nat → Nat) (sa : Nat → Nat) (hlt : l.stackTraces = false) (sz : Nat) (h0 : Nat) (ad : Nat → Nat) (ca : Nat → ClassId) (fv : Nat → Option Nat) (qv : Nat) (nn : Int32) (p0 : Int32) (p1 : Int32) (hfv : ∀ k, k < 6 → fv k = some (ad (2 + k))) (hq : ¬ p0 < 0 → ¬ 6 ≤ p0 → ad (2 + p0.toNatClampNeg) = qv) : CX l dC dI sa yX9_vat wsX9_vat rm_X9_vat [.ref h0, .int p0, .int p1] [(h0, .inr (9, [.ref (ad 0), .ref (ad 8), .int 0, .int 0, .ref (ad 9), .int 0, .ref (ad 10), .ref (ad 15), .int 0, .ref (ad 16), .ref (ad 17)])), ((ad 0), .inr (8, [.ref (ad 1), .int 0, .int 0])), ((ad 1), .inl ((ca 1), 6, .inr (.inr (.inr (.inr fv))))), (qv, .inr (7, [.int nn, .int 0, .int 0, .int 0, .int 2, .int 0, .int 0, .int (-2)]))] [((ca 1), .object "VatHouse$Vat")] sz (fun (r : Option Value) (x : Int32) => r = some (.int x) ∧ (E_vat p0 p1 = (0, x))) (fun (x : Int32) => []) (fun (x : Int32) => []) (fun E => E = NSE ∧ E_vat p0 p1 = (1, 0)) 2 12 := by
  refine CX.start (cc := cX9_vat) (maxL := 4) (ret := (some .int)) (by decide) rfl (Nat.le_of_ble_eq_true rfl) ?_
  intro p e s m below meth c ls hst hno hP hK hD hev hS hl
  obtain ⟨hx, hb, hr, hml, hts, hown, hlocks, hin⟩ := hst
  have hown : s.vm.findClass RX9 = some m.cls := hown
  have hin : meth.name = yX9_vat.name := hin
  have hA : ∀ q : Nat, s.heap.size ≤ q → va_A [(h0, .inr (9, [.ref (ad 0), .ref (ad 8), .int 0, .int 0, .ref (ad 9), .int 0, .ref (ad 10), .ref (ad 15), .int 0, .ref (ad 16), .ref (ad 17)])), ((ad 0), .inr (8, [.ref (ad 1), .int 0, .int 0])), ((ad 1), .inl ((ca 1), 6, .inr (.inr (.inr (.inr fv))))), (qv, .inr (7, [.int nn, .int 0, .int 0, .int 0, .int 2, .int 0, .int 0, .int (-2)]))] s.heap.size q := fun _ h => Or.inr h
  have hl : lv_has ls 4 [(0, .ref h0), (1, .int p0), (2, .int p1)] := hl
  refine lv_aload_n hx hb dX9_vat_0 rfl (lv_at hl 0 rfl) ?_
  refine va_get (D := (dC, dI)) (ci := 9) (v := .ref (ad 0)) (C := RX9) (T := TX9) (N := 11) hx hb hts inw_X9_vat_9 hown hK hP 0 rfl rfl 0 (by decide) (hts (.fieldLink RX9 10 "VatHouse" "works" "LVatHouse$Works;") (by decide +kernel)) (fun _ h9 => h9) rfl dX9_vat_1 ?_
  refine lv_iload_n hx hb dX9_vat_4 rfl (lv_at hl 1 rfl) ?_
  refine go_VX (wr := [(h0, .inr (9, [.ref (ad 0), .ref (ad 8), .int 0, .int 0, .ref (ad 9), .int 0, .ref (ad 10), .ref (ad 15), .int 0, .ref (ad 16), .ref (ad 17)])), (qv, .inr (7, [.int nn, .int 0, .int 0, .int 0, .int 2, .int 0, .int 0, .int (-2)]))]) ⟨hx, hb, hml, hown, hts⟩ (c_X8_vatAt l dC dI sa hlt _ ad ca fv p0 0 0 hfv) (cwV 1 hts gX9_vat_X8_vatAt rfl rfl rfl (by decide +kernel) ⟨Nat.le_of_ble_eq_true rfl, Nat.le_of_ble_eq_true rfl⟩) hP hD hK hS hA hev [1, 2] [0, 3] [0] rfl rfl rfl rfl (by decide) rfl 1 8 rfl rfl rfl rfl hl.1 rfl (Nat.le_of_ble_eq_true rfl) dX9_vat_5 ⟨Nat.le_of_ble_eq_true rfl, Nat.le_of_ble_eq_true rfl⟩ (fun E ce q9 H locs hpx hP hD hS hce hcv hcl => ?_) (fun r u H locs hw hP hD hK hS => ?_)
  · have hpx_1 : E = NSE ∧ (p0 < 0 ∨ 6 ≤ p0) := hpx
    obtain ⟨rfl, hpx_1⟩ := hpx_1
    exact go_out hno hlocks ⟨rfl, by rcases hpx_1 with h | h <;> simp [E_vat, h]⟩ hP hD hK hS hce hcv hcl [0, 2, 3, 1] rfl rfl (Nat.le_of_ble_eq_true rfl) (Nat.le_of_ble_eq_true rfl)
  have hw : r = some (.ref (ad (2 + p0.toNatClampNeg))) ∧ (¬ p0 < 0 ∧ ¬ 6 ≤ p0) := hw
  obtain ⟨rfl, hw_2⟩ := hw
  have hP : va_P (dC, dI) vwCl [(h0, .inr (9, [.ref (ad 0), .ref (ad 8), .int 0, .int 0, .ref (ad 9), .int 0, .ref (ad 10), .ref (ad 15), .int 0, .ref (ad 16), .ref (ad 17)])), (qv, .inr (7, [.int nn, .int 0, .int 0, .int 0, .int 2, .int 0, .int 0, .int (-2)])), ((ad 0), .inr (8, [.ref (ad 1), .int 0, .int 0])), ((ad 1), .inl ((ca 1), 6, .inr (.inr (.inr (.inr fv)))))] _ := hP
  have hD : va_D _ [(h0, .inr (9, [.ref (ad 0), .ref (ad 8), .int 0, .int 0, .ref (ad 9), .int 0, .ref (ad 10), .ref (ad 15), .int 0, .ref (ad 16), .ref (ad 17)])), (qv, .inr (7, [.int nn, .int 0, .int 0, .int 0, .int 2, .int 0, .int 0, .int (-2)])), ((ad 0), .inr (8, [.ref (ad 1), .int 0, .int 0])), ((ad 1), .inl ((ca 1), 6, .inr (.inr (.inr (.inr fv)))))] := hD
  have hK : va_K (dC, dI) vwCl [((ca 1), .object "VatHouse$Vat")] s := hK
  refine W.eq (g2 := F0 m 8 ls [.ref (ad (2 + p0.toNatClampNeg))]) rfl ?_
  rw [hq hw_2.1 hw_2.2]
  refine lv_astore_n (lv' := [(3, .ref qv), (0, .ref h0), (1, .int p0), (2, .int p1)]) hx hb dX9_vat_8 rfl hl (by decide) rfl (fun ls hl => ?_)
  refine lv_iload_n hx hb dX9_vat_9 rfl (lv_at hl 3 rfl) ?_
  by_cases c_3 : p1 = 0
  · refine lv_tableIn (tgt := 48) hx hb dX9_vat_10 (by rw [c_3]; decide) (by rw [c_3]; decide) (by rw [c_3]; rfl) (by decide) ?_
    refine lv_aload_n hx hb dX9_vat_48 rfl (lv_at hl 0 rfl) ?_
    refine va_get (D := (dC, dI)) (ci := 7) (v := .int 0) (C := RX7) (T := TX7) (N := 8) hx hb hts inw_X9_vat_7 hown hK hP 1 rfl rfl 1 (by decide) (hts (.fieldLink RX9 62 "VatHouse$Vat" "grains" "I") (by decide +kernel)) (fun _ h9 => h9) rfl dX9_vat_49 ?_
    refine vx_ret ?_
    exact en_i hx hb hr hlocks hP hD hK hS 0 ⟨rfl, by rw [c_3]; simp [E_vat, hw_2]⟩ [] [] rfl rfl rfl (Nat.le_of_ble_eq_true rfl) (Nat.le_of_ble_eq_true rfl) dX9_vat_52
  by_cases c_4 : p1 = 1
  · refine lv_tableIn (tgt := 53) hx hb dX9_vat_10 (by rw [c_4]; decide) (by rw [c_4]; decide) (by rw [c_4]; rfl) (by decide) ?_
    refine lv_aload_n hx hb dX9_vat_53 rfl (lv_at hl 0 rfl) ?_
    refine va_get (D := (dC, dI)) (ci := 7) (v := .int 0) (C := RX7) (T := TX7) (N := 8) hx hb hts inw_X9_vat_7 hown hK hP 1 rfl rfl 2 (by decide) (hts (.fieldLink RX9 201 "VatHouse$Vat" "food" "I") (by decide +kernel)) (fun _ h9 => h9) rfl dX9_vat_54 ?_
    refine vx_ret ?_
    exact en_i hx hb hr hlocks hP hD hK hS 0 ⟨rfl, by rw [c_4]; simp [E_vat, hw_2]⟩ [] [] rfl rfl rfl (Nat.le_of_ble_eq_true rfl) (Nat.le_of_ble_eq_true rfl) dX9_vat_57
  by_cases c_5 : p1 = 2
  · refine lv_tableIn (tgt := 58) hx hb dX9_vat_10 (by rw [c_5]; decide) (by rw [c_5]; decide) (by rw [c_5]; rfl) (by decide) ?_
    refine lv_aload_n hx hb dX9_vat_58 rfl (lv_at hl 0 rfl) ?_
    refine va_get (D := (dC, dI)) (ci := 7) (v := .int 0) (C := RX7) (T := TX7) (N := 8) hx hb hts inw_X9_vat_7 hown hK hP 1 rfl rfl 3 (by decide) (hts (.fieldLink RX9 204 "VatHouse$Vat" "minutes" "I") (by decide +kernel)) (fun _ h9 => h9) rfl dX9_vat_59 ?_
    refine vx_ret ?_
    exact en_i hx hb hr hlocks hP hD hK hS 0 ⟨rfl, by rw [c_5]; simp [E_vat, hw_2]⟩ [] [] rfl rfl rfl (Nat.le_of_ble_eq_true rfl) (Nat.le_of_ble_eq_true rfl) dX9_vat_62
  by_cases c_6 : p1 = 3
  · refine lv_tableIn (tgt := 63) hx hb dX9_vat_10 (by rw [c_6]; decide) (by rw [c_6]; decide) (by rw [c_6]; rfl) (by decide) ?_
    refine lv_aload_n hx hb dX9_vat_63 rfl (lv_at hl 0 rfl) ?_
    refine va_get (D := (dC, dI)) (ci := 7) (v := .int 2) (C := RX7) (T := TX7) (N := 8) hx hb hts inw_X9_vat_7 hown hK hP 1 rfl rfl 4 (by decide) (hts (.fieldLink RX9 79 "VatHouse$Vat" "state" "I") (by decide +kernel)) (fun _ h9 => h9) rfl dX9_vat_64 ?_
    refine vx_ret ?_
    exact en_i hx hb hr hlocks hP hD hK hS 2 ⟨rfl, by rw [c_6]; simp [E_vat, hw_2]⟩ [] [] rfl rfl rfl (Nat.le_of_ble_eq_true rfl) (Nat.le_of_ble_eq_true rfl) dX9_vat_67
  by_cases c_7 : p1 = 4
  · refine lv_tableIn (tgt := 68) hx hb dX9_vat_10 (by rw [c_7]; decide) (by rw [c_7]; decide) (by rw [c_7]; rfl) (by decide) ?_
    refine lv_aload_n hx hb dX9_vat_68 rfl (lv_at hl 0 rfl) ?_
    refine va_get (D := (dC, dI)) (ci := 7) (v := .int 0) (C := RX7) (T := TX7) (N := 8) hx hb hts inw_X9_vat_7 hown hK hP 1 rfl rfl 5 (by decide) (hts (.fieldLink RX9 207 "VatHouse$Vat" "dips" "I") (by decide +kernel)) (fun _ h9 => h9) rfl dX9_vat_69 ?_
    refine vx_ret ?_
    exact en_i hx hb hr hlocks hP hD hK hS 0 ⟨rfl, by rw [c_7]; simp [E_vat, hw_2]⟩ [] [] rfl rfl rfl (Nat.le_of_ble_eq_true rfl) (Nat.le_of_ble_eq_true rfl) dX9_vat_72
  by_cases c_8 : p1 = 5
  · refine lv_tableIn (tgt := 73) hx hb dX9_vat_10 (by rw [c_8]; decide) (by rw [c_8]; decide) (by rw [c_8]; rfl) (by decide) ?_
    refine lv_aload_n hx hb dX9_vat_73 rfl (lv_at hl 0 rfl) ?_
    refine va_get (D := (dC, dI)) (ci := 7) (v := .int 0) (C := RX7) (T := TX7) (N := 8) hx hb hts inw_X9_vat_7 hown hK hP 1 rfl rfl 6 (by decide) (hts (.fieldLink RX9 210 "VatHouse$Vat" "clothBits" "I") (by decide +kernel)) (fun _ h9 => h9) rfl dX9_vat_74 ?_
    refine vx_ret ?_
    exact en_i hx hb hr hlocks hP hD hK hS 0 ⟨rfl, by rw [c_8]; simp [E_vat, hw_2]⟩ [] [] rfl rfl rfl (Nat.le_of_ble_eq_true rfl) (Nat.le_of_ble_eq_true rfl) dX9_vat_77
  refine lv_tableOut (tgt := 78) hx hb dX9_vat_10 (tab_out6 c_3 c_4 c_5 c_6 c_7 c_8) (by decide) ?_
  exact en_x (cls := NSE) hno hx hb hlt hlocks hown hts xg_0 xg_1 xg_2 xg_5 (by decide +kernel) (hts (.classLink RX9 149 NSE) (by decide +kernel)) (hts (.initialized NSE) (by decide +kernel)) hev.2.1.2.2.2.1 (inx_X9_vat_9) xb_9 hev.2.2.1.1 xo_9 hev (hl.1.trans hml.symm) dX9_vat_78 dX9_vat_81 dX9_vat_82 dX9_vat_84 dX9_vat_87 (Nat.le_of_ble_eq_true rfl) (Nat.le_of_ble_eq_true rfl) (Nat.le_of_ble_eq_true rfl) (Nat.le_of_ble_eq_true rfl) ⟨rfl, by simp [E_vat, hw_2, c_3, c_4, c_5, c_6, c_7, c_8]⟩ hP hD hK hS [0, 2, 3, 1] rfl rfl (Nat.le_of_ble_eq_true rfl) (Nat.le_of_ble_eq_true rfl)

abbrev rm_X9_count : Room := { frames := 6, cells := 1, slots := 6, locals := 82 }
theorem inw_X9_count_8 : ∀ w ∈ wsX80, w ∈ wsX9_count := by decide +kernel
theorem inw_X9_count_9 : ∀ w ∈ wsX90, w ∈ wsX9_count := by decide +kernel
theorem inx_X9_count_9 : ∀ w ∈ (xN RX9 153).filter goodWord, w ∈ wsX9_count := fun _ h => List.mem_cons_of_mem _ (List.mem_append_right _ h)
set_option maxHeartbeats 800000 in
set_option maxRecDepth 100000 in
theorem c_X9_count (l : Launch) (dC : Nat → ClassId) (dI : Nat → Nat → Nat) (sa : Nat → Nat) (hlt : l.stackTraces = false) (sz : Nat) (h0 : Nat) (ad : Nat → Nat) (p0 : Int32) : CX l dC dI sa yX9_count wsX9_count rm_X9_count [.ref h0, .int p0] [(h0, .inr (9, [.ref (ad 0), .ref (ad 8), .int 0, .int 0, .ref (ad 9), .int 0, .ref (ad 10), .ref (ad 15), .int 0, .ref (ad 16), .ref (ad 17)])), ((ad 0), .inr (8, [.ref (ad 1), .int 0, .int 0]))] [] sz (fun (r : Option Value) (x : Int32) => r = some (.int x) ∧ (E_count p0 = (0, x))) (fun (x : Int32) => []) (fun (x : Int32) => []) (fun E => E = NSE ∧ E_count p0 = (1, 0)) 1 6 := by
  refine CX.start (cc := cX9_count) (maxL := 2) (ret := (some .int)) (by decide) rfl (Nat.le_of_ble_eq_true rfl) ?_
  intro p e s m below meth c ls hst hno hP hK hD hev hS hl
  obtain ⟨hx, hb, hr, hml, hts, hown, hlocks, hin⟩ := hst
  have hown : s.vm.findClass RX9 = some m.cls := hown
  have hin : meth.name = yX9_count.name := hin
  have hA : ∀ q : Nat, s.heap.size ≤ q → va_A [(h0, .inr (9, [.ref (ad 0), .ref (ad 8), .int 0, .int 0, .ref (ad 9), .int 0, .ref (ad 10), .ref (ad 15), .int 0, .ref (ad 16), .ref (ad 17)])), ((ad 0), .inr (8, [.ref (ad 1), .int 0, .int 0]))] s.heap.size q := fun _ h => Or.inr h
  have hl : lv_has ls 2 [(0, .ref h0), (1, .int p0)] := hl
  refine lv_iload_n hx hb dX9_count_0 rfl (lv_at hl 1 rfl) ?_
  by_cases c_1 : p0 = 0
  · refine lv_tableIn (tgt := 40) hx hb dX9_count_1 (by rw [c_1]; decide) (by rw [c_1]; decide) (by rw [c_1]; rfl) (by decide) ?_
    refine lv_aload_n hx hb dX9_count_40 rfl (lv_at hl 0 rfl) ?_
    refine va_get (D := (dC, dI)) (ci := 9) (v := .ref (ad 0)) (C := RX9) (T := TX9) (N := 11) hx hb hts inw_X9_count_9 hown hK hP 0 rfl rfl 0 (by decide) (hts (.fieldLink RX9 10 "VatHouse" "works" "LVatHouse$Works;") (by decide +kernel)) (fun _ h9 => h9) rfl dX9_count_41 ?_
    refine va_get (D := (dC, dI)) (ci := 8) (v := .int 0) (C := RX8) (T := TX8) (N := 3) hx hb hts inw_X9_count_8 hown hK hP 1 rfl rfl 1 (by decide) (hts (.fieldLink RX9 89 "VatHouse$Works" "hours" "I") (by decide +kernel)) (fun _ h9 => h9) rfl dX9_count_44 ?_
    refine vx_ret ?_
    exact en_i hx hb hr hlocks hP hD hK hS 0 ⟨rfl, by rw [c_1]; decide⟩ [] [] rfl rfl rfl (Nat.le_of_ble_eq_true rfl) (Nat.le_of_ble_eq_true rfl) dX9_count_47
  by_cases c_2 : p0 = 1
  · refine lv_tableIn (tgt := 48) hx hb dX9_count_1 (by rw [c_2]; decide) (by rw [c_2]; decide) (by rw [c_2]; rfl) (by decide) ?_
    refine lv_aload_n hx hb dX9_count_48 rfl (lv_at hl 0 rfl) ?_
    refine va_get (D := (dC, dI)) (ci := 9) (v := .ref (ad 0)) (C := RX9) (T := TX9) (N := 11) hx hb hts inw_X9_count_9 hown hK hP 0 rfl rfl 0 (by decide) (hts (.fieldLink RX9 10 "VatHouse" "works" "LVatHouse$Works;") (by decide +kernel)) (fun _ h9 => h9) rfl dX9_count_49 ?_
    refine va_get (D := (dC, dI)) (ci := 8) (v := .int 0) (C := RX8) (T := TX8) (N := 3) hx hb hts inw_X9_count_8 hown hK hP 1 rfl rfl 2 (by decide) (hts (.fieldLink RX9 233 "VatHouse$Works" "drain" "I") (by decide +kernel)) (fun _ h9 => h9) rfl dX9_count_52 ?_
    refine vx_ret ?_
    exact en_i hx hb hr hlocks hP hD hK hS 0 ⟨rfl, by rw [c_2]; decide⟩ [] [] rfl rfl rfl (Nat.le_of_ble_eq_true rfl) (Nat.le_of_ble_eq_true rfl) dX9_count_55
  by_cases c_3 : p0 = 2
  · refine lv_tableIn (tgt := 56) hx hb dX9_count_1 (by rw [c_3]; decide) (by rw [c_3]; decide) (by rw [c_3]; rfl) (by decide) ?_
    refine lv_aload_n hx hb dX9_count_56 rfl (lv_at hl 0 rfl) ?_
    refine va_get (D := (dC, dI)) (ci := 9) (v := .int 0) (C := RX9) (T := TX9) (N := 11) hx hb hts inw_X9_count_9 hown hK hP 0 rfl rfl 2 (by decide) (hts (.fieldLink RX9 92 "VatHouse" "clothsMade" "I") (by decide +kernel)) (fun _ h9 => h9) rfl dX9_count_57 ?_
    refine vx_ret ?_
    exact en_i hx hb hr hlocks hP hD hK hS 0 ⟨rfl, by rw [c_3]; decide⟩ [] [] rfl rfl rfl (Nat.le_of_ble_eq_true rfl) (Nat.le_of_ble_eq_true rfl) dX9_count_60
  by_cases c_4 : p0 = 3
  · refine lv_tableIn (tgt := 61) hx hb dX9_count_1 (by rw [c_4]; decide) (by rw [c_4]; decide) (by rw [c_4]; rfl) (by decide) ?_
    refine lv_aload_n hx hb dX9_count_61 rfl (lv_at hl 0 rfl) ?_
    refine va_get (D := (dC, dI)) (ci := 9) (v := .int 0) (C := RX9) (T := TX9) (N := 11) hx hb hts inw_X9_count_9 hown hK hP 0 rfl rfl 3 (by decide) (hts (.fieldLink RX9 68 "VatHouse" "grainsPutIn" "I") (by decide +kernel)) (fun _ h9 => h9) rfl dX9_count_62 ?_
    refine vx_ret ?_
    exact en_i hx hb hr hlocks hP hD hK hS 0 ⟨rfl, by rw [c_4]; decide⟩ [] [] rfl rfl rfl (Nat.le_of_ble_eq_true rfl) (Nat.le_of_ble_eq_true rfl) dX9_count_65
  by_cases c_5 : p0 = 4
  · refine lv_tableIn (tgt := 66) hx hb dX9_count_1 (by rw [c_5]; decide) (by rw [c_5]; decide) (by rw [c_5]; rfl) (by decide) ?_
    refine lv_aload_n hx hb dX9_count_66 rfl (lv_at hl 0 rfl) ?_
    refine va_get (D := (dC, dI)) (ci := 9) (v := .int 0) (C := RX9) (T := TX9) (N := 11) hx hb hts inw_X9_count_9 hown hK hP 0 rfl rfl 5 (by decide) (hts (.fieldLink RX9 124 "VatHouse" "tapeLength" "I") (by decide +kernel)) (fun _ h9 => h9) rfl dX9_count_67 ?_
    refine vx_ret ?_
    exact en_i hx hb hr hlocks hP hD hK hS 0 ⟨rfl, by rw [c_5]; decide⟩ [] [] rfl rfl rfl (Nat.le_of_ble_eq_true rfl) (Nat.le_of_ble_eq_true rfl) dX9_count_70
  by_cases c_6 : p0 = 5
  · refine lv_tableIn (tgt := 71) hx hb dX9_count_1 (by rw [c_6]; decide) (by rw [c_6]; decide) (by rw [c_6]; rfl) (by decide) ?_
    refine lv_aload_n hx hb dX9_count_71 rfl (lv_at hl 0 rfl) ?_
    refine va_get (D := (dC, dI)) (ci := 9) (v := .int 0) (C := RX9) (T := TX9) (N := 11) hx hb hts inw_X9_count_9 hown hK hP 0 rfl rfl 8 (by decide) (hts (.fieldLink RX9 143 "VatHouse" "stepsRead" "I") (by decide +kernel)) (fun _ h9 => h9) rfl dX9_count_72 ?_
    refine vx_ret ?_
    exact en_i hx hb hr hlocks hP hD hK hS 0 ⟨rfl, by rw [c_6]; decide⟩ [] [] rfl rfl rfl (Nat.le_of_ble_eq_true rfl) (Nat.le_of_ble_eq_true rfl) dX9_count_75
  refine lv_tableOut (tgt := 76) hx hb dX9_count_1 (tab_out6 c_1 c_2 c_3 c_4 c_5 c_6) (by decide) ?_
  exact en_x (cls := NSE) hno hx hb hlt hlocks hown hts xg_0 xg_1 xg_2 xg_5 (by decide +kernel) (hts (.classLink RX9 149 NSE) (by decide +kernel)) (hts (.initialized NSE) (by decide +kernel)) hev.2.1.2.2.2.1 (inx_X9_count_9) xb_9 hev.2.2.1.1 xo_9 hev (hl.1.trans hml.symm) dX9_count_76 dX9_count_79 dX9_count_80 dX9_count_82 dX9_count_85 (Nat.le_of_ble_eq_true rfl) (Nat.le_of_ble_eq_true rfl) (Nat.le_of_ble_eq_true rfl) (Nat.le_of_ble_eq_true rfl) ⟨rfl, by simp [E_count, c_1, c_2, c_3, c_4, c_5, c_6]⟩ hP hD hK hS [0, 1] rfl rfl (Nat.le_of_ble_eq_true rfl) (Nat.le_of_ble_eq_true rfl)

abbrev rm_X9_fault : Room := { frames := 6, cells := 1, slots := 6, locals := 82 }
theorem inw_X9_fault_2 : ∀ w ∈ wsX20, w ∈ wsX9_fault := by decide +kernel
theorem inw_X9_fault_9 : ∀ w ∈ wsX90, w ∈ wsX9_fault := by decide +kernel
theorem inx_X9_fault_9 : ∀ w ∈ (xN RX9 153).filter goodWord, w ∈ wsX9_fault := fun _ h => List.mem_cons_of_mem _ (List.mem_append_right _ h)
set_option maxHeartbeats 800000 in
set_option maxRecDepth 100000 in
theorem c_X9_fault (l : Launch) (dC : Nat → ClassId) (dI : Nat → Nat → Nat) (sa : Nat → Nat) (hlt : l.stackTraces = false) (sz : Nat) (h0 : Nat) (ad : Nat → Nat) (p0 : Int32) : CX l dC dI sa yX9_fault wsX9_fault rm_X9_fault [.ref h0, .int p0] [(h0, .inr (9, [.ref (ad 0), .ref (ad 8), .int 0, .int 0, .ref (ad 9), .int 0, .ref (ad 10), .ref (ad 15), .int 0, .ref (ad 16), .ref (ad 17)])), ((ad 10), .inr (2, [.ref (ad 11), .int 0, .int 0, .int 0, .int (-1), .int 0]))] [] sz (fun (r : Option Value) (x : Int32) => r = some (.int x) ∧ (E_fault p0 = (0, x))) (fun (x : Int32) => []) (fun (x : Int32) => []) (fun E => E = NSE ∧ E_fault p0 = (1, 0)) 1 6 := by
  refine CX.start (cc := cX9_fault) (maxL := 2) (ret := (some .int)) (by decide) rfl (Nat.le_of_ble_eq_true rfl) ?_
  intro p e s m below meth c ls hst hno hP hK hD hev hS hl
  obtain ⟨hx, hb, hr, hml, hts, hown, hlocks, hin⟩ := hst
  have hown : s.vm.findClass RX9 = some m.cls := hown
  have hin : meth.name = yX9_fault.name := hin
  have hA : ∀ q : Nat, s.heap.size ≤ q → va_A [(h0, .inr (9, [.ref (ad 0), .ref (ad 8), .int 0, .int 0, .ref (ad 9), .int 0, .ref (ad 10), .ref (ad 15), .int 0, .ref (ad 16), .ref (ad 17)])), ((ad 10), .inr (2, [.ref (ad 11), .int 0, .int 0, .int 0, .int (-1), .int 0]))] s.heap.size q := fun _ h => Or.inr h
  have hl : lv_has ls 2 [(0, .ref h0), (1, .int p0)] := hl
  refine lv_iload_n hx hb dX9_fault_0 rfl (lv_at hl 1 rfl) ?_
  by_cases c_1 : p0 = 0
  · refine lv_lookup (tgt := 28) hx hb dX9_fault_1 (by decide) (off := 27) (by rw [c_1]; rfl) (by decide) ?_
    refine lv_aload_n hx hb dX9_fault_28 rfl (lv_at hl 0 rfl) ?_
    refine va_get (D := (dC, dI)) (ci := 9) (v := .ref (ad 10)) (C := RX9) (T := TX9) (N := 11) hx hb hts inw_X9_fault_9 hown hK hP 0 rfl rfl 6 (by decide) (hts (.fieldLink RX9 31 "VatHouse" "reader" "LVatHouse$Reader;") (by decide +kernel)) (fun _ h9 => h9) rfl dX9_fault_29 ?_
    refine va_get (D := (dC, dI)) (ci := 2) (v := .int 0) (C := RX2) (T := TX2) (N := 6) hx hb hts inw_X9_fault_2 hown hK hP 1 rfl rfl 3 (by decide) (hts (.fieldLink RX9 134 "VatHouse$Reader" "fault" "I") (by decide +kernel)) (fun _ h9 => h9) rfl dX9_fault_32 ?_
    refine vx_ret ?_
    exact en_i hx hb hr hlocks hP hD hK hS 0 ⟨rfl, by rw [c_1]; decide⟩ [] [] rfl rfl rfl (Nat.le_of_ble_eq_true rfl) (Nat.le_of_ble_eq_true rfl) dX9_fault_35
  by_cases c_2 : p0 = 1
  · refine lv_lookup (tgt := 36) hx hb dX9_fault_1 (by decide) (off := 35) (by rw [c_2]; rfl) (by decide) ?_
    refine lv_aload_n hx hb dX9_fault_36 rfl (lv_at hl 0 rfl) ?_
    refine va_get (D := (dC, dI)) (ci := 9) (v := .ref (ad 10)) (C := RX9) (T := TX9) (N := 11) hx hb hts inw_X9_fault_9 hown hK hP 0 rfl rfl 6 (by decide) (hts (.fieldLink RX9 31 "VatHouse" "reader" "LVatHouse$Reader;") (by decide +kernel)) (fun _ h9 => h9) rfl dX9_fault_37 ?_
    refine va_get (D := (dC, dI)) (ci := 2) (v := .int (-1)) (C := RX2) (T := TX2) (N := 6) hx hb hts inw_X9_fault_2 hown hK hP 1 rfl rfl 4 (by decide) (hts (.fieldLink RX9 146 "VatHouse$Reader" "place" "I") (by decide +kernel)) (fun _ h9 => h9) rfl dX9_fault_40 ?_
    refine vx_ret ?_
    exact en_i hx hb hr hlocks hP hD hK hS (-1) ⟨rfl, by rw [c_2]; decide⟩ [] [] rfl rfl rfl (Nat.le_of_ble_eq_true rfl) (Nat.le_of_ble_eq_true rfl) dX9_fault_43
  refine lv_lookup (tgt := 44) hx hb dX9_fault_1 (by decide) (off := 43) (look_out2 c_1 c_2) (by decide) ?_
  exact en_x (cls := NSE) hno hx hb hlt hlocks hown hts xg_0 xg_1 xg_2 xg_5 (by decide +kernel) (hts (.classLink RX9 149 NSE) (by decide +kernel)) (hts (.initialized NSE) (by decide +kernel)) hev.2.1.2.2.2.1 (inx_X9_fault_9) xb_9 hev.2.2.1.1 xo_9 hev (hl.1.trans hml.symm) dX9_fault_44 dX9_fault_47 dX9_fault_48 dX9_fault_50 dX9_fault_53 (Nat.le_of_ble_eq_true rfl) (Nat.le_of_ble_eq_true rfl) (Nat.le_of_ble_eq_true rfl) (Nat.le_of_ble_eq_true rfl) ⟨rfl, by simp [E_fault, c_1, c_2]⟩ hP hD hK hS [0, 1] rfl rfl (Nat.le_of_ble_eq_true rfl) (Nat.le_of_ble_eq_true rfl)

abbrev rm_X9_ran : Room := { frames := 6, cells := 1, slots := 6, locals := 82 }
theorem inw_X9_ran_4 : ∀ w ∈ wsX40, w ∈ wsX9_ran := by decide +kernel
theorem inw_X9_ran_9 : ∀ w ∈ wsX90, w ∈ wsX9_ran := by decide +kernel
theorem inx_X9_ran_9 : ∀ w ∈ (xN RX9 153).filter goodWord, w ∈ wsX9_ran := fun _ h => List.mem_cons_of_mem _ (List.mem_append_right _ h)
set_option maxHeartbeats 800000 in
set_option maxRecDepth 100000 in
theorem c_X9_ran (l : Launch) (dC : Nat → ClassId) (dI : Nat → Nat → Nat) (sa : Nat → Nat) (hlt : l.stackTraces = false) (sz : Nat) (h0 : Nat) (ad : Nat → Nat) (p0 : Int32) : CX l dC dI sa yX9_ran wsX9_ran rm_X9_ran [.ref h0, .int p0] [(h0, .inr (9, [.ref (ad 0), .ref (ad 8), .int 0, .int 0, .ref (ad 9), .int 0, .ref (ad 10), .ref (ad 15), .int 0, .ref (ad 16), .ref (ad 17)])), ((ad 16), .inr (4, [.ref (ad 0), .int 0, .int (-1), .int 0, .int 0, .int 0, .int 0, .int 0]))] [] sz (fun (r : Option Value) (x : Int32) => r = some (.int x) ∧ (E_ran p0 = (0, x))) (fun (x : Int32) => []) (fun (x : Int32) => []) (fun E => E = NSE ∧ E_ran p0 = (1, 0)) 1 6 := by
  refine CX.start (cc := cX9_ran) (maxL := 2) (ret := (some .int)) (by decide) rfl (Nat.le_of_ble_eq_true rfl) ?_
  intro p e s m below meth c ls hst hno hP hK hD hev hS hl
  obtain ⟨hx, hb, hr, hml, hts, hown, hlocks, hin⟩ := hst
  have hown : s.vm.findClass RX9 = some m.cls := hown
  have hin : meth.name = yX9_ran.name := hin
  have hA : ∀ q : Nat, s.heap.size ≤ q → va_A [(h0, .inr (9, [.ref (ad 0), .ref (ad 8), .int 0, .int 0, .ref (ad 9), .int 0, .ref (ad 10), .ref (ad 15), .int 0, .ref (ad 16), .ref (ad 17)])), ((ad 16), .inr (4, [.ref (ad 0), .int 0, .int (-1), .int 0, .int 0, .int 0, .int 0, .int 0]))] s.heap.size q := fun _ h => Or.inr h
  have hl : lv_has ls 2 [(0, .ref h0), (1, .int p0)] := hl
  refine lv_iload_n hx hb dX9_ran_0 rfl (lv_at hl 1 rfl) ?_
  by_cases c_1 : p0 = 0
  · refine lv_tableIn (tgt := 40) hx hb dX9_ran_1 (by rw [c_1]; decide) (by rw [c_1]; decide) (by rw [c_1]; rfl) (by decide) ?_
    refine lv_aload_n hx hb dX9_ran_40 rfl (lv_at hl 0 rfl) ?_
    refine va_get (D := (dC, dI)) (ci := 9) (v := .ref (ad 16)) (C := RX9) (T := TX9) (N := 11) hx hb hts inw_X9_ran_9 hown hK hP 0 rfl rfl 9 (by decide) (hts (.fieldLink RX9 46 "VatHouse" "runner" "LVatHouse$Runner;") (by decide +kernel)) (fun _ h9 => h9) rfl dX9_ran_41 ?_
    refine va_get (D := (dC, dI)) (ci := 4) (v := .int (-1)) (C := RX4) (T := TX4) (N := 8) hx hb hts inw_X9_ran_4 hown hK hP 1 rfl rfl 2 (by decide) (hts (.fieldLink RX9 164 "VatHouse$Runner" "result" "I") (by decide +kernel)) (fun _ h9 => h9) rfl dX9_ran_44 ?_
    refine vx_ret ?_
    exact en_i hx hb hr hlocks hP hD hK hS (-1) ⟨rfl, by rw [c_1]; decide⟩ [] [] rfl rfl rfl (Nat.le_of_ble_eq_true rfl) (Nat.le_of_ble_eq_true rfl) dX9_ran_47
  by_cases c_2 : p0 = 1
  · refine lv_tableIn (tgt := 48) hx hb dX9_ran_1 (by rw [c_2]; decide) (by rw [c_2]; decide) (by rw [c_2]; rfl) (by decide) ?_
    refine lv_aload_n hx hb dX9_ran_48 rfl (lv_at hl 0 rfl) ?_
    refine va_get (D := (dC, dI)) (ci := 9) (v := .ref (ad 16)) (C := RX9) (T := TX9) (N := 11) hx hb hts inw_X9_ran_9 hown hK hP 0 rfl rfl 9 (by decide) (hts (.fieldLink RX9 46 "VatHouse" "runner" "LVatHouse$Runner;") (by decide +kernel)) (fun _ h9 => h9) rfl dX9_ran_49 ?_
    refine va_get (D := (dC, dI)) (ci := 4) (v := .int 0) (C := RX4) (T := TX4) (N := 8) hx hb hts inw_X9_ran_4 hown hK hP 1 rfl rfl 3 (by decide) (hts (.fieldLink RX9 167 "VatHouse$Runner" "failure" "I") (by decide +kernel)) (fun _ h9 => h9) rfl dX9_ran_52 ?_
    refine vx_ret ?_
    exact en_i hx hb hr hlocks hP hD hK hS 0 ⟨rfl, by rw [c_2]; decide⟩ [] [] rfl rfl rfl (Nat.le_of_ble_eq_true rfl) (Nat.le_of_ble_eq_true rfl) dX9_ran_55
  by_cases c_3 : p0 = 2
  · refine lv_tableIn (tgt := 56) hx hb dX9_ran_1 (by rw [c_3]; decide) (by rw [c_3]; decide) (by rw [c_3]; rfl) (by decide) ?_
    refine lv_aload_n hx hb dX9_ran_56 rfl (lv_at hl 0 rfl) ?_
    refine va_get (D := (dC, dI)) (ci := 9) (v := .ref (ad 16)) (C := RX9) (T := TX9) (N := 11) hx hb hts inw_X9_ran_9 hown hK hP 0 rfl rfl 9 (by decide) (hts (.fieldLink RX9 46 "VatHouse" "runner" "LVatHouse$Runner;") (by decide +kernel)) (fun _ h9 => h9) rfl dX9_ran_57 ?_
    refine va_get (D := (dC, dI)) (ci := 4) (v := .int 0) (C := RX4) (T := TX4) (N := 8) hx hb hts inw_X9_ran_4 hown hK hP 1 rfl rfl 4 (by decide) (hts (.fieldLink RX9 170 "VatHouse$Runner" "counted" "I") (by decide +kernel)) (fun _ h9 => h9) rfl dX9_ran_60 ?_
    refine vx_ret ?_
    exact en_i hx hb hr hlocks hP hD hK hS 0 ⟨rfl, by rw [c_3]; decide⟩ [] [] rfl rfl rfl (Nat.le_of_ble_eq_true rfl) (Nat.le_of_ble_eq_true rfl) dX9_ran_63
  by_cases c_4 : p0 = 3
  · refine lv_tableIn (tgt := 64) hx hb dX9_ran_1 (by rw [c_4]; decide) (by rw [c_4]; decide) (by rw [c_4]; rfl) (by decide) ?_
    refine lv_aload_n hx hb dX9_ran_64 rfl (lv_at hl 0 rfl) ?_
    refine va_get (D := (dC, dI)) (ci := 9) (v := .ref (ad 16)) (C := RX9) (T := TX9) (N := 11) hx hb hts inw_X9_ran_9 hown hK hP 0 rfl rfl 9 (by decide) (hts (.fieldLink RX9 46 "VatHouse" "runner" "LVatHouse$Runner;") (by decide +kernel)) (fun _ h9 => h9) rfl dX9_ran_65 ?_
    refine va_get (D := (dC, dI)) (ci := 4) (v := .int 0) (C := RX4) (T := TX4) (N := 8) hx hb hts inw_X9_ran_4 hown hK hP 1 rfl rfl 5 (by decide) (hts (.fieldLink RX9 173 "VatHouse$Runner" "dipsDone" "I") (by decide +kernel)) (fun _ h9 => h9) rfl dX9_ran_68 ?_
    refine vx_ret ?_
    exact en_i hx hb hr hlocks hP hD hK hS 0 ⟨rfl, by rw [c_4]; decide⟩ [] [] rfl rfl rfl (Nat.le_of_ble_eq_true rfl) (Nat.le_of_ble_eq_true rfl) dX9_ran_71
  by_cases c_5 : p0 = 4
  · refine lv_tableIn (tgt := 72) hx hb dX9_ran_1 (by rw [c_5]; decide) (by rw [c_5]; decide) (by rw [c_5]; rfl) (by decide) ?_
    refine lv_aload_n hx hb dX9_ran_72 rfl (lv_at hl 0 rfl) ?_
    refine va_get (D := (dC, dI)) (ci := 9) (v := .ref (ad 16)) (C := RX9) (T := TX9) (N := 11) hx hb hts inw_X9_ran_9 hown hK hP 0 rfl rfl 9 (by decide) (hts (.fieldLink RX9 46 "VatHouse" "runner" "LVatHouse$Runner;") (by decide +kernel)) (fun _ h9 => h9) rfl dX9_ran_73 ?_
    refine va_get (D := (dC, dI)) (ci := 4) (v := .int 0) (C := RX4) (T := TX4) (N := 8) hx hb hts inw_X9_ran_4 hown hK hP 1 rfl rfl 6 (by decide) (hts (.fieldLink RX9 176 "VatHouse$Runner" "grainsMoved" "I") (by decide +kernel)) (fun _ h9 => h9) rfl dX9_ran_76 ?_
    refine vx_ret ?_
    exact en_i hx hb hr hlocks hP hD hK hS 0 ⟨rfl, by rw [c_5]; decide⟩ [] [] rfl rfl rfl (Nat.le_of_ble_eq_true rfl) (Nat.le_of_ble_eq_true rfl) dX9_ran_79
  by_cases c_6 : p0 = 5
  · refine lv_tableIn (tgt := 80) hx hb dX9_ran_1 (by rw [c_6]; decide) (by rw [c_6]; decide) (by rw [c_6]; rfl) (by decide) ?_
    refine lv_aload_n hx hb dX9_ran_80 rfl (lv_at hl 0 rfl) ?_
    refine va_get (D := (dC, dI)) (ci := 9) (v := .ref (ad 16)) (C := RX9) (T := TX9) (N := 11) hx hb hts inw_X9_ran_9 hown hK hP 0 rfl rfl 9 (by decide) (hts (.fieldLink RX9 46 "VatHouse" "runner" "LVatHouse$Runner;") (by decide +kernel)) (fun _ h9 => h9) rfl dX9_ran_81 ?_
    refine va_get (D := (dC, dI)) (ci := 4) (v := .int 0) (C := RX4) (T := TX4) (N := 8) hx hb hts inw_X9_ran_4 hown hK hP 1 rfl rfl 7 (by decide) (hts (.fieldLink RX9 179 "VatHouse$Runner" "hoursRested" "I") (by decide +kernel)) (fun _ h9 => h9) rfl dX9_ran_84 ?_
    refine vx_ret ?_
    exact en_i hx hb hr hlocks hP hD hK hS 0 ⟨rfl, by rw [c_6]; decide⟩ [] [] rfl rfl rfl (Nat.le_of_ble_eq_true rfl) (Nat.le_of_ble_eq_true rfl) dX9_ran_87
  refine lv_tableOut (tgt := 88) hx hb dX9_ran_1 (tab_out6 c_1 c_2 c_3 c_4 c_5 c_6) (by decide) ?_
  exact en_x (cls := NSE) hno hx hb hlt hlocks hown hts xg_0 xg_1 xg_2 xg_5 (by decide +kernel) (hts (.classLink RX9 149 NSE) (by decide +kernel)) (hts (.initialized NSE) (by decide +kernel)) hev.2.1.2.2.2.1 (inx_X9_ran_9) xb_9 hev.2.2.1.1 xo_9 hev (hl.1.trans hml.symm) dX9_ran_88 dX9_ran_91 dX9_ran_92 dX9_ran_94 dX9_ran_97 (Nat.le_of_ble_eq_true rfl) (Nat.le_of_ble_eq_true rfl) (Nat.le_of_ble_eq_true rfl) (Nat.le_of_ble_eq_true rfl) ⟨rfl, by simp [E_ran, c_1, c_2, c_3, c_4, c_5, c_6]⟩ hP hD hK hS [0, 1] rfl rfl (Nat.le_of_ble_eq_true rfl) (Nat.le_of_ble_eq_true rfl)

abbrev rm_X9_planned : Room := { frames := 6, cells := 1, slots := 6, locals := 82 }
theorem inw_X9_planned_1 : ∀ w ∈ wsX10, w ∈ wsX9_planned := by decide +kernel
theorem inw_X9_planned_9 : ∀ w ∈ wsX90, w ∈ wsX9_planned := by decide +kernel
theorem inx_X9_planned_9 : ∀ w ∈ (xN RX9 153).filter goodWord, w ∈ wsX9_planned := fun _ h => List.mem_cons_of_mem _ (List.mem_append_right _ h)
set_option maxHeartbeats 800000 in
set_option maxRecDepth 100000 in
theorem c_X9_planned (l : Launch) (dC : Nat → ClassId) (dI : Nat → Nat → Nat) (sa : Nat → Nat) (hlt : l.stackTraces = false) (sz : Nat) (h0 : Nat) (ad : Nat → Nat) (p0 : Int32) (p1 : Int32) : CX l dC dI sa yX9_planned wsX9_planned rm_X9_planned [.ref h0, .int p0, .int p1] [(h0, .inr (9, [.ref (ad 0), .ref (ad 8), .int 0, .int 0, .ref (ad 9), .int 0, .ref (ad 10), .ref (ad 15), .int 0, .ref (ad 16), .ref (ad 17)])), ((ad 17), .inr (1, [.ref (ad 0), .ref (ad 18), .ref (ad 25), .int 0, .int 0, .int 0, .ref (ad 26), .ref (ad 27), .ref (ad 28)]))] [] sz (fun (r : Option Value) (_ : Unit) => r = some (.int 0) ∧ (False)) (fun (_ : Unit) => []) (fun (_ : Unit) => []) (fun E => E = NSE ∧ True) 1 6 := by
  refine CX.start (cc := cX9_planned) (maxL := 3) (ret := (some .int)) (by decide) rfl (Nat.le_of_ble_eq_true rfl) ?_
  intro p e s m below meth c ls hst hno hP hK hD hev hS hl
  obtain ⟨hx, hb, hr, hml, hts, hown, hlocks, hin⟩ := hst
  have hown : s.vm.findClass RX9 = some m.cls := hown
  have hin : meth.name = yX9_planned.name := hin
  have hA : ∀ q : Nat, s.heap.size ≤ q → va_A [(h0, .inr (9, [.ref (ad 0), .ref (ad 8), .int 0, .int 0, .ref (ad 9), .int 0, .ref (ad 10), .ref (ad 15), .int 0, .ref (ad 16), .ref (ad 17)])), ((ad 17), .inr (1, [.ref (ad 0), .ref (ad 18), .ref (ad 25), .int 0, .int 0, .int 0, .ref (ad 26), .ref (ad 27), .ref (ad 28)]))] s.heap.size q := fun _ h => Or.inr h
  have hl : lv_has ls 3 [(0, .ref h0), (1, .int p0), (2, .int p1)] := hl
  refine lv_iload_n hx hb dX9_planned_0 rfl (lv_at hl 1 rfl) ?_
  refine lv_if_lt (tgt := 20) hx hb dX9_planned_1 (by decide) (fun c_1 => ?_) (fun c_1 => ?_)
  · exact en_x (cls := NSE) hno hx hb hlt hlocks hown hts xg_0 xg_1 xg_2 xg_5 (by decide +kernel) (hts (.classLink RX9 149 NSE) (by decide +kernel)) (hts (.initialized NSE) (by decide +kernel)) hev.2.1.2.2.2.2 (inx_X9_planned_9) xb_9 hev.2.2.1.1 xo_9 hev (hl.1.trans hml.symm) dX9_planned_20 dX9_planned_23 dX9_planned_24 dX9_planned_26 dX9_planned_29 (Nat.le_of_ble_eq_true rfl) (Nat.le_of_ble_eq_true rfl) (Nat.le_of_ble_eq_true rfl) (Nat.le_of_ble_eq_true rfl) ⟨rfl, trivial⟩ hP hD hK hS [0, 1] rfl rfl (Nat.le_of_ble_eq_true rfl) (Nat.le_of_ble_eq_true rfl)
  · refine lv_iload_n hx hb dX9_planned_4 rfl (lv_at hl 1 rfl) ?_
    refine lv_aload_n hx hb dX9_planned_5 rfl (lv_at hl 0 rfl) ?_
    refine va_get (D := (dC, dI)) (ci := 9) (v := .ref (ad 17)) (C := RX9) (T := TX9) (N := 11) hx hb hts inw_X9_planned_9 hown hK hP 0 rfl rfl 10 (by decide) (hts (.fieldLink RX9 53 "VatHouse" "planner" "LVatHouse$Planner;") (by decide +kernel)) (fun _ h9 => h9) rfl dX9_planned_6 ?_
    refine va_get (D := (dC, dI)) (ci := 1) (v := .int 0) (C := RX1) (T := TX1) (N := 9) hx hb hts inw_X9_planned_1 hown hK hP 1 rfl rfl 5 (by decide) (hts (.fieldLink RX9 186 "VatHouse$Planner" "kept" "I") (by decide +kernel)) (fun _ h9 => h9) rfl dX9_planned_9 ?_
    refine lv_icmp_ge (tgt := 20) hx hb dX9_planned_12 (by decide) (fun c_2 => ?_) (fun c_2 => ?_)
    rotate_left
    · exact absurd c_2 (fun h => h (nlt_le c_1))
    exact en_x (cls := NSE) hno hx hb hlt hlocks hown hts xg_0 xg_1 xg_2 xg_5 (by decide +kernel) (hts (.classLink RX9 149 NSE) (by decide +kernel)) (hts (.initialized NSE) (by decide +kernel)) hev.2.1.2.2.2.2 (inx_X9_planned_9) xb_9 hev.2.2.1.1 xo_9 hev (hl.1.trans hml.symm) dX9_planned_20 dX9_planned_23 dX9_planned_24 dX9_planned_26 dX9_planned_29 (Nat.le_of_ble_eq_true rfl) (Nat.le_of_ble_eq_true rfl) (Nat.le_of_ble_eq_true rfl) (Nat.le_of_ble_eq_true rfl) ⟨rfl, trivial⟩ hP hD hK hS [0, 1] rfl rfl (Nat.le_of_ble_eq_true rfl) (Nat.le_of_ble_eq_true rfl)

abbrev rm_X9_cloth : Room := { frames := 2, cells := 1, slots := 8, locals := 34 }
theorem inw_X9_cloth_0 : ∀ w ∈ wsX00, w ∈ wsX9_cloth := by decide +kernel
theorem inw_X9_cloth_9 : ∀ w ∈ wsX90, w ∈ wsX9_cloth := by decide +kernel
set_option maxHeartbeats 800000 in
set_option maxRecDepth 100000 in
theorem c_X9_cloth (l : Launch) (dC : Nat → ClassId) (dI : Nat → Nat → Nat) (sa : Nat → Nat) (hlt : l.stackTraces = false) (sz : Nat) (h0 : Nat) (ad : Nat → Nat) (ca : Nat → ClassId) (p0 : Int32) : CT l dC dI sa yX9_cloth wsX9_cloth rm_X9_cloth [.ref h0, .int p0] [(h0, .inr (9, [.ref (ad 0), .ref (ad 8), .int 0, .int 0, .ref (ad 9), .int 0, .ref (ad 10), .ref (ad 15), .int 0, .ref (ad 16), .ref (ad 17)])), ((ad 8), .inl ((ca 8), 30, .inr (.inr (.inr (.inr (fun _ => none))))))] [((ca 8), .object "VatHouse$Cloth")] sz (fun (r : Option Value) (x : Int32) => r = some (.int x) ∧ (E_cloth p0 = x)) (fun (x : Int32) => []) (fun (x : Int32) => []) 1 8 := by
  refine CT.start (cc := cX9_cloth) (maxL := 2) (ret := (some .int)) (by decide) rfl (Nat.le_of_ble_eq_true rfl) ?_
  intro p e s m below meth c ls hst hP hK hD hev hS hl
  obtain ⟨hx, hb, hr, hml, hts, hown, hlocks, hin⟩ := hst
  have hown : s.vm.findClass RX9 = some m.cls := hown
  have hin : meth.name = yX9_cloth.name := hin
  have hA : ∀ q : Nat, s.heap.size ≤ q → va_A [(h0, .inr (9, [.ref (ad 0), .ref (ad 8), .int 0, .int 0, .ref (ad 9), .int 0, .ref (ad 10), .ref (ad 15), .int 0, .ref (ad 16), .ref (ad 17)])), ((ad 8), .inl ((ca 8), 30, .inr (.inr (.inr (.inr (fun _ => none))))))] s.heap.size q := fun _ h => Or.inr h
  have hl : lv_has ls 2 [(0, .ref h0), (1, .int p0)] := hl
  refine lv_aload_n hx hb dX9_cloth_0 rfl (lv_at hl 0 rfl) ?_
  refine va_get (D := (dC, dI)) (ci := 9) (v := .int 0) (C := RX9) (T := TX9) (N := 11) hx hb hts inw_X9_cloth_9 hown hK hP 0 rfl rfl 2 (by decide) (hts (.fieldLink RX9 92 "VatHouse" "clothsMade" "I") (by decide +kernel)) (fun _ h9 => h9) rfl dX9_cloth_1 ?_
  refine lv_if_lt (tgt := 30) hx hb dX9_cloth_4 (by decide) (fun c_1 => ?_) (fun c_1 => ?_)
  · exact absurd c_1 (by decide)
  refine lv_aload_n hx hb dX9_cloth_7 rfl (lv_at hl 0 rfl) ?_
  refine va_get (D := (dC, dI)) (ci := 9) (v := .int 0) (C := RX9) (T := TX9) (N := 11) hx hb hts inw_X9_cloth_9 hown hK hP 0 rfl rfl 2 (by decide) (hts (.fieldLink RX9 92 "VatHouse" "clothsMade" "I") (by decide +kernel)) (fun _ h9 => h9) rfl dX9_cloth_8 ?_
  refine lv_aload_n hx hb dX9_cloth_11 rfl (lv_at hl 0 rfl) ?_
  refine va_get (D := (dC, dI)) (ci := 9) (v := .ref (ad 8)) (C := RX9) (T := TX9) (N := 11) hx hb hts inw_X9_cloth_9 hown hK hP 0 rfl rfl 1 (by decide) (hts (.fieldLink RX9 18 "VatHouse" "cloths" "[LVatHouse$Cloth;") (by decide +kernel)) (fun _ h9 => h9) rfl dX9_cloth_12 ?_
  refine va_alen hx hb hK hP 1 0 rfl rfl (v := 30) rfl dX9_cloth_15 ?_
  refine lv_icmp_ge (tgt := 30) hx hb dX9_cloth_16 (by decide) (fun c_2 => ?_) (fun c_2 => ?_)
  · exact absurd c_2 (by decide)
  refine lv_iload_n hx hb dX9_cloth_19 rfl (lv_at hl 1 rfl) ?_
  refine lv_iconst (v := 1) hx hb dX9_cloth_20 (by decide) ?_
  refine lv_icmp_lt (tgt := 30) hx hb dX9_cloth_21 (by decide) (fun c_3 => ?_) (fun c_3 => ?_)
  · refine lv_iconst (v := (-1)) hx hb dX9_cloth_30 (by decide) ?_
    exact en_i hx hb hr hlocks hP hD hK hS (-1) ⟨rfl, by simp [E_cloth, c_3]⟩ [] [] rfl rfl rfl (Nat.le_of_ble_eq_true rfl) (Nat.le_of_ble_eq_true rfl) dX9_cloth_31
  · refine lv_iload_n hx hb dX9_cloth_24 rfl (lv_at hl 1 rfl) ?_
    refine lv_bipush (v := 50) hx hb dX9_cloth_25 (by decide) ?_
    refine lv_icmp_le (tgt := 32) hx hb dX9_cloth_27 (by decide) (fun c_4 => ?_) (fun c_4 => ?_)
    · refine lv_aload_n hx hb dX9_cloth_32 rfl (lv_at hl 0 rfl) ?_
      refine va_get (D := (dC, dI)) (ci := 9) (v := .ref (ad 8)) (C := RX9) (T := TX9) (N := 11) hx hb hts inw_X9_cloth_9 hown hK hP 0 rfl rfl 1 (by decide) (hts (.fieldLink RX9 18 "VatHouse" "cloths" "[LVatHouse$Cloth;") (by decide +kernel)) (fun _ h9 => h9) rfl dX9_cloth_33 ?_
      refine lv_aload_n hx hb dX9_cloth_36 rfl (lv_at hl 0 rfl) ?_
      refine va_get (D := (dC, dI)) (ci := 9) (v := .int 0) (C := RX9) (T := TX9) (N := 11) hx hb hts inw_X9_cloth_9 hown hK hP 0 rfl rfl 2 (by decide) (hts (.fieldLink RX9 92 "VatHouse" "clothsMade" "I") (by decide +kernel)) (fun _ h9 => h9) rfl dX9_cloth_37 ?_
      refine va_new (ci := 0) (fs := [.int 0, .int 0, .int 0, .int 0, .int 0, .int 0, .int 0, .int 0]) (C := RX0) (T := TX0) (N := 8) hx hb hts inw_X9_cloth_0 tyX0 tyX0_ok hown (hts (.classLink RX9 16 RX0) (by decide +kernel)) (hts (.instantiable RX0 8) (by decide +kernel)) (hts (.initialized RX0) (by decide +kernel)) hK hP hD hS hA rfl nfX0 (Nat.le_of_ble_eq_true rfl) (Nat.le_of_ble_eq_true rfl) dX9_cloth_40 (fun q_5 H hP hD hS => ?_)
      have hP : va_P (dC, dI) vwCl [(h0, .inr (9, [.ref (ad 0), .ref (ad 8), .int 0, .int 0, .ref (ad 9), .int 0, .ref (ad 10), .ref (ad 15), .int 0, .ref (ad 16), .ref (ad 17)])), ((ad 8), .inl ((ca 8), 30, .inr (.inr (.inr (.inr (fun _ => none)))))), (q_5, .inr (0, [.int 0, .int 0, .int 0, .int 0, .int 0, .int 0, .int 0, .int 0]))] _ := hP
      have hD : va_D _ [(h0, .inr (9, [.ref (ad 0), .ref (ad 8), .int 0, .int 0, .ref (ad 9), .int 0, .ref (ad 10), .ref (ad 15), .int 0, .ref (ad 16), .ref (ad 17)])), ((ad 8), .inl ((ca 8), 30, .inr (.inr (.inr (.inr (fun _ => none)))))), (q_5, .inr (0, [.int 0, .int 0, .int 0, .int 0, .int 0, .int 0, .int 0, .int 0]))] := hD
      refine lv_dup hx hb dX9_cloth_43 rfl ?_
      refine lv_aload_n hx hb dX9_cloth_44 rfl (lv_at hl 0 rfl) ?_
      refine va_get (D := (dC, dI)) (ci := 9) (v := .int 0) (C := RX9) (T := TX9) (N := 11) hx hb hts inw_X9_cloth_9 hown hK hP 0 rfl rfl 2 (by decide) (hts (.fieldLink RX9 92 "VatHouse" "clothsMade" "I") (by decide +kernel)) (fun _ h9 => h9) rfl dX9_cloth_45 ?_
      refine lv_iload_n hx hb dX9_cloth_48 rfl (lv_at hl 1 rfl) ?_
      refine go_I (wr := [(h0, .inr (9, [.ref (ad 0), .ref (ad 8), .int 0, .int 0, .ref (ad 9), .int 0, .ref (ad 10), .ref (ad 15), .int 0, .ref (ad 16), .ref (ad 17)])), ((ad 8), .inl ((ca 8), 30, .inr (.inr (.inr (.inr (fun _ => none))))))]) ⟨hx, hb, hml, hown, hts⟩ (c_X0_init l dC dI sa hlt _ q_5 0 p0 ) (cwI 2 hts gX9_cloth_X0_init rfl rfl rfl (hts (.initialized RX0) (by decide +kernel)) (hts (.methodLink RX9 95 yX0_init) (by decide +kernel)) (hts (.instanceMethod yX0_init) (by decide +kernel)) rfl (by decide +kernel) ⟨Nat.le_of_ble_eq_true rfl, Nat.le_of_ble_eq_true rfl⟩) hP hD hK hS hA hev [2] [0, 1] [] rfl rfl rfl rfl (by decide) rfl rfl hl.1 rfl (Nat.le_of_ble_eq_true rfl) dX9_cloth_49 ⟨Nat.le_of_ble_eq_true rfl, Nat.le_of_ble_eq_true rfl⟩ (fun r u H locs hw hP hD hK hS => ?_)
      have hw : r = none ∧ (True) := hw
      obtain ⟨rfl, hw_6⟩ := hw
      have hP : va_P (dC, dI) vwCl [(h0, .inr (9, [.ref (ad 0), .ref (ad 8), .int 0, .int 0, .ref (ad 9), .int 0, .ref (ad 10), .ref (ad 15), .int 0, .ref (ad 16), .ref (ad 17)])), ((ad 8), .inl ((ca 8), 30, .inr (.inr (.inr (.inr (fun _ => none)))))), (q_5, .inr (0, [.int 0, .int p0, .int 0, .int 0, .int 0, .int (-1), .int 0, .int 0]))] _ := hP
      have hD : va_D _ [(h0, .inr (9, [.ref (ad 0), .ref (ad 8), .int 0, .int 0, .ref (ad 9), .int 0, .ref (ad 10), .ref (ad 15), .int 0, .ref (ad 16), .ref (ad 17)])), ((ad 8), .inl ((ca 8), 30, .inr (.inr (.inr (.inr (fun _ => none)))))), (q_5, .inr (0, [.int 0, .int p0, .int 0, .int 0, .int 0, .int (-1), .int 0, .int 0]))] := hD
      have hK : va_K (dC, dI) vwCl [((ca 8), .object "VatHouse$Cloth")] s := hK
      refine W.eq (g2 := F0 m 52 ls [.ref q_5, .int 0, .ref (ad 8)]) rfl ?_
      refine va_astq hx hb hK hP hD hS 1 0 2 0 rfl rfl rfl rfl (by unfold vp_in; decide) dX9_cloth_52 (fun H locs hP hD hS => ?_)
      have hP : va_P (dC, dI) vwCl [(h0, .inr (9, [.ref (ad 0), .ref (ad 8), .int 0, .int 0, .ref (ad 9), .int 0, .ref (ad 10), .ref (ad 15), .int 0, .ref (ad 16), .ref (ad 17)])), ((ad 8), .inl ((ca 8), 30, .inr (.inr (.inr (.inr (va_up (fun _ => none) (0 : Int32).toNatClampNeg (some q_5))))))), (q_5, .inr (0, [.int 0, .int p0, .int 0, .int 0, .int 0, .int (-1), .int 0, .int 0]))] _ := hP
      have hD : va_D _ [(h0, .inr (9, [.ref (ad 0), .ref (ad 8), .int 0, .int 0, .ref (ad 9), .int 0, .ref (ad 10), .ref (ad 15), .int 0, .ref (ad 16), .ref (ad 17)])), ((ad 8), .inl ((ca 8), 30, .inr (.inr (.inr (.inr (va_up (fun _ => none) (0 : Int32).toNatClampNeg (some q_5))))))), (q_5, .inr (0, [.int 0, .int p0, .int 0, .int 0, .int 0, .int (-1), .int 0, .int 0]))] := hD
      obtain ⟨f_7, ef_7⟩ : ∃ z, z = (va_up (fun _ => none) (0 : Int32).toNatClampNeg (some q_5)) := ⟨_, rfl⟩
      rw [← ef_7] at hP hD
      refine lv_aload_n hx hb dX9_cloth_53 rfl (lv_at hl 0 rfl) ?_
      refine lv_dup hx hb dX9_cloth_54 rfl ?_
      refine va_get (D := (dC, dI)) (ci := 9) (v := .int 0) (C := RX9) (T := TX9) (N := 11) hx hb hts inw_X9_cloth_9 hown hK hP 0 rfl rfl 2 (by decide) (hts (.fieldLink RX9 92 "VatHouse" "clothsMade" "I") (by decide +kernel)) (fun _ h9 => h9) rfl dX9_cloth_55 ?_
      refine lv_iconst (v := 1) hx hb dX9_cloth_58 (by decide) ?_
      refine lv_iadd hx hb dX9_cloth_59 ?_
      refine lv_topi (fun z_8 ez_8 => ?_)
      obtain rfl : z_8 = 1 := ez_8.trans (by decide)
      refine va_put (D := (dC, dI)) (ci := 9) (v := .int 1) (ty := .int) (C := RX9) (T := TX9) (N := 11) hx hb hts inw_X9_cloth_9 tyX9 tyX9_ok nmX9 hown hK hP hD hS 0 rfl rfl 2 (by decide) (hts (.fieldLink RX9 92 "VatHouse" "clothsMade" "I") (by decide +kernel)) (fun _ h9 => h9) rfl (by decide +kernel) rfl rfl (Nat.le_of_ble_eq_true rfl) dX9_cloth_60 (fun H locs hP hD hS => ?_)
      have hP : va_P (dC, dI) vwCl [(h0, .inr (9, [.ref (ad 0), .ref (ad 8), .int 1, .int 0, .ref (ad 9), .int 0, .ref (ad 10), .ref (ad 15), .int 0, .ref (ad 16), .ref (ad 17)])), ((ad 8), .inl ((ca 8), 30, .inr (.inr (.inr (.inr f_7))))), (q_5, .inr (0, [.int 0, .int p0, .int 0, .int 0, .int 0, .int (-1), .int 0, .int 0]))] _ := hP
      have hD : va_D _ [(h0, .inr (9, [.ref (ad 0), .ref (ad 8), .int 1, .int 0, .ref (ad 9), .int 0, .ref (ad 10), .ref (ad 15), .int 0, .ref (ad 16), .ref (ad 17)])), ((ad 8), .inl ((ca 8), 30, .inr (.inr (.inr (.inr f_7))))), (q_5, .inr (0, [.int 0, .int p0, .int 0, .int 0, .int 0, .int (-1), .int 0, .int 0]))] := hD
      refine lv_aload_n hx hb dX9_cloth_63 rfl (lv_at hl 0 rfl) ?_
      refine va_get (D := (dC, dI)) (ci := 9) (v := .int 1) (C := RX9) (T := TX9) (N := 11) hx hb hts inw_X9_cloth_9 hown hK hP 0 rfl rfl 2 (by decide) (hts (.fieldLink RX9 92 "VatHouse" "clothsMade" "I") (by decide +kernel)) (fun _ h9 => h9) rfl dX9_cloth_64 ?_
      refine lv_iconst (v := 1) hx hb dX9_cloth_67 (by decide) ?_
      refine lv_isub hx hb dX9_cloth_68 ?_
      refine lv_topi (fun z_9 ez_9 => ?_)
      obtain rfl : z_9 = 0 := ez_9.trans (by decide)
      exact en_i hx hb hr hlocks hP hD hK hS 0 ⟨rfl, by subst ef_7; simp [E_cloth, c_3, c_4]⟩ [] [] rfl rfl rfl (Nat.le_of_ble_eq_true rfl) (Nat.le_of_ble_eq_true rfl) dX9_cloth_69
    · refine lv_iconst (v := (-1)) hx hb dX9_cloth_30 (by decide) ?_
      exact en_i hx hb hr hlocks hP hD hK hS (-1) ⟨rfl, by simp [E_cloth, c_3, c_4]⟩ [] [] rfl rfl rfl (Nat.le_of_ble_eq_true rfl) (Nat.le_of_ble_eq_true rfl) dX9_cloth_31

abbrev rm_X9_append_0 : Room := { frames := 0, cells := 0, slots := 0, locals := 0 }
theorem inw_X9_append_9 : ∀ w ∈ wsX90, w ∈ wsX9_append := by decide +kernel
set_option maxHeartbeats 800000 in
set_option maxRecDepth 100000 in
theorem c_X9_append_0 (l : Launch) (dC : Nat → ClassId) (dI : Nat → Nat → Nat) (sa : Nat → Nat) (hlt : l.stackTraces = false) (sz : Nat) (h0 : Nat) (ad : Nat → Nat) (ca : Nat → ClassId) (ft : Nat → Int32) (n : Int32) : CT l dC dI sa yX9_append wsX9_append rm_X9_append_0 [.ref h0, .int n] [(h0, .inr (9, [.ref (ad 0), .ref (ad 8), .int 0, .int 0, .ref (ad 9), .int 0, .ref (ad 10), .ref (ad 15), .int 0, .ref (ad 16), .ref (ad 17)])), ((ad 9), .inl ((ca 9), 1500, .inl ft))] [((ca 9), .byte)] sz (fun (r : Option Value) (g : (Nat → Int32)) => r = none ∧ (True)) (fun (g : (Nat → Int32)) => [(h0, .inr (9, [.ref (ad 0), .ref (ad 8), .int 0, .int 0, .ref (ad 9), .int 4, .ref (ad 10), .ref (ad 15), .int 0, .ref (ad 16), .ref (ad 17)])), ((ad 9), .inl ((ca 9), 1500, .inl g))]) (fun (g : (Nat → Int32)) => []) 0 0 := by
  refine CT.start (cc := cX9_append) (maxL := 3) (ret := none) (by decide) rfl (Nat.le_of_ble_eq_true rfl) ?_
  intro p e s m below meth c ls hst hP hK hD hev hS hl
  obtain ⟨hx, hb, hr, hml, hts, hown, hlocks, hin⟩ := hst
  have hown : s.vm.findClass RX9 = some m.cls := hown
  have hin : meth.name = yX9_append.name := hin
  have hA : ∀ q : Nat, s.heap.size ≤ q → va_A [(h0, .inr (9, [.ref (ad 0), .ref (ad 8), .int 0, .int 0, .ref (ad 9), .int 0, .ref (ad 10), .ref (ad 15), .int 0, .ref (ad 16), .ref (ad 17)])), ((ad 9), .inl ((ca 9), 1500, .inl ft))] s.heap.size q := fun _ h => Or.inr h
  have hl : lv_has ls 3 [(0, .ref h0), (1, .int n)] := hl
  refine lv_bipush (v := 24) hx hb dX9_append_0 (by decide) ?_
  refine lv_istore_n (lv' := [(2, .int 24), (0, .ref h0), (1, .int n)]) hx hb dX9_append_2 rfl hl (by decide) rfl (fun ls hl => ?_)
  refine lv_iload_n hx hb dX9_append_3 rfl (lv_at hl 0 rfl) ?_
  refine lv_if_lt (tgt := 55) hx hb dX9_append_4 (by decide) (fun c_1 => ?_) (fun c_1 => ?_)
  · exact absurd c_1 (by decide)
  refine lv_aload_n hx hb dX9_append_7 rfl (lv_at hl 1 rfl) ?_
  refine va_get (D := (dC, dI)) (ci := 9) (v := .int 0) (C := RX9) (T := TX9) (N := 11) hx hb hts inw_X9_append_9 hown hK hP 0 rfl rfl 5 (by decide) (hts (.fieldLink RX9 124 "VatHouse" "tapeLength" "I") (by decide +kernel)) (fun _ h9 => h9) rfl dX9_append_8 ?_
  refine lv_if_lt (tgt := 49) hx hb dX9_append_11 (by decide) (fun c_2 => ?_) (fun c_2 => ?_)
  · exact absurd c_2 (by decide)
  refine lv_aload_n hx hb dX9_append_14 rfl (lv_at hl 1 rfl) ?_
  refine va_get (D := (dC, dI)) (ci := 9) (v := .int 0) (C := RX9) (T := TX9) (N := 11) hx hb hts inw_X9_append_9 hown hK hP 0 rfl rfl 5 (by decide) (hts (.fieldLink RX9 124 "VatHouse" "tapeLength" "I") (by decide +kernel)) (fun _ h9 => h9) rfl dX9_append_15 ?_
  refine lv_aload_n hx hb dX9_append_18 rfl (lv_at hl 1 rfl) ?_
  refine va_get (D := (dC, dI)) (ci := 9) (v := .ref (ad 9)) (C := RX9) (T := TX9) (N := 11) hx hb hts inw_X9_append_9 hown hK hP 0 rfl rfl 4 (by decide) (hts (.fieldLink RX9 22 "VatHouse" "tape" "[B") (by decide +kernel)) (fun _ h9 => h9) rfl dX9_append_19 ?_
  refine va_alen hx hb hK hP 1 0 rfl rfl (v := 1500) rfl dX9_append_22 ?_
  refine lv_icmp_ge (tgt := 49) hx hb dX9_append_23 (by decide) (fun c_3 => ?_) (fun c_3 => ?_)
  · exact absurd c_3 (by decide)
  refine lv_aload_n hx hb dX9_append_26 rfl (lv_at hl 1 rfl) ?_
  refine va_get (D := (dC, dI)) (ci := 9) (v := .ref (ad 9)) (C := RX9) (T := TX9) (N := 11) hx hb hts inw_X9_append_9 hown hK hP 0 rfl rfl 4 (by decide) (hts (.fieldLink RX9 22 "VatHouse" "tape" "[B") (by decide +kernel)) (fun _ h9 => h9) rfl dX9_append_27 ?_
  refine lv_aload_n hx hb dX9_append_30 rfl (lv_at hl 1 rfl) ?_
  refine va_get (D := (dC, dI)) (ci := 9) (v := .int 0) (C := RX9) (T := TX9) (N := 11) hx hb hts inw_X9_append_9 hown hK hP 0 rfl rfl 5 (by decide) (hts (.fieldLink RX9 124 "VatHouse" "tapeLength" "I") (by decide +kernel)) (fun _ h9 => h9) rfl dX9_append_31 ?_
  refine lv_iload_n hx hb dX9_append_34 rfl (lv_at hl 2 rfl) ?_
  refine lv_iload_n hx hb dX9_append_35 rfl (lv_at hl 0 rfl) ?_
  refine lv_ishr hx hb dX9_append_36 ?_
  refine lv_topi (fun z_4 ez_4 => ?_)
  refine lv_i2b (v := (z_4).toInt8.toInt32) hx hb dX9_append_37 rfl ?_
  refine lv_topi (fun z_5 ez_5 => ?_)
  refine va_bast hx hb hK hP hD hS 1 0 rfl rfl (by unfold vp_in; decide) dX9_append_38 (fun H locs hP hD hS => ?_)
  have hP : va_P (dC, dI) vwCl [(h0, .inr (9, [.ref (ad 0), .ref (ad 8), .int 0, .int 0, .ref (ad 9), .int 0, .ref (ad 10), .ref (ad 15), .int 0, .ref (ad 16), .ref (ad 17)])), ((ad 9), .inl ((ca 9), 1500, .inl (upd ft (0 : Int32).toNatClampNeg (vp_nar .byte z_5))))] _ := hP
  have hD : va_D _ [(h0, .inr (9, [.ref (ad 0), .ref (ad 8), .int 0, .int 0, .ref (ad 9), .int 0, .ref (ad 10), .ref (ad 15), .int 0, .ref (ad 16), .ref (ad 17)])), ((ad 9), .inl ((ca 9), 1500, .inl (upd ft (0 : Int32).toNatClampNeg (vp_nar .byte z_5))))] := hD
  obtain ⟨f_6, ef_6⟩ : ∃ z, z = (upd ft (0 : Int32).toNatClampNeg (vp_nar .byte z_5)) := ⟨_, rfl⟩
  rw [← ef_6] at hP hD
  refine lv_aload_n hx hb dX9_append_39 rfl (lv_at hl 1 rfl) ?_
  refine lv_dup hx hb dX9_append_40 rfl ?_
  refine va_get (D := (dC, dI)) (ci := 9) (v := .int 0) (C := RX9) (T := TX9) (N := 11) hx hb hts inw_X9_append_9 hown hK hP 0 rfl rfl 5 (by decide) (hts (.fieldLink RX9 124 "VatHouse" "tapeLength" "I") (by decide +kernel)) (fun _ h9 => h9) rfl dX9_append_41 ?_
  refine lv_iconst (v := 1) hx hb dX9_append_44 (by decide) ?_
  refine lv_iadd hx hb dX9_append_45 ?_
  refine lv_topi (fun z_7 ez_7 => ?_)
  obtain rfl : z_7 = 1 := ez_7.trans (by decide)
  refine va_put (D := (dC, dI)) (ci := 9) (v := .int 1) (ty := .int) (C := RX9) (T := TX9) (N := 11) hx hb hts inw_X9_append_9 tyX9 tyX9_ok nmX9 hown hK hP hD hS 0 rfl rfl 5 (by decide) (hts (.fieldLink RX9 124 "VatHouse" "tapeLength" "I") (by decide +kernel)) (fun _ h9 => h9) rfl (by decide +kernel) rfl rfl (Nat.le_of_ble_eq_true rfl) dX9_append_46 (fun H locs hP hD hS => ?_)
  have hP : va_P (dC, dI) vwCl [(h0, .inr (9, [.ref (ad 0), .ref (ad 8), .int 0, .int 0, .ref (ad 9), .int 1, .ref (ad 10), .ref (ad 15), .int 0, .ref (ad 16), .ref (ad 17)])), ((ad 9), .inl ((ca 9), 1500, .inl f_6))] _ := hP
  have hD : va_D _ [(h0, .inr (9, [.ref (ad 0), .ref (ad 8), .int 0, .int 0, .ref (ad 9), .int 1, .ref (ad 10), .ref (ad 15), .int 0, .ref (ad 16), .ref (ad 17)])), ((ad 9), .inl ((ca 9), 1500, .inl f_6))] := hD
  refine lv_iinc (v := 16) (lv' := [(2, .int 16), (0, .ref h0), (1, .int n)]) hx hb dX9_append_49 hl (k := 0) rfl (by decide) (by decide) rfl (fun ls hl => ?_)
  refine lv_goto (tgt := 3) hx hb dX9_append_52 (by decide) ?_
  refine lv_iload_n hx hb dX9_append_3 rfl (lv_at hl 0 rfl) ?_
  refine lv_if_lt (tgt := 55) hx hb dX9_append_4 (by decide) (fun c_8 => ?_) (fun c_8 => ?_)
  · exact absurd c_8 (by decide)
  refine lv_aload_n hx hb dX9_append_7 rfl (lv_at hl 1 rfl) ?_
  refine va_get (D := (dC, dI)) (ci := 9) (v := .int 1) (C := RX9) (T := TX9) (N := 11) hx hb hts inw_X9_append_9 hown hK hP 0 rfl rfl 5 (by decide) (hts (.fieldLink RX9 124 "VatHouse" "tapeLength" "I") (by decide +kernel)) (fun _ h9 => h9) rfl dX9_append_8 ?_
  refine lv_if_lt (tgt := 49) hx hb dX9_append_11 (by decide) (fun c_9 => ?_) (fun c_9 => ?_)
  · exact absurd c_9 (by decide)
  refine lv_aload_n hx hb dX9_append_14 rfl (lv_at hl 1 rfl) ?_
  refine va_get (D := (dC, dI)) (ci := 9) (v := .int 1) (C := RX9) (T := TX9) (N := 11) hx hb hts inw_X9_append_9 hown hK hP 0 rfl rfl 5 (by decide) (hts (.fieldLink RX9 124 "VatHouse" "tapeLength" "I") (by decide +kernel)) (fun _ h9 => h9) rfl dX9_append_15 ?_
  refine lv_aload_n hx hb dX9_append_18 rfl (lv_at hl 1 rfl) ?_
  refine va_get (D := (dC, dI)) (ci := 9) (v := .ref (ad 9)) (C := RX9) (T := TX9) (N := 11) hx hb hts inw_X9_append_9 hown hK hP 0 rfl rfl 4 (by decide) (hts (.fieldLink RX9 22 "VatHouse" "tape" "[B") (by decide +kernel)) (fun _ h9 => h9) rfl dX9_append_19 ?_
  refine va_alen hx hb hK hP 1 0 rfl rfl (v := 1500) rfl dX9_append_22 ?_
  refine lv_icmp_ge (tgt := 49) hx hb dX9_append_23 (by decide) (fun c_10 => ?_) (fun c_10 => ?_)
  · exact absurd c_10 (by decide)
  refine lv_aload_n hx hb dX9_append_26 rfl (lv_at hl 1 rfl) ?_
  refine va_get (D := (dC, dI)) (ci := 9) (v := .ref (ad 9)) (C := RX9) (T := TX9) (N := 11) hx hb hts inw_X9_append_9 hown hK hP 0 rfl rfl 4 (by decide) (hts (.fieldLink RX9 22 "VatHouse" "tape" "[B") (by decide +kernel)) (fun _ h9 => h9) rfl dX9_append_27 ?_
  refine lv_aload_n hx hb dX9_append_30 rfl (lv_at hl 1 rfl) ?_
  refine va_get (D := (dC, dI)) (ci := 9) (v := .int 1) (C := RX9) (T := TX9) (N := 11) hx hb hts inw_X9_append_9 hown hK hP 0 rfl rfl 5 (by decide) (hts (.fieldLink RX9 124 "VatHouse" "tapeLength" "I") (by decide +kernel)) (fun _ h9 => h9) rfl dX9_append_31 ?_
  refine lv_iload_n hx hb dX9_append_34 rfl (lv_at hl 2 rfl) ?_
  refine lv_iload_n hx hb dX9_append_35 rfl (lv_at hl 0 rfl) ?_
  refine lv_ishr hx hb dX9_append_36 ?_
  refine lv_topi (fun z_11 ez_11 => ?_)
  refine lv_i2b (v := (z_11).toInt8.toInt32) hx hb dX9_append_37 rfl ?_
  refine lv_topi (fun z_12 ez_12 => ?_)
  refine va_bast hx hb hK hP hD hS 1 0 rfl rfl (by unfold vp_in; decide) dX9_append_38 (fun H locs hP hD hS => ?_)
  have hP : va_P (dC, dI) vwCl [(h0, .inr (9, [.ref (ad 0), .ref (ad 8), .int 0, .int 0, .ref (ad 9), .int 1, .ref (ad 10), .ref (ad 15), .int 0, .ref (ad 16), .ref (ad 17)])), ((ad 9), .inl ((ca 9), 1500, .inl (upd f_6 (1 : Int32).toNatClampNeg (vp_nar .byte z_12))))] _ := hP
  have hD : va_D _ [(h0, .inr (9, [.ref (ad 0), .ref (ad 8), .int 0, .int 0, .ref (ad 9), .int 1, .ref (ad 10), .ref (ad 15), .int 0, .ref (ad 16), .ref (ad 17)])), ((ad 9), .inl ((ca 9), 1500, .inl (upd f_6 (1 : Int32).toNatClampNeg (vp_nar .byte z_12))))] := hD
  obtain ⟨f_13, ef_13⟩ : ∃ z, z = (upd f_6 (1 : Int32).toNatClampNeg (vp_nar .byte z_12)) := ⟨_, rfl⟩
  rw [← ef_13] at hP hD
  refine lv_aload_n hx hb dX9_append_39 rfl (lv_at hl 1 rfl) ?_
  refine lv_dup hx hb dX9_append_40 rfl ?_
  refine va_get (D := (dC, dI)) (ci := 9) (v := .int 1) (C := RX9) (T := TX9) (N := 11) hx hb hts inw_X9_append_9 hown hK hP 0 rfl rfl 5 (by decide) (hts (.fieldLink RX9 124 "VatHouse" "tapeLength" "I") (by decide +kernel)) (fun _ h9 => h9) rfl dX9_append_41 ?_
  refine lv_iconst (v := 1) hx hb dX9_append_44 (by decide) ?_
  refine lv_iadd hx hb dX9_append_45 ?_
  refine lv_topi (fun z_14 ez_14 => ?_)
  obtain rfl : z_14 = 2 := ez_14.trans (by decide)
  refine va_put (D := (dC, dI)) (ci := 9) (v := .int 2) (ty := .int) (C := RX9) (T := TX9) (N := 11) hx hb hts inw_X9_append_9 tyX9 tyX9_ok nmX9 hown hK hP hD hS 0 rfl rfl 5 (by decide) (hts (.fieldLink RX9 124 "VatHouse" "tapeLength" "I") (by decide +kernel)) (fun _ h9 => h9) rfl (by decide +kernel) rfl rfl (Nat.le_of_ble_eq_true rfl) dX9_append_46 (fun H locs hP hD hS => ?_)
  have hP : va_P (dC, dI) vwCl [(h0, .inr (9, [.ref (ad 0), .ref (ad 8), .int 0, .int 0, .ref (ad 9), .int 2, .ref (ad 10), .ref (ad 15), .int 0, .ref (ad 16), .ref (ad 17)])), ((ad 9), .inl ((ca 9), 1500, .inl f_13))] _ := hP
  have hD : va_D _ [(h0, .inr (9, [.ref (ad 0), .ref (ad 8), .int 0, .int 0, .ref (ad 9), .int 2, .ref (ad 10), .ref (ad 15), .int 0, .ref (ad 16), .ref (ad 17)])), ((ad 9), .inl ((ca 9), 1500, .inl f_13))] := hD
  refine lv_iinc (v := 8) (lv' := [(2, .int 8), (0, .ref h0), (1, .int n)]) hx hb dX9_append_49 hl (k := 0) rfl (by decide) (by decide) rfl (fun ls hl => ?_)
  refine lv_goto (tgt := 3) hx hb dX9_append_52 (by decide) ?_
  refine lv_iload_n hx hb dX9_append_3 rfl (lv_at hl 0 rfl) ?_
  refine lv_if_lt (tgt := 55) hx hb dX9_append_4 (by decide) (fun c_15 => ?_) (fun c_15 => ?_)
  · exact absurd c_15 (by decide)
  refine lv_aload_n hx hb dX9_append_7 rfl (lv_at hl 1 rfl) ?_
  refine va_get (D := (dC, dI)) (ci := 9) (v := .int 2) (C := RX9) (T := TX9) (N := 11) hx hb hts inw_X9_append_9 hown hK hP 0 rfl rfl 5 (by decide) (hts (.fieldLink RX9 124 "VatHouse" "tapeLength" "I") (by decide +kernel)) (fun _ h9 => h9) rfl dX9_append_8 ?_
  refine lv_if_lt (tgt := 49) hx hb dX9_append_11 (by decide) (fun c_16 => ?_) (fun c_16 => ?_)
  · exact absurd c_16 (by decide)
  refine lv_aload_n hx hb dX9_append_14 rfl (lv_at hl 1 rfl) ?_
  refine va_get (D := (dC, dI)) (ci := 9) (v := .int 2) (C := RX9) (T := TX9) (N := 11) hx hb hts inw_X9_append_9 hown hK hP 0 rfl rfl 5 (by decide) (hts (.fieldLink RX9 124 "VatHouse" "tapeLength" "I") (by decide +kernel)) (fun _ h9 => h9) rfl dX9_append_15 ?_
  refine lv_aload_n hx hb dX9_append_18 rfl (lv_at hl 1 rfl) ?_
  refine va_get (D := (dC, dI)) (ci := 9) (v := .ref (ad 9)) (C := RX9) (T := TX9) (N := 11) hx hb hts inw_X9_append_9 hown hK hP 0 rfl rfl 4 (by decide) (hts (.fieldLink RX9 22 "VatHouse" "tape" "[B") (by decide +kernel)) (fun _ h9 => h9) rfl dX9_append_19 ?_
  refine va_alen hx hb hK hP 1 0 rfl rfl (v := 1500) rfl dX9_append_22 ?_
  refine lv_icmp_ge (tgt := 49) hx hb dX9_append_23 (by decide) (fun c_17 => ?_) (fun c_17 => ?_)
  · exact absurd c_17 (by decide)
  refine lv_aload_n hx hb dX9_append_26 rfl (lv_at hl 1 rfl) ?_
  refine va_get (D := (dC, dI)) (ci := 9) (v := .ref (ad 9)) (C := RX9) (T := TX9) (N := 11) hx hb hts inw_X9_append_9 hown hK hP 0 rfl rfl 4 (by decide) (hts (.fieldLink RX9 22 "VatHouse" "tape" "[B") (by decide +kernel)) (fun _ h9 => h9) rfl dX9_append_27 ?_
  refine lv_aload_n hx hb dX9_append_30 rfl (lv_at hl 1 rfl) ?_
  refine va_get (D := (dC, dI)) (ci := 9) (v := .int 2) (C := RX9) (T := TX9) (N := 11) hx hb hts inw_X9_append_9 hown hK hP 0 rfl rfl 5 (by decide) (hts (.fieldLink RX9 124 "VatHouse" "tapeLength" "I") (by decide +kernel)) (fun _ h9 => h9) rfl dX9_append_31 ?_
  refine lv_iload_n hx hb dX9_append_34 rfl (lv_at hl 2 rfl) ?_
  refine lv_iload_n hx hb dX9_append_35 rfl (lv_at hl 0 rfl) ?_
  refine lv_ishr hx hb dX9_append_36 ?_
  refine lv_topi (fun z_18 ez_18 => ?_)
  refine lv_i2b (v := (z_18).toInt8.toInt32) hx hb dX9_append_37 rfl ?_
  refine lv_topi (fun z_19 ez_19 => ?_)
  refine va_bast hx hb hK hP hD hS 1 0 rfl rfl (by unfold vp_in; decide) dX9_append_38 (fun H locs hP hD hS => ?_)
  have hP : va_P (dC, dI) vwCl [(h0, .inr (9, [.ref (ad 0), .ref (ad 8), .int 0, .int 0, .ref (ad 9), .int 2, .ref (ad 10), .ref (ad 15), .int 0, .ref (ad 16), .ref (ad 17)])), ((ad 9), .inl ((ca 9), 1500, .inl (upd f_13 (2 : Int32).toNatClampNeg (vp_nar .byte z_19))))] _ := hP
  have hD : va_D _ [(h0, .inr (9, [.ref (ad 0), .ref (ad 8), .int 0, .int 0, .ref (ad 9), .int 2, .ref (ad 10), .ref (ad 15), .int 0, .ref (ad 16), .ref (ad 17)])), ((ad 9), .inl ((ca 9), 1500, .inl (upd f_13 (2 : Int32).toNatClampNeg (vp_nar .byte z_19))))] := hD
  obtain ⟨f_20, ef_20⟩ : ∃ z, z = (upd f_13 (2 : Int32).toNatClampNeg (vp_nar .byte z_19)) := ⟨_, rfl⟩
  rw [← ef_20] at hP hD
  refine lv_aload_n hx hb dX9_append_39 rfl (lv_at hl 1 rfl) ?_
  refine lv_dup hx hb dX9_append_40 rfl ?_
  refine va_get (D := (dC, dI)) (ci := 9) (v := .int 2) (C := RX9) (T := TX9) (N := 11) hx hb hts inw_X9_append_9 hown hK hP 0 rfl rfl 5 (by decide) (hts (.fieldLink RX9 124 "VatHouse" "tapeLength" "I") (by decide +kernel)) (fun _ h9 => h9) rfl dX9_append_41 ?_
  refine lv_iconst (v := 1) hx hb dX9_append_44 (by decide) ?_
  refine lv_iadd hx hb dX9_append_45 ?_
  refine lv_topi (fun z_21 ez_21 => ?_)
  obtain rfl : z_21 = 3 := ez_21.trans (by decide)
  refine va_put (D := (dC, dI)) (ci := 9) (v := .int 3) (ty := .int) (C := RX9) (T := TX9) (N := 11) hx hb hts inw_X9_append_9 tyX9 tyX9_ok nmX9 hown hK hP hD hS 0 rfl rfl 5 (by decide) (hts (.fieldLink RX9 124 "VatHouse" "tapeLength" "I") (by decide +kernel)) (fun _ h9 => h9) rfl (by decide +kernel) rfl rfl (Nat.le_of_ble_eq_true rfl) dX9_append_46 (fun H locs hP hD hS => ?_)
  have hP : va_P (dC, dI) vwCl [(h0, .inr (9, [.ref (ad 0), .ref (ad 8), .int 0, .int 0, .ref (ad 9), .int 3, .ref (ad 10), .ref (ad 15), .int 0, .ref (ad 16), .ref (ad 17)])), ((ad 9), .inl ((ca 9), 1500, .inl f_20))] _ := hP
  have hD : va_D _ [(h0, .inr (9, [.ref (ad 0), .ref (ad 8), .int 0, .int 0, .ref (ad 9), .int 3, .ref (ad 10), .ref (ad 15), .int 0, .ref (ad 16), .ref (ad 17)])), ((ad 9), .inl ((ca 9), 1500, .inl f_20))] := hD
  refine lv_iinc (v := 0) (lv' := [(2, .int 0), (0, .ref h0), (1, .int n)]) hx hb dX9_append_49 hl (k := 0) rfl (by decide) (by decide) rfl (fun ls hl => ?_)
  refine lv_goto (tgt := 3) hx hb dX9_append_52 (by decide) ?_
  refine lv_iload_n hx hb dX9_append_3 rfl (lv_at hl 0 rfl) ?_
  refine lv_if_lt (tgt := 55) hx hb dX9_append_4 (by decide) (fun c_22 => ?_) (fun c_22 => ?_)
  · exact absurd c_22 (by decide)
  refine lv_aload_n hx hb dX9_append_7 rfl (lv_at hl 1 rfl) ?_
  refine va_get (D := (dC, dI)) (ci := 9) (v := .int 3) (C := RX9) (T := TX9) (N := 11) hx hb hts inw_X9_append_9 hown hK hP 0 rfl rfl 5 (by decide) (hts (.fieldLink RX9 124 "VatHouse" "tapeLength" "I") (by decide +kernel)) (fun _ h9 => h9) rfl dX9_append_8 ?_
  refine lv_if_lt (tgt := 49) hx hb dX9_append_11 (by decide) (fun c_23 => ?_) (fun c_23 => ?_)
  · exact absurd c_23 (by decide)
  refine lv_aload_n hx hb dX9_append_14 rfl (lv_at hl 1 rfl) ?_
  refine va_get (D := (dC, dI)) (ci := 9) (v := .int 3) (C := RX9) (T := TX9) (N := 11) hx hb hts inw_X9_append_9 hown hK hP 0 rfl rfl 5 (by decide) (hts (.fieldLink RX9 124 "VatHouse" "tapeLength" "I") (by decide +kernel)) (fun _ h9 => h9) rfl dX9_append_15 ?_
  refine lv_aload_n hx hb dX9_append_18 rfl (lv_at hl 1 rfl) ?_
  refine va_get (D := (dC, dI)) (ci := 9) (v := .ref (ad 9)) (C := RX9) (T := TX9) (N := 11) hx hb hts inw_X9_append_9 hown hK hP 0 rfl rfl 4 (by decide) (hts (.fieldLink RX9 22 "VatHouse" "tape" "[B") (by decide +kernel)) (fun _ h9 => h9) rfl dX9_append_19 ?_
  refine va_alen hx hb hK hP 1 0 rfl rfl (v := 1500) rfl dX9_append_22 ?_
  refine lv_icmp_ge (tgt := 49) hx hb dX9_append_23 (by decide) (fun c_24 => ?_) (fun c_24 => ?_)
  · exact absurd c_24 (by decide)
  refine lv_aload_n hx hb dX9_append_26 rfl (lv_at hl 1 rfl) ?_
  refine va_get (D := (dC, dI)) (ci := 9) (v := .ref (ad 9)) (C := RX9) (T := TX9) (N := 11) hx hb hts inw_X9_append_9 hown hK hP 0 rfl rfl 4 (by decide) (hts (.fieldLink RX9 22 "VatHouse" "tape" "[B") (by decide +kernel)) (fun _ h9 => h9) rfl dX9_append_27 ?_
  refine lv_aload_n hx hb dX9_append_30 rfl (lv_at hl 1 rfl) ?_
  refine va_get (D := (dC, dI)) (ci := 9) (v := .int 3) (C := RX9) (T := TX9) (N := 11) hx hb hts inw_X9_append_9 hown hK hP 0 rfl rfl 5 (by decide) (hts (.fieldLink RX9 124 "VatHouse" "tapeLength" "I") (by decide +kernel)) (fun _ h9 => h9) rfl dX9_append_31 ?_
  refine lv_iload_n hx hb dX9_append_34 rfl (lv_at hl 2 rfl) ?_
  refine lv_iload_n hx hb dX9_append_35 rfl (lv_at hl 0 rfl) ?_
  refine lv_ishr hx hb dX9_append_36 ?_
  refine lv_topi (fun z_25 ez_25 => ?_)
  refine lv_i2b (v := (z_25).toInt8.toInt32) hx hb dX9_append_37 rfl ?_
  refine lv_topi (fun z_26 ez_26 => ?_)
  refine va_bast hx hb hK hP hD hS 1 0 rfl rfl (by unfold vp_in; decide) dX9_append_38 (fun H locs hP hD hS => ?_)
  have hP : va_P (dC, dI) vwCl [(h0, .inr (9, [.ref (ad 0), .ref (ad 8), .int 0, .int 0, .ref (ad 9), .int 3, .ref (ad 10), .ref (ad 15), .int 0, .ref (ad 16), .ref (ad 17)])), ((ad 9), .inl ((ca 9), 1500, .inl (upd f_20 (3 : Int32).toNatClampNeg (vp_nar .byte z_26))))] _ := hP
  have hD : va_D _ [(h0, .inr (9, [.ref (ad 0), .ref (ad 8), .int 0, .int 0, .ref (ad 9), .int 3, .ref (ad 10), .ref (ad 15), .int 0, .ref (ad 16), .ref (ad 17)])), ((ad 9), .inl ((ca 9), 1500, .inl (upd f_20 (3 : Int32).toNatClampNeg (vp_nar .byte z_26))))] := hD
  obtain ⟨f_27, ef_27⟩ : ∃ z, z = (upd f_20 (3 : Int32).toNatClampNeg (vp_nar .byte z_26)) := ⟨_, rfl⟩
  rw [← ef_27] at hP hD
  refine lv_aload_n hx hb dX9_append_39 rfl (lv_at hl 1 rfl) ?_
  refine lv_dup hx hb dX9_append_40 rfl ?_
  refine va_get (D := (dC, dI)) (ci := 9) (v := .int 3) (C := RX9) (T := TX9) (N := 11) hx hb hts inw_X9_append_9 hown hK hP 0 rfl rfl 5 (by decide) (hts (.fieldLink RX9 124 "VatHouse" "tapeLength" "I") (by decide +kernel)) (fun _ h9 => h9) rfl dX9_append_41 ?_
  refine lv_iconst (v := 1) hx hb dX9_append_44 (by decide) ?_
  refine lv_iadd hx hb dX9_append_45 ?_
  refine lv_topi (fun z_28 ez_28 => ?_)
  obtain rfl : z_28 = 4 := ez_28.trans (by decide)
  refine va_put (D := (dC, dI)) (ci := 9) (v := .int 4) (ty := .int) (C := RX9) (T := TX9) (N := 11) hx hb hts inw_X9_append_9 tyX9 tyX9_ok nmX9 hown hK hP hD hS 0 rfl rfl 5 (by decide) (hts (.fieldLink RX9 124 "VatHouse" "tapeLength" "I") (by decide +kernel)) (fun _ h9 => h9) rfl (by decide +kernel) rfl rfl (Nat.le_of_ble_eq_true rfl) dX9_append_46 (fun H locs hP hD hS => ?_)
  have hP : va_P (dC, dI) vwCl [(h0, .inr (9, [.ref (ad 0), .ref (ad 8), .int 0, .int 0, .ref (ad 9), .int 4, .ref (ad 10), .ref (ad 15), .int 0, .ref (ad 16), .ref (ad 17)])), ((ad 9), .inl ((ca 9), 1500, .inl f_27))] _ := hP
  have hD : va_D _ [(h0, .inr (9, [.ref (ad 0), .ref (ad 8), .int 0, .int 0, .ref (ad 9), .int 4, .ref (ad 10), .ref (ad 15), .int 0, .ref (ad 16), .ref (ad 17)])), ((ad 9), .inl ((ca 9), 1500, .inl f_27))] := hD
  refine lv_iinc (v := (-8)) (lv' := [(2, .int (-8)), (0, .ref h0), (1, .int n)]) hx hb dX9_append_49 hl (k := 0) rfl (by decide) (by decide) rfl (fun ls hl => ?_)
  refine lv_goto (tgt := 3) hx hb dX9_append_52 (by decide) ?_
  refine lv_iload_n hx hb dX9_append_3 rfl (lv_at hl 0 rfl) ?_
  refine lv_if_lt (tgt := 55) hx hb dX9_append_4 (by decide) (fun c_29 => ?_) (fun c_29 => ?_)
  rotate_left
  · exact absurd c_29 (by decide)
  exact en_v hx hb hr hlocks hP hD hK hS f_27 ⟨rfl, trivial⟩ [0, 1] [] rfl rfl rfl (Nat.le_of_ble_eq_true rfl) (Nat.le_of_ble_eq_true rfl) dX9_append_55

abbrev rm_X9_append_4 : Room := { frames := 0, cells := 0, slots := 0, locals := 0 }
set_option maxHeartbeats 800000 in
set_option maxRecDepth 100000 in
theorem c_X9_append_4 (l : Launch) (dC : Nat → ClassId) (dI : Nat → Nat → Nat) (sa : Nat → Nat) (hlt : l.stackTraces = false) (sz : Nat) (h0 : Nat) (ad : Nat → Nat) (ca : Nat → ClassId) (ft : Nat → Int32) (n : Int32) : CT l dC dI sa yX9_append wsX9_append rm_X9_append_4 [.ref h0, .int n] [(h0, .inr (9, [.ref (ad 0), .ref (ad 8), .int 0, .int 0, .ref (ad 9), .int 4, .ref (ad 10), .ref (ad 15), .int 0, .ref (ad 16), .ref (ad 17)])), ((ad 9), .inl ((ca 9), 1500, .inl ft))] [((ca 9), .byte)] sz (fun (r : Option Value) (g : (Nat → Int32)) => r = none ∧ (True)) (fun (g : (Nat → Int32)) => [(h0, .inr (9, [.ref (ad 0), .ref (ad 8), .int 0, .int 0, .ref (ad 9), .int 8, .ref (ad 10), .ref (ad 15), .int 0, .ref (ad 16), .ref (ad 17)])), ((ad 9), .inl ((ca 9), 1500, .inl g))]) (fun (g : (Nat → Int32)) => []) 0 0 := by
  refine CT.start (cc := cX9_append) (maxL := 3) (ret := none) (by decide) rfl (Nat.le_of_ble_eq_true rfl) ?_
  intro p e s m below meth c ls hst hP hK hD hev hS hl
  obtain ⟨hx, hb, hr, hml, hts, hown, hlocks, hin⟩ := hst
  have hown : s.vm.findClass RX9 = some m.cls := hown
  have hin : meth.name = yX9_append.name := hin
  have hA : ∀ q : Nat, s.heap.size ≤ q → va_A [(h0, .inr (9, [.ref (ad 0), .ref (ad 8), .int 0, .int 0, .ref (ad 9), .int 4, .ref (ad 10), .ref (ad 15), .int 0, .ref (ad 16), .ref (ad 17)])), ((ad 9), .inl ((ca 9), 1500, .inl ft))] s.heap.size q := fun _ h => Or.inr h
  have hl : lv_has ls 3 [(0, .ref h0), (1, .int n)] := hl
  refine lv_bipush (v := 24) hx hb dX9_append_0 (by decide) ?_
  refine lv_istore_n (lv' := [(2, .int 24), (0, .ref h0), (1, .int n)]) hx hb dX9_append_2 rfl hl (by decide) rfl (fun ls hl => ?_)
  refine lv_iload_n hx hb dX9_append_3 rfl (lv_at hl 0 rfl) ?_
  refine lv_if_lt (tgt := 55) hx hb dX9_append_4 (by decide) (fun c_1 => ?_) (fun c_1 => ?_)
  · exact absurd c_1 (by decide)
  refine lv_aload_n hx hb dX9_append_7 rfl (lv_at hl 1 rfl) ?_
  refine va_get (D := (dC, dI)) (ci := 9) (v := .int 4) (C := RX9) (T := TX9) (N := 11) hx hb hts inw_X9_append_9 hown hK hP 0 rfl rfl 5 (by decide) (hts (.fieldLink RX9 124 "VatHouse" "tapeLength" "I") (by decide +kernel)) (fun _ h9 => h9) rfl dX9_append_8 ?_
  refine lv_if_lt (tgt := 49) hx hb dX9_append_11 (by decide) (fun c_2 => ?_) (fun c_2 => ?_)
  · exact absurd c_2 (by decide)
  refine lv_aload_n hx hb dX9_append_14 rfl (lv_at hl 1 rfl) ?_
  refine va_get (D := (dC, dI)) (ci := 9) (v := .int 4) (C := RX9) (T := TX9) (N := 11) hx hb hts inw_X9_append_9 hown hK hP 0 rfl rfl 5 (by decide) (hts (.fieldLink RX9 124 "VatHouse" "tapeLength" "I") (by decide +kernel)) (fun _ h9 => h9) rfl dX9_append_15 ?_
  refine lv_aload_n hx hb dX9_append_18 rfl (lv_at hl 1 rfl) ?_
  refine va_get (D := (dC, dI)) (ci := 9) (v := .ref (ad 9)) (C := RX9) (T := TX9) (N := 11) hx hb hts inw_X9_append_9 hown hK hP 0 rfl rfl 4 (by decide) (hts (.fieldLink RX9 22 "VatHouse" "tape" "[B") (by decide +kernel)) (fun _ h9 => h9) rfl dX9_append_19 ?_
  refine va_alen hx hb hK hP 1 0 rfl rfl (v := 1500) rfl dX9_append_22 ?_
  refine lv_icmp_ge (tgt := 49) hx hb dX9_append_23 (by decide) (fun c_3 => ?_) (fun c_3 => ?_)
  · exact absurd c_3 (by decide)
  refine lv_aload_n hx hb dX9_append_26 rfl (lv_at hl 1 rfl) ?_
  refine va_get (D := (dC, dI)) (ci := 9) (v := .ref (ad 9)) (C := RX9) (T := TX9) (N := 11) hx hb hts inw_X9_append_9 hown hK hP 0 rfl rfl 4 (by decide) (hts (.fieldLink RX9 22 "VatHouse" "tape" "[B") (by decide +kernel)) (fun _ h9 => h9) rfl dX9_append_27 ?_
  refine lv_aload_n hx hb dX9_append_30 rfl (lv_at hl 1 rfl) ?_
  refine va_get (D := (dC, dI)) (ci := 9) (v := .int 4) (C := RX9) (T := TX9) (N := 11) hx hb hts inw_X9_append_9 hown hK hP 0 rfl rfl 5 (by decide) (hts (.fieldLink RX9 124 "VatHouse" "tapeLength" "I") (by decide +kernel)) (fun _ h9 => h9) rfl dX9_append_31 ?_
  refine lv_iload_n hx hb dX9_append_34 rfl (lv_at hl 2 rfl) ?_
  refine lv_iload_n hx hb dX9_append_35 rfl (lv_at hl 0 rfl) ?_
  refine lv_ishr hx hb dX9_append_36 ?_
  refine lv_topi (fun z_4 ez_4 => ?_)
  refine lv_i2b (v := (z_4).toInt8.toInt32) hx hb dX9_append_37 rfl ?_
  refine lv_topi (fun z_5 ez_5 => ?_)
  refine va_bast hx hb hK hP hD hS 1 0 rfl rfl (by unfold vp_in; decide) dX9_append_38 (fun H locs hP hD hS => ?_)
  have hP : va_P (dC, dI) vwCl [(h0, .inr (9, [.ref (ad 0), .ref (ad 8), .int 0, .int 0, .ref (ad 9), .int 4, .ref (ad 10), .ref (ad 15), .int 0, .ref (ad 16), .ref (ad 17)])), ((ad 9), .inl ((ca 9), 1500, .inl (upd ft (4 : Int32).toNatClampNeg (vp_nar .byte z_5))))] _ := hP
  have hD : va_D _ [(h0, .inr (9, [.ref (ad 0), .ref (ad 8), .int 0, .int 0, .ref (ad 9), .int 4, .ref (ad 10), .ref (ad 15), .int 0, .ref (ad 16), .ref (ad 17)])), ((ad 9), .inl ((ca 9), 1500, .inl (upd ft (4 : Int32).toNatClampNeg (vp_nar .byte z_5))))] := hD
  obtain ⟨f_6, ef_6⟩ : ∃ z, z = (upd ft (4 : Int32).toNatClampNeg (vp_nar .byte z_5)) := ⟨_, rfl⟩
  rw [← ef_6] at hP hD
  refine lv_aload_n hx hb dX9_append_39 rfl (lv_at hl 1 rfl) ?_
  refine lv_dup hx hb dX9_append_40 rfl ?_
  refine va_get (D := (dC, dI)) (ci := 9) (v := .int 4) (C := RX9) (T := TX9) (N := 11) hx hb hts inw_X9_append_9 hown hK hP 0 rfl rfl 5 (by decide) (hts (.fieldLink RX9 124 "VatHouse" "tapeLength" "I") (by decide +kernel)) (fun _ h9 => h9) rfl dX9_append_41 ?_
  refine lv_iconst (v := 1) hx hb dX9_append_44 (by decide) ?_
  refine lv_iadd hx hb dX9_append_45 ?_
  refine lv_topi (fun z_7 ez_7 => ?_)
  obtain rfl : z_7 = 5 := ez_7.trans (by decide)
  refine va_put (D := (dC, dI)) (ci := 9) (v := .int 5) (ty := .int) (C := RX9) (T := TX9) (N := 11) hx hb hts inw_X9_append_9 tyX9 tyX9_ok nmX9 hown hK hP hD hS 0 rfl rfl 5 (by decide) (hts (.fieldLink RX9 124 "VatHouse" "tapeLength" "I") (by decide +kernel)) (fun _ h9 => h9) rfl (by decide +kernel) rfl rfl (Nat.le_of_ble_eq_true rfl) dX9_append_46 (fun H locs hP hD hS => ?_)
  have hP : va_P (dC, dI) vwCl [(h0, .inr (9, [.ref (ad 0), .ref (ad 8), .int 0, .int 0, .ref (ad 9), .int 5, .ref (ad 10), .ref (ad 15), .int 0, .ref (ad 16), .ref (ad 17)])), ((ad 9), .inl ((ca 9), 1500, .inl f_6))] _ := hP
  have hD : va_D _ [(h0, .inr (9, [.ref (ad 0), .ref (ad 8), .int 0, .int 0, .ref (ad 9), .int 5, .ref (ad 10), .ref (ad 15), .int 0, .ref (ad 16), .ref (ad 17)])), ((ad 9), .inl ((ca 9), 1500, .inl f_6))] := hD
  refine lv_iinc (v := 16) (lv' := [(2, .int 16), (0, .ref h0), (1, .int n)]) hx hb dX9_append_49 hl (k := 0) rfl (by decide) (by decide) rfl (fun ls hl => ?_)
  refine lv_goto (tgt := 3) hx hb dX9_append_52 (by decide) ?_
  refine lv_iload_n hx hb dX9_append_3 rfl (lv_at hl 0 rfl) ?_
  refine lv_if_lt (tgt := 55) hx hb dX9_append_4 (by decide) (fun c_8 => ?_) (fun c_8 => ?_)
  · exact absurd c_8 (by decide)
  refine lv_aload_n hx hb dX9_append_7 rfl (lv_at hl 1 rfl) ?_
  refine va_get (D := (dC, dI)) (ci := 9) (v := .int 5) (C := RX9) (T := TX9) (N := 11) hx hb hts inw_X9_append_9 hown hK hP 0 rfl rfl 5 (by decide) (hts (.fieldLink RX9 124 "VatHouse" "tapeLength" "I") (by decide +kernel)) (fun _ h9 => h9) rfl dX9_append_8 ?_
  refine lv_if_lt (tgt := 49) hx hb dX9_append_11 (by decide) (fun c_9 => ?_) (fun c_9 => ?_)
  · exact absurd c_9 (by decide)
  refine lv_aload_n hx hb dX9_append_14 rfl (lv_at hl 1 rfl) ?_
  refine va_get (D := (dC, dI)) (ci := 9) (v := .int 5) (C := RX9) (T := TX9) (N := 11) hx hb hts inw_X9_append_9 hown hK hP 0 rfl rfl 5 (by decide) (hts (.fieldLink RX9 124 "VatHouse" "tapeLength" "I") (by decide +kernel)) (fun _ h9 => h9) rfl dX9_append_15 ?_
  refine lv_aload_n hx hb dX9_append_18 rfl (lv_at hl 1 rfl) ?_
  refine va_get (D := (dC, dI)) (ci := 9) (v := .ref (ad 9)) (C := RX9) (T := TX9) (N := 11) hx hb hts inw_X9_append_9 hown hK hP 0 rfl rfl 4 (by decide) (hts (.fieldLink RX9 22 "VatHouse" "tape" "[B") (by decide +kernel)) (fun _ h9 => h9) rfl dX9_append_19 ?_
  refine va_alen hx hb hK hP 1 0 rfl rfl (v := 1500) rfl dX9_append_22 ?_
  refine lv_icmp_ge (tgt := 49) hx hb dX9_append_23 (by decide) (fun c_10 => ?_) (fun c_10 => ?_)
  · exact absurd c_10 (by decide)
  refine lv_aload_n hx hb dX9_append_26 rfl (lv_at hl 1 rfl) ?_
  refine va_get (D := (dC, dI)) (ci := 9) (v := .ref (ad 9)) (C := RX9) (T := TX9) (N := 11) hx hb hts inw_X9_append_9 hown hK hP 0 rfl rfl 4 (by decide) (hts (.fieldLink RX9 22 "VatHouse" "tape" "[B") (by decide +kernel)) (fun _ h9 => h9) rfl dX9_append_27 ?_
  refine lv_aload_n hx hb dX9_append_30 rfl (lv_at hl 1 rfl) ?_
  refine va_get (D := (dC, dI)) (ci := 9) (v := .int 5) (C := RX9) (T := TX9) (N := 11) hx hb hts inw_X9_append_9 hown hK hP 0 rfl rfl 5 (by decide) (hts (.fieldLink RX9 124 "VatHouse" "tapeLength" "I") (by decide +kernel)) (fun _ h9 => h9) rfl dX9_append_31 ?_
  refine lv_iload_n hx hb dX9_append_34 rfl (lv_at hl 2 rfl) ?_
  refine lv_iload_n hx hb dX9_append_35 rfl (lv_at hl 0 rfl) ?_
  refine lv_ishr hx hb dX9_append_36 ?_
  refine lv_topi (fun z_11 ez_11 => ?_)
  refine lv_i2b (v := (z_11).toInt8.toInt32) hx hb dX9_append_37 rfl ?_
  refine lv_topi (fun z_12 ez_12 => ?_)
  refine va_bast hx hb hK hP hD hS 1 0 rfl rfl (by unfold vp_in; decide) dX9_append_38 (fun H locs hP hD hS => ?_)
  have hP : va_P (dC, dI) vwCl [(h0, .inr (9, [.ref (ad 0), .ref (ad 8), .int 0, .int 0, .ref (ad 9), .int 5, .ref (ad 10), .ref (ad 15), .int 0, .ref (ad 16), .ref (ad 17)])), ((ad 9), .inl ((ca 9), 1500, .inl (upd f_6 (5 : Int32).toNatClampNeg (vp_nar .byte z_12))))] _ := hP
  have hD : va_D _ [(h0, .inr (9, [.ref (ad 0), .ref (ad 8), .int 0, .int 0, .ref (ad 9), .int 5, .ref (ad 10), .ref (ad 15), .int 0, .ref (ad 16), .ref (ad 17)])), ((ad 9), .inl ((ca 9), 1500, .inl (upd f_6 (5 : Int32).toNatClampNeg (vp_nar .byte z_12))))] := hD
  obtain ⟨f_13, ef_13⟩ : ∃ z, z = (upd f_6 (5 : Int32).toNatClampNeg (vp_nar .byte z_12)) := ⟨_, rfl⟩
  rw [← ef_13] at hP hD
  refine lv_aload_n hx hb dX9_append_39 rfl (lv_at hl 1 rfl) ?_
  refine lv_dup hx hb dX9_append_40 rfl ?_
  refine va_get (D := (dC, dI)) (ci := 9) (v := .int 5) (C := RX9) (T := TX9) (N := 11) hx hb hts inw_X9_append_9 hown hK hP 0 rfl rfl 5 (by decide) (hts (.fieldLink RX9 124 "VatHouse" "tapeLength" "I") (by decide +kernel)) (fun _ h9 => h9) rfl dX9_append_41 ?_
  refine lv_iconst (v := 1) hx hb dX9_append_44 (by decide) ?_
  refine lv_iadd hx hb dX9_append_45 ?_
  refine lv_topi (fun z_14 ez_14 => ?_)
  obtain rfl : z_14 = 6 := ez_14.trans (by decide)
  refine va_put (D := (dC, dI)) (ci := 9) (v := .int 6) (ty := .int) (C := RX9) (T := TX9) (N := 11) hx hb hts inw_X9_append_9 tyX9 tyX9_ok nmX9 hown hK hP hD hS 0 rfl rfl 5 (by decide) (hts (.fieldLink RX9 124 "VatHouse" "tapeLength" "I") (by decide +kernel)) (fun _ h9 => h9) rfl (by decide +kernel) rfl rfl (Nat.le_of_ble_eq_true rfl) dX9_append_46 (fun H locs hP hD hS => ?_)
  have hP : va_P (dC, dI) vwCl [(h0, .inr (9, [.ref (ad 0), .ref (ad 8), .int 0, .int 0, .ref (ad 9), .int 6, .ref (ad 10), .ref (ad 15), .int 0, .ref (ad 16), .ref (ad 17)])), ((ad 9), .inl ((ca 9), 1500, .inl f_13))] _ := hP
  have hD : va_D _ [(h0, .inr (9, [.ref (ad 0), .ref (ad 8), .int 0, .int 0, .ref (ad 9), .int 6, .ref (ad 10), .ref (ad 15), .int 0, .ref (ad 16), .ref (ad 17)])), ((ad 9), .inl ((ca 9), 1500, .inl f_13))] := hD
  refine lv_iinc (v := 8) (lv' := [(2, .int 8), (0, .ref h0), (1, .int n)]) hx hb dX9_append_49 hl (k := 0) rfl (by decide) (by decide) rfl (fun ls hl => ?_)
  refine lv_goto (tgt := 3) hx hb dX9_append_52 (by decide) ?_
  refine lv_iload_n hx hb dX9_append_3 rfl (lv_at hl 0 rfl) ?_
  refine lv_if_lt (tgt := 55) hx hb dX9_append_4 (by decide) (fun c_15 => ?_) (fun c_15 => ?_)
  · exact absurd c_15 (by decide)
  refine lv_aload_n hx hb dX9_append_7 rfl (lv_at hl 1 rfl) ?_
  refine va_get (D := (dC, dI)) (ci := 9) (v := .int 6) (C := RX9) (T := TX9) (N := 11) hx hb hts inw_X9_append_9 hown hK hP 0 rfl rfl 5 (by decide) (hts (.fieldLink RX9 124 "VatHouse" "tapeLength" "I") (by decide +kernel)) (fun _ h9 => h9) rfl dX9_append_8 ?_
  refine lv_if_lt (tgt := 49) hx hb dX9_append_11 (by decide) (fun c_16 => ?_) (fun c_16 => ?_)
  · exact absurd c_16 (by decide)
  refine lv_aload_n hx hb dX9_append_14 rfl (lv_at hl 1 rfl) ?_
  refine va_get (D := (dC, dI)) (ci := 9) (v := .int 6) (C := RX9) (T := TX9) (N := 11) hx hb hts inw_X9_append_9 hown hK hP 0 rfl rfl 5 (by decide) (hts (.fieldLink RX9 124 "VatHouse" "tapeLength" "I") (by decide +kernel)) (fun _ h9 => h9) rfl dX9_append_15 ?_
  refine lv_aload_n hx hb dX9_append_18 rfl (lv_at hl 1 rfl) ?_
  refine va_get (D := (dC, dI)) (ci := 9) (v := .ref (ad 9)) (C := RX9) (T := TX9) (N := 11) hx hb hts inw_X9_append_9 hown hK hP 0 rfl rfl 4 (by decide) (hts (.fieldLink RX9 22 "VatHouse" "tape" "[B") (by decide +kernel)) (fun _ h9 => h9) rfl dX9_append_19 ?_
  refine va_alen hx hb hK hP 1 0 rfl rfl (v := 1500) rfl dX9_append_22 ?_
  refine lv_icmp_ge (tgt := 49) hx hb dX9_append_23 (by decide) (fun c_17 => ?_) (fun c_17 => ?_)
  · exact absurd c_17 (by decide)
  refine lv_aload_n hx hb dX9_append_26 rfl (lv_at hl 1 rfl) ?_
  refine va_get (D := (dC, dI)) (ci := 9) (v := .ref (ad 9)) (C := RX9) (T := TX9) (N := 11) hx hb hts inw_X9_append_9 hown hK hP 0 rfl rfl 4 (by decide) (hts (.fieldLink RX9 22 "VatHouse" "tape" "[B") (by decide +kernel)) (fun _ h9 => h9) rfl dX9_append_27 ?_
  refine lv_aload_n hx hb dX9_append_30 rfl (lv_at hl 1 rfl) ?_
  refine va_get (D := (dC, dI)) (ci := 9) (v := .int 6) (C := RX9) (T := TX9) (N := 11) hx hb hts inw_X9_append_9 hown hK hP 0 rfl rfl 5 (by decide) (hts (.fieldLink RX9 124 "VatHouse" "tapeLength" "I") (by decide +kernel)) (fun _ h9 => h9) rfl dX9_append_31 ?_
  refine lv_iload_n hx hb dX9_append_34 rfl (lv_at hl 2 rfl) ?_
  refine lv_iload_n hx hb dX9_append_35 rfl (lv_at hl 0 rfl) ?_
  refine lv_ishr hx hb dX9_append_36 ?_
  refine lv_topi (fun z_18 ez_18 => ?_)
  refine lv_i2b (v := (z_18).toInt8.toInt32) hx hb dX9_append_37 rfl ?_
  refine lv_topi (fun z_19 ez_19 => ?_)
  refine va_bast hx hb hK hP hD hS 1 0 rfl rfl (by unfold vp_in; decide) dX9_append_38 (fun H locs hP hD hS => ?_)
  have hP : va_P (dC, dI) vwCl [(h0, .inr (9, [.ref (ad 0), .ref (ad 8), .int 0, .int 0, .ref (ad 9), .int 6, .ref (ad 10), .ref (ad 15), .int 0, .ref (ad 16), .ref (ad 17)])), ((ad 9), .inl ((ca 9), 1500, .inl (upd f_13 (6 : Int32).toNatClampNeg (vp_nar .byte z_19))))] _ := hP
  have hD : va_D _ [(h0, .inr (9, [.ref (ad 0), .ref (ad 8), .int 0, .int 0, .ref (ad 9), .int 6, .ref (ad 10), .ref (ad 15), .int 0, .ref (ad 16), .ref (ad 17)])), ((ad 9), .inl ((ca 9), 1500, .inl (upd f_13 (6 : Int32).toNatClampNeg (vp_nar .byte z_19))))] := hD
  obtain ⟨f_20, ef_20⟩ : ∃ z, z = (upd f_13 (6 : Int32).toNatClampNeg (vp_nar .byte z_19)) := ⟨_, rfl⟩
  rw [← ef_20] at hP hD
  refine lv_aload_n hx hb dX9_append_39 rfl (lv_at hl 1 rfl) ?_
  refine lv_dup hx hb dX9_append_40 rfl ?_
  refine va_get (D := (dC, dI)) (ci := 9) (v := .int 6) (C := RX9) (T := TX9) (N := 11) hx hb hts inw_X9_append_9 hown hK hP 0 rfl rfl 5 (by decide) (hts (.fieldLink RX9 124 "VatHouse" "tapeLength" "I") (by decide +kernel)) (fun _ h9 => h9) rfl dX9_append_41 ?_
  refine lv_iconst (v := 1) hx hb dX9_append_44 (by decide) ?_
  refine lv_iadd hx hb dX9_append_45 ?_
  refine lv_topi (fun z_21 ez_21 => ?_)
  obtain rfl : z_21 = 7 := ez_21.trans (by decide)
  refine va_put (D := (dC, dI)) (ci := 9) (v := .int 7) (ty := .int) (C := RX9) (T := TX9) (N := 11) hx hb hts inw_X9_append_9 tyX9 tyX9_ok nmX9 hown hK hP hD hS 0 rfl rfl 5 (by decide) (hts (.fieldLink RX9 124 "VatHouse" "tapeLength" "I") (by decide +kernel)) (fun _ h9 => h9) rfl (by decide +kernel) rfl rfl (Nat.le_of_ble_eq_true rfl) dX9_append_46 (fun H locs hP hD hS => ?_)
  have hP : va_P (dC, dI) vwCl [(h0, .inr (9, [.ref (ad 0), .ref (ad 8), .int 0, .int 0, .ref (ad 9), .int 7, .ref (ad 10), .ref (ad 15), .int 0, .ref (ad 16), .ref (ad 17)])), ((ad 9), .inl ((ca 9), 1500, .inl f_20))] _ := hP
  have hD : va_D _ [(h0, .inr (9, [.ref (ad 0), .ref (ad 8), .int 0, .int 0, .ref (ad 9), .int 7, .ref (ad 10), .ref (ad 15), .int 0, .ref (ad 16), .ref (ad 17)])), ((ad 9), .inl ((ca 9), 1500, .inl f_20))] := hD
  refine lv_iinc (v := 0) (lv' := [(2, .int 0), (0, .ref h0), (1, .int n)]) hx hb dX9_append_49 hl (k := 0) rfl (by decide) (by decide) rfl (fun ls hl => ?_)
  refine lv_goto (tgt := 3) hx hb dX9_append_52 (by decide) ?_
  refine lv_iload_n hx hb dX9_append_3 rfl (lv_at hl 0 rfl) ?_
  refine lv_if_lt (tgt := 55) hx hb dX9_append_4 (by decide) (fun c_22 => ?_) (fun c_22 => ?_)
  · exact absurd c_22 (by decide)
  refine lv_aload_n hx hb dX9_append_7 rfl (lv_at hl 1 rfl) ?_
  refine va_get (D := (dC, dI)) (ci := 9) (v := .int 7) (C := RX9) (T := TX9) (N := 11) hx hb hts inw_X9_append_9 hown hK hP 0 rfl rfl 5 (by decide) (hts (.fieldLink RX9 124 "VatHouse" "tapeLength" "I") (by decide +kernel)) (fun _ h9 => h9) rfl dX9_append_8 ?_
  refine lv_if_lt (tgt := 49) hx hb dX9_append_11 (by decide) (fun c_23 => ?_) (fun c_23 => ?_)
  · exact absurd c_23 (by decide)
  refine lv_aload_n hx hb dX9_append_14 rfl (lv_at hl 1 rfl) ?_
  refine va_get (D := (dC, dI)) (ci := 9) (v := .int 7) (C := RX9) (T := TX9) (N := 11) hx hb hts inw_X9_append_9 hown hK hP 0 rfl rfl 5 (by decide) (hts (.fieldLink RX9 124 "VatHouse" "tapeLength" "I") (by decide +kernel)) (fun _ h9 => h9) rfl dX9_append_15 ?_
  refine lv_aload_n hx hb dX9_append_18 rfl (lv_at hl 1 rfl) ?_
  refine va_get (D := (dC, dI)) (ci := 9) (v := .ref (ad 9)) (C := RX9) (T := TX9) (N := 11) hx hb hts inw_X9_append_9 hown hK hP 0 rfl rfl 4 (by decide) (hts (.fieldLink RX9 22 "VatHouse" "tape" "[B") (by decide +kernel)) (fun _ h9 => h9) rfl dX9_append_19 ?_
  refine va_alen hx hb hK hP 1 0 rfl rfl (v := 1500) rfl dX9_append_22 ?_
  refine lv_icmp_ge (tgt := 49) hx hb dX9_append_23 (by decide) (fun c_24 => ?_) (fun c_24 => ?_)
  · exact absurd c_24 (by decide)
  refine lv_aload_n hx hb dX9_append_26 rfl (lv_at hl 1 rfl) ?_
  refine va_get (D := (dC, dI)) (ci := 9) (v := .ref (ad 9)) (C := RX9) (T := TX9) (N := 11) hx hb hts inw_X9_append_9 hown hK hP 0 rfl rfl 4 (by decide) (hts (.fieldLink RX9 22 "VatHouse" "tape" "[B") (by decide +kernel)) (fun _ h9 => h9) rfl dX9_append_27 ?_
  refine lv_aload_n hx hb dX9_append_30 rfl (lv_at hl 1 rfl) ?_
  refine va_get (D := (dC, dI)) (ci := 9) (v := .int 7) (C := RX9) (T := TX9) (N := 11) hx hb hts inw_X9_append_9 hown hK hP 0 rfl rfl 5 (by decide) (hts (.fieldLink RX9 124 "VatHouse" "tapeLength" "I") (by decide +kernel)) (fun _ h9 => h9) rfl dX9_append_31 ?_
  refine lv_iload_n hx hb dX9_append_34 rfl (lv_at hl 2 rfl) ?_
  refine lv_iload_n hx hb dX9_append_35 rfl (lv_at hl 0 rfl) ?_
  refine lv_ishr hx hb dX9_append_36 ?_
  refine lv_topi (fun z_25 ez_25 => ?_)
  refine lv_i2b (v := (z_25).toInt8.toInt32) hx hb dX9_append_37 rfl ?_
  refine lv_topi (fun z_26 ez_26 => ?_)
  refine va_bast hx hb hK hP hD hS 1 0 rfl rfl (by unfold vp_in; decide) dX9_append_38 (fun H locs hP hD hS => ?_)
  have hP : va_P (dC, dI) vwCl [(h0, .inr (9, [.ref (ad 0), .ref (ad 8), .int 0, .int 0, .ref (ad 9), .int 7, .ref (ad 10), .ref (ad 15), .int 0, .ref (ad 16), .ref (ad 17)])), ((ad 9), .inl ((ca 9), 1500, .inl (upd f_20 (7 : Int32).toNatClampNeg (vp_nar .byte z_26))))] _ := hP
  have hD : va_D _ [(h0, .inr (9, [.ref (ad 0), .ref (ad 8), .int 0, .int 0, .ref (ad 9), .int 7, .ref (ad 10), .ref (ad 15), .int 0, .ref (ad 16), .ref (ad 17)])), ((ad 9), .inl ((ca 9), 1500, .inl (upd f_20 (7 : Int32).toNatClampNeg (vp_nar .byte z_26))))] := hD
  obtain ⟨f_27, ef_27⟩ : ∃ z, z = (upd f_20 (7 : Int32).toNatClampNeg (vp_nar .byte z_26)) := ⟨_, rfl⟩
  rw [← ef_27] at hP hD
  refine lv_aload_n hx hb dX9_append_39 rfl (lv_at hl 1 rfl) ?_
  refine lv_dup hx hb dX9_append_40 rfl ?_
  refine va_get (D := (dC, dI)) (ci := 9) (v := .int 7) (C := RX9) (T := TX9) (N := 11) hx hb hts inw_X9_append_9 hown hK hP 0 rfl rfl 5 (by decide) (hts (.fieldLink RX9 124 "VatHouse" "tapeLength" "I") (by decide +kernel)) (fun _ h9 => h9) rfl dX9_append_41 ?_
  refine lv_iconst (v := 1) hx hb dX9_append_44 (by decide) ?_
  refine lv_iadd hx hb dX9_append_45 ?_
  refine lv_topi (fun z_28 ez_28 => ?_)
  obtain rfl : z_28 = 8 := ez_28.trans (by decide)
  refine va_put (D := (dC, dI)) (ci := 9) (v := .int 8) (ty := .int) (C := RX9) (T := TX9) (N := 11) hx hb hts inw_X9_append_9 tyX9 tyX9_ok nmX9 hown hK hP hD hS 0 rfl rfl 5 (by decide) (hts (.fieldLink RX9 124 "VatHouse" "tapeLength" "I") (by decide +kernel)) (fun _ h9 => h9) rfl (by decide +kernel) rfl rfl (Nat.le_of_ble_eq_true rfl) dX9_append_46 (fun H locs hP hD hS => ?_)
  have hP : va_P (dC, dI) vwCl [(h0, .inr (9, [.ref (ad 0), .ref (ad 8), .int 0, .int 0, .ref (ad 9), .int 8, .ref (ad 10), .ref (ad 15), .int 0, .ref (ad 16), .ref (ad 17)])), ((ad 9), .inl ((ca 9), 1500, .inl f_27))] _ := hP
  have hD : va_D _ [(h0, .inr (9, [.ref (ad 0), .ref (ad 8), .int 0, .int 0, .ref (ad 9), .int 8, .ref (ad 10), .ref (ad 15), .int 0, .ref (ad 16), .ref (ad 17)])), ((ad 9), .inl ((ca 9), 1500, .inl f_27))] := hD
  refine lv_iinc (v := (-8)) (lv' := [(2, .int (-8)), (0, .ref h0), (1, .int n)]) hx hb dX9_append_49 hl (k := 0) rfl (by decide) (by decide) rfl (fun ls hl => ?_)
  refine lv_goto (tgt := 3) hx hb dX9_append_52 (by decide) ?_
  refine lv_iload_n hx hb dX9_append_3 rfl (lv_at hl 0 rfl) ?_
  refine lv_if_lt (tgt := 55) hx hb dX9_append_4 (by decide) (fun c_29 => ?_) (fun c_29 => ?_)
  rotate_left
  · exact absurd c_29 (by decide)
  exact en_v hx hb hr hlocks hP hD hK hS f_27 ⟨rfl, trivial⟩ [0, 1] [] rfl rfl rfl (Nat.le_of_ble_eq_true rfl) (Nat.le_of_ble_eq_true rfl) dX9_append_55

abbrev rm_X9_append_8 : Room := { frames := 0, cells := 0, slots := 0, locals := 0 }
set_option maxHeartbeats 800000 in
set_option maxRecDepth 100000 in
theorem c_X9_append_8 (l : Launch) (dC : Nat → ClassId) (dI : Nat → Nat → Nat) (sa : Nat → Nat) (hlt : l.stackTraces = false) (sz : Nat) (h0 : Nat) (ad : Nat → Nat) (ca : Nat → ClassId) (ft : Nat → Int32) (n : Int32) : CT l dC dI sa yX9_append wsX9_append rm_X9_append_8 [.ref h0, .int n] [(h0, .inr (9, [.ref (ad 0), .ref (ad 8), .int 0, .int 0, .ref (ad 9), .int 8, .ref (ad 10), .ref (ad 15), .int 0, .ref (ad 16), .ref (ad 17)])), ((ad 9), .inl ((ca 9), 1500, .inl ft))] [((ca 9), .byte)] sz (fun (r : Option Value) (g : (Nat → Int32)) => r = none ∧ (True)) (fun (g : (Nat → Int32)) => [(h0, .inr (9, [.ref (ad 0), .ref (ad 8), .int 0, .int 0, .ref (ad 9), .int 12, .ref (ad 10), .ref (ad 15), .int 0, .ref (ad 16), .ref (ad 17)])), ((ad 9), .inl ((ca 9), 1500, .inl g))]) (fun (g : (Nat → Int32)) => []) 0 0 := by
  refine CT.start (cc := cX9_append) (maxL := 3) (ret := none) (by decide) rfl (Nat.le_of_ble_eq_true rfl) ?_
  intro p e s m below meth c ls hst hP hK hD hev hS hl
  obtain ⟨hx, hb, hr, hml, hts, hown, hlocks, hin⟩ := hst
  have hown : s.vm.findClass RX9 = some m.cls := hown
  have hin : meth.name = yX9_append.name := hin
  have hA : ∀ q : Nat, s.heap.size ≤ q → va_A [(h0, .inr (9, [.ref (ad 0), .ref (ad 8), .int 0, .int 0, .ref (ad 9), .int 8, .ref (ad 10), .ref (ad 15), .int 0, .ref (ad 16), .ref (ad 17)])), ((ad 9), .inl ((ca 9), 1500, .inl ft))] s.heap.size q := fun _ h => Or.inr h
  have hl : lv_has ls 3 [(0, .ref h0), (1, .int n)] := hl
  refine lv_bipush (v := 24) hx hb dX9_append_0 (by decide) ?_
  refine lv_istore_n (lv' := [(2, .int 24), (0, .ref h0), (1, .int n)]) hx hb dX9_append_2 rfl hl (by decide) rfl (fun ls hl => ?_)
  refine lv_iload_n hx hb dX9_append_3 rfl (lv_at hl 0 rfl) ?_
  refine lv_if_lt (tgt := 55) hx hb dX9_append_4 (by decide) (fun c_1 => ?_) (fun c_1 => ?_)
  · exact absurd c_1 (by decide)
  refine lv_aload_n hx hb dX9_append_7 rfl (lv_at hl 1 rfl) ?_
  refine va_get (D := (dC, dI)) (ci := 9) (v := .int 8) (C := RX9) (T := TX9) (N := 11) hx hb hts inw_X9_append_9 hown hK hP 0 rfl rfl 5 (by decide) (hts (.fieldLink RX9 124 "VatHouse" "tapeLength" "I") (by decide +kernel)) (fun _ h9 => h9) rfl dX9_append_8 ?_
  refine lv_if_lt (tgt := 49) hx hb dX9_append_11 (by decide) (fun c_2 => ?_) (fun c_2 => ?_)
  · exact absurd c_2 (by decide)
  refine lv_aload_n hx hb dX9_append_14 rfl (lv_at hl 1 rfl) ?_
  refine va_get (D := (dC, dI)) (ci := 9) (v := .int 8) (C := RX9) (T := TX9) (N := 11) hx hb hts inw_X9_append_9 hown hK hP 0 rfl rfl 5 (by decide) (hts (.fieldLink RX9 124 "VatHouse" "tapeLength" "I") (by decide +kernel)) (fun _ h9 => h9) rfl dX9_append_15 ?_
  refine lv_aload_n hx hb dX9_append_18 rfl (lv_at hl 1 rfl) ?_
  refine va_get (D := (dC, dI)) (ci := 9) (v := .ref (ad 9)) (C := RX9) (T := TX9) (N := 11) hx hb hts inw_X9_append_9 hown hK hP 0 rfl rfl 4 (by decide) (hts (.fieldLink RX9 22 "VatHouse" "tape" "[B") (by decide +kernel)) (fun _ h9 => h9) rfl dX9_append_19 ?_
  refine va_alen hx hb hK hP 1 0 rfl rfl (v := 1500) rfl dX9_append_22 ?_
  refine lv_icmp_ge (tgt := 49) hx hb dX9_append_23 (by decide) (fun c_3 => ?_) (fun c_3 => ?_)
  · exact absurd c_3 (by decide)
  refine lv_aload_n hx hb dX9_append_26 rfl (lv_at hl 1 rfl) ?_
  refine va_get (D := (dC, dI)) (ci := 9) (v := .ref (ad 9)) (C := RX9) (T := TX9) (N := 11) hx hb hts inw_X9_append_9 hown hK hP 0 rfl rfl 4 (by decide) (hts (.fieldLink RX9 22 "VatHouse" "tape" "[B") (by decide +kernel)) (fun _ h9 => h9) rfl dX9_append_27 ?_
  refine lv_aload_n hx hb dX9_append_30 rfl (lv_at hl 1 rfl) ?_
  refine va_get (D := (dC, dI)) (ci := 9) (v := .int 8) (C := RX9) (T := TX9) (N := 11) hx hb hts inw_X9_append_9 hown hK hP 0 rfl rfl 5 (by decide) (hts (.fieldLink RX9 124 "VatHouse" "tapeLength" "I") (by decide +kernel)) (fun _ h9 => h9) rfl dX9_append_31 ?_
  refine lv_iload_n hx hb dX9_append_34 rfl (lv_at hl 2 rfl) ?_
  refine lv_iload_n hx hb dX9_append_35 rfl (lv_at hl 0 rfl) ?_
  refine lv_ishr hx hb dX9_append_36 ?_
  refine lv_topi (fun z_4 ez_4 => ?_)
  refine lv_i2b (v := (z_4).toInt8.toInt32) hx hb dX9_append_37 rfl ?_
  refine lv_topi (fun z_5 ez_5 => ?_)
  refine va_bast hx hb hK hP hD hS 1 0 rfl rfl (by unfold vp_in; decide) dX9_append_38 (fun H locs hP hD hS => ?_)
  have hP : va_P (dC, dI) vwCl [(h0, .inr (9, [.ref (ad 0), .ref (ad 8), .int 0, .int 0, .ref (ad 9), .int 8, .ref (ad 10), .ref (ad 15), .int 0, .ref (ad 16), .ref (ad 17)])), ((ad 9), .inl ((ca 9), 1500, .inl (upd ft (8 : Int32).toNatClampNeg (vp_nar .byte z_5))))] _ := hP
  have hD : va_D _ [(h0, .inr (9, [.ref (ad 0), .ref (ad 8), .int 0, .int 0, .ref (ad 9), .int 8, .ref (ad 10), .ref (ad 15), .int 0, .ref (ad 16), .ref (ad 17)])), ((ad 9), .inl ((ca 9), 1500, .inl (upd ft (8 : Int32).toNatClampNeg (vp_nar .byte z_5))))] := hD
  obtain ⟨f_6, ef_6⟩ : ∃ z, z = (upd ft (8 : Int32).toNatClampNeg (vp_nar .byte z_5)) := ⟨_, rfl⟩
  rw [← ef_6] at hP hD
  refine lv_aload_n hx hb dX9_append_39 rfl (lv_at hl 1 rfl) ?_
  refine lv_dup hx hb dX9_append_40 rfl ?_
  refine va_get (D := (dC, dI)) (ci := 9) (v := .int 8) (C := RX9) (T := TX9) (N := 11) hx hb hts inw_X9_append_9 hown hK hP 0 rfl rfl 5 (by decide) (hts (.fieldLink RX9 124 "VatHouse" "tapeLength" "I") (by decide +kernel)) (fun _ h9 => h9) rfl dX9_append_41 ?_
  refine lv_iconst (v := 1) hx hb dX9_append_44 (by decide) ?_
  refine lv_iadd hx hb dX9_append_45 ?_
  refine lv_topi (fun z_7 ez_7 => ?_)
  obtain rfl : z_7 = 9 := ez_7.trans (by decide)
  refine va_put (D := (dC, dI)) (ci := 9) (v := .int 9) (ty := .int) (C := RX9) (T := TX9) (N := 11) hx hb hts inw_X9_append_9 tyX9 tyX9_ok nmX9 hown hK hP hD hS 0 rfl rfl 5 (by decide) (hts (.fieldLink RX9 124 "VatHouse" "tapeLength" "I") (by decide +kernel)) (fun _ h9 => h9) rfl (by decide +kernel) rfl rfl (Nat.le_of_ble_eq_true rfl) dX9_append_46 (fun H locs hP hD hS => ?_)
  have hP : va_P (dC, dI) vwCl [(h0, .inr (9, [.ref (ad 0), .ref (ad 8), .int 0, .int 0, .ref (ad 9), .int 9, .ref (ad 10), .ref (ad 15), .int 0, .ref (ad 16), .ref (ad 17)])), ((ad 9), .inl ((ca 9), 1500, .inl f_6))] _ := hP
  have hD : va_D _ [(h0, .inr (9, [.ref (ad 0), .ref (ad 8), .int 0, .int 0, .ref (ad 9), .int 9, .ref (ad 10), .ref (ad 15), .int 0, .ref (ad 16), .ref (ad 17)])), ((ad 9), .inl ((ca 9), 1500, .inl f_6))] := hD
  refine lv_iinc (v := 16) (lv' := [(2, .int 16), (0, .ref h0), (1, .int n)]) hx hb dX9_append_49 hl (k := 0) rfl (by decide) (by decide) rfl (fun ls hl => ?_)
  refine lv_goto (tgt := 3) hx hb dX9_append_52 (by decide) ?_
  refine lv_iload_n hx hb dX9_append_3 rfl (lv_at hl 0 rfl) ?_
  refine lv_if_lt (tgt := 55) hx hb dX9_append_4 (by decide) (fun c_8 => ?_) (fun c_8 => ?_)
  · exact absurd c_8 (by decide)
  refine lv_aload_n hx hb dX9_append_7 rfl (lv_at hl 1 rfl) ?_
  refine va_get (D := (dC, dI)) (ci := 9) (v := .int 9) (C := RX9) (T := TX9) (N := 11) hx hb hts inw_X9_append_9 hown hK hP 0 rfl rfl 5 (by decide) (hts (.fieldLink RX9 124 "VatHouse" "tapeLength" "I") (by decide +kernel)) (fun _ h9 => h9) rfl dX9_append_8 ?_
  refine lv_if_lt (tgt := 49) hx hb dX9_append_11 (by decide) (fun c_9 => ?_) (fun c_9 => ?_)
  · exact absurd c_9 (by decide)
  refine lv_aload_n hx hb dX9_append_14 rfl (lv_at hl 1 rfl) ?_
  refine va_get (D := (dC, dI)) (ci := 9) (v := .int 9) (C := RX9) (T := TX9) (N := 11) hx hb hts inw_X9_append_9 hown hK hP 0 rfl rfl 5 (by decide) (hts (.fieldLink RX9 124 "VatHouse" "tapeLength" "I") (by decide +kernel)) (fun _ h9 => h9) rfl dX9_append_15 ?_
  refine lv_aload_n hx hb dX9_append_18 rfl (lv_at hl 1 rfl) ?_
  refine va_get (D := (dC, dI)) (ci := 9) (v := .ref (ad 9)) (C := RX9) (T := TX9) (N := 11) hx hb hts inw_X9_append_9 hown hK hP 0 rfl rfl 4 (by decide) (hts (.fieldLink RX9 22 "VatHouse" "tape" "[B") (by decide +kernel)) (fun _ h9 => h9) rfl dX9_append_19 ?_
  refine va_alen hx hb hK hP 1 0 rfl rfl (v := 1500) rfl dX9_append_22 ?_
  refine lv_icmp_ge (tgt := 49) hx hb dX9_append_23 (by decide) (fun c_10 => ?_) (fun c_10 => ?_)
  · exact absurd c_10 (by decide)
  refine lv_aload_n hx hb dX9_append_26 rfl (lv_at hl 1 rfl) ?_
  refine va_get (D := (dC, dI)) (ci := 9) (v := .ref (ad 9)) (C := RX9) (T := TX9) (N := 11) hx hb hts inw_X9_append_9 hown hK hP 0 rfl rfl 4 (by decide) (hts (.fieldLink RX9 22 "VatHouse" "tape" "[B") (by decide +kernel)) (fun _ h9 => h9) rfl dX9_append_27 ?_
  refine lv_aload_n hx hb dX9_append_30 rfl (lv_at hl 1 rfl) ?_
  refine va_get (D := (dC, dI)) (ci := 9) (v := .int 9) (C := RX9) (T := TX9) (N := 11) hx hb hts inw_X9_append_9 hown hK hP 0 rfl rfl 5 (by decide) (hts (.fieldLink RX9 124 "VatHouse" "tapeLength" "I") (by decide +kernel)) (fun _ h9 => h9) rfl dX9_append_31 ?_
  refine lv_iload_n hx hb dX9_append_34 rfl (lv_at hl 2 rfl) ?_
  refine lv_iload_n hx hb dX9_append_35 rfl (lv_at hl 0 rfl) ?_
  refine lv_ishr hx hb dX9_append_36 ?_
  refine lv_topi (fun z_11 ez_11 => ?_)
  refine lv_i2b (v := (z_11).toInt8.toInt32) hx hb dX9_append_37 rfl ?_
  refine lv_topi (fun z_12 ez_12 => ?_)
  refine va_bast hx hb hK hP hD hS 1 0 rfl rfl (by unfold vp_in; decide) dX9_append_38 (fun H locs hP hD hS => ?_)
  have hP : va_P (dC, dI) vwCl [(h0, .inr (9, [.ref (ad 0), .ref (ad 8), .int 0, .int 0, .ref (ad 9), .int 9, .ref (ad 10), .ref (ad 15), .int 0, .ref (ad 16), .ref (ad 17)])), ((ad 9), .inl ((ca 9), 1500, .inl (upd f_6 (9 : Int32).toNatClampNeg (vp_nar .byte z_12))))] _ := hP
  have hD : va_D _ [(h0, .inr (9, [.ref (ad 0), .ref (ad 8), .int 0, .int 0, .ref (ad 9), .int 9, .ref (ad 10), .ref (ad 15), .int 0, .ref (ad 16), .ref (ad 17)])), ((ad 9), .inl ((ca 9), 1500, .inl (upd f_6 (9 : Int32).toNatClampNeg (vp_nar .byte z_12))))] := hD
  obtain ⟨f_13, ef_13⟩ : ∃ z, z = (upd f_6 (9 : Int32).toNatClampNeg (vp_nar .byte z_12)) := ⟨_, rfl⟩
  rw [← ef_13] at hP hD
  refine lv_aload_n hx hb dX9_append_39 rfl (lv_at hl 1 rfl) ?_
  refine lv_dup hx hb dX9_append_40 rfl ?_
  refine va_get (D := (dC, dI)) (ci := 9) (v := .int 9) (C := RX9) (T := TX9) (N := 11) hx hb hts inw_X9_append_9 hown hK hP 0 rfl rfl 5 (by decide) (hts (.fieldLink RX9 124 "VatHouse" "tapeLength" "I") (by decide +kernel)) (fun _ h9 => h9) rfl dX9_append_41 ?_
  refine lv_iconst (v := 1) hx hb dX9_append_44 (by decide) ?_
  refine lv_iadd hx hb dX9_append_45 ?_
  refine lv_topi (fun z_14 ez_14 => ?_)
  obtain rfl : z_14 = 10 := ez_14.trans (by decide)
  refine va_put (D := (dC, dI)) (ci := 9) (v := .int 10) (ty := .int) (C := RX9) (T := TX9) (N := 11) hx hb hts inw_X9_append_9 tyX9 tyX9_ok nmX9 hown hK hP hD hS 0 rfl rfl 5 (by decide) (hts (.fieldLink RX9 124 "VatHouse" "tapeLength" "I") (by decide +kernel)) (fun _ h9 => h9) rfl (by decide +kernel) rfl rfl (Nat.le_of_ble_eq_true rfl) dX9_append_46 (fun H locs hP hD hS => ?_)
  have hP : va_P (dC, dI) vwCl [(h0, .inr (9, [.ref (ad 0), .ref (ad 8), .int 0, .int 0, .ref (ad 9), .int 10, .ref (ad 10), .ref (ad 15), .int 0, .ref (ad 16), .ref (ad 17)])), ((ad 9), .inl ((ca 9), 1500, .inl f_13))] _ := hP
  have hD : va_D _ [(h0, .inr (9, [.ref (ad 0), .ref (ad 8), .int 0, .int 0, .ref (ad 9), .int 10, .ref (ad 10), .ref (ad 15), .int 0, .ref (ad 16), .ref (ad 17)])), ((ad 9), .inl ((ca 9), 1500, .inl f_13))] := hD
  refine lv_iinc (v := 8) (lv' := [(2, .int 8), (0, .ref h0), (1, .int n)]) hx hb dX9_append_49 hl (k := 0) rfl (by decide) (by decide) rfl (fun ls hl => ?_)
  refine lv_goto (tgt := 3) hx hb dX9_append_52 (by decide) ?_
  refine lv_iload_n hx hb dX9_append_3 rfl (lv_at hl 0 rfl) ?_
  refine lv_if_lt (tgt := 55) hx hb dX9_append_4 (by decide) (fun c_15 => ?_) (fun c_15 => ?_)
  · exact absurd c_15 (by decide)
  refine lv_aload_n hx hb dX9_append_7 rfl (lv_at hl 1 rfl) ?_
  refine va_get (D := (dC, dI)) (ci := 9) (v := .int 10) (C := RX9) (T := TX9) (N := 11) hx hb hts inw_X9_append_9 hown hK hP 0 rfl rfl 5 (by decide) (hts (.fieldLink RX9 124 "VatHouse" "tapeLength" "I") (by decide +kernel)) (fun _ h9 => h9) rfl dX9_append_8 ?_
  refine lv_if_lt (tgt := 49) hx hb dX9_append_11 (by decide) (fun c_16 => ?_) (fun c_16 => ?_)
  · exact absurd c_16 (by decide)
  refine lv_aload_n hx hb dX9_append_14 rfl (lv_at hl 1 rfl) ?_
  refine va_get (D := (dC, dI)) (ci := 9) (v := .int 10) (C := RX9) (T := TX9) (N := 11) hx hb hts inw_X9_append_9 hown hK hP 0 rfl rfl 5 (by decide) (hts (.fieldLink RX9 124 "VatHouse" "tapeLength" "I") (by decide +kernel)) (fun _ h9 => h9) rfl dX9_append_15 ?_
  refine lv_aload_n hx hb dX9_append_18 rfl (lv_at hl 1 rfl) ?_
  refine va_get (D := (dC, dI)) (ci := 9) (v := .ref (ad 9)) (C := RX9) (T := TX9) (N := 11) hx hb hts inw_X9_append_9 hown hK hP 0 rfl rfl 4 (by decide) (hts (.fieldLink RX9 22 "VatHouse" "tape" "[B") (by decide +kernel)) (fun _ h9 => h9) rfl dX9_append_19 ?_
  refine va_alen hx hb hK hP 1 0 rfl rfl (v := 1500) rfl dX9_append_22 ?_
  refine lv_icmp_ge (tgt := 49) hx hb dX9_append_23 (by decide) (fun c_17 => ?_) (fun c_17 => ?_)
  · exact absurd c_17 (by decide)
  refine lv_aload_n hx hb dX9_append_26 rfl (lv_at hl 1 rfl) ?_
  refine va_get (D := (dC, dI)) (ci := 9) (v := .ref (ad 9)) (C := RX9) (T := TX9) (N := 11) hx hb hts inw_X9_append_9 hown hK hP 0 rfl rfl 4 (by decide) (hts (.fieldLink RX9 22 "VatHouse" "tape" "[B") (by decide +kernel)) (fun _ h9 => h9) rfl dX9_append_27 ?_
  refine lv_aload_n hx hb dX9_append_30 rfl (lv_at hl 1 rfl) ?_
  refine va_get (D := (dC, dI)) (ci := 9) (v := .int 10) (C := RX9) (T := TX9) (N := 11) hx hb hts inw_X9_append_9 hown hK hP 0 rfl rfl 5 (by decide) (hts (.fieldLink RX9 124 "VatHouse" "tapeLength" "I") (by decide +kernel)) (fun _ h9 => h9) rfl dX9_append_31 ?_
  refine lv_iload_n hx hb dX9_append_34 rfl (lv_at hl 2 rfl) ?_
  refine lv_iload_n hx hb dX9_append_35 rfl (lv_at hl 0 rfl) ?_
  refine lv_ishr hx hb dX9_append_36 ?_
  refine lv_topi (fun z_18 ez_18 => ?_)
  refine lv_i2b (v := (z_18).toInt8.toInt32) hx hb dX9_append_37 rfl ?_
  refine lv_topi (fun z_19 ez_19 => ?_)
  refine va_bast hx hb hK hP hD hS 1 0 rfl rfl (by unfold vp_in; decide) dX9_append_38 (fun H locs hP hD hS => ?_)
  have hP : va_P (dC, dI) vwCl [(h0, .inr (9, [.ref (ad 0), .ref (ad 8), .int 0, .int 0, .ref (ad 9), .int 10, .ref (ad 10), .ref (ad 15), .int 0, .ref (ad 16), .ref (ad 17)])), ((ad 9), .inl ((ca 9), 1500, .inl (upd f_13 (10 : Int32).toNatClampNeg (vp_nar .byte z_19))))] _ := hP
  have hD : va_D _ [(h0, .inr (9, [.ref (ad 0), .ref (ad 8), .int 0, .int 0, .ref (ad 9), .int 10, .ref (ad 10), .ref (ad 15), .int 0, .ref (ad 16), .ref (ad 17)])), ((ad 9), .inl ((ca 9), 1500, .inl (upd f_13 (10 : Int32).toNatClampNeg (vp_nar .byte z_19))))] := hD
  obtain ⟨f_20, ef_20⟩ : ∃ z, z = (upd f_13 (10 : Int32).toNatClampNeg (vp_nar .byte z_19)) := ⟨_, rfl⟩
  rw [← ef_20] at hP hD
  refine lv_aload_n hx hb dX9_append_39 rfl (lv_at hl 1 rfl) ?_
  refine lv_dup hx hb dX9_append_40 rfl ?_
  refine va_get (D := (dC, dI)) (ci := 9) (v := .int 10) (C := RX9) (T := TX9) (N := 11) hx hb hts inw_X9_append_9 hown hK hP 0 rfl rfl 5 (by decide) (hts (.fieldLink RX9 124 "VatHouse" "tapeLength" "I") (by decide +kernel)) (fun _ h9 => h9) rfl dX9_append_41 ?_
  refine lv_iconst (v := 1) hx hb dX9_append_44 (by decide) ?_
  refine lv_iadd hx hb dX9_append_45 ?_
  refine lv_topi (fun z_21 ez_21 => ?_)
  obtain rfl : z_21 = 11 := ez_21.trans (by decide)
  refine va_put (D := (dC, dI)) (ci := 9) (v := .int 11) (ty := .int) (C := RX9) (T := TX9) (N := 11) hx hb hts inw_X9_append_9 tyX9 tyX9_ok nmX9 hown hK hP hD hS 0 rfl rfl 5 (by decide) (hts (.fieldLink RX9 124 "VatHouse" "tapeLength" "I") (by decide +kernel)) (fun _ h9 => h9) rfl (by decide +kernel) rfl rfl (Nat.le_of_ble_eq_true rfl) dX9_append_46 (fun H locs hP hD hS => ?_)
  have hP : va_P (dC, dI) vwCl [(h0, .inr (9, [.ref (ad 0), .ref (ad 8), .int 0, .int 0, .ref (ad 9), .int 11, .ref (ad 10), .ref (ad 15), .int 0, .ref (ad 16), .ref (ad 17)])), ((ad 9), .inl ((ca 9), 1500, .inl f_20))] _ := hP
  have hD : va_D _ [(h0, .inr (9, [.ref (ad 0), .ref (ad 8), .int 0, .int 0, .ref (ad 9), .int 11, .ref (ad 10), .ref (ad 15), .int 0, .ref (ad 16), .ref (ad 17)])), ((ad 9), .inl ((ca 9), 1500, .inl f_20))] := hD
  refine lv_iinc (v := 0) (lv' := [(2, .int 0), (0, .ref h0), (1, .int n)]) hx hb dX9_append_49 hl (k := 0) rfl (by decide) (by decide) rfl (fun ls hl => ?_)
  refine lv_goto (tgt := 3) hx hb dX9_append_52 (by decide) ?_
  refine lv_iload_n hx hb dX9_append_3 rfl (lv_at hl 0 rfl) ?_
  refine lv_if_lt (tgt := 55) hx hb dX9_append_4 (by decide) (fun c_22 => ?_) (fun c_22 => ?_)
  · exact absurd c_22 (by decide)
  refine lv_aload_n hx hb dX9_append_7 rfl (lv_at hl 1 rfl) ?_
  refine va_get (D := (dC, dI)) (ci := 9) (v := .int 11) (C := RX9) (T := TX9) (N := 11) hx hb hts inw_X9_append_9 hown hK hP 0 rfl rfl 5 (by decide) (hts (.fieldLink RX9 124 "VatHouse" "tapeLength" "I") (by decide +kernel)) (fun _ h9 => h9) rfl dX9_append_8 ?_
  refine lv_if_lt (tgt := 49) hx hb dX9_append_11 (by decide) (fun c_23 => ?_) (fun c_23 => ?_)
  · exact absurd c_23 (by decide)
  refine lv_aload_n hx hb dX9_append_14 rfl (lv_at hl 1 rfl) ?_
  refine va_get (D := (dC, dI)) (ci := 9) (v := .int 11) (C := RX9) (T := TX9) (N := 11) hx hb hts inw_X9_append_9 hown hK hP 0 rfl rfl 5 (by decide) (hts (.fieldLink RX9 124 "VatHouse" "tapeLength" "I") (by decide +kernel)) (fun _ h9 => h9) rfl dX9_append_15 ?_
  refine lv_aload_n hx hb dX9_append_18 rfl (lv_at hl 1 rfl) ?_
  refine va_get (D := (dC, dI)) (ci := 9) (v := .ref (ad 9)) (C := RX9) (T := TX9) (N := 11) hx hb hts inw_X9_append_9 hown hK hP 0 rfl rfl 4 (by decide) (hts (.fieldLink RX9 22 "VatHouse" "tape" "[B") (by decide +kernel)) (fun _ h9 => h9) rfl dX9_append_19 ?_
  refine va_alen hx hb hK hP 1 0 rfl rfl (v := 1500) rfl dX9_append_22 ?_
  refine lv_icmp_ge (tgt := 49) hx hb dX9_append_23 (by decide) (fun c_24 => ?_) (fun c_24 => ?_)
  · exact absurd c_24 (by decide)
  refine lv_aload_n hx hb dX9_append_26 rfl (lv_at hl 1 rfl) ?_
  refine va_get (D := (dC, dI)) (ci := 9) (v := .ref (ad 9)) (C := RX9) (T := TX9) (N := 11) hx hb hts inw_X9_append_9 hown hK hP 0 rfl rfl 4 (by decide) (hts (.fieldLink RX9 22 "VatHouse" "tape" "[B") (by decide +kernel)) (fun _ h9 => h9) rfl dX9_append_27 ?_
  refine lv_aload_n hx hb dX9_append_30 rfl (lv_at hl 1 rfl) ?_
  refine va_get (D := (dC, dI)) (ci := 9) (v := .int 11) (C := RX9) (T := TX9) (N := 11) hx hb hts inw_X9_append_9 hown hK hP 0 rfl rfl 5 (by decide) (hts (.fieldLink RX9 124 "VatHouse" "tapeLength" "I") (by decide +kernel)) (fun _ h9 => h9) rfl dX9_append_31 ?_
  refine lv_iload_n hx hb dX9_append_34 rfl (lv_at hl 2 rfl) ?_
  refine lv_iload_n hx hb dX9_append_35 rfl (lv_at hl 0 rfl) ?_
  refine lv_ishr hx hb dX9_append_36 ?_
  refine lv_topi (fun z_25 ez_25 => ?_)
  refine lv_i2b (v := (z_25).toInt8.toInt32) hx hb dX9_append_37 rfl ?_
  refine lv_topi (fun z_26 ez_26 => ?_)
  refine va_bast hx hb hK hP hD hS 1 0 rfl rfl (by unfold vp_in; decide) dX9_append_38 (fun H locs hP hD hS => ?_)
  have hP : va_P (dC, dI) vwCl [(h0, .inr (9, [.ref (ad 0), .ref (ad 8), .int 0, .int 0, .ref (ad 9), .int 11, .ref (ad 10), .ref (ad 15), .int 0, .ref (ad 16), .ref (ad 17)])), ((ad 9), .inl ((ca 9), 1500, .inl (upd f_20 (11 : Int32).toNatClampNeg (vp_nar .byte z_26))))] _ := hP
  have hD : va_D _ [(h0, .inr (9, [.ref (ad 0), .ref (ad 8), .int 0, .int 0, .ref (ad 9), .int 11, .ref (ad 10), .ref (ad 15), .int 0, .ref (ad 16), .ref (ad 17)])), ((ad 9), .inl ((ca 9), 1500, .inl (upd f_20 (11 : Int32).toNatClampNeg (vp_nar .byte z_26))))] := hD
  obtain ⟨f_27, ef_27⟩ : ∃ z, z = (upd f_20 (11 : Int32).toNatClampNeg (vp_nar .byte z_26)) := ⟨_, rfl⟩
  rw [← ef_27] at hP hD
  refine lv_aload_n hx hb dX9_append_39 rfl (lv_at hl 1 rfl) ?_
  refine lv_dup hx hb dX9_append_40 rfl ?_
  refine va_get (D := (dC, dI)) (ci := 9) (v := .int 11) (C := RX9) (T := TX9) (N := 11) hx hb hts inw_X9_append_9 hown hK hP 0 rfl rfl 5 (by decide) (hts (.fieldLink RX9 124 "VatHouse" "tapeLength" "I") (by decide +kernel)) (fun _ h9 => h9) rfl dX9_append_41 ?_
  refine lv_iconst (v := 1) hx hb dX9_append_44 (by decide) ?_
  refine lv_iadd hx hb dX9_append_45 ?_
  refine lv_topi (fun z_28 ez_28 => ?_)
  obtain rfl : z_28 = 12 := ez_28.trans (by decide)
  refine va_put (D := (dC, dI)) (ci := 9) (v := .int 12) (ty := .int) (C := RX9) (T := TX9) (N := 11) hx hb hts inw_X9_append_9 tyX9 tyX9_ok nmX9 hown hK hP hD hS 0 rfl rfl 5 (by decide) (hts (.fieldLink RX9 124 "VatHouse" "tapeLength" "I") (by decide +kernel)) (fun _ h9 => h9) rfl (by decide +kernel) rfl rfl (Nat.le_of_ble_eq_true rfl) dX9_append_46 (fun H locs hP hD hS => ?_)
  have hP : va_P (dC, dI) vwCl [(h0, .inr (9, [.ref (ad 0), .ref (ad 8), .int 0, .int 0, .ref (ad 9), .int 12, .ref (ad 10), .ref (ad 15), .int 0, .ref (ad 16), .ref (ad 17)])), ((ad 9), .inl ((ca 9), 1500, .inl f_27))] _ := hP
  have hD : va_D _ [(h0, .inr (9, [.ref (ad 0), .ref (ad 8), .int 0, .int 0, .ref (ad 9), .int 12, .ref (ad 10), .ref (ad 15), .int 0, .ref (ad 16), .ref (ad 17)])), ((ad 9), .inl ((ca 9), 1500, .inl f_27))] := hD
  refine lv_iinc (v := (-8)) (lv' := [(2, .int (-8)), (0, .ref h0), (1, .int n)]) hx hb dX9_append_49 hl (k := 0) rfl (by decide) (by decide) rfl (fun ls hl => ?_)
  refine lv_goto (tgt := 3) hx hb dX9_append_52 (by decide) ?_
  refine lv_iload_n hx hb dX9_append_3 rfl (lv_at hl 0 rfl) ?_
  refine lv_if_lt (tgt := 55) hx hb dX9_append_4 (by decide) (fun c_29 => ?_) (fun c_29 => ?_)
  rotate_left
  · exact absurd c_29 (by decide)
  exact en_v hx hb hr hlocks hP hD hK hS f_27 ⟨rfl, trivial⟩ [0, 1] [] rfl rfl rfl (Nat.le_of_ble_eq_true rfl) (Nat.le_of_ble_eq_true rfl) dX9_append_55

abbrev rm_X9_append_12 : Room := { frames := 0, cells := 0, slots := 0, locals := 0 }
set_option maxHeartbeats 800000 in
set_option maxRecDepth 100000 in
theorem c_X9_append_12 (l : Launch) (dC : Nat → ClassId) (dI : Nat → Nat → Nat) (sa : Nat → Nat) (hlt : l.stackTraces = false) (sz : Nat) (h0 : Nat) (ad : Nat → Nat) (ca : Nat → ClassId) (ft : Nat → Int32) (n : Int32) : CT l dC dI sa yX9_append wsX9_append rm_X9_append_12 [.ref h0, .int n] [(h0, .inr (9, [.ref (ad 0), .ref (ad 8), .int 0, .int 0, .ref (ad 9), .int 12, .ref (ad 10), .ref (ad 15), .int 0, .ref (ad 16), .ref (ad 17)])), ((ad 9), .inl ((ca 9), 1500, .inl ft))] [((ca 9), .byte)] sz (fun (r : Option Value) (g : (Nat → Int32)) => r = none ∧ (True)) (fun (g : (Nat → Int32)) => [(h0, .inr (9, [.ref (ad 0), .ref (ad 8), .int 0, .int 0, .ref (ad 9), .int 16, .ref (ad 10), .ref (ad 15), .int 0, .ref (ad 16), .ref (ad 17)])), ((ad 9), .inl ((ca 9), 1500, .inl g))]) (fun (g : (Nat → Int32)) => []) 0 0 := by
  refine CT.start (cc := cX9_append) (maxL := 3) (ret := none) (by decide) rfl (Nat.le_of_ble_eq_true rfl) ?_
  intro p e s m below meth c ls hst hP hK hD hev hS hl
  obtain ⟨hx, hb, hr, hml, hts, hown, hlocks, hin⟩ := hst
  have hown : s.vm.findClass RX9 = some m.cls := hown
  have hin : meth.name = yX9_append.name := hin
  have hA : ∀ q : Nat, s.heap.size ≤ q → va_A [(h0, .inr (9, [.ref (ad 0), .ref (ad 8), .int 0, .int 0, .ref (ad 9), .int 12, .ref (ad 10), .ref (ad 15), .int 0, .ref (ad 16), .ref (ad 17)])), ((ad 9), .inl ((ca 9), 1500, .inl ft))] s.heap.size q := fun _ h => Or.inr h
  have hl : lv_has ls 3 [(0, .ref h0), (1, .int n)] := hl
  refine lv_bipush (v := 24) hx hb dX9_append_0 (by decide) ?_
  refine lv_istore_n (lv' := [(2, .int 24), (0, .ref h0), (1, .int n)]) hx hb dX9_append_2 rfl hl (by decide) rfl (fun ls hl => ?_)
  refine lv_iload_n hx hb dX9_append_3 rfl (lv_at hl 0 rfl) ?_
  refine lv_if_lt (tgt := 55) hx hb dX9_append_4 (by decide) (fun c_1 => ?_) (fun c_1 => ?_)
  · exact absurd c_1 (by decide)
  refine lv_aload_n hx hb dX9_append_7 rfl (lv_at hl 1 rfl) ?_
  refine va_get (D := (dC, dI)) (ci := 9) (v := .int 12) (C := RX9) (T := TX9) (N := 11) hx hb hts inw_X9_append_9 hown hK hP 0 rfl rfl 5 (by decide) (hts (.fieldLink RX9 124 "VatHouse" "tapeLength" "I") (by decide +kernel)) (fun _ h9 => h9) rfl dX9_append_8 ?_
  refine lv_if_lt (tgt := 49) hx hb dX9_append_11 (by decide) (fun c_2 => ?_) (fun c_2 => ?_)
  · exact absurd c_2 (by decide)
  refine lv_aload_n hx hb dX9_append_14 rfl (lv_at hl 1 rfl) ?_
  refine va_get (D := (dC, dI)) (ci := 9) (v := .int 12) (C := RX9) (T := TX9) (N := 11) hx hb hts inw_X9_append_9 hown hK hP 0 rfl rfl 5 (by decide) (hts (.fieldLink RX9 124 "VatHouse" "tapeLength" "I") (by decide +kernel)) (fun _ h9 => h9) rfl dX9_append_15 ?_
  refine lv_aload_n hx hb dX9_append_18 rfl (lv_at hl 1 rfl) ?_
  refine va_get (D := (dC, dI)) (ci := 9) (v := .ref (ad 9)) (C := RX9) (T := TX9) (N := 11) hx hb hts inw_X9_append_9 hown hK hP 0 rfl rfl 4 (by decide) (hts (.fieldLink RX9 22 "VatHouse" "tape" "[B") (by decide +kernel)) (fun _ h9 => h9) rfl dX9_append_19 ?_
  refine va_alen hx hb hK hP 1 0 rfl rfl (v := 1500) rfl dX9_append_22 ?_
  refine lv_icmp_ge (tgt := 49) hx hb dX9_append_23 (by decide) (fun c_3 => ?_) (fun c_3 => ?_)
  · exact absurd c_3 (by decide)
  refine lv_aload_n hx hb dX9_append_26 rfl (lv_at hl 1 rfl) ?_
  refine va_get (D := (dC, dI)) (ci := 9) (v := .ref (ad 9)) (C := RX9) (T := TX9) (N := 11) hx hb hts inw_X9_append_9 hown hK hP 0 rfl rfl 4 (by decide) (hts (.fieldLink RX9 22 "VatHouse" "tape" "[B") (by decide +kernel)) (fun _ h9 => h9) rfl dX9_append_27 ?_
  refine lv_aload_n hx hb dX9_append_30 rfl (lv_at hl 1 rfl) ?_
  refine va_get (D := (dC, dI)) (ci := 9) (v := .int 12) (C := RX9) (T := TX9) (N := 11) hx hb hts inw_X9_append_9 hown hK hP 0 rfl rfl 5 (by decide) (hts (.fieldLink RX9 124 "VatHouse" "tapeLength" "I") (by decide +kernel)) (fun _ h9 => h9) rfl dX9_append_31 ?_
  refine lv_iload_n hx hb dX9_append_34 rfl (lv_at hl 2 rfl) ?_
  refine lv_iload_n hx hb dX9_append_35 rfl (lv_at hl 0 rfl) ?_
  refine lv_ishr hx hb dX9_append_36 ?_
  refine lv_topi (fun z_4 ez_4 => ?_)
  refine lv_i2b (v := (z_4).toInt8.toInt32) hx hb dX9_append_37 rfl ?_
  refine lv_topi (fun z_5 ez_5 => ?_)
  refine va_bast hx hb hK hP hD hS 1 0 rfl rfl (by unfold vp_in; decide) dX9_append_38 (fun H locs hP hD hS => ?_)
  have hP : va_P (dC, dI) vwCl [(h0, .inr (9, [.ref (ad 0), .ref (ad 8), .int 0, .int 0, .ref (ad 9), .int 12, .ref (ad 10), .ref (ad 15), .int 0, .ref (ad 16), .ref (ad 17)])), ((ad 9), .inl ((ca 9), 1500, .inl (upd ft (12 : Int32).toNatClampNeg (vp_nar .byte z_5))))] _ := hP
  have hD : va_D _ [(h0, .inr (9, [.ref (ad 0), .ref (ad 8), .int 0, .int 0, .ref (ad 9), .int 12, .ref (ad 10), .ref (ad 15), .int 0, .ref (ad 16), .ref (ad 17)])), ((ad 9), .inl ((ca 9), 1500, .inl (upd ft (12 : Int32).toNatClampNeg (vp_nar .byte z_5))))] := hD
  obtain ⟨f_6, ef_6⟩ : ∃ z, z = (upd ft (12 : Int32).toNatClampNeg (vp_nar .byte z_5)) := ⟨_, rfl⟩
  rw [← ef_6] at hP hD
  refine lv_aload_n hx hb dX9_append_39 rfl (lv_at hl 1 rfl) ?_
  refine lv_dup hx hb dX9_append_40 rfl ?_
  refine va_get (D := (dC, dI)) (ci := 9) (v := .int 12) (C := RX9) (T := TX9) (N := 11) hx hb hts inw_X9_append_9 hown hK hP 0 rfl rfl 5 (by decide) (hts (.fieldLink RX9 124 "VatHouse" "tapeLength" "I") (by decide +kernel)) (fun _ h9 => h9) rfl dX9_append_41 ?_
  refine lv_iconst (v := 1) hx hb dX9_append_44 (by decide) ?_
  refine lv_iadd hx hb dX9_append_45 ?_
  refine lv_topi (fun z_7 ez_7 => ?_)
  obtain rfl : z_7 = 13 := ez_7.trans (by decide)
  refine va_put (D := (dC, dI)) (ci := 9) (v := .int 13) (ty := .int) (C := RX9) (T := TX9) (N := 11) hx hb hts inw_X9_append_9 tyX9 tyX9_ok nmX9 hown hK hP hD hS 0 rfl rfl 5 (by decide) (hts (.fieldLink RX9 124 "VatHouse" "tapeLength" "I") (by decide +kernel)) (fun _ h9 => h9) rfl (by decide +kernel) rfl rfl (Nat.le_of_ble_eq_true rfl) dX9_append_46 (fun H locs hP hD hS => ?_)
  have hP : va_P (dC, dI) vwCl [(h0, .inr (9, [.ref (ad 0), .ref (ad 8), .int 0, .int 0, .ref (ad 9), .int 13, .ref (ad 10), .ref (ad 15), .int 0, .ref (ad 16), .ref (ad 17)])), ((ad 9), .inl ((ca 9), 1500, .inl f_6))] _ := hP
  have hD : va_D _ [(h0, .inr (9, [.ref (ad 0), .ref (ad 8), .int 0, .int 0, .ref (ad 9), .int 13, .ref (ad 10), .ref (ad 15), .int 0, .ref (ad 16), .ref (ad 17)])), ((ad 9), .inl ((ca 9), 1500, .inl f_6))] := hD
  refine lv_iinc (v := 16) (lv' := [(2, .int 16), (0, .ref h0), (1, .int n)]) hx hb dX9_append_49 hl (k := 0) rfl (by decide) (by decide) rfl (fun ls hl => ?_)
  refine lv_goto (tgt := 3) hx hb dX9_append_52 (by decide) ?_
  refine lv_iload_n hx hb dX9_append_3 rfl (lv_at hl 0 rfl) ?_
  refine lv_if_lt (tgt := 55) hx hb dX9_append_4 (by decide) (fun c_8 => ?_) (fun c_8 => ?_)
  · exact absurd c_8 (by decide)
  refine lv_aload_n hx hb dX9_append_7 rfl (lv_at hl 1 rfl) ?_
  refine va_get (D := (dC, dI)) (ci := 9) (v := .int 13) (C := RX9) (T := TX9) (N := 11) hx hb hts inw_X9_append_9 hown hK hP 0 rfl rfl 5 (by decide) (hts (.fieldLink RX9 124 "VatHouse" "tapeLength" "I") (by decide +kernel)) (fun _ h9 => h9) rfl dX9_append_8 ?_
  refine lv_if_lt (tgt := 49) hx hb dX9_append_11 (by decide) (fun c_9 => ?_) (fun c_9 => ?_)
  · exact absurd c_9 (by decide)
  refine lv_aload_n hx hb dX9_append_14 rfl (lv_at hl 1 rfl) ?_
  refine va_get (D := (dC, dI)) (ci := 9) (v := .int 13) (C := RX9) (T := TX9) (N := 11) hx hb hts inw_X9_append_9 hown hK hP 0 rfl rfl 5 (by decide) (hts (.fieldLink RX9 124 "VatHouse" "tapeLength" "I") (by decide +kernel)) (fun _ h9 => h9) rfl dX9_append_15 ?_
  refine lv_aload_n hx hb dX9_append_18 rfl (lv_at hl 1 rfl) ?_
  refine va_get (D := (dC, dI)) (ci := 9) (v := .ref (ad 9)) (C := RX9) (T := TX9) (N := 11) hx hb hts inw_X9_append_9 hown hK hP 0 rfl rfl 4 (by decide) (hts (.fieldLink RX9 22 "VatHouse" "tape" "[B") (by decide +kernel)) (fun _ h9 => h9) rfl dX9_append_19 ?_
  refine va_alen hx hb hK hP 1 0 rfl rfl (v := 1500) rfl dX9_append_22 ?_
  refine lv_icmp_ge (tgt := 49) hx hb dX9_append_23 (by decide) (fun c_10 => ?_) (fun c_10 => ?_)
  · exact absurd c_10 (by decide)
  refine lv_aload_n hx hb dX9_append_26 rfl (lv_at hl 1 rfl) ?_
  refine va_get (D := (dC, dI)) (ci := 9) (v := .ref (ad 9)) (C := RX9) (T := TX9) (N := 11) hx hb hts inw_X9_append_9 hown hK hP 0 rfl rfl 4 (by decide) (hts (.fieldLink RX9 22 "VatHouse" "tape" "[B") (by decide +kernel)) (fun _ h9 => h9) rfl dX9_append_27 ?_
  refine lv_aload_n hx hb dX9_append_30 rfl (lv_at hl 1 rfl) ?_
  refine va_get (D := (dC, dI)) (ci := 9) (v := .int 13) (C := RX9) (T := TX9) (N := 11) hx hb hts inw_X9_append_9 hown hK hP 0 rfl rfl 5 (by decide) (hts (.fieldLink RX9 124 "VatHouse" "tapeLength" "I") (by decide +kernel)) (fun _ h9 => h9) rfl dX9_append_31 ?_
  refine lv_iload_n hx hb dX9_append_34 rfl (lv_at hl 2 rfl) ?_
  refine lv_iload_n hx hb dX9_append_35 rfl (lv_at hl 0 rfl) ?_
  refine lv_ishr hx hb dX9_append_36 ?_
  refine lv_topi (fun z_11 ez_11 => ?_)
  refine lv_i2b (v := (z_11).toInt8.toInt32) hx hb dX9_append_37 rfl ?_
  refine lv_topi (fun z_12 ez_12 => ?_)
  refine va_bast hx hb hK hP hD hS 1 0 rfl rfl (by unfold vp_in; decide) dX9_append_38 (fun H locs hP hD hS => ?_)
  have hP : va_P (dC, dI) vwCl [(h0, .inr (9, [.ref (ad 0), .ref (ad 8), .int 0, .int 0, .ref (ad 9), .int 13, .ref (ad 10), .ref (ad 15), .int 0, .ref (ad 16), .ref (ad 17)])), ((ad 9), .inl ((ca 9), 1500, .inl (upd f_6 (13 : Int32).toNatClampNeg (vp_nar .byte z_12))))] _ := hP
  have hD : va_D _ [(h0, .inr (9, [.ref (ad 0), .ref (ad 8), .int 0, .int 0, .ref (ad 9), .int 13, .ref (ad 10), .ref (ad 15), .int 0, .ref (ad 16), .ref (ad 17)])), ((ad 9), .inl ((ca 9), 1500, .inl (upd f_6 (13 : Int32).toNatClampNeg (vp_nar .byte z_12))))] := hD
  obtain ⟨f_13, ef_13⟩ : ∃ z, z = (upd f_6 (13 : Int32).toNatClampNeg (vp_nar .byte z_12)) := ⟨_, rfl⟩
  rw [← ef_13] at hP hD
  refine lv_aload_n hx hb dX9_append_39 rfl (lv_at hl 1 rfl) ?_
  refine lv_dup hx hb dX9_append_40 rfl ?_
  refine va_get (D := (dC, dI)) (ci := 9) (v := .int 13) (C := RX9) (T := TX9) (N := 11) hx hb hts inw_X9_append_9 hown hK hP 0 rfl rfl 5 (by decide) (hts (.fieldLink RX9 124 "VatHouse" "tapeLength" "I") (by decide +kernel)) (fun _ h9 => h9) rfl dX9_append_41 ?_
  refine lv_iconst (v := 1) hx hb dX9_append_44 (by decide) ?_
  refine lv_iadd hx hb dX9_append_45 ?_
  refine lv_topi (fun z_14 ez_14 => ?_)
  obtain rfl : z_14 = 14 := ez_14.trans (by decide)
  refine va_put (D := (dC, dI)) (ci := 9) (v := .int 14) (ty := .int) (C := RX9) (T := TX9) (N := 11) hx hb hts inw_X9_append_9 tyX9 tyX9_ok nmX9 hown hK hP hD hS 0 rfl rfl 5 (by decide) (hts (.fieldLink RX9 124 "VatHouse" "tapeLength" "I") (by decide +kernel)) (fun _ h9 => h9) rfl (by decide +kernel) rfl rfl (Nat.le_of_ble_eq_true rfl) dX9_append_46 (fun H locs hP hD hS => ?_)
  have hP : va_P (dC, dI) vwCl [(h0, .inr (9, [.ref (ad 0), .ref (ad 8), .int 0, .int 0, .ref (ad 9), .int 14, .ref (ad 10), .ref (ad 15), .int 0, .ref (ad 16), .ref (ad 17)])), ((ad 9), .inl ((ca 9), 1500, .inl f_13))] _ := hP
  have hD : va_D _ [(h0, .inr (9, [.ref (ad 0), .ref (ad 8), .int 0, .int 0, .ref (ad 9), .int 14, .ref (ad 10), .ref (ad 15), .int 0, .ref (ad 16), .ref (ad 17)])), ((ad 9), .inl ((ca 9), 1500, .inl f_13))] := hD
  refine lv_iinc (v := 8) (lv' := [(2, .int 8), (0, .ref h0), (1, .int n)]) hx hb dX9_append_49 hl (k := 0) rfl (by decide) (by decide) rfl (fun ls hl => ?_)
  refine lv_goto (tgt := 3) hx hb dX9_append_52 (by decide) ?_
  refine lv_iload_n hx hb dX9_append_3 rfl (lv_at hl 0 rfl) ?_
  refine lv_if_lt (tgt := 55) hx hb dX9_append_4 (by decide) (fun c_15 => ?_) (fun c_15 => ?_)
  · exact absurd c_15 (by decide)
  refine lv_aload_n hx hb dX9_append_7 rfl (lv_at hl 1 rfl) ?_
  refine va_get (D := (dC, dI)) (ci := 9) (v := .int 14) (C := RX9) (T := TX9) (N := 11) hx hb hts inw_X9_append_9 hown hK hP 0 rfl rfl 5 (by decide) (hts (.fieldLink RX9 124 "VatHouse" "tapeLength" "I") (by decide +kernel)) (fun _ h9 => h9) rfl dX9_append_8 ?_
  refine lv_if_lt (tgt := 49) hx hb dX9_append_11 (by decide) (fun c_16 => ?_) (fun c_16 => ?_)
  · exact absurd c_16 (by decide)
  refine lv_aload_n hx hb dX9_append_14 rfl (lv_at hl 1 rfl) ?_
  refine va_get (D := (dC, dI)) (ci := 9) (v := .int 14) (C := RX9) (T := TX9) (N := 11) hx hb hts inw_X9_append_9 hown hK hP 0 rfl rfl 5 (by decide) (hts (.fieldLink RX9 124 "VatHouse" "tapeLength" "I") (by decide +kernel)) (fun _ h9 => h9) rfl dX9_append_15 ?_
  refine lv_aload_n hx hb dX9_append_18 rfl (lv_at hl 1 rfl) ?_
  refine va_get (D := (dC, dI)) (ci := 9) (v := .ref (ad 9)) (C := RX9) (T := TX9) (N := 11) hx hb hts inw_X9_append_9 hown hK hP 0 rfl rfl 4 (by decide) (hts (.fieldLink RX9 22 "VatHouse" "tape" "[B") (by decide +kernel)) (fun _ h9 => h9) rfl dX9_append_19 ?_
  refine va_alen hx hb hK hP 1 0 rfl rfl (v := 1500) rfl dX9_append_22 ?_
  refine lv_icmp_ge (tgt := 49) hx hb dX9_append_23 (by decide) (fun c_17 => ?_) (fun c_17 => ?_)
  · exact absurd c_17 (by decide)
  refine lv_aload_n hx hb dX9_append_26 rfl (lv_at hl 1 rfl) ?_
  refine va_get (D := (dC, dI)) (ci := 9) (v := .ref (ad 9)) (C := RX9) (T := TX9) (N := 11) hx hb hts inw_X9_append_9 hown hK hP 0 rfl rfl 4 (by decide) (hts (.fieldLink RX9 22 "VatHouse" "tape" "[B") (by decide +kernel)) (fun _ h9 => h9) rfl dX9_append_27 ?_
  refine lv_aload_n hx hb dX9_append_30 rfl (lv_at hl 1 rfl) ?_
  refine va_get (D := (dC, dI)) (ci := 9) (v := .int 14) (C := RX9) (T := TX9) (N := 11) hx hb hts inw_X9_append_9 hown hK hP 0 rfl rfl 5 (by decide) (hts (.fieldLink RX9 124 "VatHouse" "tapeLength" "I") (by decide +kernel)) (fun _ h9 => h9) rfl dX9_append_31 ?_
  refine lv_iload_n hx hb dX9_append_34 rfl (lv_at hl 2 rfl) ?_
  refine lv_iload_n hx hb dX9_append_35 rfl (lv_at hl 0 rfl) ?_
  refine lv_ishr hx hb dX9_append_36 ?_
  refine lv_topi (fun z_18 ez_18 => ?_)
  refine lv_i2b (v := (z_18).toInt8.toInt32) hx hb dX9_append_37 rfl ?_
  refine lv_topi (fun z_19 ez_19 => ?_)
  refine va_bast hx hb hK hP hD hS 1 0 rfl rfl (by unfold vp_in; decide) dX9_append_38 (fun H locs hP hD hS => ?_)
  have hP : va_P (dC, dI) vwCl [(h0, .inr (9, [.ref (ad 0), .ref (ad 8), .int 0, .int 0, .ref (ad 9), .int 14, .ref (ad 10), .ref (ad 15), .int 0, .ref (ad 16), .ref (ad 17)])), ((ad 9), .inl ((ca 9), 1500, .inl (upd f_13 (14 : Int32).toNatClampNeg (vp_nar .byte z_19))))] _ := hP
  have hD : va_D _ [(h0, .inr (9, [.ref (ad 0), .ref (ad 8), .int 0, .int 0, .ref (ad 9), .int 14, .ref (ad 10), .ref (ad 15), .int 0, .ref (ad 16), .ref (ad 17)])), ((ad 9), .inl ((ca 9), 1500, .inl (upd f_13 (14 : Int32).toNatClampNeg (vp_nar .byte z_19))))] := hD
  obtain ⟨f_20, ef_20⟩ : ∃ z, z = (upd f_13 (14 : Int32).toNatClampNeg (vp_nar .byte z_19)) := ⟨_, rfl⟩
  rw [← ef_20] at hP hD
  refine lv_aload_n hx hb dX9_append_39 rfl (lv_at hl 1 rfl) ?_
  refine lv_dup hx hb dX9_append_40 rfl ?_
  refine va_get (D := (dC, dI)) (ci := 9) (v := .int 14) (C := RX9) (T := TX9) (N := 11) hx hb hts inw_X9_append_9 hown hK hP 0 rfl rfl 5 (by decide) (hts (.fieldLink RX9 124 "VatHouse" "tapeLength" "I") (by decide +kernel)) (fun _ h9 => h9) rfl dX9_append_41 ?_
  refine lv_iconst (v := 1) hx hb dX9_append_44 (by decide) ?_
  refine lv_iadd hx hb dX9_append_45 ?_
  refine lv_topi (fun z_21 ez_21 => ?_)
  obtain rfl : z_21 = 15 := ez_21.trans (by decide)
  refine va_put (D := (dC, dI)) (ci := 9) (v := .int 15) (ty := .int) (C := RX9) (T := TX9) (N := 11) hx hb hts inw_X9_append_9 tyX9 tyX9_ok nmX9 hown hK hP hD hS 0 rfl rfl 5 (by decide) (hts (.fieldLink RX9 124 "VatHouse" "tapeLength" "I") (by decide +kernel)) (fun _ h9 => h9) rfl (by decide +kernel) rfl rfl (Nat.le_of_ble_eq_true rfl) dX9_append_46 (fun H locs hP hD hS => ?_)
  have hP : va_P (dC, dI) vwCl [(h0, .inr (9, [.ref (ad 0), .ref (ad 8), .int 0, .int 0, .ref (ad 9), .int 15, .ref (ad 10), .ref (ad 15), .int 0, .ref (ad 16), .ref (ad 17)])), ((ad 9), .inl ((ca 9), 1500, .inl f_20))] _ := hP
  have hD : va_D _ [(h0, .inr (9, [.ref (ad 0), .ref (ad 8), .int 0, .int 0, .ref (ad 9), .int 15, .ref (ad 10), .ref (ad 15), .int 0, .ref (ad 16), .ref (ad 17)])), ((ad 9), .inl ((ca 9), 1500, .inl f_20))] := hD
  refine lv_iinc (v := 0) (lv' := [(2, .int 0), (0, .ref h0), (1, .int n)]) hx hb dX9_append_49 hl (k := 0) rfl (by decide) (by decide) rfl (fun ls hl => ?_)
  refine lv_goto (tgt := 3) hx hb dX9_append_52 (by decide) ?_
  refine lv_iload_n hx hb dX9_append_3 rfl (lv_at hl 0 rfl) ?_
  refine lv_if_lt (tgt := 55) hx hb dX9_append_4 (by decide) (fun c_22 => ?_) (fun c_22 => ?_)
  · exact absurd c_22 (by decide)
  refine lv_aload_n hx hb dX9_append_7 rfl (lv_at hl 1 rfl) ?_
  refine va_get (D := (dC, dI)) (ci := 9) (v := .int 15) (C := RX9) (T := TX9) (N := 11) hx hb hts inw_X9_append_9 hown hK hP 0 rfl rfl 5 (by decide) (hts (.fieldLink RX9 124 "VatHouse" "tapeLength" "I") (by decide +kernel)) (fun _ h9 => h9) rfl dX9_append_8 ?_
  refine lv_if_lt (tgt := 49) hx hb dX9_append_11 (by decide) (fun c_23 => ?_) (fun c_23 => ?_)
  · exact absurd c_23 (by decide)
  refine lv_aload_n hx hb dX9_append_14 rfl (lv_at hl 1 rfl) ?_
  refine va_get (D := (dC, dI)) (ci := 9) (v := .int 15) (C := RX9) (T := TX9) (N := 11) hx hb hts inw_X9_append_9 hown hK hP 0 rfl rfl 5 (by decide) (hts (.fieldLink RX9 124 "VatHouse" "tapeLength" "I") (by decide +kernel)) (fun _ h9 => h9) rfl dX9_append_15 ?_
  refine lv_aload_n hx hb dX9_append_18 rfl (lv_at hl 1 rfl) ?_
  refine va_get (D := (dC, dI)) (ci := 9) (v := .ref (ad 9)) (C := RX9) (T := TX9) (N := 11) hx hb hts inw_X9_append_9 hown hK hP 0 rfl rfl 4 (by decide) (hts (.fieldLink RX9 22 "VatHouse" "tape" "[B") (by decide +kernel)) (fun _ h9 => h9) rfl dX9_append_19 ?_
  refine va_alen hx hb hK hP 1 0 rfl rfl (v := 1500) rfl dX9_append_22 ?_
  refine lv_icmp_ge (tgt := 49) hx hb dX9_append_23 (by decide) (fun c_24 => ?_) (fun c_24 => ?_)
  · exact absurd c_24 (by decide)
  refine lv_aload_n hx hb dX9_append_26 rfl (lv_at hl 1 rfl) ?_
  refine va_get (D := (dC, dI)) (ci := 9) (v := .ref (ad 9)) (C := RX9) (T := TX9) (N := 11) hx hb hts inw_X9_append_9 hown hK hP 0 rfl rfl 4 (by decide) (hts (.fieldLink RX9 22 "VatHouse" "tape" "[B") (by decide +kernel)) (fun _ h9 => h9) rfl dX9_append_27 ?_
  refine lv_aload_n hx hb dX9_append_30 rfl (lv_at hl 1 rfl) ?_
  refine va_get (D := (dC, dI)) (ci := 9) (v := .int 15) (C := RX9) (T := TX9) (N := 11) hx hb hts inw_X9_append_9 hown hK hP 0 rfl rfl 5 (by decide) (hts (.fieldLink RX9 124 "VatHouse" "tapeLength" "I") (by decide +kernel)) (fun _ h9 => h9) rfl dX9_append_31 ?_
  refine lv_iload_n hx hb dX9_append_34 rfl (lv_at hl 2 rfl) ?_
  refine lv_iload_n hx hb dX9_append_35 rfl (lv_at hl 0 rfl) ?_
  refine lv_ishr hx hb dX9_append_36 ?_
  refine lv_topi (fun z_25 ez_25 => ?_)
  refine lv_i2b (v := (z_25).toInt8.toInt32) hx hb dX9_append_37 rfl ?_
  refine lv_topi (fun z_26 ez_26 => ?_)
  refine va_bast hx hb hK hP hD hS 1 0 rfl rfl (by unfold vp_in; decide) dX9_append_38 (fun H locs hP hD hS => ?_)
  have hP : va_P (dC, dI) vwCl [(h0, .inr (9, [.ref (ad 0), .ref (ad 8), .int 0, .int 0, .ref (ad 9), .int 15, .ref (ad 10), .ref (ad 15), .int 0, .ref (ad 16), .ref (ad 17)])), ((ad 9), .inl ((ca 9), 1500, .inl (upd f_20 (15 : Int32).toNatClampNeg (vp_nar .byte z_26))))] _ := hP
  have hD : va_D _ [(h0, .inr (9, [.ref (ad 0), .ref (ad 8), .int 0, .int 0, .ref (ad 9), .int 15, .ref (ad 10), .ref (ad 15), .int 0, .ref (ad 16), .ref (ad 17)])), ((ad 9), .inl ((ca 9), 1500, .inl (upd f_20 (15 : Int32).toNatClampNeg (vp_nar .byte z_26))))] := hD
  obtain ⟨f_27, ef_27⟩ : ∃ z, z = (upd f_20 (15 : Int32).toNatClampNeg (vp_nar .byte z_26)) := ⟨_, rfl⟩
  rw [← ef_27] at hP hD
  refine lv_aload_n hx hb dX9_append_39 rfl (lv_at hl 1 rfl) ?_
  refine lv_dup hx hb dX9_append_40 rfl ?_
  refine va_get (D := (dC, dI)) (ci := 9) (v := .int 15) (C := RX9) (T := TX9) (N := 11) hx hb hts inw_X9_append_9 hown hK hP 0 rfl rfl 5 (by decide) (hts (.fieldLink RX9 124 "VatHouse" "tapeLength" "I") (by decide +kernel)) (fun _ h9 => h9) rfl dX9_append_41 ?_
  refine lv_iconst (v := 1) hx hb dX9_append_44 (by decide) ?_
  refine lv_iadd hx hb dX9_append_45 ?_
  refine lv_topi (fun z_28 ez_28 => ?_)
  obtain rfl : z_28 = 16 := ez_28.trans (by decide)
  refine va_put (D := (dC, dI)) (ci := 9) (v := .int 16) (ty := .int) (C := RX9) (T := TX9) (N := 11) hx hb hts inw_X9_append_9 tyX9 tyX9_ok nmX9 hown hK hP hD hS 0 rfl rfl 5 (by decide) (hts (.fieldLink RX9 124 "VatHouse" "tapeLength" "I") (by decide +kernel)) (fun _ h9 => h9) rfl (by decide +kernel) rfl rfl (Nat.le_of_ble_eq_true rfl) dX9_append_46 (fun H locs hP hD hS => ?_)
  have hP : va_P (dC, dI) vwCl [(h0, .inr (9, [.ref (ad 0), .ref (ad 8), .int 0, .int 0, .ref (ad 9), .int 16, .ref (ad 10), .ref (ad 15), .int 0, .ref (ad 16), .ref (ad 17)])), ((ad 9), .inl ((ca 9), 1500, .inl f_27))] _ := hP
  have hD : va_D _ [(h0, .inr (9, [.ref (ad 0), .ref (ad 8), .int 0, .int 0, .ref (ad 9), .int 16, .ref (ad 10), .ref (ad 15), .int 0, .ref (ad 16), .ref (ad 17)])), ((ad 9), .inl ((ca 9), 1500, .inl f_27))] := hD
  refine lv_iinc (v := (-8)) (lv' := [(2, .int (-8)), (0, .ref h0), (1, .int n)]) hx hb dX9_append_49 hl (k := 0) rfl (by decide) (by decide) rfl (fun ls hl => ?_)
  refine lv_goto (tgt := 3) hx hb dX9_append_52 (by decide) ?_
  refine lv_iload_n hx hb dX9_append_3 rfl (lv_at hl 0 rfl) ?_
  refine lv_if_lt (tgt := 55) hx hb dX9_append_4 (by decide) (fun c_29 => ?_) (fun c_29 => ?_)
  rotate_left
  · exact absurd c_29 (by decide)
  exact en_v hx hb hr hlocks hP hD hK hS f_27 ⟨rfl, trivial⟩ [0, 1] [] rfl rfl rfl (Nat.le_of_ble_eq_true rfl) (Nat.le_of_ble_eq_true rfl) dX9_append_55

abbrev rm_X9_append_16 : Room := { frames := 0, cells := 0, slots := 0, locals := 0 }
set_option maxHeartbeats 800000 in
set_option maxRecDepth 100000 in
theorem c_X9_append_16 (l : Launch) (dC : Nat → ClassId) (dI : Nat → Nat → Nat) (sa : Nat → Nat) (hlt : l.stackTraces = false) (sz : Nat) (h0 : Nat) (ad : Nat → Nat) (ca : Nat → ClassId) (ft : Nat → Int32) (n : Int32) : CT l dC dI sa yX9_append wsX9_append rm_X9_append_16 [.ref h0, .int n] [(h0, .inr (9, [.ref (ad 0), .ref (ad 8), .int 0, .int 0, .ref (ad 9), .int 16, .ref (ad 10), .ref (ad 15), .int 0, .ref (ad 16), .ref (ad 17)])), ((ad 9), .inl ((ca 9), 1500, .inl ft))] [((ca 9), .byte)] sz (fun (r : Option Value) (g : (Nat → Int32)) => r = none ∧ (True)) (fun (g : (Nat → Int32)) => [(h0, .inr (9, [.ref (ad 0), .ref (ad 8), .int 0, .int 0, .ref (ad 9), .int 20, .ref (ad 10), .ref (ad 15), .int 0, .ref (ad 16), .ref (ad 17)])), ((ad 9), .inl ((ca 9), 1500, .inl g))]) (fun (g : (Nat → Int32)) => []) 0 0 := by
  refine CT.start (cc := cX9_append) (maxL := 3) (ret := none) (by decide) rfl (Nat.le_of_ble_eq_true rfl) ?_
  intro p e s m below meth c ls hst hP hK hD hev hS hl
  obtain ⟨hx, hb, hr, hml, hts, hown, hlocks, hin⟩ := hst
  have hown : s.vm.findClass RX9 = some m.cls := hown
  have hin : meth.name = yX9_append.name := hin
  have hA : ∀ q : Nat, s.heap.size ≤ q → va_A [(h0, .inr (9, [.ref (ad 0), .ref (ad 8), .int 0, .int 0, .ref (ad 9), .int 16, .ref (ad 10), .ref (ad 15), .int 0, .ref (ad 16), .ref (ad 17)])), ((ad 9), .inl ((ca 9), 1500, .inl ft))] s.heap.size q := fun _ h => Or.inr h
  have hl : lv_has ls 3 [(0, .ref h0), (1, .int n)] := hl
  refine lv_bipush (v := 24) hx hb dX9_append_0 (by decide) ?_
  refine lv_istore_n (lv' := [(2, .int 24), (0, .ref h0), (1, .int n)]) hx hb dX9_append_2 rfl hl (by decide) rfl (fun ls hl => ?_)
  refine lv_iload_n hx hb dX9_append_3 rfl (lv_at hl 0 rfl) ?_
  refine lv_if_lt (tgt := 55) hx hb dX9_append_4 (by decide) (fun c_1 => ?_) (fun c_1 => ?_)
  · exact absurd c_1 (by decide)
  refine lv_aload_n hx hb dX9_append_7 rfl (lv_at hl 1 rfl) ?_
  refine va_get (D := (dC, dI)) (ci := 9) (v := .int 16) (C := RX9) (T := TX9) (N := 11) hx hb hts inw_X9_append_9 hown hK hP 0 rfl rfl 5 (by decide) (hts (.fieldLink RX9 124 "VatHouse" "tapeLength" "I") (by decide +kernel)) (fun _ h9 => h9) rfl dX9_append_8 ?_
  refine lv_if_lt (tgt := 49) hx hb dX9_append_11 (by decide) (fun c_2 => ?_) (fun c_2 => ?_)
  · exact absurd c_2 (by decide)
  refine lv_aload_n hx hb dX9_append_14 rfl (lv_at hl 1 rfl) ?_
  refine va_get (D := (dC, dI)) (ci := 9) (v := .int 16) (C := RX9) (T := TX9) (N := 11) hx hb hts inw_X9_append_9 hown hK hP 0 rfl rfl 5 (by decide) (hts (.fieldLink RX9 124 "VatHouse" "tapeLength" "I") (by decide +kernel)) (fun _ h9 => h9) rfl dX9_append_15 ?_
  refine lv_aload_n hx hb dX9_append_18 rfl (lv_at hl 1 rfl) ?_
  refine va_get (D := (dC, dI)) (ci := 9) (v := .ref (ad 9)) (C := RX9) (T := TX9) (N := 11) hx hb hts inw_X9_append_9 hown hK hP 0 rfl rfl 4 (by decide) (hts (.fieldLink RX9 22 "VatHouse" "tape" "[B") (by decide +kernel)) (fun _ h9 => h9) rfl dX9_append_19 ?_
  refine va_alen hx hb hK hP 1 0 rfl rfl (v := 1500) rfl dX9_append_22 ?_
  refine lv_icmp_ge (tgt := 49) hx hb dX9_append_23 (by decide) (fun c_3 => ?_) (fun c_3 => ?_)
  · exact absurd c_3 (by decide)
  refine lv_aload_n hx hb dX9_append_26 rfl (lv_at hl 1 rfl) ?_
  refine va_get (D := (dC, dI)) (ci := 9) (v := .ref (ad 9)) (C := RX9) (T := TX9) (N := 11) hx hb hts inw_X9_append_9 hown hK hP 0 rfl rfl 4 (by decide) (hts (.fieldLink RX9 22 "VatHouse" "tape" "[B") (by decide +kernel)) (fun _ h9 => h9) rfl dX9_append_27 ?_
  refine lv_aload_n hx hb dX9_append_30 rfl (lv_at hl 1 rfl) ?_
  refine va_get (D := (dC, dI)) (ci := 9) (v := .int 16) (C := RX9) (T := TX9) (N := 11) hx hb hts inw_X9_append_9 hown hK hP 0 rfl rfl 5 (by decide) (hts (.fieldLink RX9 124 "VatHouse" "tapeLength" "I") (by decide +kernel)) (fun _ h9 => h9) rfl dX9_append_31 ?_
  refine lv_iload_n hx hb dX9_append_34 rfl (lv_at hl 2 rfl) ?_
  refine lv_iload_n hx hb dX9_append_35 rfl (lv_at hl 0 rfl) ?_
  refine lv_ishr hx hb dX9_append_36 ?_
  refine lv_topi (fun z_4 ez_4 => ?_)
  refine lv_i2b (v := (z_4).toInt8.toInt32) hx hb dX9_append_37 rfl ?_
  refine lv_topi (fun z_5 ez_5 => ?_)
  refine va_bast hx hb hK hP hD hS 1 0 rfl rfl (by unfold vp_in; decide) dX9_append_38 (fun H locs hP hD hS => ?_)
  have hP : va_P (dC, dI) vwCl [(h0, .inr (9, [.ref (ad 0), .ref (ad 8), .int 0, .int 0, .ref (ad 9), .int 16, .ref (ad 10), .ref (ad 15), .int 0, .ref (ad 16), .ref (ad 17)])), ((ad 9), .inl ((ca 9), 1500, .inl (upd ft (16 : Int32).toNatClampNeg (vp_nar .byte z_5))))] _ := hP
  have hD : va_D _ [(h0, .inr (9, [.ref (ad 0), .ref (ad 8), .int 0, .int 0, .ref (ad 9), .int 16, .ref (ad 10), .ref (ad 15), .int 0, .ref (ad 16), .ref (ad 17)])), ((ad 9), .inl ((ca 9), 1500, .inl (upd ft (16 : Int32).toNatClampNeg (vp_nar .byte z_5))))] := hD
  obtain ⟨f_6, ef_6⟩ : ∃ z, z = (upd ft (16 : Int32).toNatClampNeg (vp_nar .byte z_5)) := ⟨_, rfl⟩
  rw [← ef_6] at hP hD
  refine lv_aload_n hx hb dX9_append_39 rfl (lv_at hl 1 rfl) ?_
  refine lv_dup hx hb dX9_append_40 rfl ?_
  refine va_get (D := (dC, dI)) (ci := 9) (v := .int 16) (C := RX9) (T := TX9) (N := 11) hx hb hts inw_X9_append_9 hown hK hP 0 rfl rfl 5 (by decide) (hts (.fieldLink RX9 124 "VatHouse" "tapeLength" "I") (by decide +kernel)) (fun _ h9 => h9) rfl dX9_append_41 ?_
  refine lv_iconst (v := 1) hx hb dX9_append_44 (by decide) ?_
  refine lv_iadd hx hb dX9_append_45 ?_
  refine lv_topi (fun z_7 ez_7 => ?_)
  obtain rfl : z_7 = 17 := ez_7.trans (by decide)
  refine va_put (D := (dC, dI)) (ci := 9) (v := .int 17) (ty := .int) (C := RX9) (T := TX9) (N := 11) hx hb hts inw_X9_append_9 tyX9 tyX9_ok nmX9 hown hK hP hD hS 0 rfl rfl 5 (by decide) (hts (.fieldLink RX9 124 "VatHouse" "tapeLength" "I") (by decide +kernel)) (fun _ h9 => h9) rfl (by decide +kernel) rfl rfl (Nat.le_of_ble_eq_true rfl) dX9_append_46 (fun H locs hP hD hS => ?_)
  have hP : va_P (dC, dI) vwCl [(h0, .inr (9, [.ref (ad 0), .ref (ad 8), .int 0, .int 0, .ref (ad 9), .int 17, .ref (ad 10), .ref (ad 15), .int 0, .ref (ad 16), .ref (ad 17)])), ((ad 9), .inl ((ca 9), 1500, .inl f_6))] _ := hP
  have hD : va_D _ [(h0, .inr (9, [.ref (ad 0), .ref (ad 8), .int 0, .int 0, .ref (ad 9), .int 17, .ref (ad 10), .ref (ad 15), .int 0, .ref (ad 16), .ref (ad 17)])), ((ad 9), .inl ((ca 9), 1500, .inl f_6))] := hD
  refine lv_iinc (v := 16) (lv' := [(2, .int 16), (0, .ref h0), (1, .int n)]) hx hb dX9_append_49 hl (k := 0) rfl (by decide) (by decide) rfl (fun ls hl => ?_)
  refine lv_goto (tgt := 3) hx hb dX9_append_52 (by decide) ?_
  refine lv_iload_n hx hb dX9_append_3 rfl (lv_at hl 0 rfl) ?_
  refine lv_if_lt (tgt := 55) hx hb dX9_append_4 (by decide) (fun c_8 => ?_) (fun c_8 => ?_)
  · exact absurd c_8 (by decide)
  refine lv_aload_n hx hb dX9_append_7 rfl (lv_at hl 1 rfl) ?_
  refine va_get (D := (dC, dI)) (ci := 9) (v := .int 17) (C := RX9) (T := TX9) (N := 11) hx hb hts inw_X9_append_9 hown hK hP 0 rfl rfl 5 (by decide) (hts (.fieldLink RX9 124 "VatHouse" "tapeLength" "I") (by decide +kernel)) (fun _ h9 => h9) rfl dX9_append_8 ?_
  refine lv_if_lt (tgt := 49) hx hb dX9_append_11 (by decide) (fun c_9 => ?_) (fun c_9 => ?_)
  · exact absurd c_9 (by decide)
  refine lv_aload_n hx hb dX9_append_14 rfl (lv_at hl 1 rfl) ?_
  refine va_get (D := (dC, dI)) (ci := 9) (v := .int 17) (C := RX9) (T := TX9) (N := 11) hx hb hts inw_X9_append_9 hown hK hP 0 rfl rfl 5 (by decide) (hts (.fieldLink RX9 124 "VatHouse" "tapeLength" "I") (by decide +kernel)) (fun _ h9 => h9) rfl dX9_append_15 ?_
  refine lv_aload_n hx hb dX9_append_18 rfl (lv_at hl 1 rfl) ?_
  refine va_get (D := (dC, dI)) (ci := 9) (v := .ref (ad 9)) (C := RX9) (T := TX9) (N := 11) hx hb hts inw_X9_append_9 hown hK hP 0 rfl rfl 4 (by decide) (hts (.fieldLink RX9 22 "VatHouse" "tape" "[B") (by decide +kernel)) (fun _ h9 => h9) rfl dX9_append_19 ?_
  refine va_alen hx hb hK hP 1 0 rfl rfl (v := 1500) rfl dX9_append_22 ?_
  refine lv_icmp_ge (tgt := 49) hx hb dX9_append_23 (by decide) (fun c_10 => ?_) (fun c_10 => ?_)
  · exact absurd c_10 (by decide)
  refine lv_aload_n hx hb dX9_append_26 rfl (lv_at hl 1 rfl) ?_
  refine va_get (D := (dC, dI)) (ci := 9) (v := .ref (ad 9)) (C := RX9) (T := TX9) (N := 11) hx hb hts inw_X9_append_9 hown hK hP 0 rfl rfl 4 (by decide) (hts (.fieldLink RX9 22 "VatHouse" "tape" "[B") (by decide +kernel)) (fun _ h9 => h9) rfl dX9_append_27 ?_
  refine lv_aload_n hx hb dX9_append_30 rfl (lv_at hl 1 rfl) ?_
  refine va_get (D := (dC, dI)) (ci := 9) (v := .int 17) (C := RX9) (T := TX9) (N := 11) hx hb hts inw_X9_append_9 hown hK hP 0 rfl rfl 5 (by decide) (hts (.fieldLink RX9 124 "VatHouse" "tapeLength" "I") (by decide +kernel)) (fun _ h9 => h9) rfl dX9_append_31 ?_
  refine lv_iload_n hx hb dX9_append_34 rfl (lv_at hl 2 rfl) ?_
  refine lv_iload_n hx hb dX9_append_35 rfl (lv_at hl 0 rfl) ?_
  refine lv_ishr hx hb dX9_append_36 ?_
  refine lv_topi (fun z_11 ez_11 => ?_)
  refine lv_i2b (v := (z_11).toInt8.toInt32) hx hb dX9_append_37 rfl ?_
  refine lv_topi (fun z_12 ez_12 => ?_)
  refine va_bast hx hb hK hP hD hS 1 0 rfl rfl (by unfold vp_in; decide) dX9_append_38 (fun H locs hP hD hS => ?_)
  have hP : va_P (dC, dI) vwCl [(h0, .inr (9, [.ref (ad 0), .ref (ad 8), .int 0, .int 0, .ref (ad 9), .int 17, .ref (ad 10), .ref (ad 15), .int 0, .ref (ad 16), .ref (ad 17)])), ((ad 9), .inl ((ca 9), 1500, .inl (upd f_6 (17 : Int32).toNatClampNeg (vp_nar .byte z_12))))] _ := hP
  have hD : va_D _ [(h0, .inr (9, [.ref (ad 0), .ref (ad 8), .int 0, .int 0, .ref (ad 9), .int 17, .ref (ad 10), .ref (ad 15), .int 0, .ref (ad 16), .ref (ad 17)])), ((ad 9), .inl ((ca 9), 1500, .inl (upd f_6 (17 : Int32).toNatClampNeg (vp_nar .byte z_12))))] := hD
  obtain ⟨f_13, ef_13⟩ : ∃ z, z = (upd f_6 (17 : Int32).toNatClampNeg (vp_nar .byte z_12)) := ⟨_, rfl⟩
  rw [← ef_13] at hP hD
  refine lv_aload_n hx hb dX9_append_39 rfl (lv_at hl 1 rfl) ?_
  refine lv_dup hx hb dX9_append_40 rfl ?_
  refine va_get (D := (dC, dI)) (ci := 9) (v := .int 17) (C := RX9) (T := TX9) (N := 11) hx hb hts inw_X9_append_9 hown hK hP 0 rfl rfl 5 (by decide) (hts (.fieldLink RX9 124 "VatHouse" "tapeLength" "I") (by decide +kernel)) (fun _ h9 => h9) rfl dX9_append_41 ?_
  refine lv_iconst (v := 1) hx hb dX9_append_44 (by decide) ?_
  refine lv_iadd hx hb dX9_append_45 ?_
  refine lv_topi (fun z_14 ez_14 => ?_)
  obtain rfl : z_14 = 18 := ez_14.trans (by decide)
  refine va_put (D := (dC, dI)) (ci := 9) (v := .int 18) (ty := .int) (C := RX9) (T := TX9) (N := 11) hx hb hts inw_X9_append_9 tyX9 tyX9_ok nmX9 hown hK hP hD hS 0 rfl rfl 5 (by decide) (hts (.fieldLink RX9 124 "VatHouse" "tapeLength" "I") (by decide +kernel)) (fun _ h9 => h9) rfl (by decide +kernel) rfl rfl (Nat.le_of_ble_eq_true rfl) dX9_append_46 (fun H locs hP hD hS => ?_)
  have hP : va_P (dC, dI) vwCl [(h0, .inr (9, [.ref (ad 0), .ref (ad 8), .int 0, .int 0, .ref (ad 9), .int 18, .ref (ad 10), .ref (ad 15), .int 0, .ref (ad 16), .ref (ad 17)])), ((ad 9), .inl ((ca 9), 1500, .inl f_13))] _ := hP
  have hD : va_D _ [(h0, .inr (9, [.ref (ad 0), .ref (ad 8), .int 0, .int 0, .ref (ad 9), .int 18, .ref (ad 10), .ref (ad 15), .int 0, .ref (ad 16), .ref (ad 17)])), ((ad 9), .inl ((ca 9), 1500, .inl f_13))] := hD
  refine lv_iinc (v := 8) (lv' := [(2, .int 8), (0, .ref h0), (1, .int n)]) hx hb dX9_append_49 hl (k := 0) rfl (by decide) (by decide) rfl (fun ls hl => ?_)
  refine lv_goto (tgt := 3) hx hb dX9_append_52 (by decide) ?_
  refine lv_iload_n hx hb dX9_append_3 rfl (lv_at hl 0 rfl) ?_
  refine lv_if_lt (tgt := 55) hx hb dX9_append_4 (by decide) (fun c_15 => ?_) (fun c_15 => ?_)
  · exact absurd c_15 (by decide)
  refine lv_aload_n hx hb dX9_append_7 rfl (lv_at hl 1 rfl) ?_
  refine va_get (D := (dC, dI)) (ci := 9) (v := .int 18) (C := RX9) (T := TX9) (N := 11) hx hb hts inw_X9_append_9 hown hK hP 0 rfl rfl 5 (by decide) (hts (.fieldLink RX9 124 "VatHouse" "tapeLength" "I") (by decide +kernel)) (fun _ h9 => h9) rfl dX9_append_8 ?_
  refine lv_if_lt (tgt := 49) hx hb dX9_append_11 (by decide) (fun c_16 => ?_) (fun c_16 => ?_)
  · exact absurd c_16 (by decide)
  refine lv_aload_n hx hb dX9_append_14 rfl (lv_at hl 1 rfl) ?_
  refine va_get (D := (dC, dI)) (ci := 9) (v := .int 18) (C := RX9) (T := TX9) (N := 11) hx hb hts inw_X9_append_9 hown hK hP 0 rfl rfl 5 (by decide) (hts (.fieldLink RX9 124 "VatHouse" "tapeLength" "I") (by decide +kernel)) (fun _ h9 => h9) rfl dX9_append_15 ?_
  refine lv_aload_n hx hb dX9_append_18 rfl (lv_at hl 1 rfl) ?_
  refine va_get (D := (dC, dI)) (ci := 9) (v := .ref (ad 9)) (C := RX9) (T := TX9) (N := 11) hx hb hts inw_X9_append_9 hown hK hP 0 rfl rfl 4 (by decide) (hts (.fieldLink RX9 22 "VatHouse" "tape" "[B") (by decide +kernel)) (fun _ h9 => h9) rfl dX9_append_19 ?_
  refine va_alen hx hb hK hP 1 0 rfl rfl (v := 1500) rfl dX9_append_22 ?_
  refine lv_icmp_ge (tgt := 49) hx hb dX9_append_23 (by decide) (fun c_17 => ?_) (fun c_17 => ?_)
  · exact absurd c_17 (by decide)
  refine lv_aload_n hx hb dX9_append_26 rfl (lv_at hl 1 rfl) ?_
  refine va_get (D := (dC, dI)) (ci := 9) (v := .ref (ad 9)) (C := RX9) (T := TX9) (N := 11) hx hb hts inw_X9_append_9 hown hK hP 0 rfl rfl 4 (by decide) (hts (.fieldLink RX9 22 "VatHouse" "tape" "[B") (by decide +kernel)) (fun _ h9 => h9) rfl dX9_append_27 ?_
  refine lv_aload_n hx hb dX9_append_30 rfl (lv_at hl 1 rfl) ?_
  refine va_get (D := (dC, dI)) (ci := 9) (v := .int 18) (C := RX9) (T := TX9) (N := 11) hx hb hts inw_X9_append_9 hown hK hP 0 rfl rfl 5 (by decide) (hts (.fieldLink RX9 124 "VatHouse" "tapeLength" "I") (by decide +kernel)) (fun _ h9 => h9) rfl dX9_append_31 ?_
  refine lv_iload_n hx hb dX9_append_34 rfl (lv_at hl 2 rfl) ?_
  refine lv_iload_n hx hb dX9_append_35 rfl (lv_at hl 0 rfl) ?_
  refine lv_ishr hx hb dX9_append_36 ?_
  refine lv_topi (fun z_18 ez_18 => ?_)
  refine lv_i2b (v := (z_18).toInt8.toInt32) hx hb dX9_append_37 rfl ?_
  refine lv_topi (fun z_19 ez_19 => ?_)
  refine va_bast hx hb hK hP hD hS 1 0 rfl rfl (by unfold vp_in; decide) dX9_append_38 (fun H locs hP hD hS => ?_)
  have hP : va_P (dC, dI) vwCl [(h0, .inr (9, [.ref (ad 0), .ref (ad 8), .int 0, .int 0, .ref (ad 9), .int 18, .ref (ad 10), .ref (ad 15), .int 0, .ref (ad 16), .ref (ad 17)])), ((ad 9), .inl ((ca 9), 1500, .inl (upd f_13 (18 : Int32).toNatClampNeg (vp_nar .byte z_19))))] _ := hP
  have hD : va_D _ [(h0, .inr (9, [.ref (ad 0), .ref (ad 8), .int 0, .int 0, .ref (ad 9), .int 18, .ref (ad 10), .ref (ad 15), .int 0, .ref (ad 16), .ref (ad 17)])), ((ad 9), .inl ((ca 9), 1500, .inl (upd f_13 (18 : Int32).toNatClampNeg (vp_nar .byte z_19))))] := hD
  obtain ⟨f_20, ef_20⟩ : ∃ z, z = (upd f_13 (18 : Int32).toNatClampNeg (vp_nar .byte z_19)) := ⟨_, rfl⟩
  rw [← ef_20] at hP hD
  refine lv_aload_n hx hb dX9_append_39 rfl (lv_at hl 1 rfl) ?_
  refine lv_dup hx hb dX9_append_40 rfl ?_
  refine va_get (D := (dC, dI)) (ci := 9) (v := .int 18) (C := RX9) (T := TX9) (N := 11) hx hb hts inw_X9_append_9 hown hK hP 0 rfl rfl 5 (by decide) (hts (.fieldLink RX9 124 "VatHouse" "tapeLength" "I") (by decide +kernel)) (fun _ h9 => h9) rfl dX9_append_41 ?_
  refine lv_iconst (v := 1) hx hb dX9_append_44 (by decide) ?_
  refine lv_iadd hx hb dX9_append_45 ?_
  refine lv_topi (fun z_21 ez_21 => ?_)
  obtain rfl : z_21 = 19 := ez_21.trans (by decide)
  refine va_put (D := (dC, dI)) (ci := 9) (v := .int 19) (ty := .int) (C := RX9) (T := TX9) (N := 11) hx hb hts inw_X9_append_9 tyX9 tyX9_ok nmX9 hown hK hP hD hS 0 rfl rfl 5 (by decide) (hts (.fieldLink RX9 124 "VatHouse" "tapeLength" "I") (by decide +kernel)) (fun _ h9 => h9) rfl (by decide +kernel) rfl rfl (Nat.le_of_ble_eq_true rfl) dX9_append_46 (fun H locs hP hD hS => ?_)
  have hP : va_P (dC, dI) vwCl [(h0, .inr (9, [.ref (ad 0), .ref (ad 8), .int 0, .int 0, .ref (ad 9), .int 19, .ref (ad 10), .ref (ad 15), .int 0, .ref (ad 16), .ref (ad 17)])), ((ad 9), .inl ((ca 9), 1500, .inl f_20))] _ := hP
  have hD : va_D _ [(h0, .inr (9, [.ref (ad 0), .ref (ad 8), .int 0, .int 0, .ref (ad 9), .int 19, .ref (ad 10), .ref (ad 15), .int 0, .ref (ad 16), .ref (ad 17)])), ((ad 9), .inl ((ca 9), 1500, .inl f_20))] := hD
  refine lv_iinc (v := 0) (lv' := [(2, .int 0), (0, .ref h0), (1, .int n)]) hx hb dX9_append_49 hl (k := 0) rfl (by decide) (by decide) rfl (fun ls hl => ?_)
  refine lv_goto (tgt := 3) hx hb dX9_append_52 (by decide) ?_
  refine lv_iload_n hx hb dX9_append_3 rfl (lv_at hl 0 rfl) ?_
  refine lv_if_lt (tgt := 55) hx hb dX9_append_4 (by decide) (fun c_22 => ?_) (fun c_22 => ?_)
  · exact absurd c_22 (by decide)
  refine lv_aload_n hx hb dX9_append_7 rfl (lv_at hl 1 rfl) ?_
  refine va_get (D := (dC, dI)) (ci := 9) (v := .int 19) (C := RX9) (T := TX9) (N := 11) hx hb hts inw_X9_append_9 hown hK hP 0 rfl rfl 5 (by decide) (hts (.fieldLink RX9 124 "VatHouse" "tapeLength" "I") (by decide +kernel)) (fun _ h9 => h9) rfl dX9_append_8 ?_
  refine lv_if_lt (tgt := 49) hx hb dX9_append_11 (by decide) (fun c_23 => ?_) (fun c_23 => ?_)
  · exact absurd c_23 (by decide)
  refine lv_aload_n hx hb dX9_append_14 rfl (lv_at hl 1 rfl) ?_
  refine va_get (D := (dC, dI)) (ci := 9) (v := .int 19) (C := RX9) (T := TX9) (N := 11) hx hb hts inw_X9_append_9 hown hK hP 0 rfl rfl 5 (by decide) (hts (.fieldLink RX9 124 "VatHouse" "tapeLength" "I") (by decide +kernel)) (fun _ h9 => h9) rfl dX9_append_15 ?_
  refine lv_aload_n hx hb dX9_append_18 rfl (lv_at hl 1 rfl) ?_
  refine va_get (D := (dC, dI)) (ci := 9) (v := .ref (ad 9)) (C := RX9) (T := TX9) (N := 11) hx hb hts inw_X9_append_9 hown hK hP 0 rfl rfl 4 (by decide) (hts (.fieldLink RX9 22 "VatHouse" "tape" "[B") (by decide +kernel)) (fun _ h9 => h9) rfl dX9_append_19 ?_
  refine va_alen hx hb hK hP 1 0 rfl rfl (v := 1500) rfl dX9_append_22 ?_
  refine lv_icmp_ge (tgt := 49) hx hb dX9_append_23 (by decide) (fun c_24 => ?_) (fun c_24 => ?_)
  · exact absurd c_24 (by decide)
  refine lv_aload_n hx hb dX9_append_26 rfl (lv_at hl 1 rfl) ?_
  refine va_get (D := (dC, dI)) (ci := 9) (v := .ref (ad 9)) (C := RX9) (T := TX9) (N := 11) hx hb hts inw_X9_append_9 hown hK hP 0 rfl rfl 4 (by decide) (hts (.fieldLink RX9 22 "VatHouse" "tape" "[B") (by decide +kernel)) (fun _ h9 => h9) rfl dX9_append_27 ?_
  refine lv_aload_n hx hb dX9_append_30 rfl (lv_at hl 1 rfl) ?_
  refine va_get (D := (dC, dI)) (ci := 9) (v := .int 19) (C := RX9) (T := TX9) (N := 11) hx hb hts inw_X9_append_9 hown hK hP 0 rfl rfl 5 (by decide) (hts (.fieldLink RX9 124 "VatHouse" "tapeLength" "I") (by decide +kernel)) (fun _ h9 => h9) rfl dX9_append_31 ?_
  refine lv_iload_n hx hb dX9_append_34 rfl (lv_at hl 2 rfl) ?_
  refine lv_iload_n hx hb dX9_append_35 rfl (lv_at hl 0 rfl) ?_
  refine lv_ishr hx hb dX9_append_36 ?_
  refine lv_topi (fun z_25 ez_25 => ?_)
  refine lv_i2b (v := (z_25).toInt8.toInt32) hx hb dX9_append_37 rfl ?_
  refine lv_topi (fun z_26 ez_26 => ?_)
  refine va_bast hx hb hK hP hD hS 1 0 rfl rfl (by unfold vp_in; decide) dX9_append_38 (fun H locs hP hD hS => ?_)
  have hP : va_P (dC, dI) vwCl [(h0, .inr (9, [.ref (ad 0), .ref (ad 8), .int 0, .int 0, .ref (ad 9), .int 19, .ref (ad 10), .ref (ad 15), .int 0, .ref (ad 16), .ref (ad 17)])), ((ad 9), .inl ((ca 9), 1500, .inl (upd f_20 (19 : Int32).toNatClampNeg (vp_nar .byte z_26))))] _ := hP
  have hD : va_D _ [(h0, .inr (9, [.ref (ad 0), .ref (ad 8), .int 0, .int 0, .ref (ad 9), .int 19, .ref (ad 10), .ref (ad 15), .int 0, .ref (ad 16), .ref (ad 17)])), ((ad 9), .inl ((ca 9), 1500, .inl (upd f_20 (19 : Int32).toNatClampNeg (vp_nar .byte z_26))))] := hD
  obtain ⟨f_27, ef_27⟩ : ∃ z, z = (upd f_20 (19 : Int32).toNatClampNeg (vp_nar .byte z_26)) := ⟨_, rfl⟩
  rw [← ef_27] at hP hD
  refine lv_aload_n hx hb dX9_append_39 rfl (lv_at hl 1 rfl) ?_
  refine lv_dup hx hb dX9_append_40 rfl ?_
  refine va_get (D := (dC, dI)) (ci := 9) (v := .int 19) (C := RX9) (T := TX9) (N := 11) hx hb hts inw_X9_append_9 hown hK hP 0 rfl rfl 5 (by decide) (hts (.fieldLink RX9 124 "VatHouse" "tapeLength" "I") (by decide +kernel)) (fun _ h9 => h9) rfl dX9_append_41 ?_
  refine lv_iconst (v := 1) hx hb dX9_append_44 (by decide) ?_
  refine lv_iadd hx hb dX9_append_45 ?_
  refine lv_topi (fun z_28 ez_28 => ?_)
  obtain rfl : z_28 = 20 := ez_28.trans (by decide)
  refine va_put (D := (dC, dI)) (ci := 9) (v := .int 20) (ty := .int) (C := RX9) (T := TX9) (N := 11) hx hb hts inw_X9_append_9 tyX9 tyX9_ok nmX9 hown hK hP hD hS 0 rfl rfl 5 (by decide) (hts (.fieldLink RX9 124 "VatHouse" "tapeLength" "I") (by decide +kernel)) (fun _ h9 => h9) rfl (by decide +kernel) rfl rfl (Nat.le_of_ble_eq_true rfl) dX9_append_46 (fun H locs hP hD hS => ?_)
  have hP : va_P (dC, dI) vwCl [(h0, .inr (9, [.ref (ad 0), .ref (ad 8), .int 0, .int 0, .ref (ad 9), .int 20, .ref (ad 10), .ref (ad 15), .int 0, .ref (ad 16), .ref (ad 17)])), ((ad 9), .inl ((ca 9), 1500, .inl f_27))] _ := hP
  have hD : va_D _ [(h0, .inr (9, [.ref (ad 0), .ref (ad 8), .int 0, .int 0, .ref (ad 9), .int 20, .ref (ad 10), .ref (ad 15), .int 0, .ref (ad 16), .ref (ad 17)])), ((ad 9), .inl ((ca 9), 1500, .inl f_27))] := hD
  refine lv_iinc (v := (-8)) (lv' := [(2, .int (-8)), (0, .ref h0), (1, .int n)]) hx hb dX9_append_49 hl (k := 0) rfl (by decide) (by decide) rfl (fun ls hl => ?_)
  refine lv_goto (tgt := 3) hx hb dX9_append_52 (by decide) ?_
  refine lv_iload_n hx hb dX9_append_3 rfl (lv_at hl 0 rfl) ?_
  refine lv_if_lt (tgt := 55) hx hb dX9_append_4 (by decide) (fun c_29 => ?_) (fun c_29 => ?_)
  rotate_left
  · exact absurd c_29 (by decide)
  exact en_v hx hb hr hlocks hP hD hK hS f_27 ⟨rfl, trivial⟩ [0, 1] [] rfl rfl rfl (Nat.le_of_ble_eq_true rfl) (Nat.le_of_ble_eq_true rfl) dX9_append_55

abbrev rm_X9_put : Room := { frames := 1, cells := 0, slots := 0, locals := 22 }
theorem inw_X9_put_9 : ∀ w ∈ wsX90, w ∈ wsX9_put := by decide +kernel
set_option maxHeartbeats 800000 in
set_option maxRecDepth 100000 in
theorem c_X9_put (l : Launch) (dC : Nat → ClassId) (dI : Nat → Nat → Nat) (sa : Nat → Nat) (hlt : l.stackTraces = false) (sz : Nat) (h0 : Nat) (ad : Nat → Nat) (ca : Nat → ClassId) (p0 : Int32) (p1 : Int32) (p2 : Int32) (p3 : Int32) (p4 : Int32) : CT l dC dI sa yX9_put wsX9_put rm_X9_put [.ref h0, .int p0, .int p1, .int p2, .int p3, .int p4] [(h0, .inr (9, [.ref (ad 0), .ref (ad 8), .int 0, .int 0, .ref (ad 9), .int 0, .ref (ad 10), .ref (ad 15), .int 0, .ref (ad 16), .ref (ad 17)])), ((ad 9), .inl ((ca 9), 1500, .inl (fun _ => 0)))] [((ca 9), .byte)] sz (fun (r : Option Value) (_ : Unit) => r = some (.int 20) ∧ (True)) (fun (_ : Unit) => []) (fun (_ : Unit) => []) 0 0 := by
  refine CT.start (cc := cX9_put) (maxL := 6) (ret := (some .int)) (by decide) rfl (Nat.le_of_ble_eq_true rfl) ?_
  intro p e s m below meth c ls hst hP hK hD hev hS hl
  obtain ⟨hx, hb, hr, hml, hts, hown, hlocks, hin⟩ := hst
  have hown : s.vm.findClass RX9 = some m.cls := hown
  have hin : meth.name = yX9_put.name := hin
  have hA : ∀ q : Nat, s.heap.size ≤ q → va_A [(h0, .inr (9, [.ref (ad 0), .ref (ad 8), .int 0, .int 0, .ref (ad 9), .int 0, .ref (ad 10), .ref (ad 15), .int 0, .ref (ad 16), .ref (ad 17)])), ((ad 9), .inl ((ca 9), 1500, .inl (fun _ => 0)))] s.heap.size q := fun _ h => Or.inr h
  have hl : lv_has ls 6 [(0, .ref h0), (1, .int p0), (2, .int p1), (3, .int p2), (4, .int p3), (5, .int p4)] := hl
  refine lv_aload_n hx hb dX9_put_0 rfl (lv_at hl 0 rfl) ?_
  refine va_get (D := (dC, dI)) (ci := 9) (v := .int 0) (C := RX9) (T := TX9) (N := 11) hx hb hts inw_X9_put_9 hown hK hP 0 rfl rfl 5 (by decide) (hts (.fieldLink RX9 124 "VatHouse" "tapeLength" "I") (by decide +kernel)) (fun _ h9 => h9) rfl dX9_put_1 ?_
  refine lv_aload_n hx hb dX9_put_4 rfl (lv_at hl 0 rfl) ?_
  refine va_get (D := (dC, dI)) (ci := 9) (v := .ref (ad 9)) (C := RX9) (T := TX9) (N := 11) hx hb hts inw_X9_put_9 hown hK hP 0 rfl rfl 4 (by decide) (hts (.fieldLink RX9 22 "VatHouse" "tape" "[B") (by decide +kernel)) (fun _ h9 => h9) rfl dX9_put_5 ?_
  refine va_alen hx hb hK hP 1 0 rfl rfl (v := 1500) rfl dX9_put_8 ?_
  refine lv_bipush (v := 20) hx hb dX9_put_9 (by decide) ?_
  refine lv_isub hx hb dX9_put_11 ?_
  refine lv_topi (fun z_1 ez_1 => ?_)
  obtain rfl : z_1 = 1480 := ez_1.trans (by decide)
  refine lv_icmp_le (tgt := 17) hx hb dX9_put_12 (by decide) (fun c_2 => ?_) (fun c_2 => ?_)
  rotate_left
  · exact absurd c_2 (by decide)
  refine lv_aload_n hx hb dX9_put_17 rfl (lv_at hl 0 rfl) ?_
  refine lv_iload_n hx hb dX9_put_18 rfl (lv_at hl 1 rfl) ?_
  refine go_V (wr := []) ⟨hx, hb, hml, hown, hts⟩ (c_X9_append_0 l dC dI sa hlt _ h0 ad ca (fun _ => 0) p0 ) (cwV 1 hts gX9_put_X9_append rfl rfl rfl (by decide +kernel) ⟨Nat.le_of_ble_eq_true rfl, Nat.le_of_ble_eq_true rfl⟩) hP hD hK hS hA hev [0, 1] [] [0] rfl rfl rfl rfl (by decide) rfl 0 9 rfl rfl rfl rfl hl.1 rfl (Nat.le_of_ble_eq_true rfl) dX9_put_19 ⟨Nat.le_of_ble_eq_true rfl, Nat.le_of_ble_eq_true rfl⟩ (fun r u H locs hw hP hD hK hS => ?_)
  obtain ⟨g_3, rfl⟩ : ∃ z, z = u := ⟨_, rfl⟩
  have hw : r = none ∧ (True) := hw
  obtain ⟨rfl, hw_4⟩ := hw
  have hP : va_P (dC, dI) vwCl [(h0, .inr (9, [.ref (ad 0), .ref (ad 8), .int 0, .int 0, .ref (ad 9), .int 4, .ref (ad 10), .ref (ad 15), .int 0, .ref (ad 16), .ref (ad 17)])), ((ad 9), .inl ((ca 9), 1500, .inl g_3))] _ := hP
  have hD : va_D _ [(h0, .inr (9, [.ref (ad 0), .ref (ad 8), .int 0, .int 0, .ref (ad 9), .int 4, .ref (ad 10), .ref (ad 15), .int 0, .ref (ad 16), .ref (ad 17)])), ((ad 9), .inl ((ca 9), 1500, .inl g_3))] := hD
  have hK : va_K (dC, dI) vwCl [((ca 9), .byte)] s := hK
  refine W.eq (g2 := F0 m 22 ls []) rfl ?_
  refine lv_aload_n hx hb dX9_put_22 rfl (lv_at hl 0 rfl) ?_
  refine lv_iload_n hx hb dX9_put_23 rfl (lv_at hl 2 rfl) ?_
  refine go_V (wr := []) ⟨hx, hb, hml, hown, hts⟩ (c_X9_append_4 l dC dI sa hlt _ h0 ad ca g_3 p1 ) (cwV 1 hts gX9_put_X9_append rfl rfl rfl (by decide +kernel) ⟨Nat.le_of_ble_eq_true rfl, Nat.le_of_ble_eq_true rfl⟩) hP hD hK hS hA hev [0, 1] [] [0] rfl rfl rfl rfl (by decide) rfl 0 9 rfl rfl rfl rfl hl.1 rfl (Nat.le_of_ble_eq_true rfl) dX9_put_24 ⟨Nat.le_of_ble_eq_true rfl, Nat.le_of_ble_eq_true rfl⟩ (fun r u H locs hw hP hD hK hS => ?_)
  obtain ⟨g_5, rfl⟩ : ∃ z, z = u := ⟨_, rfl⟩
  have hw : r = none ∧ (True) := hw
  obtain ⟨rfl, hw_6⟩ := hw
  have hP : va_P (dC, dI) vwCl [(h0, .inr (9, [.ref (ad 0), .ref (ad 8), .int 0, .int 0, .ref (ad 9), .int 8, .ref (ad 10), .ref (ad 15), .int 0, .ref (ad 16), .ref (ad 17)])), ((ad 9), .inl ((ca 9), 1500, .inl g_5))] _ := hP
  have hD : va_D _ [(h0, .inr (9, [.ref (ad 0), .ref (ad 8), .int 0, .int 0, .ref (ad 9), .int 8, .ref (ad 10), .ref (ad 15), .int 0, .ref (ad 16), .ref (ad 17)])), ((ad 9), .inl ((ca 9), 1500, .inl g_5))] := hD
  have hK : va_K (dC, dI) vwCl [((ca 9), .byte)] s := hK
  refine W.eq (g2 := F0 m 27 ls []) rfl ?_
  refine lv_aload_n hx hb dX9_put_27 rfl (lv_at hl 0 rfl) ?_
  refine lv_iload_n hx hb dX9_put_28 rfl (lv_at hl 3 rfl) ?_
  refine go_V (wr := []) ⟨hx, hb, hml, hown, hts⟩ (c_X9_append_8 l dC dI sa hlt _ h0 ad ca g_5 p2 ) (cwV 1 hts gX9_put_X9_append rfl rfl rfl (by decide +kernel) ⟨Nat.le_of_ble_eq_true rfl, Nat.le_of_ble_eq_true rfl⟩) hP hD hK hS hA hev [0, 1] [] [0] rfl rfl rfl rfl (by decide) rfl 0 9 rfl rfl rfl rfl hl.1 rfl (Nat.le_of_ble_eq_true rfl) dX9_put_29 ⟨Nat.le_of_ble_eq_true rfl, Nat.le_of_ble_eq_true rfl⟩ (fun r u H locs hw hP hD hK hS => ?_)
  obtain ⟨g_7, rfl⟩ : ∃ z, z = u := ⟨_, rfl⟩
  have hw : r = none ∧ (True) := hw
  obtain ⟨rfl, hw_8⟩ := hw
  have hP : va_P (dC, dI) vwCl [(h0, .inr (9, [.ref (ad 0), .ref (ad 8), .int 0, .int 0, .ref (ad 9), .int 12, .ref (ad 10), .ref (ad 15), .int 0, .ref (ad 16), .ref (ad 17)])), ((ad 9), .inl ((ca 9), 1500, .inl g_7))] _ := hP
  have hD : va_D _ [(h0, .inr (9, [.ref (ad 0), .ref (ad 8), .int 0, .int 0, .ref (ad 9), .int 12, .ref (ad 10), .ref (ad 15), .int 0, .ref (ad 16), .ref (ad 17)])), ((ad 9), .inl ((ca 9), 1500, .inl g_7))] := hD
  have hK : va_K (dC, dI) vwCl [((ca 9), .byte)] s := hK
  refine W.eq (g2 := F0 m 32 ls []) rfl ?_
  refine lv_aload_n hx hb dX9_put_32 rfl (lv_at hl 0 rfl) ?_
  refine lv_iload hx hb dX9_put_33 (lv_at hl 4 rfl) ?_
  refine go_V (wr := []) ⟨hx, hb, hml, hown, hts⟩ (c_X9_append_12 l dC dI sa hlt _ h0 ad ca g_7 p3 ) (cwV 1 hts gX9_put_X9_append rfl rfl rfl (by decide +kernel) ⟨Nat.le_of_ble_eq_true rfl, Nat.le_of_ble_eq_true rfl⟩) hP hD hK hS hA hev [0, 1] [] [0] rfl rfl rfl rfl (by decide) rfl 0 9 rfl rfl rfl rfl hl.1 rfl (Nat.le_of_ble_eq_true rfl) dX9_put_35 ⟨Nat.le_of_ble_eq_true rfl, Nat.le_of_ble_eq_true rfl⟩ (fun r u H locs hw hP hD hK hS => ?_)
  obtain ⟨g_9, rfl⟩ : ∃ z, z = u := ⟨_, rfl⟩
  have hw : r = none ∧ (True) := hw
  obtain ⟨rfl, hw_10⟩ := hw
  have hP : va_P (dC, dI) vwCl [(h0, .inr (9, [.ref (ad 0), .ref (ad 8), .int 0, .int 0, .ref (ad 9), .int 16, .ref (ad 10), .ref (ad 15), .int 0, .ref (ad 16), .ref (ad 17)])), ((ad 9), .inl ((ca 9), 1500, .inl g_9))] _ := hP
  have hD : va_D _ [(h0, .inr (9, [.ref (ad 0), .ref (ad 8), .int 0, .int 0, .ref (ad 9), .int 16, .ref (ad 10), .ref (ad 15), .int 0, .ref (ad 16), .ref (ad 17)])), ((ad 9), .inl ((ca 9), 1500, .inl g_9))] := hD
  have hK : va_K (dC, dI) vwCl [((ca 9), .byte)] s := hK
  refine W.eq (g2 := F0 m 38 ls []) rfl ?_
  refine lv_aload_n hx hb dX9_put_38 rfl (lv_at hl 0 rfl) ?_
  refine lv_iload hx hb dX9_put_39 (lv_at hl 5 rfl) ?_
  refine go_V (wr := []) ⟨hx, hb, hml, hown, hts⟩ (c_X9_append_16 l dC dI sa hlt _ h0 ad ca g_9 p4 ) (cwV 1 hts gX9_put_X9_append rfl rfl rfl (by decide +kernel) ⟨Nat.le_of_ble_eq_true rfl, Nat.le_of_ble_eq_true rfl⟩) hP hD hK hS hA hev [0, 1] [] [0] rfl rfl rfl rfl (by decide) rfl 0 9 rfl rfl rfl rfl hl.1 rfl (Nat.le_of_ble_eq_true rfl) dX9_put_41 ⟨Nat.le_of_ble_eq_true rfl, Nat.le_of_ble_eq_true rfl⟩ (fun r u H locs hw hP hD hK hS => ?_)
  obtain ⟨g_11, rfl⟩ : ∃ z, z = u := ⟨_, rfl⟩
  have hw : r = none ∧ (True) := hw
  obtain ⟨rfl, hw_12⟩ := hw
  have hP : va_P (dC, dI) vwCl [(h0, .inr (9, [.ref (ad 0), .ref (ad 8), .int 0, .int 0, .ref (ad 9), .int 20, .ref (ad 10), .ref (ad 15), .int 0, .ref (ad 16), .ref (ad 17)])), ((ad 9), .inl ((ca 9), 1500, .inl g_11))] _ := hP
  have hD : va_D _ [(h0, .inr (9, [.ref (ad 0), .ref (ad 8), .int 0, .int 0, .ref (ad 9), .int 20, .ref (ad 10), .ref (ad 15), .int 0, .ref (ad 16), .ref (ad 17)])), ((ad 9), .inl ((ca 9), 1500, .inl g_11))] := hD
  have hK : va_K (dC, dI) vwCl [((ca 9), .byte)] s := hK
  refine W.eq (g2 := F0 m 44 ls []) rfl ?_
  refine lv_aload_n hx hb dX9_put_44 rfl (lv_at hl 0 rfl) ?_
  refine va_get (D := (dC, dI)) (ci := 9) (v := .int 20) (C := RX9) (T := TX9) (N := 11) hx hb hts inw_X9_put_9 hown hK hP 0 rfl rfl 5 (by decide) (hts (.fieldLink RX9 124 "VatHouse" "tapeLength" "I") (by decide +kernel)) (fun _ h9 => h9) rfl dX9_put_45 ?_
  exact en_i hx hb hr hlocks hP hD hK hS () ⟨rfl, trivial⟩ [] [] rfl rfl rfl (Nat.le_of_ble_eq_true rfl) (Nat.le_of_ble_eq_true rfl) dX9_put_48
