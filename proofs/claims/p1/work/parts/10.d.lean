theorem nlt_le {a b : Int32} (h : ¬ a < b) : b ≤ a := by
  rw [Int32.le_iff_toInt_le]; rw [Int32.lt_iff_toInt_lt] at h; omega
theorem lt_nle {a b : Int32} (h : a < b) : ¬ b ≤ a := by
  rw [Int32.le_iff_toInt_le]; rw [Int32.lt_iff_toInt_lt] at h; omega
theorem vin {v N : Int32} (n : Nat) (hn : n < 2 ^ 31) (hN : N = nI n) (h0 : ¬ v < 0) (h1 : ¬ N ≤ v) : vp_in v n := by
  subst hN
  obtain ⟨j, hj, hv, -⟩ := pk_mu h0 h1 hn
  rw [hv]; exact vp_in_nI hj hn
theorem vlt {v N : Int32} (n : Nat) (hn : n < 2 ^ 31) (hN : N = nI n) (h0 : ¬ v < 0) (h1 : ¬ N ≤ v) : v.toNatClampNeg < n := by
  subst hN
  obtain ⟨j, hj, hv, -, hc, -⟩ := pk_mu h0 h1 hn
  rw [hc]; exact hj
def E_charge (v n : Int32) : Int32 × Int32 := if v < 0 then (1, 0) else if 6 ≤ v then (1, 0) else if n < 1 then (0, -1) else if n ≤ 1000000 then (0, 0 + n) else (0, -1)
def E_feed (v n : Int32) : Int32 × Int32 := if v < 0 then (1, 0) else if 6 ≤ v then (1, 0) else if n < 1 then (2, 0) else if 1000 < n then (2, 0) else (0, 2)
def E_lime (v : Int32) : Int32 × Int32 := if v < 0 then (1, 0) else if 6 ≤ v then (1, 0) else (0, 2)
def E_hours (n : Int32) : Int32 × Int32 := if n < 0 then (1, 0) else if 10000 < n then (1, 0) else (0, n)
def E_cloth (w : Int32) : Int32 := if w < 1 then -1 else if w ≤ 50 then 0 else -1
def E_recipe (r n : Int32) : Int32 × Int32 := if r < 0 then (1, 0) else if 8 ≤ r then (1, 0) else if n < 0 then (1, 0) else if 0 < n then (1, 0) else (0, 0)
def E_fault (x : Int32) : Int32 × Int32 := if x = 0 then (0, 0) else if x = 1 then (0, -1) else (1, 0)
def E_ran (x : Int32) : Int32 × Int32 := if x = 0 then (0, -1) else if x = 1 then (0, 0) else if x = 2 then (0, 0) else if x = 3 then (0, 0) else if x = 4 then (0, 0) else if x = 5 then (0, 0) else (1, 0)
def E_count (x : Int32) : Int32 × Int32 := if x = 0 then (0, 0) else if x = 1 then (0, 0) else if x = 2 then (0, 0) else if x = 3 then (0, 0) else if x = 4 then (0, 0) else if x = 5 then (0, 0) else (1, 0)
def E_vat (v x : Int32) : Int32 × Int32 := if v < 0 then (1, 0) else if 6 ≤ v then (1, 0) else if x = 0 then (0, 0) else if x = 1 then (0, 0) else if x = 2 then (0, 0) else if x = 3 then (0, 2) else if x = 4 then (0, 0) else if x = 5 then (0, 0) else (1, 0)
theorem eq0 {n : Int32} (h0 : ¬ n < 0) (h1 : ¬ 0 < n) : n = 0 := by
  rw [Int32.lt_iff_toInt_lt] at h0 h1
  have h2 : (0 : Int32).toInt = 0 := by decide
  rw [h2] at h0 h1
  exact Int32.toInt_inj.mp (by rw [h2]; omega)

abbrev rm_X8_vatAt : Room := { frames := 6, cells := 1, slots := 6, locals := 82 }
theorem inw_X8_vatAt_8 : ∀ w ∈ wsX80, w ∈ wsX8_vatAt := by decide +kernel
theorem inx_X8_vatAt_8 : ∀ w ∈ (xN RX8 24).filter goodWord, w ∈ wsX8_vatAt := fun _ h => List.mem_cons_of_mem _ (List.mem_append_right _ h)
set_option maxHeartbeats 800000 in
set_option maxRecDepth 100000 in
theorem c_X8_vatAt (l : Launch) (dC : Nat → ClassId) (dI : Nat → Nat → Nat) (sa : Nat → Nat) (hlt : l.stackTraces = false) (sz : Nat) (ad : Nat → Nat) (ca : Nat → ClassId) (fv : Nat → Option Nat) (num : Int32) (hh : Int32) (dr : Int32) (hfv : ∀ k, k < 6 → fv k = some (ad (2 + k))) : CX l dC dI sa yX8_vatAt wsX8_vatAt rm_X8_vatAt [.ref (ad 0), .int num] [((ad 0), .inr (8, [.ref (ad 1), .int hh, .int dr])), ((ad 1), .inl ((ca 1), 6, .inr (.inr (.inr (.inr fv)))))] [((ca 1), .object "VatHouse$Vat")] sz (fun (r : Option Value) (_ : Unit) => r = some (.ref (ad (2 + num.toNatClampNeg))) ∧ (¬ num < 0 ∧ ¬ 6 ≤ num)) (fun (_ : Unit) => [((ad 0), .inr (8, [.ref (ad 1), .int hh, .int dr])), ((ad 1), .inl ((ca 1), 6, .inr (.inr (.inr (.inr fv)))))]) (fun (_ : Unit) => []) (fun E => E = NSE ∧ (num < 0 ∨ 6 ≤ num)) 1 6 := by
  refine CX.start (cc := cX8_vatAt) (maxL := 2) (ret := (some (.object "VatHouse$Vat"))) (by decide) rfl (Nat.le_of_ble_eq_true rfl) ?_
  intro p e s m below meth c ls hst hno hP hK hD hev hS hl
  obtain ⟨hx, hb, hr, hml, hts, hown, hlocks, hin⟩ := hst
  have hown : s.vm.findClass RX8 = some m.cls := hown
  have hin : meth.name = yX8_vatAt.name := hin
  have hA : ∀ q : Nat, s.heap.size ≤ q → va_A [((ad 0), .inr (8, [.ref (ad 1), .int hh, .int dr])), ((ad 1), .inl ((ca 1), 6, .inr (.inr (.inr (.inr fv)))))] s.heap.size q := fun _ h => Or.inr h
  have hl : lv_has ls 2 [(0, .ref (ad 0)), (1, .int num)] := hl
  refine lv_iload_n hx hb dX8_vatAt_0 rfl (lv_at hl 1 rfl) ?_
  refine lv_if_lt (tgt := 13) hx hb dX8_vatAt_1 (by decide) (fun c_1 => ?_) (fun c_1 => ?_)
  · exact en_x (cls := NSE) hno hx hb hlt hlocks hown hts xg_0 xg_1 xg_2 xg_5 (by decide +kernel) (hts (.classLink RX8 20 NSE) (by decide +kernel)) (hts (.initialized NSE) (by decide +kernel)) hev.2.1.1 (inx_X8_vatAt_8) xb_8 hev.2.2.1.1 xo_8 hev (hl.1.trans hml.symm) dX8_vatAt_13 dX8_vatAt_16 dX8_vatAt_17 dX8_vatAt_19 dX8_vatAt_22 (Nat.le_of_ble_eq_true rfl) (Nat.le_of_ble_eq_true rfl) (Nat.le_of_ble_eq_true rfl) (Nat.le_of_ble_eq_true rfl) ⟨rfl, Or.inl c_1⟩ hP hD hK hS [0, 1] rfl rfl (Nat.le_of_ble_eq_true rfl) (Nat.le_of_ble_eq_true rfl)
  · refine lv_iload_n hx hb dX8_vatAt_4 rfl (lv_at hl 1 rfl) ?_
    refine lv_aload_n hx hb dX8_vatAt_5 rfl (lv_at hl 0 rfl) ?_
    refine va_get (D := (dC, dI)) (ci := 8) (v := .ref (ad 1)) (C := RX8) (T := TX8) (N := 3) hx hb hts inw_X8_vatAt_8 hown hK hP 0 rfl rfl 0 (by decide) (hts (.fieldLink RX8 11 "VatHouse$Works" "vats" "[LVatHouse$Vat;") (by decide +kernel)) (fun _ h9 => h9) rfl dX8_vatAt_6 ?_
    refine va_alen hx hb hK hP 1 0 rfl rfl (v := 6) rfl dX8_vatAt_9 ?_
    refine lv_icmp_lt (tgt := 23) hx hb dX8_vatAt_10 (by decide) (fun c_2 => ?_) (fun c_2 => ?_)
    · refine lv_aload_n hx hb dX8_vatAt_23 rfl (lv_at hl 0 rfl) ?_
      refine va_get (D := (dC, dI)) (ci := 8) (v := .ref (ad 1)) (C := RX8) (T := TX8) (N := 3) hx hb hts inw_X8_vatAt_8 hown hK hP 0 rfl rfl 0 (by decide) (hts (.fieldLink RX8 11 "VatHouse$Works" "vats" "[LVatHouse$Vat;") (by decide +kernel)) (fun _ h9 => h9) rfl dX8_vatAt_24 ?_
      refine lv_iload_n hx hb dX8_vatAt_27 rfl (lv_at hl 1 rfl) ?_
      refine va_aldq hx hb hK hP 1 0 rfl rfl (vin 6 (by decide) rfl c_1 (lt_nle c_2)) dX8_vatAt_28 ?_
      rw [hfv _ (vlt 6 (by decide) rfl c_1 (lt_nle c_2))]
      refine W.eq (g2 := F0 m 29 ls [.ref (ad (2 + num.toNatClampNeg))]) rfl ?_
      refine vx_ret ?_
      exact en_a hx hb hr (Or.inl ⟨_, rfl⟩) (Or.inr ⟨_, rfl⟩) hlocks hP hD hK hS () ⟨rfl, c_1, lt_nle c_2⟩ [0, 1] [] rfl rfl rfl (Nat.le_of_ble_eq_true rfl) (Nat.le_of_ble_eq_true rfl) dX8_vatAt_29
    · exact en_x (cls := NSE) hno hx hb hlt hlocks hown hts xg_0 xg_1 xg_2 xg_5 (by decide +kernel) (hts (.classLink RX8 20 NSE) (by decide +kernel)) (hts (.initialized NSE) (by decide +kernel)) hev.2.1.1 (inx_X8_vatAt_8) xb_8 hev.2.2.1.1 xo_8 hev (hl.1.trans hml.symm) dX8_vatAt_13 dX8_vatAt_16 dX8_vatAt_17 dX8_vatAt_19 dX8_vatAt_22 (Nat.le_of_ble_eq_true rfl) (Nat.le_of_ble_eq_true rfl) (Nat.le_of_ble_eq_true rfl) (Nat.le_of_ble_eq_true rfl) ⟨rfl, Or.inr (nlt_le c_2)⟩ hP hD hK hS [0, 1] rfl rfl (Nat.le_of_ble_eq_true rfl) (Nat.le_of_ble_eq_true rfl)

abbrev rm_X9_demand : Room := { frames := 6, cells := 1, slots := 6, locals := 82 }
theorem inx_X9_demand_i : ∀ w ∈ (xI RX9 256).filter goodWord, w ∈ wsX9_demand := fun _ h => List.mem_cons_of_mem _ (List.mem_append_right _ h)
set_option maxHeartbeats 800000 in
set_option maxRecDepth 100000 in
theorem c_X9_demand (l : Launch) (dC : Nat → ClassId) (dI : Nat → Nat → Nat) (sa : Nat → Nat) (hlt : l.stackTraces = false) (sz : Nat) (b : Int32) : CX l dC dI sa yX9_demand wsX9_demand rm_X9_demand [.int b] [] [] sz (fun (r : Option Value) (_ : Unit) => r = none ∧ (¬ b = 0)) (fun (_ : Unit) => []) (fun (_ : Unit) => []) (fun E => E = IAE ∧ b = 0) 1 6 := by
  refine CX.start (cc := cX9_demand) (maxL := 1) (ret := none) (by decide) rfl (Nat.le_of_ble_eq_true rfl) ?_
  intro p e s m below meth c ls hst hno hP hK hD hev hS hl
  obtain ⟨hx, hb, hr, hml, hts, hown, hlocks, hin⟩ := hst
  have hown : s.vm.findClass RX9 = some m.cls := hown
  have hin : meth.name = yX9_demand.name := hin
  have hA : ∀ q : Nat, s.heap.size ≤ q → va_A [] s.heap.size q := fun _ h => Or.inr h
  have hl : lv_has ls 1 [(0, .int b)] := hl
  refine lv_iload_n hx hb dX9_demand_0 rfl (lv_at hl 0 rfl) ?_
  refine lv_if_ne (tgt := 14) hx hb dX9_demand_1 (by decide) (fun c_1 => ?_) (fun c_1 => ?_)
  · refine vx_ret ?_
    exact en_v hx hb hr hlocks hP hD hK hS () ⟨rfl, c_1⟩ [] [] rfl rfl rfl (Nat.le_of_ble_eq_true rfl) (Nat.le_of_ble_eq_true rfl) dX9_demand_14
  · exact en_x (cls := IAE) hno hx hb hlt hlocks hown hts Bundle.six_0 Bundle.six_1 Bundle.six_2 Bundle.six_5 (by decide +kernel) (hts (.classLink RX9 252 IAE) (by decide +kernel)) (hts (.initialized IAE) (by decide +kernel)) hev.2.1.2.1 (inx_X9_demand_i) xb_i hev.2.2.1.2.1 xo_i hev (hl.1.trans hml.symm) dX9_demand_4 dX9_demand_7 dX9_demand_8 dX9_demand_10 dX9_demand_13 (Nat.le_of_ble_eq_true rfl) (Nat.le_of_ble_eq_true rfl) (Nat.le_of_ble_eq_true rfl) (Nat.le_of_ble_eq_true rfl) ⟨rfl, c_1⟩ hP hD hK hS [] rfl rfl (Nat.le_of_ble_eq_true rfl) (Nat.le_of_ble_eq_true rfl)

abbrev rm_X9_clothAt : Room := { frames := 6, cells := 1, slots := 6, locals := 82 }
theorem inw_X9_clothAt_9 : ∀ w ∈ wsX90, w ∈ wsX9_clothAt := by decide +kernel
theorem inx_X9_clothAt_9 : ∀ w ∈ (xN RX9 153).filter goodWord, w ∈ wsX9_clothAt := fun _ h => List.mem_cons_of_mem _ (List.mem_append_right _ h)
set_option maxHeartbeats 800000 in
set_option maxRecDepth 100000 in
theorem c_X9_clothAt (l : Launch) (dC : Nat → ClassId) (dI : Nat → Nat → Nat) (sa : Nat → Nat) (hlt : l.stackTraces = false) (sz : Nat) (h0 : Nat) (ad : Nat → Nat) (num : Int32) : CX l dC dI sa yX9_clothAt wsX9_clothAt rm_X9_clothAt [.ref h0, .int num] [(h0, .inr (9, [.ref (ad 0), .ref (ad 8), .int 0, .int 0, .ref (ad 9), .int 0, .ref (ad 10), .ref (ad 15), .int 0, .ref (ad 16), .ref (ad 17)]))] [] sz (fun (r : Option Value) (_ : Unit) => r = some (.ref h0) ∧ (False)) (fun (_ : Unit) => [(h0, .inr (9, [.ref (ad 0), .ref (ad 8), .int 0, .int 0, .ref (ad 9), .int 0, .ref (ad 10), .ref (ad 15), .int 0, .ref (ad 16), .ref (ad 17)]))]) (fun (_ : Unit) => []) (fun E => E = NSE ∧ True) 1 6 := by
  refine CX.start (cc := cX9_clothAt) (maxL := 3) (ret := (some (.object "VatHouse$Cloth"))) (by decide) rfl (Nat.le_of_ble_eq_true rfl) ?_
  intro p e s m below meth c ls hst hno hP hK hD hev hS hl
  obtain ⟨hx, hb, hr, hml, hts, hown, hlocks, hin⟩ := hst
  have hown : s.vm.findClass RX9 = some m.cls := hown
  have hin : meth.name = yX9_clothAt.name := hin
  have hA : ∀ q : Nat, s.heap.size ≤ q → va_A [(h0, .inr (9, [.ref (ad 0), .ref (ad 8), .int 0, .int 0, .ref (ad 9), .int 0, .ref (ad 10), .ref (ad 15), .int 0, .ref (ad 16), .ref (ad 17)]))] s.heap.size q := fun _ h => Or.inr h
  have hl : lv_has ls 3 [(0, .ref h0), (1, .int num)] := hl
  refine lv_iload_n hx hb dX9_clothAt_0 rfl (lv_at hl 1 rfl) ?_
  refine lv_if_lt (tgt := 21) hx hb dX9_clothAt_1 (by decide) (fun c_1 => ?_) (fun c_1 => ?_)
  · exact en_x (cls := NSE) hno hx hb hlt hlocks hown hts xg_0 xg_1 xg_2 xg_5 (by decide +kernel) (hts (.classLink RX9 149 NSE) (by decide +kernel)) (hts (.initialized NSE) (by decide +kernel)) hev.2.1.2.2.1 (inx_X9_clothAt_9) xb_9 hev.2.2.1.1 xo_9 hev (hl.1.trans hml.symm) dX9_clothAt_21 dX9_clothAt_24 dX9_clothAt_25 dX9_clothAt_27 dX9_clothAt_30 (Nat.le_of_ble_eq_true rfl) (Nat.le_of_ble_eq_true rfl) (Nat.le_of_ble_eq_true rfl) (Nat.le_of_ble_eq_true rfl) ⟨rfl, trivial⟩ hP hD hK hS [0] rfl rfl (Nat.le_of_ble_eq_true rfl) (Nat.le_of_ble_eq_true rfl)
  · refine lv_iload_n hx hb dX9_clothAt_4 rfl (lv_at hl 1 rfl) ?_
    refine lv_aload_n hx hb dX9_clothAt_5 rfl (lv_at hl 0 rfl) ?_
    refine va_get (D := (dC, dI)) (ci := 9) (v := .int 0) (C := RX9) (T := TX9) (N := 11) hx hb hts inw_X9_clothAt_9 hown hK hP 0 rfl rfl 2 (by decide) (hts (.fieldLink RX9 92 "VatHouse" "clothsMade" "I") (by decide +kernel)) (fun _ h9 => h9) rfl dX9_clothAt_6 ?_
    refine lv_icmp_ge (tgt := 21) hx hb dX9_clothAt_9 (by decide) (fun c_2 => ?_) (fun c_2 => ?_)
    rotate_left
    · exact absurd c_2 (fun h => h (nlt_le c_1))
    exact en_x (cls := NSE) hno hx hb hlt hlocks hown hts xg_0 xg_1 xg_2 xg_5 (by decide +kernel) (hts (.classLink RX9 149 NSE) (by decide +kernel)) (hts (.initialized NSE) (by decide +kernel)) hev.2.1.2.2.1 (inx_X9_clothAt_9) xb_9 hev.2.2.1.1 xo_9 hev (hl.1.trans hml.symm) dX9_clothAt_21 dX9_clothAt_24 dX9_clothAt_25 dX9_clothAt_27 dX9_clothAt_30 (Nat.le_of_ble_eq_true rfl) (Nat.le_of_ble_eq_true rfl) (Nat.le_of_ble_eq_true rfl) (Nat.le_of_ble_eq_true rfl) ⟨rfl, trivial⟩ hP hD hK hS [0] rfl rfl (Nat.le_of_ble_eq_true rfl) (Nat.le_of_ble_eq_true rfl)

abbrev rm_X9_dip : Room := { frames := 7, cells := 1, slots := 6, locals := 104 }
set_option maxHeartbeats 800000 in
set_option maxRecDepth 100000 in
theorem c_X9_dip (l : Launch) (dC : Nat → ClassId) (dI : Nat → Nat → Nat) (sa : Nat → Nat) (hlt : l.stackTraces = false) (sz : Nat) (h0 : Nat) (ad : Nat → Nat) (p0 : Int32) (p1 : Int32) (p2 : Int32) : CX l dC dI sa yX9_dip wsX9_dip rm_X9_dip [.ref h0, .int p0, .int p1, .int p2] [(h0, .inr (9, [.ref (ad 0), .ref (ad 8), .int 0, .int 0, .ref (ad 9), .int 0, .ref (ad 10), .ref (ad 15), .int 0, .ref (ad 16), .ref (ad 17)]))] [] sz (fun (r : Option Value) (_ : Unit) => r = some (.int 0) ∧ (False)) (fun (_ : Unit) => []) (fun (_ : Unit) => []) (fun E => E = NSE ∧ True) 1 6 := by
  refine CX.start (cc := cX9_dip) (maxL := 7) (ret := (some .int)) (by decide) rfl (Nat.le_of_ble_eq_true rfl) ?_
  intro p e s m below meth c ls hst hno hP hK hD hev hS hl
  obtain ⟨hx, hb, hr, hml, hts, hown, hlocks, hin⟩ := hst
  have hown : s.vm.findClass RX9 = some m.cls := hown
  have hin : meth.name = yX9_dip.name := hin
  have hA : ∀ q : Nat, s.heap.size ≤ q → va_A [(h0, .inr (9, [.ref (ad 0), .ref (ad 8), .int 0, .int 0, .ref (ad 9), .int 0, .ref (ad 10), .ref (ad 15), .int 0, .ref (ad 16), .ref (ad 17)]))] s.heap.size q := fun _ h => Or.inr h
  have hl : lv_has ls 7 [(0, .ref h0), (1, .int p0), (2, .int p1), (3, .int p2)] := hl
  refine lv_aload_n hx hb dX9_dip_0 rfl (lv_at hl 0 rfl) ?_
  refine lv_iload_n hx hb dX9_dip_1 rfl (lv_at hl 1 rfl) ?_
  refine go_VX (wr := []) ⟨hx, hb, hml, hown, hts⟩ (c_X9_clothAt l dC dI sa hlt _ h0 ad p0 ) (cwV 1 hts gX9_dip_X9_clothAt rfl rfl rfl (by decide +kernel) ⟨Nat.le_of_ble_eq_true rfl, Nat.le_of_ble_eq_true rfl⟩) hP hD hK hS hA hev [0] [] [] rfl rfl rfl rfl (by decide) rfl 0 9 rfl rfl rfl rfl hl.1 rfl (Nat.le_of_ble_eq_true rfl) dX9_dip_2 ⟨Nat.le_of_ble_eq_true rfl, Nat.le_of_ble_eq_true rfl⟩ (fun E ce q9 H locs hpx hP hD hS hce hcv hcl => ?_) (fun r u H locs hw hP hD hK hS => ?_)
  · have hpx_1 : E = NSE ∧ True := hpx
    obtain ⟨rfl, hpx_1⟩ := hpx_1
    exact go_out hno hlocks ⟨rfl, trivial⟩ hP hD hK hS hce hcv hcl [0] rfl rfl (Nat.le_of_ble_eq_true rfl) (Nat.le_of_ble_eq_true rfl)
  have hw : r = some (.ref h0) ∧ (False) := hw
  obtain ⟨rfl, hw_2⟩ := hw
  exact absurd trivial (fun _ => hw_2)

abbrev rm_X9_treat : Room := { frames := 7, cells := 1, slots := 6, locals := 104 }
set_option maxHeartbeats 800000 in
set_option maxRecDepth 100000 in
theorem c_X9_treat (l : Launch) (dC : Nat → ClassId) (dI : Nat → Nat → Nat) (sa : Nat → Nat) (hlt : l.stackTraces = false) (sz : Nat) (h0 : Nat) (ad : Nat → Nat) (p0 : Int32) (p1 : Int32) : CX l dC dI sa yX9_treat wsX9_treat rm_X9_treat [.ref h0, .int p0, .int p1] [(h0, .inr (9, [.ref (ad 0), .ref (ad 8), .int 0, .int 0, .ref (ad 9), .int 0, .ref (ad 10), .ref (ad 15), .int 0, .ref (ad 16), .ref (ad 17)]))] [] sz (fun (r : Option Value) (_ : Unit) => r = some (.int 0) ∧ (False)) (fun (_ : Unit) => []) (fun (_ : Unit) => []) (fun E => E = NSE ∧ True) 1 6 := by
  refine CX.start (cc := cX9_treat) (maxL := 4) (ret := (some .int)) (by decide) rfl (Nat.le_of_ble_eq_true rfl) ?_
  intro p e s m below meth c ls hst hno hP hK hD hev hS hl
  obtain ⟨hx, hb, hr, hml, hts, hown, hlocks, hin⟩ := hst
  have hown : s.vm.findClass RX9 = some m.cls := hown
  have hin : meth.name = yX9_treat.name := hin
  have hA : ∀ q : Nat, s.heap.size ≤ q → va_A [(h0, .inr (9, [.ref (ad 0), .ref (ad 8), .int 0, .int 0, .ref (ad 9), .int 0, .ref (ad 10), .ref (ad 15), .int 0, .ref (ad 16), .ref (ad 17)]))] s.heap.size q := fun _ h => Or.inr h
  have hl : lv_has ls 4 [(0, .ref h0), (1, .int p0), (2, .int p1)] := hl
  refine lv_aload_n hx hb dX9_treat_0 rfl (lv_at hl 0 rfl) ?_
  refine lv_iload_n hx hb dX9_treat_1 rfl (lv_at hl 1 rfl) ?_
  refine go_VX (wr := []) ⟨hx, hb, hml, hown, hts⟩ (c_X9_clothAt l dC dI sa hlt _ h0 ad p0 ) (cwV 1 hts gX9_treat_X9_clothAt rfl rfl rfl (by decide +kernel) ⟨Nat.le_of_ble_eq_true rfl, Nat.le_of_ble_eq_true rfl⟩) hP hD hK hS hA hev [0] [] [] rfl rfl rfl rfl (by decide) rfl 0 9 rfl rfl rfl rfl hl.1 rfl (Nat.le_of_ble_eq_true rfl) dX9_treat_2 ⟨Nat.le_of_ble_eq_true rfl, Nat.le_of_ble_eq_true rfl⟩ (fun E ce q9 H locs hpx hP hD hS hce hcv hcl => ?_) (fun r u H locs hw hP hD hK hS => ?_)
  · have hpx_1 : E = NSE ∧ True := hpx
    obtain ⟨rfl, hpx_1⟩ := hpx_1
    exact go_out hno hlocks ⟨rfl, trivial⟩ hP hD hK hS hce hcv hcl [0] rfl rfl (Nat.le_of_ble_eq_true rfl) (Nat.le_of_ble_eq_true rfl)
  have hw : r = some (.ref h0) ∧ (False) := hw
  obtain ⟨rfl, hw_2⟩ := hw
  exact absurd trivial (fun _ => hw_2)

abbrev rm_X9_run : Room := { frames := 7, cells := 1, slots := 6, locals := 104 }
set_option maxHeartbeats 800000 in
set_option maxRecDepth 100000 in
theorem c_X9_run (l : Launch) (dC : Nat → ClassId) (dI : Nat → Nat → Nat) (sa : Nat → Nat) (hlt : l.stackTraces = false) (sz : Nat) (h0 : Nat) (ad : Nat → Nat) (p0 : Int32) (p1 : Int32) (p2 : Int32) : CX l dC dI sa yX9_run wsX9_run rm_X9_run [.ref h0, .int p0, .int p1, .int p2] [(h0, .inr (9, [.ref (ad 0), .ref (ad 8), .int 0, .int 0, .ref (ad 9), .int 0, .ref (ad 10), .ref (ad 15), .int 0, .ref (ad 16), .ref (ad 17)]))] [] sz (fun (r : Option Value) (_ : Unit) => r = some (.int 0) ∧ (False)) (fun (_ : Unit) => []) (fun (_ : Unit) => []) (fun E => E = NSE ∧ True) 1 6 := by
  refine CX.start (cc := cX9_run) (maxL := 6) (ret := (some .int)) (by decide) rfl (Nat.le_of_ble_eq_true rfl) ?_
  intro p e s m below meth c ls hst hno hP hK hD hev hS hl
  obtain ⟨hx, hb, hr, hml, hts, hown, hlocks, hin⟩ := hst
  have hown : s.vm.findClass RX9 = some m.cls := hown
  have hin : meth.name = yX9_run.name := hin
  have hA : ∀ q : Nat, s.heap.size ≤ q → va_A [(h0, .inr (9, [.ref (ad 0), .ref (ad 8), .int 0, .int 0, .ref (ad 9), .int 0, .ref (ad 10), .ref (ad 15), .int 0, .ref (ad 16), .ref (ad 17)]))] s.heap.size q := fun _ h => Or.inr h
  have hl : lv_has ls 6 [(0, .ref h0), (1, .int p0), (2, .int p1), (3, .int p2)] := hl
  refine lv_aload_n hx hb dX9_run_0 rfl (lv_at hl 0 rfl) ?_
  refine lv_iload_n hx hb dX9_run_1 rfl (lv_at hl 2 rfl) ?_
  refine go_VX (wr := []) ⟨hx, hb, hml, hown, hts⟩ (c_X9_clothAt l dC dI sa hlt _ h0 ad p1 ) (cwV 1 hts gX9_run_X9_clothAt rfl rfl rfl (by decide +kernel) ⟨Nat.le_of_ble_eq_true rfl, Nat.le_of_ble_eq_true rfl⟩) hP hD hK hS hA hev [0] [] [] rfl rfl rfl rfl (by decide) rfl 0 9 rfl rfl rfl rfl hl.1 rfl (Nat.le_of_ble_eq_true rfl) dX9_run_2 ⟨Nat.le_of_ble_eq_true rfl, Nat.le_of_ble_eq_true rfl⟩ (fun E ce q9 H locs hpx hP hD hS hce hcv hcl => ?_) (fun r u H locs hw hP hD hK hS => ?_)
  · have hpx_1 : E = NSE ∧ True := hpx
    obtain ⟨rfl, hpx_1⟩ := hpx_1
    exact go_out hno hlocks ⟨rfl, trivial⟩ hP hD hK hS hce hcv hcl [0] rfl rfl (Nat.le_of_ble_eq_true rfl) (Nat.le_of_ble_eq_true rfl)
  have hw : r = some (.ref h0) ∧ (False) := hw
  obtain ⟨rfl, hw_2⟩ := hw
  exact absurd trivial (fun _ => hw_2)

abbrev rm_X9_plan : Room := { frames := 7, cells := 1, slots := 6, locals := 104 }
set_option maxHeartbeats 800000 in
set_option maxRecDepth 100000 in
theorem c_X9_plan (l : Launch) (dC : Nat → ClassId) (dI : Nat → Nat → Nat) (sa : Nat → Nat) (hlt : l.stackTraces = false) (sz : Nat) (h0 : Nat) (ad : Nat → Nat) (p0 : Int32) (p1 : Int32) (p2 : Int32) (p3 : Int32) : CX l dC dI sa yX9_plan wsX9_plan rm_X9_plan [.ref h0, .int p0, .int p1, .int p2, .int p3] [(h0, .inr (9, [.ref (ad 0), .ref (ad 8), .int 0, .int 0, .ref (ad 9), .int 0, .ref (ad 10), .ref (ad 15), .int 0, .ref (ad 16), .ref (ad 17)]))] [] sz (fun (r : Option Value) (_ : Unit) => r = some (.int 0) ∧ (False)) (fun (_ : Unit) => []) (fun (_ : Unit) => []) (fun E => E = NSE ∧ True) 1 6 := by
  refine CX.start (cc := cX9_plan) (maxL := 6) (ret := (some .int)) (by decide) rfl (Nat.le_of_ble_eq_true rfl) ?_
  intro p e s m below meth c ls hst hno hP hK hD hev hS hl
  obtain ⟨hx, hb, hr, hml, hts, hown, hlocks, hin⟩ := hst
  have hown : s.vm.findClass RX9 = some m.cls := hown
  have hin : meth.name = yX9_plan.name := hin
  have hA : ∀ q : Nat, s.heap.size ≤ q → va_A [(h0, .inr (9, [.ref (ad 0), .ref (ad 8), .int 0, .int 0, .ref (ad 9), .int 0, .ref (ad 10), .ref (ad 15), .int 0, .ref (ad 16), .ref (ad 17)]))] s.heap.size q := fun _ h => Or.inr h
  have hl : lv_has ls 6 [(0, .ref h0), (1, .int p0), (2, .int p1), (3, .int p2), (4, .int p3)] := hl
  refine lv_aload_n hx hb dX9_plan_0 rfl (lv_at hl 0 rfl) ?_
  refine lv_iload_n hx hb dX9_plan_1 rfl (lv_at hl 1 rfl) ?_
  refine go_VX (wr := []) ⟨hx, hb, hml, hown, hts⟩ (c_X9_clothAt l dC dI sa hlt _ h0 ad p0 ) (cwV 1 hts gX9_plan_X9_clothAt rfl rfl rfl (by decide +kernel) ⟨Nat.le_of_ble_eq_true rfl, Nat.le_of_ble_eq_true rfl⟩) hP hD hK hS hA hev [0] [] [] rfl rfl rfl rfl (by decide) rfl 0 9 rfl rfl rfl rfl hl.1 rfl (Nat.le_of_ble_eq_true rfl) dX9_plan_2 ⟨Nat.le_of_ble_eq_true rfl, Nat.le_of_ble_eq_true rfl⟩ (fun E ce q9 H locs hpx hP hD hS hce hcv hcl => ?_) (fun r u H locs hw hP hD hK hS => ?_)
  · have hpx_1 : E = NSE ∧ True := hpx
    obtain ⟨rfl, hpx_1⟩ := hpx_1
    exact go_out hno hlocks ⟨rfl, trivial⟩ hP hD hK hS hce hcv hcl [0] rfl rfl (Nat.le_of_ble_eq_true rfl) (Nat.le_of_ble_eq_true rfl)
  have hw : r = some (.ref h0) ∧ (False) := hw
  obtain ⟨rfl, hw_2⟩ := hw
  exact absurd trivial (fun _ => hw_2)

abbrev rm_X9_about : Room := { frames := 7, cells := 1, slots := 6, locals := 104 }
set_option maxHeartbeats 800000 in
set_option maxRecDepth 100000 in
theorem c_X9_about (l : Launch) (dC : Nat → ClassId) (dI : Nat → Nat → Nat) (sa : Nat → Nat) (hlt : l.stackTraces = false) (sz : Nat) (h0 : Nat) (ad : Nat → Nat) (p0 : Int32) (p1 : Int32) : CX l dC dI sa yX9_about wsX9_about rm_X9_about [.ref h0, .int p0, .int p1] [(h0, .inr (9, [.ref (ad 0), .ref (ad 8), .int 0, .int 0, .ref (ad 9), .int 0, .ref (ad 10), .ref (ad 15), .int 0, .ref (ad 16), .ref (ad 17)]))] [] sz (fun (r : Option Value) (_ : Unit) => r = some (.int 0) ∧ (False)) (fun (_ : Unit) => []) (fun (_ : Unit) => []) (fun E => E = NSE ∧ True) 1 6 := by
  refine CX.start (cc := cX9_about) (maxL := 4) (ret := (some .int)) (by decide) rfl (Nat.le_of_ble_eq_true rfl) ?_
  intro p e s m below meth c ls hst hno hP hK hD hev hS hl
  obtain ⟨hx, hb, hr, hml, hts, hown, hlocks, hin⟩ := hst
  have hown : s.vm.findClass RX9 = some m.cls := hown
  have hin : meth.name = yX9_about.name := hin
  have hA : ∀ q : Nat, s.heap.size ≤ q → va_A [(h0, .inr (9, [.ref (ad 0), .ref (ad 8), .int 0, .int 0, .ref (ad 9), .int 0, .ref (ad 10), .ref (ad 15), .int 0, .ref (ad 16), .ref (ad 17)]))] s.heap.size q := fun _ h => Or.inr h
  have hl : lv_has ls 4 [(0, .ref h0), (1, .int p0), (2, .int p1)] := hl
  refine lv_aload_n hx hb dX9_about_0 rfl (lv_at hl 0 rfl) ?_
  refine lv_iload_n hx hb dX9_about_1 rfl (lv_at hl 1 rfl) ?_
  refine go_VX (wr := []) ⟨hx, hb, hml, hown, hts⟩ (c_X9_clothAt l dC dI sa hlt _ h0 ad p0 ) (cwV 1 hts gX9_about_X9_clothAt rfl rfl rfl (by decide +kernel) ⟨Nat.le_of_ble_eq_true rfl, Nat.le_of_ble_eq_true rfl⟩) hP hD hK hS hA hev [0] [] [] rfl rfl rfl rfl (by decide) rfl 0 9 rfl rfl rfl rfl hl.1 rfl (Nat.le_of_ble_eq_true rfl) dX9_about_2 ⟨Nat.le_of_ble_eq_true rfl, Nat.le_of_ble_eq_true rfl⟩ (fun E ce q9 H locs hpx hP hD hS hce hcv hcl => ?_) (fun r u H locs hw hP hD hK hS => ?_)
  · have hpx_1 : E = NSE ∧ True := hpx
    obtain ⟨rfl, hpx_1⟩ := hpx_1
    exact go_out hno hlocks ⟨rfl, trivial⟩ hP hD hK hS hce hcv hcl [0] rfl rfl (Nat.le_of_ble_eq_true rfl) (Nat.le_of_ble_eq_true rfl)
  have hw : r = some (.ref h0) ∧ (False) := hw
  obtain ⟨rfl, hw_2⟩ := hw
  exact absurd trivial (fun _ => hw_2)

abbrev rm_X9_faded : Room := { frames := 7, cells := 1, slots := 6, locals := 104 }
set_option maxHeartbeats 800000 in
set_option maxRecDepth 100000 in
theorem c_X9_faded (l : Launch) (dC : Nat → ClassId) (dI : Nat → Nat → Nat) (sa : Nat → Nat) (hlt : l.stackTraces = false) (sz : Nat) (h0 : Nat) (ad : Nat → Nat) (p0 : Int32) (p1 : Int32) (p2 : Int32) : CX l dC dI sa yX9_faded wsX9_faded rm_X9_faded [.ref h0, .int p0, .int p1, .int p2] [(h0, .inr (9, [.ref (ad 0), .ref (ad 8), .int 0, .int 0, .ref (ad 9), .int 0, .ref (ad 10), .ref (ad 15), .int 0, .ref (ad 16), .ref (ad 17)]))] [] sz (fun (r : Option Value) (_ : Unit) => r = some (.int 0) ∧ (False)) (fun (_ : Unit) => []) (fun (_ : Unit) => []) (fun E => E = NSE ∧ True) 1 6 := by
  refine CX.start (cc := cX9_faded) (maxL := 5) (ret := (some .int)) (by decide) rfl (Nat.le_of_ble_eq_true rfl) ?_
  intro p e s m below meth c ls hst hno hP hK hD hev hS hl
  obtain ⟨hx, hb, hr, hml, hts, hown, hlocks, hin⟩ := hst
  have hown : s.vm.findClass RX9 = some m.cls := hown
  have hin : meth.name = yX9_faded.name := hin
  have hA : ∀ q : Nat, s.heap.size ≤ q → va_A [(h0, .inr (9, [.ref (ad 0), .ref (ad 8), .int 0, .int 0, .ref (ad 9), .int 0, .ref (ad 10), .ref (ad 15), .int 0, .ref (ad 16), .ref (ad 17)]))] s.heap.size q := fun _ h => Or.inr h
  have hl : lv_has ls 5 [(0, .ref h0), (1, .int p0), (2, .int p1), (3, .int p2)] := hl
  refine lv_aload_n hx hb dX9_faded_0 rfl (lv_at hl 0 rfl) ?_
  refine lv_iload_n hx hb dX9_faded_1 rfl (lv_at hl 1 rfl) ?_
  refine go_VX (wr := []) ⟨hx, hb, hml, hown, hts⟩ (c_X9_clothAt l dC dI sa hlt _ h0 ad p0 ) (cwV 1 hts gX9_faded_X9_clothAt rfl rfl rfl (by decide +kernel) ⟨Nat.le_of_ble_eq_true rfl, Nat.le_of_ble_eq_true rfl⟩) hP hD hK hS hA hev [0] [] [] rfl rfl rfl rfl (by decide) rfl 0 9 rfl rfl rfl rfl hl.1 rfl (Nat.le_of_ble_eq_true rfl) dX9_faded_2 ⟨Nat.le_of_ble_eq_true rfl, Nat.le_of_ble_eq_true rfl⟩ (fun E ce q9 H locs hpx hP hD hS hce hcv hcl => ?_) (fun r u H locs hw hP hD hK hS => ?_)
  · have hpx_1 : E = NSE ∧ True := hpx
    obtain ⟨rfl, hpx_1⟩ := hpx_1
    exact go_out hno hlocks ⟨rfl, trivial⟩ hP hD hK hS hce hcv hcl [0] rfl rfl (Nat.le_of_ble_eq_true rfl) (Nat.le_of_ble_eq_true rfl)
  have hw : r = some (.ref h0) ∧ (False) := hw
  obtain ⟨rfl, hw_2⟩ := hw
  exact absurd trivial (fun _ => hw_2)

abbrev rm_X9_matching : Room := { frames := 7, cells := 1, slots := 6, locals := 104 }
set_option maxHeartbeats 800000 in
set_option maxRecDepth 100000 in
theorem c_X9_matching (l : Launch) (dC : Nat → ClassId) (dI : Nat → Nat → Nat) (sa : Nat → Nat) (hlt : l.stackTraces = false) (sz : Nat) (h0 : Nat) (ad : Nat → Nat) (p0 : Int32) (p1 : Int32) : CX l dC dI sa yX9_matching wsX9_matching rm_X9_matching [.ref h0, .int p0, .int p1] [(h0, .inr (9, [.ref (ad 0), .ref (ad 8), .int 0, .int 0, .ref (ad 9), .int 0, .ref (ad 10), .ref (ad 15), .int 0, .ref (ad 16), .ref (ad 17)]))] [] sz (fun (r : Option Value) (_ : Unit) => r = some (.int 0) ∧ (False)) (fun (_ : Unit) => []) (fun (_ : Unit) => []) (fun E => E = NSE ∧ True) 1 6 := by
  refine CX.start (cc := cX9_matching) (maxL := 7) (ret := (some .int)) (by decide) rfl (Nat.le_of_ble_eq_true rfl) ?_
  intro p e s m below meth c ls hst hno hP hK hD hev hS hl
  obtain ⟨hx, hb, hr, hml, hts, hown, hlocks, hin⟩ := hst
  have hown : s.vm.findClass RX9 = some m.cls := hown
  have hin : meth.name = yX9_matching.name := hin
  have hA : ∀ q : Nat, s.heap.size ≤ q → va_A [(h0, .inr (9, [.ref (ad 0), .ref (ad 8), .int 0, .int 0, .ref (ad 9), .int 0, .ref (ad 10), .ref (ad 15), .int 0, .ref (ad 16), .ref (ad 17)]))] s.heap.size q := fun _ h => Or.inr h
  have hl : lv_has ls 7 [(0, .ref h0), (1, .int p0), (2, .int p1)] := hl
  refine lv_aload_n hx hb dX9_matching_0 rfl (lv_at hl 0 rfl) ?_
  refine lv_iload_n hx hb dX9_matching_1 rfl (lv_at hl 1 rfl) ?_
  refine go_VX (wr := []) ⟨hx, hb, hml, hown, hts⟩ (c_X9_clothAt l dC dI sa hlt _ h0 ad p0 ) (cwV 1 hts gX9_matching_X9_clothAt rfl rfl rfl (by decide +kernel) ⟨Nat.le_of_ble_eq_true rfl, Nat.le_of_ble_eq_true rfl⟩) hP hD hK hS hA hev [0] [] [] rfl rfl rfl rfl (by decide) rfl 0 9 rfl rfl rfl rfl hl.1 rfl (Nat.le_of_ble_eq_true rfl) dX9_matching_2 ⟨Nat.le_of_ble_eq_true rfl, Nat.le_of_ble_eq_true rfl⟩ (fun E ce q9 H locs hpx hP hD hS hce hcv hcl => ?_) (fun r u H locs hw hP hD hK hS => ?_)
  · have hpx_1 : E = NSE ∧ True := hpx
    obtain ⟨rfl, hpx_1⟩ := hpx_1
    exact go_out hno hlocks ⟨rfl, trivial⟩ hP hD hK hS hce hcv hcl [0] rfl rfl (Nat.le_of_ble_eq_true rfl) (Nat.le_of_ble_eq_true rfl)
  have hw : r = some (.ref h0) ∧ (False) := hw
  obtain ⟨rfl, hw_2⟩ := hw
  exact absurd trivial (fun _ => hw_2)

abbrev rm_X7_takeFood : Room := { frames := 0, cells := 0, slots := 0, locals := 0 }
theorem inw_X7_takeFood_7 : ∀ w ∈ wsX70, w ∈ wsX7_takeFood := by decide +kernel
set_option maxHeartbeats 800000 in
set_option maxRecDepth 100000 in
theorem c_X7_takeFood (l : Launch) (dC : Nat → ClassId) (dI : Nat → Nat → Nat) (sa : Nat → Nat) (hlt : l.stackTraces = false) (sz : Nat) (h0 : Nat) (nu : Int32) (gr : Int32) (fo : Int32) (mi : Int32) (st : Int32) (di : Int32) (cb : Int32) (la : Int32) (n : Int32) : CT l dC dI sa yX7_takeFood wsX7_takeFood rm_X7_takeFood [.ref h0, .int n] [(h0, .inr (7, [.int nu, .int gr, .int fo, .int mi, .int st, .int di, .int cb, .int la]))] [] sz (fun (r : Option Value) (u : Int32 × Int32 × Int32) => match u with | (z, fo2, st2) => r = some (.int z) ∧ ((1000 < fo + n ∧ z = 0 ∧ fo2 = 1000 ∧ st2 = 2) ∨ (¬ 1000 < fo + n ∧ z = 1 ∧ fo2 = fo + n ∧ st2 = st))) (fun (u : Int32 × Int32 × Int32) => match u with | (z, fo2, st2) => [(h0, .inr (7, [.int nu, .int gr, .int fo2, .int mi, .int st2, .int di, .int cb, .int la]))]) (fun (u : Int32 × Int32 × Int32) => match u with | (z, fo2, st2) => []) 0 0 := by
  refine CT.start (cc := cX7_takeFood) (maxL := 2) (ret := (some .boolean)) (by decide) rfl (Nat.le_of_ble_eq_true rfl) ?_
  intro p e s m below meth c ls hst hP hK hD hev hS hl
  obtain ⟨hx, hb, hr, hml, hts, hown, hlocks, hin⟩ := hst
  have hown : s.vm.findClass RX7 = some m.cls := hown
  have hin : meth.name = yX7_takeFood.name := hin
  have hA : ∀ q : Nat, s.heap.size ≤ q → va_A [(h0, .inr (7, [.int nu, .int gr, .int fo, .int mi, .int st, .int di, .int cb, .int la]))] s.heap.size q := fun _ h => Or.inr h
  have hl : lv_has ls 2 [(0, .ref h0), (1, .int n)] := hl
  refine lv_aload_n hx hb dX7_takeFood_0 rfl (lv_at hl 0 rfl) ?_
  refine lv_dup hx hb dX7_takeFood_1 rfl ?_
  refine va_get (D := (dC, dI)) (ci := 7) (v := .int fo) (C := RX7) (T := TX7) (N := 8) hx hb hts inw_X7_takeFood_7 hown hK hP 0 rfl rfl 2 (by decide) (hts (.fieldLink RX7 45 "VatHouse$Vat" "food" "I") (by decide +kernel)) (fun _ h9 => h9) rfl dX7_takeFood_2 ?_
  refine lv_iload_n hx hb dX7_takeFood_5 rfl (lv_at hl 1 rfl) ?_
  refine lv_iadd hx hb dX7_takeFood_6 ?_
  refine lv_topi (fun z_1 ez_1 => ?_)
  refine va_put (D := (dC, dI)) (ci := 7) (v := .int z_1) (ty := .int) (C := RX7) (T := TX7) (N := 8) hx hb hts inw_X7_takeFood_7 tyX7 tyX7_ok nmX7 hown hK hP hD hS 0 rfl rfl 2 (by decide) (hts (.fieldLink RX7 45 "VatHouse$Vat" "food" "I") (by decide +kernel)) (fun _ h9 => h9) rfl (by decide +kernel) rfl rfl (Nat.le_of_ble_eq_true rfl) dX7_takeFood_7 (fun H locs hP hD hS => ?_)
  have hP : va_P (dC, dI) vwCl [(h0, .inr (7, [.int nu, .int gr, .int z_1, .int mi, .int st, .int di, .int cb, .int la]))] _ := hP
  have hD : va_D _ [(h0, .inr (7, [.int nu, .int gr, .int z_1, .int mi, .int st, .int di, .int cb, .int la]))] := hD
  refine lv_aload_n hx hb dX7_takeFood_10 rfl (lv_at hl 0 rfl) ?_
  refine va_get (D := (dC, dI)) (ci := 7) (v := .int z_1) (C := RX7) (T := TX7) (N := 8) hx hb hts inw_X7_takeFood_7 hown hK hP 0 rfl rfl 2 (by decide) (hts (.fieldLink RX7 45 "VatHouse$Vat" "food" "I") (by decide +kernel)) (fun _ h9 => h9) rfl dX7_takeFood_11 ?_
  refine lv_sipush (v := 1000) hx hb dX7_takeFood_14 (by decide) ?_
  refine lv_icmp_gt (tgt := 22) hx hb dX7_takeFood_17 (by decide) (fun c_2 => ?_) (fun c_2 => ?_)
  · refine lv_aload_n hx hb dX7_takeFood_22 rfl (lv_at hl 0 rfl) ?_
    refine lv_sipush (v := 1000) hx hb dX7_takeFood_23 (by decide) ?_
    refine va_put (D := (dC, dI)) (ci := 7) (v := .int 1000) (ty := .int) (C := RX7) (T := TX7) (N := 8) hx hb hts inw_X7_takeFood_7 tyX7 tyX7_ok nmX7 hown hK hP hD hS 0 rfl rfl 2 (by decide) (hts (.fieldLink RX7 45 "VatHouse$Vat" "food" "I") (by decide +kernel)) (fun _ h9 => h9) rfl (by decide +kernel) rfl rfl (Nat.le_of_ble_eq_true rfl) dX7_takeFood_26 (fun H locs hP hD hS => ?_)
    have hP : va_P (dC, dI) vwCl [(h0, .inr (7, [.int nu, .int gr, .int 1000, .int mi, .int st, .int di, .int cb, .int la]))] _ := hP
    have hD : va_D _ [(h0, .inr (7, [.int nu, .int gr, .int 1000, .int mi, .int st, .int di, .int cb, .int la]))] := hD
    refine lv_aload_n hx hb dX7_takeFood_29 rfl (lv_at hl 0 rfl) ?_
    refine lv_iconst (v := 2) hx hb dX7_takeFood_30 (by decide) ?_
    refine va_put (D := (dC, dI)) (ci := 7) (v := .int 2) (ty := .int) (C := RX7) (T := TX7) (N := 8) hx hb hts inw_X7_takeFood_7 tyX7 tyX7_ok nmX7 hown hK hP hD hS 0 rfl rfl 4 (by decide) (hts (.fieldLink RX7 9 "VatHouse$Vat" "state" "I") (by decide +kernel)) (fun _ h9 => h9) rfl (by decide +kernel) rfl rfl (Nat.le_of_ble_eq_true rfl) dX7_takeFood_31 (fun H locs hP hD hS => ?_)
    have hP : va_P (dC, dI) vwCl [(h0, .inr (7, [.int nu, .int gr, .int 1000, .int mi, .int 2, .int di, .int cb, .int la]))] _ := hP
    have hD : va_D _ [(h0, .inr (7, [.int nu, .int gr, .int 1000, .int mi, .int 2, .int di, .int cb, .int la]))] := hD
    refine lv_iconst (v := 0) hx hb dX7_takeFood_34 (by decide) ?_
    exact en_z hx hb hr rfl hlocks hP hD hK hS (0, 1000, 2) ⟨rfl, by subst ez_1; simp [c_2]⟩ [0] [] rfl rfl rfl (Nat.le_of_ble_eq_true rfl) (Nat.le_of_ble_eq_true rfl) dX7_takeFood_35
  · refine lv_iconst (v := 1) hx hb dX7_takeFood_20 (by decide) ?_
    exact en_z hx hb hr rfl hlocks hP hD hK hS (1, z_1, st) ⟨rfl, by subst ez_1; simp [c_2]⟩ [0] [] rfl rfl rfl (Nat.le_of_ble_eq_true rfl) (Nat.le_of_ble_eq_true rfl) dX7_takeFood_21

abbrev rm_X7_takeLime : Room := { frames := 0, cells := 0, slots := 0, locals := 0 }
theorem inw_X7_takeLime_7 : ∀ w ∈ wsX70, w ∈ wsX7_takeLime := by decide +kernel
set_option maxHeartbeats 800000 in
set_option maxRecDepth 100000 in
theorem c_X7_takeLime (l : Launch) (dC : Nat → ClassId) (dI : Nat → Nat → Nat) (sa : Nat → Nat) (hlt : l.stackTraces = false) (sz : Nat) (h0 : Nat) (nu : Int32) (gr : Int32) (fo : Int32) (mi : Int32) (st : Int32) (di : Int32) (cb : Int32) (la : Int32) : CT l dC dI sa yX7_takeLime wsX7_takeLime rm_X7_takeLime [.ref h0] [(h0, .inr (7, [.int nu, .int gr, .int fo, .int mi, .int st, .int di, .int cb, .int la]))] [] sz (fun (r : Option Value) (u : Int32 × Int32 × Int32) => match u with | (fo2, mi2, st2) => r = none ∧ (fo2 = fo / 2 ∧ mi2 = (if st = 2 then 0 else mi) ∧ st2 = (if st = 2 then (if fo ≤ 0 then st else 1) else st))) (fun (u : Int32 × Int32 × Int32) => match u with | (fo2, mi2, st2) => [(h0, .inr (7, [.int nu, .int gr, .int fo2, .int mi2, .int st2, .int di, .int cb, .int la]))]) (fun (u : Int32 × Int32 × Int32) => match u with | (fo2, mi2, st2) => []) 0 0 := by
  refine CT.start (cc := cX7_takeLime) (maxL := 1) (ret := none) (by decide) rfl (Nat.le_of_ble_eq_true rfl) ?_
  intro p e s m below meth c ls hst hP hK hD hev hS hl
  obtain ⟨hx, hb, hr, hml, hts, hown, hlocks, hin⟩ := hst
  have hown : s.vm.findClass RX7 = some m.cls := hown
  have hin : meth.name = yX7_takeLime.name := hin
  have hA : ∀ q : Nat, s.heap.size ≤ q → va_A [(h0, .inr (7, [.int nu, .int gr, .int fo, .int mi, .int st, .int di, .int cb, .int la]))] s.heap.size q := fun _ h => Or.inr h
  have hl : lv_has ls 1 [(0, .ref h0)] := hl
  refine lv_aload_n hx hb dX7_takeLime_0 rfl (lv_at hl 0 rfl) ?_
  refine va_get (D := (dC, dI)) (ci := 7) (v := .int st) (C := RX7) (T := TX7) (N := 8) hx hb hts inw_X7_takeLime_7 hown hK hP 0 rfl rfl 4 (by decide) (hts (.fieldLink RX7 9 "VatHouse$Vat" "state" "I") (by decide +kernel)) (fun _ h9 => h9) rfl dX7_takeLime_1 ?_
  refine lv_iconst (v := 2) hx hb dX7_takeLime_4 (by decide) ?_
  refine lv_icmp_ne (tgt := 25) hx hb dX7_takeLime_5 (by decide) (fun c_1 => ?_) (fun c_1 => ?_)
  · refine lv_aload_n hx hb dX7_takeLime_25 rfl (lv_at hl 0 rfl) ?_
    refine lv_aload_n hx hb dX7_takeLime_26 rfl (lv_at hl 0 rfl) ?_
    refine va_get (D := (dC, dI)) (ci := 7) (v := .int fo) (C := RX7) (T := TX7) (N := 8) hx hb hts inw_X7_takeLime_7 hown hK hP 0 rfl rfl 2 (by decide) (hts (.fieldLink RX7 45 "VatHouse$Vat" "food" "I") (by decide +kernel)) (fun _ h9 => h9) rfl dX7_takeLime_27 ?_
    refine lv_iconst (v := 2) hx hb dX7_takeLime_30 (by decide) ?_
    refine lv_idiv hx hb dX7_takeLime_31 (by decide) ?_
    refine lv_topi (fun z_2 ez_2 => ?_)
    refine va_put (D := (dC, dI)) (ci := 7) (v := .int z_2) (ty := .int) (C := RX7) (T := TX7) (N := 8) hx hb hts inw_X7_takeLime_7 tyX7 tyX7_ok nmX7 hown hK hP hD hS 0 rfl rfl 2 (by decide) (hts (.fieldLink RX7 45 "VatHouse$Vat" "food" "I") (by decide +kernel)) (fun _ h9 => h9) rfl (by decide +kernel) rfl rfl (Nat.le_of_ble_eq_true rfl) dX7_takeLime_32 (fun H locs hP hD hS => ?_)
    have hP : va_P (dC, dI) vwCl [(h0, .inr (7, [.int nu, .int gr, .int z_2, .int mi, .int st, .int di, .int cb, .int la]))] _ := hP
    have hD : va_D _ [(h0, .inr (7, [.int nu, .int gr, .int z_2, .int mi, .int st, .int di, .int cb, .int la]))] := hD
    exact en_v hx hb hr hlocks hP hD hK hS (z_2, mi, st) ⟨rfl, by subst ez_2; simp [c_1]⟩ [0] [] rfl rfl rfl (Nat.le_of_ble_eq_true rfl) (Nat.le_of_ble_eq_true rfl) dX7_takeLime_35
  · refine lv_aload_n hx hb dX7_takeLime_8 rfl (lv_at hl 0 rfl) ?_
    refine lv_iconst (v := 0) hx hb dX7_takeLime_9 (by decide) ?_
    refine va_put (D := (dC, dI)) (ci := 7) (v := .int 0) (ty := .int) (C := RX7) (T := TX7) (N := 8) hx hb hts inw_X7_takeLime_7 tyX7 tyX7_ok nmX7 hown hK hP hD hS 0 rfl rfl 3 (by decide) (hts (.fieldLink RX7 42 "VatHouse$Vat" "minutes" "I") (by decide +kernel)) (fun _ h9 => h9) rfl (by decide +kernel) rfl rfl (Nat.le_of_ble_eq_true rfl) dX7_takeLime_10 (fun H locs hP hD hS => ?_)
    have hP : va_P (dC, dI) vwCl [(h0, .inr (7, [.int nu, .int gr, .int fo, .int 0, .int st, .int di, .int cb, .int la]))] _ := hP
    have hD : va_D _ [(h0, .inr (7, [.int nu, .int gr, .int fo, .int 0, .int st, .int di, .int cb, .int la]))] := hD
    refine lv_aload_n hx hb dX7_takeLime_13 rfl (lv_at hl 0 rfl) ?_
    refine va_get (D := (dC, dI)) (ci := 7) (v := .int fo) (C := RX7) (T := TX7) (N := 8) hx hb hts inw_X7_takeLime_7 hown hK hP 0 rfl rfl 2 (by decide) (hts (.fieldLink RX7 45 "VatHouse$Vat" "food" "I") (by decide +kernel)) (fun _ h9 => h9) rfl dX7_takeLime_14 ?_
    refine lv_if_le (tgt := 25) hx hb dX7_takeLime_17 (by decide) (fun c_3 => ?_) (fun c_3 => ?_)
    · refine lv_aload_n hx hb dX7_takeLime_25 rfl (lv_at hl 0 rfl) ?_
      refine lv_aload_n hx hb dX7_takeLime_26 rfl (lv_at hl 0 rfl) ?_
      refine va_get (D := (dC, dI)) (ci := 7) (v := .int fo) (C := RX7) (T := TX7) (N := 8) hx hb hts inw_X7_takeLime_7 hown hK hP 0 rfl rfl 2 (by decide) (hts (.fieldLink RX7 45 "VatHouse$Vat" "food" "I") (by decide +kernel)) (fun _ h9 => h9) rfl dX7_takeLime_27 ?_
      refine lv_iconst (v := 2) hx hb dX7_takeLime_30 (by decide) ?_
      refine lv_idiv hx hb dX7_takeLime_31 (by decide) ?_
      refine lv_topi (fun z_4 ez_4 => ?_)
      refine va_put (D := (dC, dI)) (ci := 7) (v := .int z_4) (ty := .int) (C := RX7) (T := TX7) (N := 8) hx hb hts inw_X7_takeLime_7 tyX7 tyX7_ok nmX7 hown hK hP hD hS 0 rfl rfl 2 (by decide) (hts (.fieldLink RX7 45 "VatHouse$Vat" "food" "I") (by decide +kernel)) (fun _ h9 => h9) rfl (by decide +kernel) rfl rfl (Nat.le_of_ble_eq_true rfl) dX7_takeLime_32 (fun H locs hP hD hS => ?_)
      have hP : va_P (dC, dI) vwCl [(h0, .inr (7, [.int nu, .int gr, .int z_4, .int 0, .int st, .int di, .int cb, .int la]))] _ := hP
      have hD : va_D _ [(h0, .inr (7, [.int nu, .int gr, .int z_4, .int 0, .int st, .int di, .int cb, .int la]))] := hD
      exact en_v hx hb hr hlocks hP hD hK hS (z_4, 0, st) ⟨rfl, by subst ez_4; simp [c_1, c_3]⟩ [0] [] rfl rfl rfl (Nat.le_of_ble_eq_true rfl) (Nat.le_of_ble_eq_true rfl) dX7_takeLime_35
    · refine lv_aload_n hx hb dX7_takeLime_20 rfl (lv_at hl 0 rfl) ?_
      refine lv_iconst (v := 1) hx hb dX7_takeLime_21 (by decide) ?_
      refine va_put (D := (dC, dI)) (ci := 7) (v := .int 1) (ty := .int) (C := RX7) (T := TX7) (N := 8) hx hb hts inw_X7_takeLime_7 tyX7 tyX7_ok nmX7 hown hK hP hD hS 0 rfl rfl 4 (by decide) (hts (.fieldLink RX7 9 "VatHouse$Vat" "state" "I") (by decide +kernel)) (fun _ h9 => h9) rfl (by decide +kernel) rfl rfl (Nat.le_of_ble_eq_true rfl) dX7_takeLime_22 (fun H locs hP hD hS => ?_)
      have hP : va_P (dC, dI) vwCl [(h0, .inr (7, [.int nu, .int gr, .int fo, .int 0, .int 1, .int di, .int cb, .int la]))] _ := hP
      have hD : va_D _ [(h0, .inr (7, [.int nu, .int gr, .int fo, .int 0, .int 1, .int di, .int cb, .int la]))] := hD
      refine lv_aload_n hx hb dX7_takeLime_25 rfl (lv_at hl 0 rfl) ?_
      refine lv_aload_n hx hb dX7_takeLime_26 rfl (lv_at hl 0 rfl) ?_
      refine va_get (D := (dC, dI)) (ci := 7) (v := .int fo) (C := RX7) (T := TX7) (N := 8) hx hb hts inw_X7_takeLime_7 hown hK hP 0 rfl rfl 2 (by decide) (hts (.fieldLink RX7 45 "VatHouse$Vat" "food" "I") (by decide +kernel)) (fun _ h9 => h9) rfl dX7_takeLime_27 ?_
      refine lv_iconst (v := 2) hx hb dX7_takeLime_30 (by decide) ?_
      refine lv_idiv hx hb dX7_takeLime_31 (by decide) ?_
      refine lv_topi (fun z_5 ez_5 => ?_)
      refine va_put (D := (dC, dI)) (ci := 7) (v := .int z_5) (ty := .int) (C := RX7) (T := TX7) (N := 8) hx hb hts inw_X7_takeLime_7 tyX7 tyX7_ok nmX7 hown hK hP hD hS 0 rfl rfl 2 (by decide) (hts (.fieldLink RX7 45 "VatHouse$Vat" "food" "I") (by decide +kernel)) (fun _ h9 => h9) rfl (by decide +kernel) rfl rfl (Nat.le_of_ble_eq_true rfl) dX7_takeLime_32 (fun H locs hP hD hS => ?_)
      have hP : va_P (dC, dI) vwCl [(h0, .inr (7, [.int nu, .int gr, .int z_5, .int 0, .int 1, .int di, .int cb, .int la]))] _ := hP
      have hD : va_D _ [(h0, .inr (7, [.int nu, .int gr, .int z_5, .int 0, .int 1, .int di, .int cb, .int la]))] := hD
      exact en_v hx hb hr hlocks hP hD hK hS (z_5, 0, 1) ⟨rfl, by subst ez_5; simp [c_1, c_3]⟩ [0] [] rfl rfl rfl (Nat.le_of_ble_eq_true rfl) (Nat.le_of_ble_eq_true rfl) dX7_takeLime_35
