theorem nar_b {z : Int32} (h : z = 0 ∨ z = 1) : narrow .boolean (.int z) = .int z := by
  rcases h with rfl | rfl <;> rfl

theorem lv8b {x : Int32} {bl j : Nat} (hBL : x = nI bl) (hn : ¬ x = 8) (hj : bl + j = 8) : ∃ j1 : Nat, j = j1 + 1 := by
  rcases Nat.eq_zero_or_pos j with h | h
  · have e : bl = 8 := by omega
    rw [e] at hBL
    exact absurd (hBL.trans (by decide)) hn
  · exact ⟨j - 1, by omega⟩
theorem nx300 {x y : Int32} {n : Nat} (hm : (300 - x.toInt).toNat < n + 1) (h : x.toInt < y.toInt) (h3 : y.toInt ≤ 300) : (300 - y.toInt).toNat < n := by
  omega
theorem nq_ne {z n : Int32} {q : Nat} (hz : z = nI q) (hV : PV n q) (hn : n.toInt ≤ 300) : ¬ z = -1 ∧ ¬ z = -2 := by
  have h1 := hV.2
  have e : z.toInt = (q : Int) := by rw [hz]; exact nI_toInt (by omega)
  exact ⟨fun h => by rw [h] at e; have : (-1 : Int32).toInt = -1 := by decide
                     omega, fun h => by rw [h] at e; have : (-2 : Int32).toInt = -2 := by decide
                                        omega⟩
theorem lk.ne2 {V : Nat → Prop} {dp : Nat → Nat} {kd on inr oth nx : Nat → Int32} (hN : ND V dp kd on inr oth nx) {d : Nat} {x : Int32} (h : lk V dp d x) : ¬ x = -2 := by
  rcases h with h | ⟨q, h1, h2, -⟩
  · rw [h]; decide
  · have h3 := (hN q h2).1
    have e : x.toInt = (q : Int) := by rw [h1]; exact nI_toInt (by omega)
    intro h
    rw [h] at e
    have : (-2 : Int32).toInt = -2 := by decide
    omega

section EV
variable {tt : Nat → Int32} {ln : Nat} {r : SG} {x22 x23 x24 y z : Int32}
theorem MI.bk1 (h : MI tt ln r x22 x23 x24) (d : Nat) (hK : ¬ Kp tt ln r.1 = 123) (hy : y = 1) (hz : z = nI r.1) : ∃ rn : SG, Ev (Kp tt ln) (Vp tt ln) (nq tt ln) 2 d r rn ∧ MO rn y z := by
  have e : gob (Kp tt ln) (nq tt ln) d r = gpa (Kp tt ln) (nq tt ln) 123 r := by
    unfold gob
    rw [if_neg (fun g => hK g.1)]
  have hm := h.fl hK hy hz
  exact ⟨_, Ev.block0 (d := d) (by rw [e]; exact hm.2.2.1), by rw [e]; exact hm⟩
theorem MI.bk2 (h : MI tt ln r x22 x23 x24) {d : Nat} (hK : Kp tt ln r.1 = 123) (hd : 8 ≤ d) (hy : y = 2) (hz : z = nI r.1) : ∃ rn : SG, Ev (Kp tt ln) (Vp tt ln) (nq tt ln) 2 d r rn ∧ MO rn y z := by
  have hf : ¬ (gfl 2 r).2.2.1 = 0 := by show ¬ (2 : Int32) = 0; decide
  have e : gob (Kp tt ln) (nq tt ln) d r = gfl 2 r := by
    unfold gob grf
    rw [if_pos ⟨hK, hd⟩, if_pos h.2.1, gpa_fx hf]
  exact ⟨_, Ev.block0 (d := d) (by rw [e]; exact hf), by rw [e]; exact ⟨hy, hz, hf, by rw [hy]; decide⟩⟩
theorem MI.bk3 (h : MI tt ln r x22 x23 x24) {d : Nat} (hK : Kp tt ln r.1 = 123) (hq : r.1 < ln) (hd : ¬ 8 ≤ d) (hy : y = nI (nx tt ln r.1)) : MI tt ln (gob (Kp tt ln) (nq tt ln) d r) y x23 x24 := by
  unfold gob
  rw [if_neg (fun g => hd g.2)]
  exact h.pass hK hq hy
theorem MI.gob0 {d : Nat} (h : MI tt ln (gob (Kp tt ln) (nq tt ln) d r) x22 x23 x24) : (gob (Kp tt ln) (nq tt ln) d r).2.2.1 = 0 := h.2.1
/-- steps and what must stand behind them -/
def ST (K V : Nat → Int32) (N : Nat → Nat) (d : Nat) (c : Int32) (q rn : SG) : Prop := ∃ r1 : SG, Ev K V N 0 d q r1 ∧ rn = gpa K N c r1
theorem ST.bk {d : Nat} {rn : SG} (h0 : (gob (Kp tt ln) (nq tt ln) d r).2.2.1 = 0) (h : ST (Kp tt ln) (Vp tt ln) (nq tt ln) (d + 1) 125 (gob (Kp tt ln) (nq tt ln) d r) rn) : Ev (Kp tt ln) (Vp tt ln) (nq tt ln) 2 d r rn := by
  obtain ⟨r1, h1, rfl⟩ := h
  exact Ev.block h0 h1
end EV

abbrev rm_X10_block (j : Nat) (bl : Nat) (dp : Nat → Nat) (ln : Nat) (sq : SG) : Room := { frames := 4 * j + 60, cells := 0, slots := 0, locals := 200 * j + 1000 }
abbrev rm_X10_rest (j : Nat) (bl : Nat) (dp : Nat → Nat) (ln : Nat) (sq : SG) (cw : Int32) : Room := { frames := 4 * j + 61, cells := 0, slots := 0, locals := 200 * j + 1040 }
abbrev rm_X10_step (j : Nat) (bl : Nat) (dp : Nat → Nat) (ln : Nat) (sq : SG) : Room := { frames := 4 * j + 62, cells := 0, slots := 0, locals := 200 * j + 1080 }
abbrev rm_X10_steps (j : Nat) (bl : Nat) (dp : Nat → Nat) (ln : Nat) (sq : SG) : Room := { frames := 4 * j + 63, cells := 0, slots := 0, locals := 200 * j + 1120 }
theorem inw_X10_block_10 : ∀ w ∈ wsX100, w ∈ wsX10_block := by decide +kernel
set_option maxHeartbeats 1000000 in
set_option maxRecDepth 100000 in
theorem m_X10_block (l : Launch) (dC : Nat → ClassId) (dI : Nat → Nat → Nat) (sa : Nat → Nat) (g : Nat → Nat) (h0 : Nat) (b : Nat → Nat) (j : Nat) (bl : Nat) (dp : Nat → Nat) (ln : Nat) (sq : SG) (i : Nat → Int32) (a : Nat → Nat → Int32) (kk : Int32) (se : Int32) (sz : Nat) (hL : (i 21) = nI ln ∧ ln ≤ 1500) (hM : MI (a 19) ln sq (i 22) (i 23) (i 24)) (hn36 : (i 36) = nI sq.2.1) (hPN : PN (i 36) dp (a 26) (a 27) (a 31) (a 32) (a 33)) (hBL : (i 38) = nI bl) (hj : bl + j = 8) (hn3 : sq.2.1 ≤ 300) (hnode : ∃ q0 : Nat, kk = nI q0 ∧ PV (i 36) q0 ∧ dp q0 = bl) (IHS : ∀ j' bl' : Nat, bl' + j' = 8 → j = j' + 1 → ∀ (dp : Nat → Nat) (ln : Nat) (sq : SG) (i : Nat → Int32) (a : Nat → Nat → Int32) (ib : Int32) (sz : Nat) (hL : (i 21) = nI ln ∧ ln ≤ 1500) (hM : MI (a 19) ln sq (i 22) (i 23) (i 24)) (hn36 : (i 36) = nI sq.2.1) (hPN : PN (i 36) dp (a 26) (a 27) (a 31) (a 32) (a 33)) (hBL : (i 38) = nI bl') (hn3 : sq.2.1 ≤ 300), CT l dC dI sa yX10_steps wsX10_steps (rm_X10_steps j' bl' dp ln sq) [.ref h0, .int ib] (mw g h0 b i a) (tyM g) sz (fun (r : Option Value) (u : Int32 × Int32 × Int32 × Int32 × Int32 × (Nat → Int32) × (Nat → Int32) × (Nat → Int32) × (Nat → Int32) × (Nat → Int32) × (Nat → Int32) × (Nat → Int32) × (Nat → Int32)) => match u with | (x22, x23, x24, x25, x36, y26, y27, y28, y29, y30, y31, y32, y33) => (∃ z : Int32, r = some (.int z)) ∧ (∃ dpN : Nat → Nat, PR (i 36) x36 dp dpN (a 26) (a 27) (a 31) (a 32) (a 33) y26 y27 y31 y32 y33 ∧ (∀ z : Int32, r = some (.int z) → (z = -2 ∧ ∃ rn : SG, ST (Kp (a 19) ln) (Vp (a 19) ln) (nq (a 19) ln) bl' (if ib = 0 then (0 : Int32) else 125) sq rn ∧ MO rn x23 x24) ∨ (lk (PV x36) dpN bl' z ∧ ∃ rn : SG, ST (Kp (a 19) ln) (Vp (a 19) ln) (nq (a 19) ln) bl' (if ib = 0 then (0 : Int32) else 125) sq rn ∧ MI (a 19) ln rn x22 x23 x24 ∧ x36 = nI rn.2.1)))) (fun (u : Int32 × Int32 × Int32 × Int32 × Int32 × (Nat → Int32) × (Nat → Int32) × (Nat → Int32) × (Nat → Int32) × (Nat → Int32) × (Nat → Int32) × (Nat → Int32) × (Nat → Int32)) => match u with | (x22, x23, x24, x25, x36, y26, y27, y28, y29, y30, y31, y32, y33) => mw g h0 b (va_up (va_up (va_up (va_up (va_up i 22 x22) 23 x23) 24 x24) 25 x25) 36 x36) (va_up (va_up (va_up (va_up (va_up (va_up (va_up (va_up a 26 y26) 27 y27) 28 y28) 29 y29) 30 y30) 31 y31) 32 y32) 33 y33)) (fun _ => []) 0 0) : CT l dC dI sa yX10_block wsX10_block (rm_X10_block j bl dp ln sq) [.ref h0, .int kk, .int se] (mw g h0 b i a) (tyM g) sz (fun (r : Option Value) (u : Int32 × Int32 × Int32 × Int32 × Int32 × (Nat → Int32) × (Nat → Int32) × (Nat → Int32) × (Nat → Int32) × (Nat → Int32) × (Nat → Int32) × (Nat → Int32) × (Nat → Int32)) => match u with | (x22, x23, x24, x25, x36, y26, y27, y28, y29, y30, y31, y32, y33) => ((r = some (.int 0) ∧ (∃ rn : SG, Ev (Kp (a 19) ln) (Vp (a 19) ln) (nq (a 19) ln) 2 bl sq rn ∧ MO rn x23 x24)) ∨ (r = some (.int 1) ∧ (∃ rn : SG, Ev (Kp (a 19) ln) (Vp (a 19) ln) (nq (a 19) ln) 2 bl sq rn ∧ MI (a 19) ln rn x22 x23 x24 ∧ x36 = nI rn.2.1))) ∧ (∃ dpN : Nat → Nat, PR (i 36) x36 dp dpN (a 26) (a 27) (a 31) (a 32) (a 33) y26 y27 y31 y32 y33)) (fun (u : Int32 × Int32 × Int32 × Int32 × Int32 × (Nat → Int32) × (Nat → Int32) × (Nat → Int32) × (Nat → Int32) × (Nat → Int32) × (Nat → Int32) × (Nat → Int32) × (Nat → Int32)) => match u with | (x22, x23, x24, x25, x36, y26, y27, y28, y29, y30, y31, y32, y33) => mw g h0 b (va_up (va_up (va_up (va_up (va_up i 22 x22) 23 x23) 24 x24) 25 x25) 36 x36) (va_up (va_up (va_up (va_up (va_up (va_up (va_up (va_up a 26 y26) 27 y27) 28 y28) 29 y29) 30 y30) 31 y31) 32 y32) 33 y33)) (fun _ => []) 0 0 := by
  refine CT.start (cc := cX10_block) (maxL := 4) (ret := (some .boolean)) (by decide) rfl (Nat.le_of_ble_eq_true rfl) ?_
  intro p e s m below meth c ls hst hP hK hD hev hS hl
  obtain ⟨hx, hb, hr, hml, hts, hown, hlocks, hin⟩ := hst
  have hown : s.vm.findClass RX10 = some m.cls := hown
  have hA : ∀ q : Nat, s.heap.size ≤ q → va_A (mw g h0 b i a) s.heap.size q := fun _ h => Or.inr h
  have hl : lv_has ls 4 [(0, .ref h0), (1, .int kk), (2, .int se)] := hl
  obtain ⟨q, hq, hVq, hdq⟩ := hnode
  have hq27 := (hPN.2.2 q hVq).1
  have hkq : kk.toNatClampNeg = q := by rw [hq]; exact nI_clamp (by omega)
  have hk : vp_in kk 2700 := by rw [hq]; exact vp_in_nI hq27 (by decide)
  refine lv_aload_n hx hb dX10_block_0 rfl (lv_at hl 0 rfl) ?_
  refine lv_bipush (v := 123) hx hb dX10_block_1 (by decide) ?_
  refine M_V ⟨hx, hb, hml, hown, hts⟩ (m_X10_isSign l dC dI sa g h0 b ln sq i a (123 : Int32) _ hL hM (by decide)) (cwV 1 hts gX10_block_X10_isSign rfl rfl rfl (by decide +kernel) ⟨(by first | exact Nat.le_of_ble_eq_true rfl | (simp only [rm_X10_isSign, rm_X10_block]; omega)), (by first | exact Nat.le_of_ble_eq_true rfl | (simp only [rm_X10_isSign, rm_X10_block]; omega))⟩) hP hD hK hS hA hev rfl rfl rfl rfl hl.1 rfl (Nat.le_of_ble_eq_true rfl) dX10_block_3 ⟨(by first | exact Nat.le_of_ble_eq_true rfl | (simp only [rm_X10_block]; omega)), (by first | exact Nat.le_of_ble_eq_true rfl | (simp only [rm_X10_block]; omega))⟩ (fun r u H locs hw hP hD hS => ?_)
  obtain ⟨x22_1, rfl⟩ : ∃ z, z = u := ⟨_, rfl⟩
  have hw : ((r = some (.int 0) ∧ (¬ Kp (a 19) ln sq.1 = (123 : Int32))) ∨ (r = some (.int 1) ∧ (sq.1 < ln ∧ Kp (a 19) ln sq.1 = (123 : Int32)))) ∧ (x22_1 = nI sq.1) := hw
  obtain ⟨⟨rfl, hz2_3⟩ | ⟨rfl, hz2_3⟩, hw_2⟩ := hw
  · have hP : va_P (dC, dI) vwCl (mw g h0 b (va_up i 22 x22_1) a) _ := hP
    have hD : va_D _ (mw g h0 b (va_up i 22 x22_1) a) := hD
    refine W.eq (g2 := F0 m 6 ls [.int 0]) rfl ?_
    have hmq_4 : MI (a 19) ln sq x22_1 (i 23) (i 24) := (hM).sk hw_2
    refine lv_if_ne (tgt := 19) hx hb dX10_block_6 (by decide) (fun c_5 => absurd c_5 (by decide)) (fun _ => ?_)
    refine lv_aload_n hx hb dX10_block_9 rfl (lv_at hl 0 rfl) ?_
    refine lv_iconst (v := 1) hx hb dX10_block_10 (by decide) ?_
    refine lv_aload_n hx hb dX10_block_11 rfl (lv_at hl 0 rfl) ?_
    refine va_get (D := (dC, dI)) (ci := 10) (v := .int x22_1) (C := RX10) (T := TX10) (N := 51) hx hb hts inw_X10_block_10 hown hK hP 0 rfl rfl 22 (by decide) (hts (.fieldLink RX10 168 "VatHouseModel" "at" "I") (by decide +kernel)) (fun _ h9 => h9) rfl dX10_block_12 ?_
    refine M_V ⟨hx, hb, hml, hown, hts⟩ (m_X10_wrong l dC dI sa g h0 b (va_up i 22 x22_1) a (1 : Int32) x22_1 _ (hmq_4).1) (cwV 2 hts gX10_block_X10_wrong rfl rfl rfl (by decide +kernel) ⟨(by first | exact Nat.le_of_ble_eq_true rfl | (simp only [rm_X10_wrong, rm_X10_block]; omega)), (by first | exact Nat.le_of_ble_eq_true rfl | (simp only [rm_X10_wrong, rm_X10_block]; omega))⟩) hP hD hK hS hA hev rfl rfl rfl rfl hl.1 rfl (Nat.le_of_ble_eq_true rfl) dX10_block_15 ⟨(by first | exact Nat.le_of_ble_eq_true rfl | (simp only [rm_X10_block]; omega)), (by first | exact Nat.le_of_ble_eq_true rfl | (simp only [rm_X10_block]; omega))⟩ (fun r u H locs hw hP hD hS => ?_)
    obtain ⟨x23_6, x24_7⟩ := u
    have hw : ((r = some (.int 0) ∧ (x23_6 = (1 : Int32) ∧ x24_7 = x22_1)) ∨ (r = some (.int 1) ∧ (False))) ∧ (True) := hw
    obtain ⟨⟨rfl, hz2_9⟩ | ⟨rfl, hz2_9⟩, hw_8⟩ := hw
    · have hP : va_P (dC, dI) vwCl (mw g h0 b (va_up (va_up (va_up i 22 x22_1) 23 x23_6) 24 x24_7) a) _ := hP
      have hD : va_D _ (mw g h0 b (va_up (va_up (va_up i 22 x22_1) 23 x23_6) 24 x24_7) a) := hD
      refine W.eq (g2 := F0 m 18 ls [.int 0]) rfl ?_
      exact M_z hx hb hr rfl hlocks (x22_1, x23_6, x24_7, (i 25), (i 36), (a 26), (a 27), (a 28), (a 29), (a 30), (a 31), (a 32), (a 33)) hP hD hK hS ⟨Or.inl ⟨rfl, (hmq_4).bk1 bl hz2_3 hz2_9.1 (hz2_9.2.trans hw_2)⟩, ⟨dp, (PR.rf hPN)⟩⟩ (by first | exact Nat.le_of_ble_eq_true rfl | (simp only [rm_X10_block]; omega)) (by first | exact Nat.le_of_ble_eq_true rfl | (simp only [rm_X10_block]; omega)) dX10_block_18
    · have hP : va_P (dC, dI) vwCl (mw g h0 b (va_up (va_up (va_up i 22 x22_1) 23 x23_6) 24 x24_7) a) _ := hP
      have hD : va_D _ (mw g h0 b (va_up (va_up (va_up i 22 x22_1) 23 x23_6) 24 x24_7) a) := hD
      refine W.eq (g2 := F0 m 18 ls [.int 1]) rfl ?_
      exact hz2_9.elim
  · have hP : va_P (dC, dI) vwCl (mw g h0 b (va_up i 22 x22_1) a) _ := hP
    have hD : va_D _ (mw g h0 b (va_up i 22 x22_1) a) := hD
    refine W.eq (g2 := F0 m 6 ls [.int 1]) rfl ?_
    have hmq_10 : MI (a 19) ln sq x22_1 (i 23) (i 24) := (hM).sk hw_2
    refine lv_if_ne (tgt := 19) hx hb dX10_block_6 (by decide) (fun _ => ?_) (fun c_11 => absurd c_11 (by decide))
    refine lv_aload_n hx hb dX10_block_19 rfl (lv_at hl 0 rfl) ?_
    refine va_get (D := (dC, dI)) (ci := 10) (v := .int (i 38)) (C := RX10) (T := TX10) (N := 51) hx hb hts inw_X10_block_10 hown hK hP 0 rfl rfl 38 (by decide) (hts (.fieldLink RX10 277 "VatHouseModel" "blocks" "I") (by decide +kernel)) (fun _ h9 => h9) rfl dX10_block_20 ?_
    refine lv_bipush (v := 8) hx hb dX10_block_23 (by decide) ?_
    refine lv_icmp_ne (tgt := 38) hx hb dX10_block_25 (by decide) (fun c_12 => ?_) (fun c_12 => ?_)
    · have nc_12 := ne_i c_12
      have lc_12 : (8 : Int32).toInt = 8 := by decide
      refine lv_aload_n hx hb dX10_block_38 rfl (lv_at hl 0 rfl) ?_
      refine lv_dup hx hb dX10_block_39 rfl ?_
      refine va_get (D := (dC, dI)) (ci := 10) (v := .int (i 38)) (C := RX10) (T := TX10) (N := 51) hx hb hts inw_X10_block_10 hown hK hP 0 rfl rfl 38 (by decide) (hts (.fieldLink RX10 277 "VatHouseModel" "blocks" "I") (by decide +kernel)) (fun _ h9 => h9) rfl dX10_block_40 ?_
      refine lv_iconst (v := 1) hx hb dX10_block_43 (by decide) ?_
      refine lv_iadd hx hb dX10_block_44 ?_
      refine lv_topi (fun z_13 ez_13 => ?_)
      refine va_put (D := (dC, dI)) (ci := 10) (v := .int z_13) (ty := .int) (C := RX10) (T := TX10) (N := 51) hx hb hts inw_X10_block_10 tyX10 tyX10_ok nmX10 hown hK hP hD hS 0 rfl rfl 38 (by decide) (hts (.fieldLink RX10 277 "VatHouseModel" "blocks" "I") (by decide +kernel)) (fun _ h9 => h9) rfl (by decide +kernel) rfl rfl (Nat.le_of_ble_eq_true rfl) dX10_block_45 (fun H locs hP hD hS => ?_)
      have hP : va_P (dC, dI) vwCl (mw g h0 b (va_up (va_up i 22 x22_1) 38 z_13) a) _ := hP
      have hD : va_D _ (mw g h0 b (va_up (va_up i 22 x22_1) 38 z_13) a) := hD
      refine lv_aload_n hx hb dX10_block_48 rfl (lv_at hl 0 rfl) ?_
      refine lv_dup hx hb dX10_block_49 rfl ?_
      refine va_get (D := (dC, dI)) (ci := 10) (v := .int x22_1) (C := RX10) (T := TX10) (N := 51) hx hb hts inw_X10_block_10 hown hK hP 0 rfl rfl 22 (by decide) (hts (.fieldLink RX10 168 "VatHouseModel" "at" "I") (by decide +kernel)) (fun _ h9 => h9) rfl dX10_block_50 ?_
      refine lv_iconst (v := 1) hx hb dX10_block_53 (by decide) ?_
      refine lv_iadd hx hb dX10_block_54 ?_
      refine lv_topi (fun z_14 ez_14 => ?_)
      refine va_put (D := (dC, dI)) (ci := 10) (v := .int z_14) (ty := .int) (C := RX10) (T := TX10) (N := 51) hx hb hts inw_X10_block_10 tyX10 tyX10_ok nmX10 hown hK hP hD hS 0 rfl rfl 22 (by decide) (hts (.fieldLink RX10 168 "VatHouseModel" "at" "I") (by decide +kernel)) (fun _ h9 => h9) rfl (by decide +kernel) rfl rfl (Nat.le_of_ble_eq_true rfl) dX10_block_55 (fun H locs hP hD hS => ?_)
      have hP : va_P (dC, dI) vwCl (mw g h0 b (va_up (va_up i 22 z_14) 38 z_13) a) _ := hP
      have hD : va_D _ (mw g h0 b (va_up (va_up i 22 z_14) 38 z_13) a) := hD
      have hd8 : ¬ 8 ≤ bl := by obtain ⟨j1, h9⟩ := lv8b hBL c_12 hj; omega
      have hmq_15 : MI (a 19) ln (gob (Kp (a 19) ln) (nq (a 19) ln) bl sq) z_14 (i 23) (i 24) := (hmq_10).bk3 hz2_3.2 hz2_3.1 hd8 (by rw [ez_14, hw_2, nx_sign (by decide) ((Kp_sign (by decide)).mp hz2_3.2).2]; exact nI_1 _)
      refine lv_aload_n hx hb dX10_block_58 rfl (lv_at hl 0 rfl) ?_
      refine lv_iconst (v := 1) hx hb dX10_block_59 (by decide) ?_
      obtain ⟨j1, hj_16⟩ := lv8b hBL c_12 hj
      refine M_V ⟨hx, hb, hml, hown, hts⟩ (IHS j1 (bl + 1) (by omega) hj_16 dp ln (gob (Kp (a 19) ln) (nq (a 19) ln) bl sq) (va_up (va_up i 22 z_14) 38 z_13) a (1 : Int32) _ hL hmq_15 (by first | exact hn36 | (simp only [gpa_nd, gnu_nd, gpl_nd, gte_nd, gob_nd, grf_nd]; exact hn36)) hPN (by show z_13 = nI (bl + 1); rw [ez_13, hBL]; exact nI_1 bl) (by first | exact hn3 | (simp only [gpa_nd, gnu_nd, gpl_nd, gte_nd, gob_nd, grf_nd]; exact hn3))) (cwV 1 hts gX10_block_X10_steps rfl rfl rfl (by decide +kernel) ⟨(by first | exact Nat.le_of_ble_eq_true rfl | (simp only [rm_X10_steps, rm_X10_block]; omega)), (by first | exact Nat.le_of_ble_eq_true rfl | (simp only [rm_X10_steps, rm_X10_block]; omega))⟩) hP hD hK hS hA hev rfl rfl rfl rfl hl.1 rfl (Nat.le_of_ble_eq_true rfl) dX10_block_60 ⟨(by first | exact Nat.le_of_ble_eq_true rfl | (simp only [rm_X10_block]; omega)), (by first | exact Nat.le_of_ble_eq_true rfl | (simp only [rm_X10_block]; omega))⟩ (fun r u H locs hw hP hD hS => ?_)
      obtain ⟨x22_17, x23_18, x24_19, x25_20, x36_21, y26_22, y27_23, y28_24, y29_25, y30_26, y31_27, y32_28, y33_29⟩ := u
      have hw : (∃ z : Int32, r = some (.int z)) ∧ (∃ dpN : Nat → Nat, PR (i 36) x36_21 dp dpN (a 26) (a 27) (a 31) (a 32) (a 33) y26_22 y27_23 y31_27 y32_28 y33_29 ∧ (∀ z : Int32, r = some (.int z) → (z = -2 ∧ ∃ rn : SG, ST (Kp (a 19) ln) (Vp (a 19) ln) (nq (a 19) ln) (bl + 1) (if (1 : Int32) = 0 then (0 : Int32) else 125) (gob (Kp (a 19) ln) (nq (a 19) ln) bl sq) rn ∧ MO rn x23_18 x24_19) ∨ (lk (PV x36_21) dpN (bl + 1) z ∧ ∃ rn : SG, ST (Kp (a 19) ln) (Vp (a 19) ln) (nq (a 19) ln) (bl + 1) (if (1 : Int32) = 0 then (0 : Int32) else 125) (gob (Kp (a 19) ln) (nq (a 19) ln) bl sq) rn ∧ MI (a 19) ln rn x22_17 x23_18 x24_19 ∧ x36_21 = nI rn.2.1))) := hw
      obtain ⟨⟨z_31, rfl⟩, hw_30⟩ := hw
      have hP : va_P (dC, dI) vwCl (mw g h0 b (va_up (va_up (va_up (va_up (va_up (va_up i 22 x22_17) 23 x23_18) 24 x24_19) 25 x25_20) 36 x36_21) 38 z_13) (va_up (va_up (va_up (va_up (va_up (va_up (va_up (va_up a 26 y26_22) 27 y27_23) 28 y28_24) 29 y29_25) 30 y30_26) 31 y31_27) 32 y32_28) 33 y33_29)) _ := hP
      have hD : va_D _ (mw g h0 b (va_up (va_up (va_up (va_up (va_up (va_up i 22 x22_17) 23 x23_18) 24 x24_19) 25 x25_20) 36 x36_21) 38 z_13) (va_up (va_up (va_up (va_up (va_up (va_up (va_up (va_up a 26 y26_22) 27 y27_23) 28 y28_24) 29 y29_25) 30 y30_26) 31 y31_27) 32 y32_28) 33 y33_29)) := hD
      refine W.eq (g2 := F0 m 63 ls [.int z_31]) rfl ?_
      obtain ⟨dp_33, hPR_32, hres_34⟩ := hw_30
      have hres_34 := hres_34 _ rfl
      have hpr_35 := PR.tr (PR.rf hPN) hPR_32
      rw [show (if (1 : Int32) = 0 then (0 : Int32) else 125) = 125 from if_neg (by decide)] at hres_34
      refine lv_istore_n (lv' := [(3, .int z_31), (0, .ref h0), (1, .int kk), (2, .int se)]) hx hb dX10_block_63 rfl hl (by decide) rfl (fun ls hl => ?_)
      refine lv_aload_n hx hb dX10_block_64 rfl (lv_at hl 1 rfl) ?_
      refine lv_dup hx hb dX10_block_65 rfl ?_
      refine va_get (D := (dC, dI)) (ci := 10) (v := .int z_13) (C := RX10) (T := TX10) (N := 51) hx hb hts inw_X10_block_10 hown hK hP 0 rfl rfl 38 (by decide) (hts (.fieldLink RX10 277 "VatHouseModel" "blocks" "I") (by decide +kernel)) (fun _ h9 => h9) rfl dX10_block_66 ?_
      refine lv_iconst (v := 1) hx hb dX10_block_69 (by decide) ?_
      refine lv_isub hx hb dX10_block_70 ?_
      refine lv_topi (fun z_36 ez_36 => ?_)
      refine va_put (D := (dC, dI)) (ci := 10) (v := .int z_36) (ty := .int) (C := RX10) (T := TX10) (N := 51) hx hb hts inw_X10_block_10 tyX10 tyX10_ok nmX10 hown hK hP hD hS 0 rfl rfl 38 (by decide) (hts (.fieldLink RX10 277 "VatHouseModel" "blocks" "I") (by decide +kernel)) (fun _ h9 => h9) rfl (by decide +kernel) rfl rfl (Nat.le_of_ble_eq_true rfl) dX10_block_71 (fun H locs hP hD hS => ?_)
      have hP : va_P (dC, dI) vwCl (mw g h0 b (va_up (va_up (va_up (va_up (va_up (va_up i 22 x22_17) 23 x23_18) 24 x24_19) 25 x25_20) 36 x36_21) 38 z_36) (va_up (va_up (va_up (va_up (va_up (va_up (va_up (va_up a 26 y26_22) 27 y27_23) 28 y28_24) 29 y29_25) 30 y30_26) 31 y31_27) 32 y32_28) 33 y33_29)) _ := hP
      have hD : va_D _ (mw g h0 b (va_up (va_up (va_up (va_up (va_up (va_up i 22 x22_17) 23 x23_18) 24 x24_19) 25 x25_20) 36 x36_21) 38 z_36) (va_up (va_up (va_up (va_up (va_up (va_up (va_up (va_up a 26 y26_22) 27 y27_23) 28 y28_24) 29 y29_25) 30 y30_26) 31 y31_27) 32 y32_28) 33 y33_29)) := hD
      obtain rfl : z_36 = i 38 := by rw [ez_36, ez_13]; exact Int32.add_sub_cancel _ _
      have hP : va_P (dC, dI) vwCl (mw g h0 b (va_up (va_up (va_up (va_up (va_up i 22 x22_17) 23 x23_18) 24 x24_19) 25 x25_20) 36 x36_21) (va_up (va_up (va_up (va_up (va_up (va_up (va_up (va_up a 26 y26_22) 27 y27_23) 28 y28_24) 29 y29_25) 30 y30_26) 31 y31_27) 32 y32_28) 33 y33_29)) _ := hP
      have hD : va_D _ (mw g h0 b (va_up (va_up (va_up (va_up (va_up i 22 x22_17) 23 x23_18) 24 x24_19) 25 x25_20) 36 x36_21) (va_up (va_up (va_up (va_up (va_up (va_up (va_up (va_up a 26 y26_22) 27 y27_23) 28 y28_24) 29 y29_25) 30 y30_26) 31 y31_27) 32 y32_28) 33 y33_29)) := hD
      refine lv_iload_n hx hb dX10_block_74 rfl (lv_at hl 0 rfl) ?_
      refine lv_bipush (v := (-2)) hx hb dX10_block_75 (by decide) ?_
      refine lv_icmp_ne (tgt := 82) hx hb dX10_block_77 (by decide) (fun c_37 => ?_) (fun c_37 => ?_)
      · have nc_37 := ne_i c_37
        have lc_37 : ((-2) : Int32).toInt = -2 := by decide
        refine lv_iload_n hx hb dX10_block_82 rfl (lv_at hl 3 rfl) ?_
        refine lv_if_eq (tgt := 96) hx hb dX10_block_83 (by decide) (fun c_38 => ?_) (fun c_38 => ?_)
        · have nc_38 := eq_i c_38
          have lc_38 : (0 : Int32).toInt = 0 := by decide
          refine lv_aload_n hx hb dX10_block_96 rfl (lv_at hl 1 rfl) ?_
          refine va_get (D := (dC, dI)) (ci := 10) (v := .ref (b 31)) (C := RX10) (T := TX10) (N := 51) hx hb hts inw_X10_block_10 hown hK hP 0 rfl rfl 31 (by decide) (hts (.fieldLink RX10 75 "VatHouseModel" "inner" "[I") (by decide +kernel)) (fun _ h9 => h9) rfl dX10_block_97 ?_
          refine lv_iload_n hx hb dX10_block_100 rfl (lv_at hl 2 rfl) ?_
          refine lv_iload_n hx hb dX10_block_101 rfl (lv_at hl 0 rfl) ?_
          refine va_iast hx hb hK hP hD hS 21 20 rfl rfl (by assumption) dX10_block_102 (fun H locs hP hD hS => ?_)
          have hP : va_P (dC, dI) vwCl (mw g h0 b (va_up (va_up (va_up (va_up (va_up i 22 x22_17) 23 x23_18) 24 x24_19) 25 x25_20) 36 x36_21) (va_up (va_up (va_up (va_up (va_up (va_up (va_up (va_up a 26 y26_22) 27 y27_23) 28 y28_24) 29 y29_25) 30 y30_26) 31 (upd y31_27 kk.toNatClampNeg z_31)) 32 y32_28) 33 y33_29)) _ := hP
          have hD : va_D _ (mw g h0 b (va_up (va_up (va_up (va_up (va_up i 22 x22_17) 23 x23_18) 24 x24_19) 25 x25_20) 36 x36_21) (va_up (va_up (va_up (va_up (va_up (va_up (va_up (va_up a 26 y26_22) 27 y27_23) 28 y28_24) 29 y29_25) 30 y30_26) 31 (upd y31_27 kk.toNatClampNeg z_31)) 32 y32_28) 33 y33_29)) := hD
          obtain ⟨f_39, ef_39⟩ : ∃ z, z = (upd y31_27 kk.toNatClampNeg z_31) := ⟨_, rfl⟩
          rw [← ef_39] at hP hD
          have hnd := PR.nd hpr_35 hVq hdq
          have hp_40 := PN.inner hPR_32.2.1 hq hnd.1 (by rw [hnd.2]; exact (hres_34.resolve_left (fun h9 => c_37 h9.1)).1)
          rw [← ef_39] at hp_40
          have hpr_41 := PR.tr hpr_35 hp_40
          refine lv_iconst (v := 1) hx hb dX10_block_103 (by decide) ?_
          exact M_z hx hb hr rfl hlocks (x22_17, x23_18, x24_19, x25_20, x36_21, y26_22, y27_23, y28_24, y29_25, y30_26, f_39, y32_28, y33_29) hP hD hK hS ⟨Or.inr ⟨rfl, (by rcases hres_34 with ⟨h9, -⟩ | ⟨-, rn, h1, h2, h3⟩; exact absurd h9 c_37; exact ⟨rn, ST.bk (hmq_15).gob0 h1, h2, h3⟩)⟩, ⟨dp_33, hpr_41⟩⟩ (by first | exact Nat.le_of_ble_eq_true rfl | (simp only [rm_X10_block]; omega)) (by first | exact Nat.le_of_ble_eq_true rfl | (simp only [rm_X10_block]; omega)) dX10_block_104
        · have nc_38 := ne_i c_38
          have lc_38 : (0 : Int32).toInt = 0 := by decide
          refine lv_aload_n hx hb dX10_block_86 rfl (lv_at hl 1 rfl) ?_
          refine va_get (D := (dC, dI)) (ci := 10) (v := .ref (b 32)) (C := RX10) (T := TX10) (N := 51) hx hb hts inw_X10_block_10 hown hK hP 0 rfl rfl 32 (by decide) (hts (.fieldLink RX10 78 "VatHouseModel" "other" "[I") (by decide +kernel)) (fun _ h9 => h9) rfl dX10_block_87 ?_
          refine lv_iload_n hx hb dX10_block_90 rfl (lv_at hl 2 rfl) ?_
          refine lv_iload_n hx hb dX10_block_91 rfl (lv_at hl 0 rfl) ?_
          refine va_iast hx hb hK hP hD hS 22 21 rfl rfl (by assumption) dX10_block_92 (fun H locs hP hD hS => ?_)
          have hP : va_P (dC, dI) vwCl (mw g h0 b (va_up (va_up (va_up (va_up (va_up i 22 x22_17) 23 x23_18) 24 x24_19) 25 x25_20) 36 x36_21) (va_up (va_up (va_up (va_up (va_up (va_up (va_up (va_up a 26 y26_22) 27 y27_23) 28 y28_24) 29 y29_25) 30 y30_26) 31 y31_27) 32 (upd y32_28 kk.toNatClampNeg z_31)) 33 y33_29)) _ := hP
          have hD : va_D _ (mw g h0 b (va_up (va_up (va_up (va_up (va_up i 22 x22_17) 23 x23_18) 24 x24_19) 25 x25_20) 36 x36_21) (va_up (va_up (va_up (va_up (va_up (va_up (va_up (va_up a 26 y26_22) 27 y27_23) 28 y28_24) 29 y29_25) 30 y30_26) 31 y31_27) 32 (upd y32_28 kk.toNatClampNeg z_31)) 33 y33_29)) := hD
          obtain ⟨f_42, ef_42⟩ : ∃ z, z = (upd y32_28 kk.toNatClampNeg z_31) := ⟨_, rfl⟩
          rw [← ef_42] at hP hD
          refine lv_goto (tgt := 103) hx hb dX10_block_93 (by decide) ?_
          have hnd := PR.nd hpr_35 hVq hdq
          have hp_43 := PN.other hPR_32.2.1 hq hnd.1 (by rw [hnd.2]; exact (hres_34.resolve_left (fun h9 => c_37 h9.1)).1)
          rw [← ef_42] at hp_43
          have hpr_44 := PR.tr hpr_35 hp_43
          refine lv_iconst (v := 1) hx hb dX10_block_103 (by decide) ?_
          exact M_z hx hb hr rfl hlocks (x22_17, x23_18, x24_19, x25_20, x36_21, y26_22, y27_23, y28_24, y29_25, y30_26, y31_27, f_42, y33_29) hP hD hK hS ⟨Or.inr ⟨rfl, (by rcases hres_34 with ⟨h9, -⟩ | ⟨-, rn, h1, h2, h3⟩; exact absurd h9 c_37; exact ⟨rn, ST.bk (hmq_15).gob0 h1, h2, h3⟩)⟩, ⟨dp_33, hpr_44⟩⟩ (by first | exact Nat.le_of_ble_eq_true rfl | (simp only [rm_X10_block]; omega)) (by first | exact Nat.le_of_ble_eq_true rfl | (simp only [rm_X10_block]; omega)) dX10_block_104
      · have nc_37 := eq_i c_37
        have lc_37 : ((-2) : Int32).toInt = -2 := by decide
        refine lv_iconst (v := 0) hx hb dX10_block_80 (by decide) ?_
        exact M_z hx hb hr rfl hlocks (x22_17, x23_18, x24_19, x25_20, x36_21, y26_22, y27_23, y28_24, y29_25, y30_26, y31_27, y32_28, y33_29) hP hD hK hS ⟨Or.inl ⟨rfl, (by rcases hres_34 with ⟨-, rn, h1, h2⟩ | ⟨h1, -⟩; exact ⟨rn, ST.bk (hmq_15).gob0 h1, h2⟩; exact absurd c_37 (lk.ne2 hPR_32.2.1.2.2 h1))⟩, ⟨dp_33, hpr_35⟩⟩ (by first | exact Nat.le_of_ble_eq_true rfl | (simp only [rm_X10_block]; omega)) (by first | exact Nat.le_of_ble_eq_true rfl | (simp only [rm_X10_block]; omega)) dX10_block_81
    · have nc_12 := eq_i c_12
      have lc_12 : (8 : Int32).toInt = 8 := by decide
      refine lv_aload_n hx hb dX10_block_28 rfl (lv_at hl 0 rfl) ?_
      refine lv_iconst (v := 2) hx hb dX10_block_29 (by decide) ?_
      refine lv_aload_n hx hb dX10_block_30 rfl (lv_at hl 0 rfl) ?_
      refine va_get (D := (dC, dI)) (ci := 10) (v := .int x22_1) (C := RX10) (T := TX10) (N := 51) hx hb hts inw_X10_block_10 hown hK hP 0 rfl rfl 22 (by decide) (hts (.fieldLink RX10 168 "VatHouseModel" "at" "I") (by decide +kernel)) (fun _ h9 => h9) rfl dX10_block_31 ?_
      refine M_V ⟨hx, hb, hml, hown, hts⟩ (m_X10_wrong l dC dI sa g h0 b (va_up i 22 x22_1) a (2 : Int32) x22_1 _ (hmq_10).1) (cwV 2 hts gX10_block_X10_wrong rfl rfl rfl (by decide +kernel) ⟨(by first | exact Nat.le_of_ble_eq_true rfl | (simp only [rm_X10_wrong, rm_X10_block]; omega)), (by first | exact Nat.le_of_ble_eq_true rfl | (simp only [rm_X10_wrong, rm_X10_block]; omega))⟩) hP hD hK hS hA hev rfl rfl rfl rfl hl.1 rfl (Nat.le_of_ble_eq_true rfl) dX10_block_34 ⟨(by first | exact Nat.le_of_ble_eq_true rfl | (simp only [rm_X10_block]; omega)), (by first | exact Nat.le_of_ble_eq_true rfl | (simp only [rm_X10_block]; omega))⟩ (fun r u H locs hw hP hD hS => ?_)
      obtain ⟨x23_45, x24_46⟩ := u
      have hw : ((r = some (.int 0) ∧ (x23_45 = (2 : Int32) ∧ x24_46 = x22_1)) ∨ (r = some (.int 1) ∧ (False))) ∧ (True) := hw
      obtain ⟨⟨rfl, hz2_48⟩ | ⟨rfl, hz2_48⟩, hw_47⟩ := hw
      · have hP : va_P (dC, dI) vwCl (mw g h0 b (va_up (va_up (va_up i 22 x22_1) 23 x23_45) 24 x24_46) a) _ := hP
        have hD : va_D _ (mw g h0 b (va_up (va_up (va_up i 22 x22_1) 23 x23_45) 24 x24_46) a) := hD
        refine W.eq (g2 := F0 m 37 ls [.int 0]) rfl ?_
        exact M_z hx hb hr rfl hlocks (x22_1, x23_45, x24_46, (i 25), (i 36), (a 26), (a 27), (a 28), (a 29), (a 30), (a 31), (a 32), (a 33)) hP hD hK hS ⟨Or.inl ⟨rfl, (hmq_10).bk2 hz2_3.2 (by have h9 := hBL.symm.trans c_12; have h9 : nI bl = nI 8 := h9; rw [nI_eq (by omega) (by omega)] at h9; omega) hz2_48.1 (hz2_48.2.trans hw_2)⟩, ⟨dp, (PR.rf hPN)⟩⟩ (by first | exact Nat.le_of_ble_eq_true rfl | (simp only [rm_X10_block]; omega)) (by first | exact Nat.le_of_ble_eq_true rfl | (simp only [rm_X10_block]; omega)) dX10_block_37
      · have hP : va_P (dC, dI) vwCl (mw g h0 b (va_up (va_up (va_up i 22 x22_1) 23 x23_45) 24 x24_46) a) _ := hP
        have hD : va_D _ (mw g h0 b (va_up (va_up (va_up i 22 x22_1) 23 x23_45) 24 x24_46) a) := hD
        refine W.eq (g2 := F0 m 37 ls [.int 1]) rfl ?_
        exact hz2_48.elim

theorem cw_is {cw z k a : Int32} (h : a = cw - 1) (e : z = a) (c : z = k) : cw = k + 1 := by
  rw [← c, e, h]
  exact (Int32.sub_add_cancel _ _).symm
theorem cw_12 {cw z a : Int32} (h : a = cw - 1 ∧ 1 ≤ cw ∧ cw ≤ 12) (e : z = a) (c : ¬ z = 0 ∧ ¬ z = 1 ∧ ¬ z = 2 ∧ ¬ z = 3 ∧ ¬ z = 4 ∧ ¬ z = 5 ∧ ¬ z = 6 ∧ ¬ z = 7 ∧ ¬ z = 8 ∧ ¬ z = 9 ∧ ¬ z = 10) : cw = 12 := by
  obtain ⟨h1, h2, h3⟩ := h
  rw [e, h1] at c
  have e1 : (1 : Int32).toInt = 1 := by decide
  have e12 : (12 : Int32).toInt = 12 := by decide
  rw [Int32.le_iff_toInt_le] at h2 h3
  have es : (cw - 1).toInt = cw.toInt - 1 := by rw [Int32.toInt_sub, Int.bmod_def]; omega
  obtain ⟨c0, c1, c2, c3, c4, c5, c6, c7, c8, c9, c10⟩ := c
  rw [← Int32.toInt_inj, es] at c0 c1 c2 c3 c4 c5 c6 c7 c8 c9 c10
  have k0 : (0 : Int32).toInt = 0 := by decide
  have k2 : (2 : Int32).toInt = 2 := by decide
  have k3 : (3 : Int32).toInt = 3 := by decide
  have k4 : (4 : Int32).toInt = 4 := by decide
  have k5 : (5 : Int32).toInt = 5 := by decide
  have k6 : (6 : Int32).toInt = 6 := by decide
  have k7 : (7 : Int32).toInt = 7 := by decide
  have k8 : (8 : Int32).toInt = 8 := by decide
  have k9 : (9 : Int32).toInt = 9 := by decide
  have k10 : (10 : Int32).toInt = 10 := by decide
  rw [← Int32.toInt_inj]
  omega
theorem BU.i10x {K V : Nat → Int32} {N : Nat → Nat} {d : Nat} {q s : SG} (h : Ev K V N 2 d (gte K V N q) s) (hf : ¬ s.2.2.1 = 0) : RSx K V N 10 d q s := by
  by_cases c : K s.1 = 13
  · exact BU.i10 h (Or.inr ⟨c, by rw [gpa_fx hf]; exact Ev.fx2 hf⟩)
  · exact BU.i10 h (Or.inl ⟨c, rfl⟩)
theorem BU.i11x {K V : Nat → Int32} {N : Nat → Nat} {d : Nat} {q s : SG} (h : Ev K V N 2 d q s) (hf : ¬ s.2.2.1 = 0) : RSx K V N 11 d q s := BU.i11 h (by rw [gpa_fx hf]; exact Ev.fx2 hf)
theorem BU.i12x {K V : Nat → Int32} {N : Nat → Nat} {d : Nat} {q s : SG} (h : Ev K V N 2 d q s) (hf : ¬ s.2.2.1 = 0) : RSx K V N 12 d q s := BU.i12 h (by rw [gpa_fx hf]; exact Ev.fx2 hf)

theorem inw_X10_rest_10 : ∀ w ∈ wsX100, w ∈ wsX10_rest := by decide +kernel
set_option maxHeartbeats 1000000 in
set_option maxRecDepth 100000 in
theorem m_X10_rest (l : Launch) (dC : Nat → ClassId) (dI : Nat → Nat → Nat) (sa : Nat → Nat) (g : Nat → Nat) (h0 : Nat) (b : Nat → Nat) (j : Nat) (bl : Nat) (dp : Nat → Nat) (ln : Nat) (sq : SG) (cw : Int32) (i : Nat → Int32) (a : Nat → Nat → Int32) (kk : Int32) (sz : Nat) (hL : (i 21) = nI ln ∧ ln ≤ 1500) (hM : MI (a 19) ln sq (i 22) (i 23) (i 24)) (hn36 : (i 36) = nI sq.2.1) (hPN : PN (i 36) dp (a 26) (a 27) (a 31) (a 32) (a 33)) (hBL : (i 38) = nI bl) (hj : bl + j = 8) (hn3 : sq.2.1 ≤ 300) (hnode : ∃ q0 : Nat, kk = nI q0 ∧ PV (i 36) q0 ∧ dp q0 = bl) (hcw : (a 26) kk.toNatClampNeg = cw - 1 ∧ 1 ≤ cw ∧ cw ≤ 12) (IHS : ∀ j' bl' : Nat, bl' + j' = 8 → j = j' + 1 → ∀ (dp : Nat → Nat) (ln : Nat) (sq : SG) (i : Nat → Int32) (a : Nat → Nat → Int32) (ib : Int32) (sz : Nat) (hL : (i 21) = nI ln ∧ ln ≤ 1500) (hM : MI (a 19) ln sq (i 22) (i 23) (i 24)) (hn36 : (i 36) = nI sq.2.1) (hPN : PN (i 36) dp (a 26) (a 27) (a 31) (a 32) (a 33)) (hBL : (i 38) = nI bl') (hn3 : sq.2.1 ≤ 300), CT l dC dI sa yX10_steps wsX10_steps (rm_X10_steps j' bl' dp ln sq) [.ref h0, .int ib] (mw g h0 b i a) (tyM g) sz (fun (r : Option Value) (u : Int32 × Int32 × Int32 × Int32 × Int32 × (Nat → Int32) × (Nat → Int32) × (Nat → Int32) × (Nat → Int32) × (Nat → Int32) × (Nat → Int32) × (Nat → Int32) × (Nat → Int32)) => match u with | (x22, x23, x24, x25, x36, y26, y27, y28, y29, y30, y31, y32, y33) => (∃ z : Int32, r = some (.int z)) ∧ (∃ dpN : Nat → Nat, PR (i 36) x36 dp dpN (a 26) (a 27) (a 31) (a 32) (a 33) y26 y27 y31 y32 y33 ∧ (∀ z : Int32, r = some (.int z) → (z = -2 ∧ ∃ rn : SG, ST (Kp (a 19) ln) (Vp (a 19) ln) (nq (a 19) ln) bl' (if ib = 0 then (0 : Int32) else 125) sq rn ∧ MO rn x23 x24) ∨ (lk (PV x36) dpN bl' z ∧ ∃ rn : SG, ST (Kp (a 19) ln) (Vp (a 19) ln) (nq (a 19) ln) bl' (if ib = 0 then (0 : Int32) else 125) sq rn ∧ MI (a 19) ln rn x22 x23 x24 ∧ x36 = nI rn.2.1)))) (fun (u : Int32 × Int32 × Int32 × Int32 × Int32 × (Nat → Int32) × (Nat → Int32) × (Nat → Int32) × (Nat → Int32) × (Nat → Int32) × (Nat → Int32) × (Nat → Int32) × (Nat → Int32)) => match u with | (x22, x23, x24, x25, x36, y26, y27, y28, y29, y30, y31, y32, y33) => mw g h0 b (va_up (va_up (va_up (va_up (va_up i 22 x22) 23 x23) 24 x24) 25 x25) 36 x36) (va_up (va_up (va_up (va_up (va_up (va_up (va_up (va_up a 26 y26) 27 y27) 28 y28) 29 y29) 30 y30) 31 y31) 32 y32) 33 y33)) (fun _ => []) 0 0) : CT l dC dI sa yX10_rest wsX10_rest (rm_X10_rest j bl dp ln sq cw) [.ref h0, .int kk] (mw g h0 b i a) (tyM g) sz (fun (r : Option Value) (u : Int32 × Int32 × Int32 × Int32 × Int32 × (Nat → Int32) × (Nat → Int32) × (Nat → Int32) × (Nat → Int32) × (Nat → Int32) × (Nat → Int32) × (Nat → Int32) × (Nat → Int32)) => match u with | (x22, x23, x24, x25, x36, y26, y27, y28, y29, y30, y31, y32, y33) => ((r = some (.int 0) ∧ (∃ rn : SG, RSx (Kp (a 19) ln) (Vp (a 19) ln) (nq (a 19) ln) cw bl sq rn ∧ MO rn x23 x24)) ∨ (r = some (.int 1) ∧ (∃ rn : SG, RSx (Kp (a 19) ln) (Vp (a 19) ln) (nq (a 19) ln) cw bl sq rn ∧ MI (a 19) ln rn x22 x23 x24 ∧ x36 = nI rn.2.1))) ∧ (∃ dpN : Nat → Nat, PR (i 36) x36 dp dpN (a 26) (a 27) (a 31) (a 32) (a 33) y26 y27 y31 y32 y33)) (fun (u : Int32 × Int32 × Int32 × Int32 × Int32 × (Nat → Int32) × (Nat → Int32) × (Nat → Int32) × (Nat → Int32) × (Nat → Int32) × (Nat → Int32) × (Nat → Int32) × (Nat → Int32)) => match u with | (x22, x23, x24, x25, x36, y26, y27, y28, y29, y30, y31, y32, y33) => mw g h0 b (va_up (va_up (va_up (va_up (va_up i 22 x22) 23 x23) 24 x24) 25 x25) 36 x36) (va_up (va_up (va_up (va_up (va_up (va_up (va_up (va_up a 26 y26) 27 y27) 28 y28) 29 y29) 30 y30) 31 y31) 32 y32) 33 y33)) (fun _ => []) 0 0 := by
  refine CT.start (cc := cX10_rest) (maxL := 2) (ret := (some .boolean)) (by decide) rfl (Nat.le_of_ble_eq_true rfl) ?_
  intro p e s m below meth c ls hst hP hK hD hev hS hl
  obtain ⟨hx, hb, hr, hml, hts, hown, hlocks, hin⟩ := hst
  have hown : s.vm.findClass RX10 = some m.cls := hown
  have hA : ∀ q : Nat, s.heap.size ≤ q → va_A (mw g h0 b i a) s.heap.size q := fun _ h => Or.inr h
  have hl : lv_has ls 2 [(0, .ref h0), (1, .int kk)] := hl
  obtain ⟨q, hq, hVq, hdq⟩ := hnode
  have hq27 := (hPN.2.2 q hVq).1
  have hkq : kk.toNatClampNeg = q := by rw [hq]; exact nI_clamp (by omega)
  have hk : vp_in kk 2700 := by rw [hq]; exact vp_in_nI hq27 (by decide)
  refine lv_aload_n hx hb dX10_rest_0 rfl (lv_at hl 0 rfl) ?_
  refine va_get (D := (dC, dI)) (ci := 10) (v := .ref (b 26)) (C := RX10) (T := TX10) (N := 51) hx hb hts inw_X10_rest_10 hown hK hP 0 rfl rfl 26 (by decide) (hts (.fieldLink RX10 60 "VatHouseModel" "kind" "[I") (by decide +kernel)) (fun _ h9 => h9) rfl dX10_rest_1 ?_
  refine lv_iload_n hx hb dX10_rest_4 rfl (lv_at hl 1 rfl) ?_
  refine va_iald hx hb hK hP 16 15 rfl rfl (by assumption) dX10_rest_5 ?_
  refine lv_topi (fun z_1 ez_1 => ?_)
  have ez_1 : z_1 = (a 26) kk.toNatClampNeg := ez_1
  by_cases c_2 : z_1 = 0
  · refine lv_tableIn (tgt := 64) hx hb dX10_rest_6 (by rw [c_2]; decide) (by rw [c_2]; decide) (by rw [c_2]; rfl) (by decide) ?_
    obtain rfl : cw = 1 := (cw_is hcw.1 ez_1 c_2).trans (by decide)
    have hpl : gpl (Kp (a 19) ln) (Vp (a 19) ln) (nq (a 19) ln) 1 sq = (gnu (Kp (a 19) ln) (Vp (a 19) ln) (nq (a 19) ln) 1 20 (gnu (Kp (a 19) ln) (Vp (a 19) ln) (nq (a 19) ln) 0 5 sq)) := rfl
    refine lv_aload_n hx hb dX10_rest_64 rfl (lv_at hl 0 rfl) ?_
    refine lv_iload_n hx hb dX10_rest_65 rfl (lv_at hl 1 rfl) ?_
    refine lv_iconst (v := 5) hx hb dX10_rest_66 (by decide) ?_
    refine lv_bipush (v := 20) hx hb dX10_rest_67 (by decide) ?_
    refine M_V ⟨hx, hb, hml, hown, hts⟩ (m_X10_numbers l dC dI sa g h0 b ln sq i a kk (5 : Int32) (20 : Int32) _ hL hM hk) (cwV 3 hts gX10_rest_X10_numbers rfl rfl rfl (by decide +kernel) ⟨(by first | exact Nat.le_of_ble_eq_true rfl | (simp only [rm_X10_numbers, rm_X10_rest]; omega)), (by first | exact Nat.le_of_ble_eq_true rfl | (simp only [rm_X10_numbers, rm_X10_rest]; omega))⟩) hP hD hK hS hA hev rfl rfl rfl rfl hl.1 rfl (Nat.le_of_ble_eq_true rfl) dX10_rest_69 ⟨(by first | exact Nat.le_of_ble_eq_true rfl | (simp only [rm_X10_rest]; omega)), (by first | exact Nat.le_of_ble_eq_true rfl | (simp only [rm_X10_rest]; omega))⟩ (fun r u H locs hw hP hD hS => ?_)
    obtain ⟨x22_3, x23_4, x24_5, x25_6, y27_7, y28_8⟩ := u
    have hw : ((r = some (.int 0) ∧ (MO (gnu (Kp (a 19) ln) (Vp (a 19) ln) (nq (a 19) ln) 1 (20 : Int32) (gnu (Kp (a 19) ln) (Vp (a 19) ln) (nq (a 19) ln) 0 (5 : Int32) sq)) x23_4 x24_5)) ∨ (r = some (.int 1) ∧ (MI (a 19) ln (gnu (Kp (a 19) ln) (Vp (a 19) ln) (nq (a 19) ln) 1 (20 : Int32) (gnu (Kp (a 19) ln) (Vp (a 19) ln) (nq (a 19) ln) 0 (5 : Int32) sq)) x22_3 x23_4 x24_5))) ∧ (y27_7 = (a 27) ∨ ∃ v : Int32, (0 : Int32).toInt ≤ v.toInt ∧ v.toInt ≤ (5 : Int32).toInt ∧ y27_7 = upd (a 27) kk.toNatClampNeg v) := hw
    obtain ⟨⟨rfl, hz2_10⟩ | ⟨rfl, hz2_10⟩, hw_9⟩ := hw
    · have hP : va_P (dC, dI) vwCl (mw g h0 b (va_up (va_up (va_up (va_up i 22 x22_3) 23 x23_4) 24 x24_5) 25 x25_6) (va_up (va_up a 27 y27_7) 28 y28_8)) _ := hP
      have hD : va_D _ (mw g h0 b (va_up (va_up (va_up (va_up i 22 x22_3) 23 x23_4) 24 x24_5) 25 x25_6) (va_up (va_up a 27 y27_7) 28 y28_8)) := hD
      refine W.eq (g2 := F0 m 72 ls [.int 0]) rfl ?_
      have hp_11 := PN.set hPN hq hVq (show y27_7 = (a 27) ∨ ∃ v : Int32, (0 : Int32).toInt ≤ v.toInt ∧ v.toInt ≤ ((5 : Int32) : Int32).toInt ∧ y27_7 = upd (a 27) kk.toNatClampNeg v from hw_9) (fun _ => by decide)
      have hpr_12 := PR.tr (PR.rf hPN) hp_11
      refine lv_if_eq (tgt := 88) hx hb dX10_rest_72 (by decide) (fun _ => ?_) (fun c_13 => absurd c_13 (by decide))
      refine lv_iconst (v := 0) hx hb dX10_rest_88 (by decide) ?_
      exact M_z hx hb hr rfl hlocks (x22_3, x23_4, x24_5, x25_6, (i 36), (a 26), y27_7, y28_8, (a 29), (a 30), (a 31), (a 32), (a 33)) hP hD hK hS ⟨Or.inl ⟨rfl, ⟨_, Or.inl ⟨by decide, rfl⟩, by rw [hpl]; exact (hz2_10).pa⟩⟩, ⟨dp, hpr_12⟩⟩ (by first | exact Nat.le_of_ble_eq_true rfl | (simp only [rm_X10_rest]; omega)) (by first | exact Nat.le_of_ble_eq_true rfl | (simp only [rm_X10_rest]; omega)) dX10_rest_89
    · have hP : va_P (dC, dI) vwCl (mw g h0 b (va_up (va_up (va_up (va_up i 22 x22_3) 23 x23_4) 24 x24_5) 25 x25_6) (va_up (va_up a 27 y27_7) 28 y28_8)) _ := hP
      have hD : va_D _ (mw g h0 b (va_up (va_up (va_up (va_up i 22 x22_3) 23 x23_4) 24 x24_5) 25 x25_6) (va_up (va_up a 27 y27_7) 28 y28_8)) := hD
      refine W.eq (g2 := F0 m 72 ls [.int 1]) rfl ?_
      have hp_14 := PN.set hPN hq hVq (show y27_7 = (a 27) ∨ ∃ v : Int32, (0 : Int32).toInt ≤ v.toInt ∧ v.toInt ≤ ((5 : Int32) : Int32).toInt ∧ y27_7 = upd (a 27) kk.toNatClampNeg v from hw_9) (fun _ => by decide)
      have hpr_15 := PR.tr (PR.rf hPN) hp_14
      have hmq_16 : MI (a 19) ln (gnu (Kp (a 19) ln) (Vp (a 19) ln) (nq (a 19) ln) 1 (20 : Int32) (gnu (Kp (a 19) ln) (Vp (a 19) ln) (nq (a 19) ln) 0 (5 : Int32) sq)) x22_3 x23_4 x24_5 := hz2_10
      refine lv_if_eq (tgt := 88) hx hb dX10_rest_72 (by decide) (fun c_17 => absurd c_17 (by decide)) (fun _ => ?_)
      refine lv_aload_n hx hb dX10_rest_75 rfl (lv_at hl 0 rfl) ?_
      refine lv_bipush (v := 59) hx hb dX10_rest_76 (by decide) ?_
      refine M_V ⟨hx, hb, hml, hown, hts⟩ (m_X10_need l dC dI sa g h0 b ln (gnu (Kp (a 19) ln) (Vp (a 19) ln) (nq (a 19) ln) 1 (20 : Int32) (gnu (Kp (a 19) ln) (Vp (a 19) ln) (nq (a 19) ln) 0 (5 : Int32) sq)) (va_up (va_up (va_up (va_up i 22 x22_3) 23 x23_4) 24 x24_5) 25 x25_6) (va_up (va_up a 27 y27_7) 28 y28_8) (59 : Int32) _ hL hmq_16 (by decide)) (cwV 1 hts gX10_rest_X10_need rfl rfl rfl (by decide +kernel) ⟨(by first | exact Nat.le_of_ble_eq_true rfl | (simp only [rm_X10_need, rm_X10_rest]; omega)), (by first | exact Nat.le_of_ble_eq_true rfl | (simp only [rm_X10_need, rm_X10_rest]; omega))⟩) hP hD hK hS hA hev rfl rfl rfl rfl hl.1 rfl (Nat.le_of_ble_eq_true rfl) dX10_rest_78 ⟨(by first | exact Nat.le_of_ble_eq_true rfl | (simp only [rm_X10_rest]; omega)), (by first | exact Nat.le_of_ble_eq_true rfl | (simp only [rm_X10_rest]; omega))⟩ (fun r u H locs hw hP hD hS => ?_)
      obtain ⟨x22_18, x23_19, x24_20⟩ := u
      have hw : ((r = some (.int 0) ∧ (MO (gpa (Kp (a 19) ln) (nq (a 19) ln) (59 : Int32) (gnu (Kp (a 19) ln) (Vp (a 19) ln) (nq (a 19) ln) 1 (20 : Int32) (gnu (Kp (a 19) ln) (Vp (a 19) ln) (nq (a 19) ln) 0 (5 : Int32) sq))) x23_19 x24_20)) ∨ (r = some (.int 1) ∧ (MI (a 19) ln (gpa (Kp (a 19) ln) (nq (a 19) ln) (59 : Int32) (gnu (Kp (a 19) ln) (Vp (a 19) ln) (nq (a 19) ln) 1 (20 : Int32) (gnu (Kp (a 19) ln) (Vp (a 19) ln) (nq (a 19) ln) 0 (5 : Int32) sq))) x22_18 x23_19 x24_20))) ∧ (True) := hw
      obtain ⟨⟨rfl, hz2_22⟩ | ⟨rfl, hz2_22⟩, hw_21⟩ := hw
      · have hP : va_P (dC, dI) vwCl (mw g h0 b (va_up (va_up (va_up (va_up i 22 x22_18) 23 x23_19) 24 x24_20) 25 x25_6) (va_up (va_up a 27 y27_7) 28 y28_8)) _ := hP
        have hD : va_D _ (mw g h0 b (va_up (va_up (va_up (va_up i 22 x22_18) 23 x23_19) 24 x24_20) 25 x25_6) (va_up (va_up a 27 y27_7) 28 y28_8)) := hD
        refine W.eq (g2 := F0 m 81 ls [.int 0]) rfl ?_
        refine lv_if_eq (tgt := 88) hx hb dX10_rest_81 (by decide) (fun _ => ?_) (fun c_23 => absurd c_23 (by decide))
        refine lv_iconst (v := 0) hx hb dX10_rest_88 (by decide) ?_
        exact M_z hx hb hr rfl hlocks (x22_18, x23_19, x24_20, x25_6, (i 36), (a 26), y27_7, y28_8, (a 29), (a 30), (a 31), (a 32), (a 33)) hP hD hK hS ⟨Or.inl ⟨rfl, ⟨_, Or.inl ⟨by decide, rfl⟩, by rw [hpl]; exact hz2_22⟩⟩, ⟨dp, hpr_15⟩⟩ (by first | exact Nat.le_of_ble_eq_true rfl | (simp only [rm_X10_rest]; omega)) (by first | exact Nat.le_of_ble_eq_true rfl | (simp only [rm_X10_rest]; omega)) dX10_rest_89
      · have hP : va_P (dC, dI) vwCl (mw g h0 b (va_up (va_up (va_up (va_up i 22 x22_18) 23 x23_19) 24 x24_20) 25 x25_6) (va_up (va_up a 27 y27_7) 28 y28_8)) _ := hP
        have hD : va_D _ (mw g h0 b (va_up (va_up (va_up (va_up i 22 x22_18) 23 x23_19) 24 x24_20) 25 x25_6) (va_up (va_up a 27 y27_7) 28 y28_8)) := hD
        refine W.eq (g2 := F0 m 81 ls [.int 1]) rfl ?_
        have hmq_24 : MI (a 19) ln (gpa (Kp (a 19) ln) (nq (a 19) ln) (59 : Int32) (gnu (Kp (a 19) ln) (Vp (a 19) ln) (nq (a 19) ln) 1 (20 : Int32) (gnu (Kp (a 19) ln) (Vp (a 19) ln) (nq (a 19) ln) 0 (5 : Int32) sq))) x22_18 x23_19 x24_20 := hz2_22
        refine lv_if_eq (tgt := 88) hx hb dX10_rest_81 (by decide) (fun c_25 => absurd c_25 (by decide)) (fun _ => ?_)
        refine lv_iconst (v := 1) hx hb dX10_rest_84 (by decide) ?_
        refine lv_goto (tgt := 89) hx hb dX10_rest_85 (by decide) ?_
        exact M_z hx hb hr rfl hlocks (x22_18, x23_19, x24_20, x25_6, (i 36), (a 26), y27_7, y28_8, (a 29), (a 30), (a 31), (a 32), (a 33)) hP hD hK hS ⟨Or.inr ⟨rfl, ⟨_, Or.inl ⟨by decide, rfl⟩, by rw [hpl]; exact hmq_24, by rw [gpa_nd, gpl_nd]; exact hn36⟩⟩, ⟨dp, hpr_15⟩⟩ (by first | exact Nat.le_of_ble_eq_true rfl | (simp only [rm_X10_rest]; omega)) (by first | exact Nat.le_of_ble_eq_true rfl | (simp only [rm_X10_rest]; omega)) dX10_rest_89
  by_cases c_26 : z_1 = 1
  · refine lv_tableIn (tgt := 117) hx hb dX10_rest_6 (by rw [c_26]; decide) (by rw [c_26]; decide) (by rw [c_26]; rfl) (by decide) ?_
    obtain rfl : cw = 2 := (cw_is hcw.1 ez_1 c_26).trans (by decide)
    have hpl : gpl (Kp (a 19) ln) (Vp (a 19) ln) (nq (a 19) ln) 2 sq = sq := rfl
    refine lv_aload_n hx hb dX10_rest_117 rfl (lv_at hl 0 rfl) ?_
    refine lv_bipush (v := 59) hx hb dX10_rest_118 (by decide) ?_
    refine M_V ⟨hx, hb, hml, hown, hts⟩ (m_X10_need l dC dI sa g h0 b ln sq i a (59 : Int32) _ hL hM (by decide)) (cwV 1 hts gX10_rest_X10_need rfl rfl rfl (by decide +kernel) ⟨(by first | exact Nat.le_of_ble_eq_true rfl | (simp only [rm_X10_need, rm_X10_rest]; omega)), (by first | exact Nat.le_of_ble_eq_true rfl | (simp only [rm_X10_need, rm_X10_rest]; omega))⟩) hP hD hK hS hA hev rfl rfl rfl rfl hl.1 rfl (Nat.le_of_ble_eq_true rfl) dX10_rest_120 ⟨(by first | exact Nat.le_of_ble_eq_true rfl | (simp only [rm_X10_rest]; omega)), (by first | exact Nat.le_of_ble_eq_true rfl | (simp only [rm_X10_rest]; omega))⟩ (fun r u H locs hw hP hD hS => ?_)
    obtain ⟨x22_27, x23_28, x24_29⟩ := u
    have hw : ((r = some (.int 0) ∧ (MO (gpa (Kp (a 19) ln) (nq (a 19) ln) (59 : Int32) sq) x23_28 x24_29)) ∨ (r = some (.int 1) ∧ (MI (a 19) ln (gpa (Kp (a 19) ln) (nq (a 19) ln) (59 : Int32) sq) x22_27 x23_28 x24_29))) ∧ (True) := hw
    obtain ⟨⟨rfl, hz2_31⟩ | ⟨rfl, hz2_31⟩, hw_30⟩ := hw
    · have hP : va_P (dC, dI) vwCl (mw g h0 b (va_up (va_up (va_up i 22 x22_27) 23 x23_28) 24 x24_29) a) _ := hP
      have hD : va_D _ (mw g h0 b (va_up (va_up (va_up i 22 x22_27) 23 x23_28) 24 x24_29) a) := hD
      refine W.eq (g2 := F0 m 123 ls [.int 0]) rfl ?_
      exact M_z hx hb hr rfl hlocks (x22_27, x23_28, x24_29, (i 25), (i 36), (a 26), (a 27), (a 28), (a 29), (a 30), (a 31), (a 32), (a 33)) hP hD hK hS ⟨Or.inl ⟨rfl, ⟨_, Or.inl ⟨by decide, rfl⟩, by rw [hpl]; exact hz2_31⟩⟩, ⟨dp, (PR.rf hPN)⟩⟩ (by first | exact Nat.le_of_ble_eq_true rfl | (simp only [rm_X10_rest]; omega)) (by first | exact Nat.le_of_ble_eq_true rfl | (simp only [rm_X10_rest]; omega)) dX10_rest_123
    · have hP : va_P (dC, dI) vwCl (mw g h0 b (va_up (va_up (va_up i 22 x22_27) 23 x23_28) 24 x24_29) a) _ := hP
      have hD : va_D _ (mw g h0 b (va_up (va_up (va_up i 22 x22_27) 23 x23_28) 24 x24_29) a) := hD
      refine W.eq (g2 := F0 m 123 ls [.int 1]) rfl ?_
      have hmq_32 : MI (a 19) ln (gpa (Kp (a 19) ln) (nq (a 19) ln) (59 : Int32) sq) x22_27 x23_28 x24_29 := hz2_31
      exact M_z hx hb hr rfl hlocks (x22_27, x23_28, x24_29, (i 25), (i 36), (a 26), (a 27), (a 28), (a 29), (a 30), (a 31), (a 32), (a 33)) hP hD hK hS ⟨Or.inr ⟨rfl, ⟨_, Or.inl ⟨by decide, rfl⟩, by rw [hpl]; exact hmq_32, by rw [gpa_nd, gpl_nd]; exact hn36⟩⟩, ⟨dp, (PR.rf hPN)⟩⟩ (by first | exact Nat.le_of_ble_eq_true rfl | (simp only [rm_X10_rest]; omega)) (by first | exact Nat.le_of_ble_eq_true rfl | (simp only [rm_X10_rest]; omega)) dX10_rest_123
  by_cases c_33 : z_1 = 2
  · refine lv_tableIn (tgt := 117) hx hb dX10_rest_6 (by rw [c_33]; decide) (by rw [c_33]; decide) (by rw [c_33]; rfl) (by decide) ?_
    obtain rfl : cw = 3 := (cw_is hcw.1 ez_1 c_33).trans (by decide)
    have hpl : gpl (Kp (a 19) ln) (Vp (a 19) ln) (nq (a 19) ln) 3 sq = sq := rfl
    refine lv_aload_n hx hb dX10_rest_117 rfl (lv_at hl 0 rfl) ?_
    refine lv_bipush (v := 59) hx hb dX10_rest_118 (by decide) ?_
    refine M_V ⟨hx, hb, hml, hown, hts⟩ (m_X10_need l dC dI sa g h0 b ln sq i a (59 : Int32) _ hL hM (by decide)) (cwV 1 hts gX10_rest_X10_need rfl rfl rfl (by decide +kernel) ⟨(by first | exact Nat.le_of_ble_eq_true rfl | (simp only [rm_X10_need, rm_X10_rest]; omega)), (by first | exact Nat.le_of_ble_eq_true rfl | (simp only [rm_X10_need, rm_X10_rest]; omega))⟩) hP hD hK hS hA hev rfl rfl rfl rfl hl.1 rfl (Nat.le_of_ble_eq_true rfl) dX10_rest_120 ⟨(by first | exact Nat.le_of_ble_eq_true rfl | (simp only [rm_X10_rest]; omega)), (by first | exact Nat.le_of_ble_eq_true rfl | (simp only [rm_X10_rest]; omega))⟩ (fun r u H locs hw hP hD hS => ?_)
    obtain ⟨x22_34, x23_35, x24_36⟩ := u
    have hw : ((r = some (.int 0) ∧ (MO (gpa (Kp (a 19) ln) (nq (a 19) ln) (59 : Int32) sq) x23_35 x24_36)) ∨ (r = some (.int 1) ∧ (MI (a 19) ln (gpa (Kp (a 19) ln) (nq (a 19) ln) (59 : Int32) sq) x22_34 x23_35 x24_36))) ∧ (True) := hw
    obtain ⟨⟨rfl, hz2_38⟩ | ⟨rfl, hz2_38⟩, hw_37⟩ := hw
    · have hP : va_P (dC, dI) vwCl (mw g h0 b (va_up (va_up (va_up i 22 x22_34) 23 x23_35) 24 x24_36) a) _ := hP
      have hD : va_D _ (mw g h0 b (va_up (va_up (va_up i 22 x22_34) 23 x23_35) 24 x24_36) a) := hD
      refine W.eq (g2 := F0 m 123 ls [.int 0]) rfl ?_
      exact M_z hx hb hr rfl hlocks (x22_34, x23_35, x24_36, (i 25), (i 36), (a 26), (a 27), (a 28), (a 29), (a 30), (a 31), (a 32), (a 33)) hP hD hK hS ⟨Or.inl ⟨rfl, ⟨_, Or.inl ⟨by decide, rfl⟩, by rw [hpl]; exact hz2_38⟩⟩, ⟨dp, (PR.rf hPN)⟩⟩ (by first | exact Nat.le_of_ble_eq_true rfl | (simp only [rm_X10_rest]; omega)) (by first | exact Nat.le_of_ble_eq_true rfl | (simp only [rm_X10_rest]; omega)) dX10_rest_123
    · have hP : va_P (dC, dI) vwCl (mw g h0 b (va_up (va_up (va_up i 22 x22_34) 23 x23_35) 24 x24_36) a) _ := hP
      have hD : va_D _ (mw g h0 b (va_up (va_up (va_up i 22 x22_34) 23 x23_35) 24 x24_36) a) := hD
      refine W.eq (g2 := F0 m 123 ls [.int 1]) rfl ?_
      have hmq_39 : MI (a 19) ln (gpa (Kp (a 19) ln) (nq (a 19) ln) (59 : Int32) sq) x22_34 x23_35 x24_36 := hz2_38
      exact M_z hx hb hr rfl hlocks (x22_34, x23_35, x24_36, (i 25), (i 36), (a 26), (a 27), (a 28), (a 29), (a 30), (a 31), (a 32), (a 33)) hP hD hK hS ⟨Or.inr ⟨rfl, ⟨_, Or.inl ⟨by decide, rfl⟩, by rw [hpl]; exact hmq_39, by rw [gpa_nd, gpl_nd]; exact hn36⟩⟩, ⟨dp, (PR.rf hPN)⟩⟩ (by first | exact Nat.le_of_ble_eq_true rfl | (simp only [rm_X10_rest]; omega)) (by first | exact Nat.le_of_ble_eq_true rfl | (simp only [rm_X10_rest]; omega)) dX10_rest_123
  by_cases c_40 : z_1 = 3
  · refine lv_tableIn (tgt := 124) hx hb dX10_rest_6 (by rw [c_40]; decide) (by rw [c_40]; decide) (by rw [c_40]; rfl) (by decide) ?_
    obtain rfl : cw = 4 := (cw_is hcw.1 ez_1 c_40).trans (by decide)
    have hpl : gpl (Kp (a 19) ln) (Vp (a 19) ln) (nq (a 19) ln) 4 sq = (gnu (Kp (a 19) ln) (Vp (a 19) ln) (nq (a 19) ln) 1 200 sq) := rfl
    refine lv_aload_n hx hb dX10_rest_124 rfl (lv_at hl 0 rfl) ?_
    refine lv_iload_n hx hb dX10_rest_125 rfl (lv_at hl 1 rfl) ?_
    refine lv_iconst (v := 1) hx hb dX10_rest_126 (by decide) ?_
    refine lv_sipush (v := 200) hx hb dX10_rest_127 (by decide) ?_
    refine M_V ⟨hx, hb, hml, hown, hts⟩ (m_X10_single l dC dI sa g h0 b ln sq i a kk (1 : Int32) (200 : Int32) _ hL hM hk) (cwV 3 hts gX10_rest_X10_single rfl rfl rfl (by decide +kernel) ⟨(by first | exact Nat.le_of_ble_eq_true rfl | (simp only [rm_X10_single, rm_X10_rest]; omega)), (by first | exact Nat.le_of_ble_eq_true rfl | (simp only [rm_X10_single, rm_X10_rest]; omega))⟩) hP hD hK hS hA hev rfl rfl rfl rfl hl.1 rfl (Nat.le_of_ble_eq_true rfl) dX10_rest_130 ⟨(by first | exact Nat.le_of_ble_eq_true rfl | (simp only [rm_X10_rest]; omega)), (by first | exact Nat.le_of_ble_eq_true rfl | (simp only [rm_X10_rest]; omega))⟩ (fun r u H locs hw hP hD hS => ?_)
    obtain ⟨x22_41, x23_42, x24_43, x25_44, y27_45⟩ := u
    have hw : ((r = some (.int 0) ∧ (MO (gnu (Kp (a 19) ln) (Vp (a 19) ln) (nq (a 19) ln) (1 : Int32) (200 : Int32) sq) x23_42 x24_43 ∧ y27_45 = (a 27))) ∨ (r = some (.int 1) ∧ (MI (a 19) ln (gnu (Kp (a 19) ln) (Vp (a 19) ln) (nq (a 19) ln) (1 : Int32) (200 : Int32) sq) x22_41 x23_42 x24_43 ∧ (1 : Int32).toInt ≤ (Vp (a 19) ln sq.1).toInt ∧ (Vp (a 19) ln sq.1).toInt ≤ (200 : Int32).toInt ∧ y27_45 = upd (a 27) kk.toNatClampNeg (Vp (a 19) ln sq.1)))) ∧ (True) := hw
    obtain ⟨⟨rfl, hz2_47⟩ | ⟨rfl, hz2_47⟩, hw_46⟩ := hw
    · have hP : va_P (dC, dI) vwCl (mw g h0 b (va_up (va_up (va_up (va_up i 22 x22_41) 23 x23_42) 24 x24_43) 25 x25_44) (va_up a 27 y27_45)) _ := hP
      have hD : va_D _ (mw g h0 b (va_up (va_up (va_up (va_up i 22 x22_41) 23 x23_42) 24 x24_43) 25 x25_44) (va_up a 27 y27_45)) := hD
      refine W.eq (g2 := F0 m 133 ls [.int 0]) rfl ?_
      have hp_48 := PN.set hPN hq hVq (show y27_45 = (a 27) ∨ ∃ v : Int32, ((1 : Int32) : Int32).toInt ≤ v.toInt ∧ v.toInt ≤ ((200 : Int32) : Int32).toInt ∧ y27_45 = upd (a 27) kk.toNatClampNeg v from Or.inl hz2_47.2) (fun h9 => absurd h9 (by rw [← hkq, ← ez_1, c_40]; decide))
      have hpr_49 := PR.tr (PR.rf hPN) hp_48
      refine lv_if_eq (tgt := 149) hx hb dX10_rest_133 (by decide) (fun _ => ?_) (fun c_50 => absurd c_50 (by decide))
      refine lv_iconst (v := 0) hx hb dX10_rest_149 (by decide) ?_
      exact M_z hx hb hr rfl hlocks (x22_41, x23_42, x24_43, x25_44, (i 36), (a 26), y27_45, (a 28), (a 29), (a 30), (a 31), (a 32), (a 33)) hP hD hK hS ⟨Or.inl ⟨rfl, ⟨_, Or.inl ⟨by decide, rfl⟩, by rw [hpl]; exact (hz2_47.1).pa⟩⟩, ⟨dp, hpr_49⟩⟩ (by first | exact Nat.le_of_ble_eq_true rfl | (simp only [rm_X10_rest]; omega)) (by first | exact Nat.le_of_ble_eq_true rfl | (simp only [rm_X10_rest]; omega)) dX10_rest_150
    · have hP : va_P (dC, dI) vwCl (mw g h0 b (va_up (va_up (va_up (va_up i 22 x22_41) 23 x23_42) 24 x24_43) 25 x25_44) (va_up a 27 y27_45)) _ := hP
      have hD : va_D _ (mw g h0 b (va_up (va_up (va_up (va_up i 22 x22_41) 23 x23_42) 24 x24_43) 25 x25_44) (va_up a 27 y27_45)) := hD
      refine W.eq (g2 := F0 m 133 ls [.int 1]) rfl ?_
      have hp_51 := PN.set hPN hq hVq (show y27_45 = (a 27) ∨ ∃ v : Int32, ((1 : Int32) : Int32).toInt ≤ v.toInt ∧ v.toInt ≤ ((200 : Int32) : Int32).toInt ∧ y27_45 = upd (a 27) kk.toNatClampNeg v from Or.inr ⟨_, hz2_47.2.1, hz2_47.2.2.1, hz2_47.2.2.2⟩) (fun h9 => absurd h9 (by rw [← hkq, ← ez_1, c_40]; decide))
      have hpr_52 := PR.tr (PR.rf hPN) hp_51
      have hmq_53 : MI (a 19) ln (gnu (Kp (a 19) ln) (Vp (a 19) ln) (nq (a 19) ln) (1 : Int32) (200 : Int32) sq) x22_41 x23_42 x24_43 := hz2_47.1
      refine lv_if_eq (tgt := 149) hx hb dX10_rest_133 (by decide) (fun c_54 => absurd c_54 (by decide)) (fun _ => ?_)
      refine lv_aload_n hx hb dX10_rest_136 rfl (lv_at hl 0 rfl) ?_
      refine lv_bipush (v := 59) hx hb dX10_rest_137 (by decide) ?_
      refine M_V ⟨hx, hb, hml, hown, hts⟩ (m_X10_need l dC dI sa g h0 b ln (gnu (Kp (a 19) ln) (Vp (a 19) ln) (nq (a 19) ln) (1 : Int32) (200 : Int32) sq) (va_up (va_up (va_up (va_up i 22 x22_41) 23 x23_42) 24 x24_43) 25 x25_44) (va_up a 27 y27_45) (59 : Int32) _ hL hmq_53 (by decide)) (cwV 1 hts gX10_rest_X10_need rfl rfl rfl (by decide +kernel) ⟨(by first | exact Nat.le_of_ble_eq_true rfl | (simp only [rm_X10_need, rm_X10_rest]; omega)), (by first | exact Nat.le_of_ble_eq_true rfl | (simp only [rm_X10_need, rm_X10_rest]; omega))⟩) hP hD hK hS hA hev rfl rfl rfl rfl hl.1 rfl (Nat.le_of_ble_eq_true rfl) dX10_rest_139 ⟨(by first | exact Nat.le_of_ble_eq_true rfl | (simp only [rm_X10_rest]; omega)), (by first | exact Nat.le_of_ble_eq_true rfl | (simp only [rm_X10_rest]; omega))⟩ (fun r u H locs hw hP hD hS => ?_)
      obtain ⟨x22_55, x23_56, x24_57⟩ := u
      have hw : ((r = some (.int 0) ∧ (MO (gpa (Kp (a 19) ln) (nq (a 19) ln) (59 : Int32) (gnu (Kp (a 19) ln) (Vp (a 19) ln) (nq (a 19) ln) (1 : Int32) (200 : Int32) sq)) x23_56 x24_57)) ∨ (r = some (.int 1) ∧ (MI (a 19) ln (gpa (Kp (a 19) ln) (nq (a 19) ln) (59 : Int32) (gnu (Kp (a 19) ln) (Vp (a 19) ln) (nq (a 19) ln) (1 : Int32) (200 : Int32) sq)) x22_55 x23_56 x24_57))) ∧ (True) := hw
      obtain ⟨⟨rfl, hz2_59⟩ | ⟨rfl, hz2_59⟩, hw_58⟩ := hw
      · have hP : va_P (dC, dI) vwCl (mw g h0 b (va_up (va_up (va_up (va_up i 22 x22_55) 23 x23_56) 24 x24_57) 25 x25_44) (va_up a 27 y27_45)) _ := hP
        have hD : va_D _ (mw g h0 b (va_up (va_up (va_up (va_up i 22 x22_55) 23 x23_56) 24 x24_57) 25 x25_44) (va_up a 27 y27_45)) := hD
        refine W.eq (g2 := F0 m 142 ls [.int 0]) rfl ?_
        refine lv_if_eq (tgt := 149) hx hb dX10_rest_142 (by decide) (fun _ => ?_) (fun c_60 => absurd c_60 (by decide))
        refine lv_iconst (v := 0) hx hb dX10_rest_149 (by decide) ?_
        exact M_z hx hb hr rfl hlocks (x22_55, x23_56, x24_57, x25_44, (i 36), (a 26), y27_45, (a 28), (a 29), (a 30), (a 31), (a 32), (a 33)) hP hD hK hS ⟨Or.inl ⟨rfl, ⟨_, Or.inl ⟨by decide, rfl⟩, by rw [hpl]; exact hz2_59⟩⟩, ⟨dp, hpr_52⟩⟩ (by first | exact Nat.le_of_ble_eq_true rfl | (simp only [rm_X10_rest]; omega)) (by first | exact Nat.le_of_ble_eq_true rfl | (simp only [rm_X10_rest]; omega)) dX10_rest_150
      · have hP : va_P (dC, dI) vwCl (mw g h0 b (va_up (va_up (va_up (va_up i 22 x22_55) 23 x23_56) 24 x24_57) 25 x25_44) (va_up a 27 y27_45)) _ := hP
        have hD : va_D _ (mw g h0 b (va_up (va_up (va_up (va_up i 22 x22_55) 23 x23_56) 24 x24_57) 25 x25_44) (va_up a 27 y27_45)) := hD
        refine W.eq (g2 := F0 m 142 ls [.int 1]) rfl ?_
        have hmq_61 : MI (a 19) ln (gpa (Kp (a 19) ln) (nq (a 19) ln) (59 : Int32) (gnu (Kp (a 19) ln) (Vp (a 19) ln) (nq (a 19) ln) (1 : Int32) (200 : Int32) sq)) x22_55 x23_56 x24_57 := hz2_59
        refine lv_if_eq (tgt := 149) hx hb dX10_rest_142 (by decide) (fun c_62 => absurd c_62 (by decide)) (fun _ => ?_)
        refine lv_iconst (v := 1) hx hb dX10_rest_145 (by decide) ?_
        refine lv_goto (tgt := 150) hx hb dX10_rest_146 (by decide) ?_
        exact M_z hx hb hr rfl hlocks (x22_55, x23_56, x24_57, x25_44, (i 36), (a 26), y27_45, (a 28), (a 29), (a 30), (a 31), (a 32), (a 33)) hP hD hK hS ⟨Or.inr ⟨rfl, ⟨_, Or.inl ⟨by decide, rfl⟩, by rw [hpl]; exact hmq_61, by rw [gpa_nd, gpl_nd]; exact hn36⟩⟩, ⟨dp, hpr_52⟩⟩ (by first | exact Nat.le_of_ble_eq_true rfl | (simp only [rm_X10_rest]; omega)) (by first | exact Nat.le_of_ble_eq_true rfl | (simp only [rm_X10_rest]; omega)) dX10_rest_150
  by_cases c_63 : z_1 = 4
  · refine lv_tableIn (tgt := 90) hx hb dX10_rest_6 (by rw [c_63]; decide) (by rw [c_63]; decide) (by rw [c_63]; rfl) (by decide) ?_
    obtain rfl : cw = 5 := (cw_is hcw.1 ez_1 c_63).trans (by decide)
    have hpl : gpl (Kp (a 19) ln) (Vp (a 19) ln) (nq (a 19) ln) 5 sq = (gnu (Kp (a 19) ln) (Vp (a 19) ln) (nq (a 19) ln) 1 1000 (gnu (Kp (a 19) ln) (Vp (a 19) ln) (nq (a 19) ln) 0 5 sq)) := rfl
    refine lv_aload_n hx hb dX10_rest_90 rfl (lv_at hl 0 rfl) ?_
    refine lv_iload_n hx hb dX10_rest_91 rfl (lv_at hl 1 rfl) ?_
    refine lv_iconst (v := 5) hx hb dX10_rest_92 (by decide) ?_
    refine lv_sipush (v := 1000) hx hb dX10_rest_93 (by decide) ?_
    refine M_V ⟨hx, hb, hml, hown, hts⟩ (m_X10_numbers l dC dI sa g h0 b ln sq i a kk (5 : Int32) (1000 : Int32) _ hL hM hk) (cwV 3 hts gX10_rest_X10_numbers rfl rfl rfl (by decide +kernel) ⟨(by first | exact Nat.le_of_ble_eq_true rfl | (simp only [rm_X10_numbers, rm_X10_rest]; omega)), (by first | exact Nat.le_of_ble_eq_true rfl | (simp only [rm_X10_numbers, rm_X10_rest]; omega))⟩) hP hD hK hS hA hev rfl rfl rfl rfl hl.1 rfl (Nat.le_of_ble_eq_true rfl) dX10_rest_96 ⟨(by first | exact Nat.le_of_ble_eq_true rfl | (simp only [rm_X10_rest]; omega)), (by first | exact Nat.le_of_ble_eq_true rfl | (simp only [rm_X10_rest]; omega))⟩ (fun r u H locs hw hP hD hS => ?_)
    obtain ⟨x22_64, x23_65, x24_66, x25_67, y27_68, y28_69⟩ := u
    have hw : ((r = some (.int 0) ∧ (MO (gnu (Kp (a 19) ln) (Vp (a 19) ln) (nq (a 19) ln) 1 (1000 : Int32) (gnu (Kp (a 19) ln) (Vp (a 19) ln) (nq (a 19) ln) 0 (5 : Int32) sq)) x23_65 x24_66)) ∨ (r = some (.int 1) ∧ (MI (a 19) ln (gnu (Kp (a 19) ln) (Vp (a 19) ln) (nq (a 19) ln) 1 (1000 : Int32) (gnu (Kp (a 19) ln) (Vp (a 19) ln) (nq (a 19) ln) 0 (5 : Int32) sq)) x22_64 x23_65 x24_66))) ∧ (y27_68 = (a 27) ∨ ∃ v : Int32, (0 : Int32).toInt ≤ v.toInt ∧ v.toInt ≤ (5 : Int32).toInt ∧ y27_68 = upd (a 27) kk.toNatClampNeg v) := hw
    obtain ⟨⟨rfl, hz2_71⟩ | ⟨rfl, hz2_71⟩, hw_70⟩ := hw
    · have hP : va_P (dC, dI) vwCl (mw g h0 b (va_up (va_up (va_up (va_up i 22 x22_64) 23 x23_65) 24 x24_66) 25 x25_67) (va_up (va_up a 27 y27_68) 28 y28_69)) _ := hP
      have hD : va_D _ (mw g h0 b (va_up (va_up (va_up (va_up i 22 x22_64) 23 x23_65) 24 x24_66) 25 x25_67) (va_up (va_up a 27 y27_68) 28 y28_69)) := hD
      refine W.eq (g2 := F0 m 99 ls [.int 0]) rfl ?_
      have hp_72 := PN.set hPN hq hVq (show y27_68 = (a 27) ∨ ∃ v : Int32, (0 : Int32).toInt ≤ v.toInt ∧ v.toInt ≤ ((5 : Int32) : Int32).toInt ∧ y27_68 = upd (a 27) kk.toNatClampNeg v from hw_70) (fun _ => by decide)
      have hpr_73 := PR.tr (PR.rf hPN) hp_72
      refine lv_if_eq (tgt := 115) hx hb dX10_rest_99 (by decide) (fun _ => ?_) (fun c_74 => absurd c_74 (by decide))
      refine lv_iconst (v := 0) hx hb dX10_rest_115 (by decide) ?_
      exact M_z hx hb hr rfl hlocks (x22_64, x23_65, x24_66, x25_67, (i 36), (a 26), y27_68, y28_69, (a 29), (a 30), (a 31), (a 32), (a 33)) hP hD hK hS ⟨Or.inl ⟨rfl, ⟨_, Or.inl ⟨by decide, rfl⟩, by rw [hpl]; exact (hz2_71).pa⟩⟩, ⟨dp, hpr_73⟩⟩ (by first | exact Nat.le_of_ble_eq_true rfl | (simp only [rm_X10_rest]; omega)) (by first | exact Nat.le_of_ble_eq_true rfl | (simp only [rm_X10_rest]; omega)) dX10_rest_116
    · have hP : va_P (dC, dI) vwCl (mw g h0 b (va_up (va_up (va_up (va_up i 22 x22_64) 23 x23_65) 24 x24_66) 25 x25_67) (va_up (va_up a 27 y27_68) 28 y28_69)) _ := hP
      have hD : va_D _ (mw g h0 b (va_up (va_up (va_up (va_up i 22 x22_64) 23 x23_65) 24 x24_66) 25 x25_67) (va_up (va_up a 27 y27_68) 28 y28_69)) := hD
      refine W.eq (g2 := F0 m 99 ls [.int 1]) rfl ?_
      have hp_75 := PN.set hPN hq hVq (show y27_68 = (a 27) ∨ ∃ v : Int32, (0 : Int32).toInt ≤ v.toInt ∧ v.toInt ≤ ((5 : Int32) : Int32).toInt ∧ y27_68 = upd (a 27) kk.toNatClampNeg v from hw_70) (fun _ => by decide)
      have hpr_76 := PR.tr (PR.rf hPN) hp_75
      have hmq_77 : MI (a 19) ln (gnu (Kp (a 19) ln) (Vp (a 19) ln) (nq (a 19) ln) 1 (1000 : Int32) (gnu (Kp (a 19) ln) (Vp (a 19) ln) (nq (a 19) ln) 0 (5 : Int32) sq)) x22_64 x23_65 x24_66 := hz2_71
      refine lv_if_eq (tgt := 115) hx hb dX10_rest_99 (by decide) (fun c_78 => absurd c_78 (by decide)) (fun _ => ?_)
      refine lv_aload_n hx hb dX10_rest_102 rfl (lv_at hl 0 rfl) ?_
      refine lv_bipush (v := 59) hx hb dX10_rest_103 (by decide) ?_
      refine M_V ⟨hx, hb, hml, hown, hts⟩ (m_X10_need l dC dI sa g h0 b ln (gnu (Kp (a 19) ln) (Vp (a 19) ln) (nq (a 19) ln) 1 (1000 : Int32) (gnu (Kp (a 19) ln) (Vp (a 19) ln) (nq (a 19) ln) 0 (5 : Int32) sq)) (va_up (va_up (va_up (va_up i 22 x22_64) 23 x23_65) 24 x24_66) 25 x25_67) (va_up (va_up a 27 y27_68) 28 y28_69) (59 : Int32) _ hL hmq_77 (by decide)) (cwV 1 hts gX10_rest_X10_need rfl rfl rfl (by decide +kernel) ⟨(by first | exact Nat.le_of_ble_eq_true rfl | (simp only [rm_X10_need, rm_X10_rest]; omega)), (by first | exact Nat.le_of_ble_eq_true rfl | (simp only [rm_X10_need, rm_X10_rest]; omega))⟩) hP hD hK hS hA hev rfl rfl rfl rfl hl.1 rfl (Nat.le_of_ble_eq_true rfl) dX10_rest_105 ⟨(by first | exact Nat.le_of_ble_eq_true rfl | (simp only [rm_X10_rest]; omega)), (by first | exact Nat.le_of_ble_eq_true rfl | (simp only [rm_X10_rest]; omega))⟩ (fun r u H locs hw hP hD hS => ?_)
      obtain ⟨x22_79, x23_80, x24_81⟩ := u
      have hw : ((r = some (.int 0) ∧ (MO (gpa (Kp (a 19) ln) (nq (a 19) ln) (59 : Int32) (gnu (Kp (a 19) ln) (Vp (a 19) ln) (nq (a 19) ln) 1 (1000 : Int32) (gnu (Kp (a 19) ln) (Vp (a 19) ln) (nq (a 19) ln) 0 (5 : Int32) sq))) x23_80 x24_81)) ∨ (r = some (.int 1) ∧ (MI (a 19) ln (gpa (Kp (a 19) ln) (nq (a 19) ln) (59 : Int32) (gnu (Kp (a 19) ln) (Vp (a 19) ln) (nq (a 19) ln) 1 (1000 : Int32) (gnu (Kp (a 19) ln) (Vp (a 19) ln) (nq (a 19) ln) 0 (5 : Int32) sq))) x22_79 x23_80 x24_81))) ∧ (True) := hw
      obtain ⟨⟨rfl, hz2_83⟩ | ⟨rfl, hz2_83⟩, hw_82⟩ := hw
      · have hP : va_P (dC, dI) vwCl (mw g h0 b (va_up (va_up (va_up (va_up i 22 x22_79) 23 x23_80) 24 x24_81) 25 x25_67) (va_up (va_up a 27 y27_68) 28 y28_69)) _ := hP
        have hD : va_D _ (mw g h0 b (va_up (va_up (va_up (va_up i 22 x22_79) 23 x23_80) 24 x24_81) 25 x25_67) (va_up (va_up a 27 y27_68) 28 y28_69)) := hD
        refine W.eq (g2 := F0 m 108 ls [.int 0]) rfl ?_
        refine lv_if_eq (tgt := 115) hx hb dX10_rest_108 (by decide) (fun _ => ?_) (fun c_84 => absurd c_84 (by decide))
        refine lv_iconst (v := 0) hx hb dX10_rest_115 (by decide) ?_
        exact M_z hx hb hr rfl hlocks (x22_79, x23_80, x24_81, x25_67, (i 36), (a 26), y27_68, y28_69, (a 29), (a 30), (a 31), (a 32), (a 33)) hP hD hK hS ⟨Or.inl ⟨rfl, ⟨_, Or.inl ⟨by decide, rfl⟩, by rw [hpl]; exact hz2_83⟩⟩, ⟨dp, hpr_76⟩⟩ (by first | exact Nat.le_of_ble_eq_true rfl | (simp only [rm_X10_rest]; omega)) (by first | exact Nat.le_of_ble_eq_true rfl | (simp only [rm_X10_rest]; omega)) dX10_rest_116
      · have hP : va_P (dC, dI) vwCl (mw g h0 b (va_up (va_up (va_up (va_up i 22 x22_79) 23 x23_80) 24 x24_81) 25 x25_67) (va_up (va_up a 27 y27_68) 28 y28_69)) _ := hP
        have hD : va_D _ (mw g h0 b (va_up (va_up (va_up (va_up i 22 x22_79) 23 x23_80) 24 x24_81) 25 x25_67) (va_up (va_up a 27 y27_68) 28 y28_69)) := hD
        refine W.eq (g2 := F0 m 108 ls [.int 1]) rfl ?_
        have hmq_85 : MI (a 19) ln (gpa (Kp (a 19) ln) (nq (a 19) ln) (59 : Int32) (gnu (Kp (a 19) ln) (Vp (a 19) ln) (nq (a 19) ln) 1 (1000 : Int32) (gnu (Kp (a 19) ln) (Vp (a 19) ln) (nq (a 19) ln) 0 (5 : Int32) sq))) x22_79 x23_80 x24_81 := hz2_83
        refine lv_if_eq (tgt := 115) hx hb dX10_rest_108 (by decide) (fun c_86 => absurd c_86 (by decide)) (fun _ => ?_)
        refine lv_iconst (v := 1) hx hb dX10_rest_111 (by decide) ?_
        refine lv_goto (tgt := 116) hx hb dX10_rest_112 (by decide) ?_
        exact M_z hx hb hr rfl hlocks (x22_79, x23_80, x24_81, x25_67, (i 36), (a 26), y27_68, y28_69, (a 29), (a 30), (a 31), (a 32), (a 33)) hP hD hK hS ⟨Or.inr ⟨rfl, ⟨_, Or.inl ⟨by decide, rfl⟩, by rw [hpl]; exact hmq_85, by rw [gpa_nd, gpl_nd]; exact hn36⟩⟩, ⟨dp, hpr_76⟩⟩ (by first | exact Nat.le_of_ble_eq_true rfl | (simp only [rm_X10_rest]; omega)) (by first | exact Nat.le_of_ble_eq_true rfl | (simp only [rm_X10_rest]; omega)) dX10_rest_116
  by_cases c_87 : z_1 = 5
  · refine lv_tableIn (tgt := 151) hx hb dX10_rest_6 (by rw [c_87]; decide) (by rw [c_87]; decide) (by rw [c_87]; rfl) (by decide) ?_
    obtain rfl : cw = 6 := (cw_is hcw.1 ez_1 c_87).trans (by decide)
    have hpl : gpl (Kp (a 19) ln) (Vp (a 19) ln) (nq (a 19) ln) 6 sq = (gnu (Kp (a 19) ln) (Vp (a 19) ln) (nq (a 19) ln) 0 5 sq) := rfl
    refine lv_aload_n hx hb dX10_rest_151 rfl (lv_at hl 0 rfl) ?_
    refine lv_iload_n hx hb dX10_rest_152 rfl (lv_at hl 1 rfl) ?_
    refine lv_iconst (v := 0) hx hb dX10_rest_153 (by decide) ?_
    refine lv_iconst (v := 5) hx hb dX10_rest_154 (by decide) ?_
    refine M_V ⟨hx, hb, hml, hown, hts⟩ (m_X10_single l dC dI sa g h0 b ln sq i a kk (0 : Int32) (5 : Int32) _ hL hM hk) (cwV 3 hts gX10_rest_X10_single rfl rfl rfl (by decide +kernel) ⟨(by first | exact Nat.le_of_ble_eq_true rfl | (simp only [rm_X10_single, rm_X10_rest]; omega)), (by first | exact Nat.le_of_ble_eq_true rfl | (simp only [rm_X10_single, rm_X10_rest]; omega))⟩) hP hD hK hS hA hev rfl rfl rfl rfl hl.1 rfl (Nat.le_of_ble_eq_true rfl) dX10_rest_155 ⟨(by first | exact Nat.le_of_ble_eq_true rfl | (simp only [rm_X10_rest]; omega)), (by first | exact Nat.le_of_ble_eq_true rfl | (simp only [rm_X10_rest]; omega))⟩ (fun r u H locs hw hP hD hS => ?_)
    obtain ⟨x22_88, x23_89, x24_90, x25_91, y27_92⟩ := u
    have hw : ((r = some (.int 0) ∧ (MO (gnu (Kp (a 19) ln) (Vp (a 19) ln) (nq (a 19) ln) (0 : Int32) (5 : Int32) sq) x23_89 x24_90 ∧ y27_92 = (a 27))) ∨ (r = some (.int 1) ∧ (MI (a 19) ln (gnu (Kp (a 19) ln) (Vp (a 19) ln) (nq (a 19) ln) (0 : Int32) (5 : Int32) sq) x22_88 x23_89 x24_90 ∧ (0 : Int32).toInt ≤ (Vp (a 19) ln sq.1).toInt ∧ (Vp (a 19) ln sq.1).toInt ≤ (5 : Int32).toInt ∧ y27_92 = upd (a 27) kk.toNatClampNeg (Vp (a 19) ln sq.1)))) ∧ (True) := hw
    obtain ⟨⟨rfl, hz2_94⟩ | ⟨rfl, hz2_94⟩, hw_93⟩ := hw
    · have hP : va_P (dC, dI) vwCl (mw g h0 b (va_up (va_up (va_up (va_up i 22 x22_88) 23 x23_89) 24 x24_90) 25 x25_91) (va_up a 27 y27_92)) _ := hP
      have hD : va_D _ (mw g h0 b (va_up (va_up (va_up (va_up i 22 x22_88) 23 x23_89) 24 x24_90) 25 x25_91) (va_up a 27 y27_92)) := hD
      refine W.eq (g2 := F0 m 158 ls [.int 0]) rfl ?_
      have hp_95 := PN.set hPN hq hVq (show y27_92 = (a 27) ∨ ∃ v : Int32, ((0 : Int32) : Int32).toInt ≤ v.toInt ∧ v.toInt ≤ ((5 : Int32) : Int32).toInt ∧ y27_92 = upd (a 27) kk.toNatClampNeg v from Or.inl hz2_94.2) (fun _ => by decide)
      have hpr_96 := PR.tr (PR.rf hPN) hp_95
      refine lv_if_eq (tgt := 174) hx hb dX10_rest_158 (by decide) (fun _ => ?_) (fun c_97 => absurd c_97 (by decide))
      refine lv_iconst (v := 0) hx hb dX10_rest_174 (by decide) ?_
      exact M_z hx hb hr rfl hlocks (x22_88, x23_89, x24_90, x25_91, (i 36), (a 26), y27_92, (a 28), (a 29), (a 30), (a 31), (a 32), (a 33)) hP hD hK hS ⟨Or.inl ⟨rfl, ⟨_, Or.inl ⟨by decide, rfl⟩, by rw [hpl]; exact (hz2_94.1).pa⟩⟩, ⟨dp, hpr_96⟩⟩ (by first | exact Nat.le_of_ble_eq_true rfl | (simp only [rm_X10_rest]; omega)) (by first | exact Nat.le_of_ble_eq_true rfl | (simp only [rm_X10_rest]; omega)) dX10_rest_175
    · have hP : va_P (dC, dI) vwCl (mw g h0 b (va_up (va_up (va_up (va_up i 22 x22_88) 23 x23_89) 24 x24_90) 25 x25_91) (va_up a 27 y27_92)) _ := hP
      have hD : va_D _ (mw g h0 b (va_up (va_up (va_up (va_up i 22 x22_88) 23 x23_89) 24 x24_90) 25 x25_91) (va_up a 27 y27_92)) := hD
      refine W.eq (g2 := F0 m 158 ls [.int 1]) rfl ?_
      have hp_98 := PN.set hPN hq hVq (show y27_92 = (a 27) ∨ ∃ v : Int32, ((0 : Int32) : Int32).toInt ≤ v.toInt ∧ v.toInt ≤ ((5 : Int32) : Int32).toInt ∧ y27_92 = upd (a 27) kk.toNatClampNeg v from Or.inr ⟨_, hz2_94.2.1, hz2_94.2.2.1, hz2_94.2.2.2⟩) (fun _ => by decide)
      have hpr_99 := PR.tr (PR.rf hPN) hp_98
      have hmq_100 : MI (a 19) ln (gnu (Kp (a 19) ln) (Vp (a 19) ln) (nq (a 19) ln) (0 : Int32) (5 : Int32) sq) x22_88 x23_89 x24_90 := hz2_94.1
      refine lv_if_eq (tgt := 174) hx hb dX10_rest_158 (by decide) (fun c_101 => absurd c_101 (by decide)) (fun _ => ?_)
      refine lv_aload_n hx hb dX10_rest_161 rfl (lv_at hl 0 rfl) ?_
      refine lv_bipush (v := 59) hx hb dX10_rest_162 (by decide) ?_
      refine M_V ⟨hx, hb, hml, hown, hts⟩ (m_X10_need l dC dI sa g h0 b ln (gnu (Kp (a 19) ln) (Vp (a 19) ln) (nq (a 19) ln) (0 : Int32) (5 : Int32) sq) (va_up (va_up (va_up (va_up i 22 x22_88) 23 x23_89) 24 x24_90) 25 x25_91) (va_up a 27 y27_92) (59 : Int32) _ hL hmq_100 (by decide)) (cwV 1 hts gX10_rest_X10_need rfl rfl rfl (by decide +kernel) ⟨(by first | exact Nat.le_of_ble_eq_true rfl | (simp only [rm_X10_need, rm_X10_rest]; omega)), (by first | exact Nat.le_of_ble_eq_true rfl | (simp only [rm_X10_need, rm_X10_rest]; omega))⟩) hP hD hK hS hA hev rfl rfl rfl rfl hl.1 rfl (Nat.le_of_ble_eq_true rfl) dX10_rest_164 ⟨(by first | exact Nat.le_of_ble_eq_true rfl | (simp only [rm_X10_rest]; omega)), (by first | exact Nat.le_of_ble_eq_true rfl | (simp only [rm_X10_rest]; omega))⟩ (fun r u H locs hw hP hD hS => ?_)
      obtain ⟨x22_102, x23_103, x24_104⟩ := u
      have hw : ((r = some (.int 0) ∧ (MO (gpa (Kp (a 19) ln) (nq (a 19) ln) (59 : Int32) (gnu (Kp (a 19) ln) (Vp (a 19) ln) (nq (a 19) ln) (0 : Int32) (5 : Int32) sq)) x23_103 x24_104)) ∨ (r = some (.int 1) ∧ (MI (a 19) ln (gpa (Kp (a 19) ln) (nq (a 19) ln) (59 : Int32) (gnu (Kp (a 19) ln) (Vp (a 19) ln) (nq (a 19) ln) (0 : Int32) (5 : Int32) sq)) x22_102 x23_103 x24_104))) ∧ (True) := hw
      obtain ⟨⟨rfl, hz2_106⟩ | ⟨rfl, hz2_106⟩, hw_105⟩ := hw
      · have hP : va_P (dC, dI) vwCl (mw g h0 b (va_up (va_up (va_up (va_up i 22 x22_102) 23 x23_103) 24 x24_104) 25 x25_91) (va_up a 27 y27_92)) _ := hP
        have hD : va_D _ (mw g h0 b (va_up (va_up (va_up (va_up i 22 x22_102) 23 x23_103) 24 x24_104) 25 x25_91) (va_up a 27 y27_92)) := hD
        refine W.eq (g2 := F0 m 167 ls [.int 0]) rfl ?_
        refine lv_if_eq (tgt := 174) hx hb dX10_rest_167 (by decide) (fun _ => ?_) (fun c_107 => absurd c_107 (by decide))
        refine lv_iconst (v := 0) hx hb dX10_rest_174 (by decide) ?_
        exact M_z hx hb hr rfl hlocks (x22_102, x23_103, x24_104, x25_91, (i 36), (a 26), y27_92, (a 28), (a 29), (a 30), (a 31), (a 32), (a 33)) hP hD hK hS ⟨Or.inl ⟨rfl, ⟨_, Or.inl ⟨by decide, rfl⟩, by rw [hpl]; exact hz2_106⟩⟩, ⟨dp, hpr_99⟩⟩ (by first | exact Nat.le_of_ble_eq_true rfl | (simp only [rm_X10_rest]; omega)) (by first | exact Nat.le_of_ble_eq_true rfl | (simp only [rm_X10_rest]; omega)) dX10_rest_175
      · have hP : va_P (dC, dI) vwCl (mw g h0 b (va_up (va_up (va_up (va_up i 22 x22_102) 23 x23_103) 24 x24_104) 25 x25_91) (va_up a 27 y27_92)) _ := hP
        have hD : va_D _ (mw g h0 b (va_up (va_up (va_up (va_up i 22 x22_102) 23 x23_103) 24 x24_104) 25 x25_91) (va_up a 27 y27_92)) := hD
        refine W.eq (g2 := F0 m 167 ls [.int 1]) rfl ?_
        have hmq_108 : MI (a 19) ln (gpa (Kp (a 19) ln) (nq (a 19) ln) (59 : Int32) (gnu (Kp (a 19) ln) (Vp (a 19) ln) (nq (a 19) ln) (0 : Int32) (5 : Int32) sq)) x22_102 x23_103 x24_104 := hz2_106
        refine lv_if_eq (tgt := 174) hx hb dX10_rest_167 (by decide) (fun c_109 => absurd c_109 (by decide)) (fun _ => ?_)
        refine lv_iconst (v := 1) hx hb dX10_rest_170 (by decide) ?_
        refine lv_goto (tgt := 175) hx hb dX10_rest_171 (by decide) ?_
        exact M_z hx hb hr rfl hlocks (x22_102, x23_103, x24_104, x25_91, (i 36), (a 26), y27_92, (a 28), (a 29), (a 30), (a 31), (a 32), (a 33)) hP hD hK hS ⟨Or.inr ⟨rfl, ⟨_, Or.inl ⟨by decide, rfl⟩, by rw [hpl]; exact hmq_108, by rw [gpa_nd, gpl_nd]; exact hn36⟩⟩, ⟨dp, hpr_99⟩⟩ (by first | exact Nat.le_of_ble_eq_true rfl | (simp only [rm_X10_rest]; omega)) (by first | exact Nat.le_of_ble_eq_true rfl | (simp only [rm_X10_rest]; omega)) dX10_rest_175
  by_cases c_110 : z_1 = 6
  · refine lv_tableIn (tgt := 176) hx hb dX10_rest_6 (by rw [c_110]; decide) (by rw [c_110]; decide) (by rw [c_110]; rfl) (by decide) ?_
    obtain rfl : cw = 7 := (cw_is hcw.1 ez_1 c_110).trans (by decide)
    have hpl : gpl (Kp (a 19) ln) (Vp (a 19) ln) (nq (a 19) ln) 7 sq = (gnu (Kp (a 19) ln) (Vp (a 19) ln) (nq (a 19) ln) 1 99 sq) := rfl
    refine lv_aload_n hx hb dX10_rest_176 rfl (lv_at hl 0 rfl) ?_
    refine lv_iload_n hx hb dX10_rest_177 rfl (lv_at hl 1 rfl) ?_
    refine lv_iconst (v := 1) hx hb dX10_rest_178 (by decide) ?_
    refine lv_bipush (v := 99) hx hb dX10_rest_179 (by decide) ?_
    refine M_V ⟨hx, hb, hml, hown, hts⟩ (m_X10_single l dC dI sa g h0 b ln sq i a kk (1 : Int32) (99 : Int32) _ hL hM hk) (cwV 3 hts gX10_rest_X10_single rfl rfl rfl (by decide +kernel) ⟨(by first | exact Nat.le_of_ble_eq_true rfl | (simp only [rm_X10_single, rm_X10_rest]; omega)), (by first | exact Nat.le_of_ble_eq_true rfl | (simp only [rm_X10_single, rm_X10_rest]; omega))⟩) hP hD hK hS hA hev rfl rfl rfl rfl hl.1 rfl (Nat.le_of_ble_eq_true rfl) dX10_rest_181 ⟨(by first | exact Nat.le_of_ble_eq_true rfl | (simp only [rm_X10_rest]; omega)), (by first | exact Nat.le_of_ble_eq_true rfl | (simp only [rm_X10_rest]; omega))⟩ (fun r u H locs hw hP hD hS => ?_)
    obtain ⟨x22_111, x23_112, x24_113, x25_114, y27_115⟩ := u
    have hw : ((r = some (.int 0) ∧ (MO (gnu (Kp (a 19) ln) (Vp (a 19) ln) (nq (a 19) ln) (1 : Int32) (99 : Int32) sq) x23_112 x24_113 ∧ y27_115 = (a 27))) ∨ (r = some (.int 1) ∧ (MI (a 19) ln (gnu (Kp (a 19) ln) (Vp (a 19) ln) (nq (a 19) ln) (1 : Int32) (99 : Int32) sq) x22_111 x23_112 x24_113 ∧ (1 : Int32).toInt ≤ (Vp (a 19) ln sq.1).toInt ∧ (Vp (a 19) ln sq.1).toInt ≤ (99 : Int32).toInt ∧ y27_115 = upd (a 27) kk.toNatClampNeg (Vp (a 19) ln sq.1)))) ∧ (True) := hw
    obtain ⟨⟨rfl, hz2_117⟩ | ⟨rfl, hz2_117⟩, hw_116⟩ := hw
    · have hP : va_P (dC, dI) vwCl (mw g h0 b (va_up (va_up (va_up (va_up i 22 x22_111) 23 x23_112) 24 x24_113) 25 x25_114) (va_up a 27 y27_115)) _ := hP
      have hD : va_D _ (mw g h0 b (va_up (va_up (va_up (va_up i 22 x22_111) 23 x23_112) 24 x24_113) 25 x25_114) (va_up a 27 y27_115)) := hD
      refine W.eq (g2 := F0 m 184 ls [.int 0]) rfl ?_
      have hp_118 := PN.set hPN hq hVq (show y27_115 = (a 27) ∨ ∃ v : Int32, ((1 : Int32) : Int32).toInt ≤ v.toInt ∧ v.toInt ≤ ((99 : Int32) : Int32).toInt ∧ y27_115 = upd (a 27) kk.toNatClampNeg v from Or.inl hz2_117.2) (fun h9 => absurd h9 (by rw [← hkq, ← ez_1, c_110]; decide))
      have hpr_119 := PR.tr (PR.rf hPN) hp_118
      refine lv_if_eq (tgt := 200) hx hb dX10_rest_184 (by decide) (fun _ => ?_) (fun c_120 => absurd c_120 (by decide))
      refine lv_iconst (v := 0) hx hb dX10_rest_200 (by decide) ?_
      exact M_z hx hb hr rfl hlocks (x22_111, x23_112, x24_113, x25_114, (i 36), (a 26), y27_115, (a 28), (a 29), (a 30), (a 31), (a 32), (a 33)) hP hD hK hS ⟨Or.inl ⟨rfl, ⟨_, Or.inl ⟨by decide, rfl⟩, by rw [hpl]; exact (hz2_117.1).pa⟩⟩, ⟨dp, hpr_119⟩⟩ (by first | exact Nat.le_of_ble_eq_true rfl | (simp only [rm_X10_rest]; omega)) (by first | exact Nat.le_of_ble_eq_true rfl | (simp only [rm_X10_rest]; omega)) dX10_rest_201
    · have hP : va_P (dC, dI) vwCl (mw g h0 b (va_up (va_up (va_up (va_up i 22 x22_111) 23 x23_112) 24 x24_113) 25 x25_114) (va_up a 27 y27_115)) _ := hP
      have hD : va_D _ (mw g h0 b (va_up (va_up (va_up (va_up i 22 x22_111) 23 x23_112) 24 x24_113) 25 x25_114) (va_up a 27 y27_115)) := hD
      refine W.eq (g2 := F0 m 184 ls [.int 1]) rfl ?_
      have hp_121 := PN.set hPN hq hVq (show y27_115 = (a 27) ∨ ∃ v : Int32, ((1 : Int32) : Int32).toInt ≤ v.toInt ∧ v.toInt ≤ ((99 : Int32) : Int32).toInt ∧ y27_115 = upd (a 27) kk.toNatClampNeg v from Or.inr ⟨_, hz2_117.2.1, hz2_117.2.2.1, hz2_117.2.2.2⟩) (fun h9 => absurd h9 (by rw [← hkq, ← ez_1, c_110]; decide))
      have hpr_122 := PR.tr (PR.rf hPN) hp_121
      have hmq_123 : MI (a 19) ln (gnu (Kp (a 19) ln) (Vp (a 19) ln) (nq (a 19) ln) (1 : Int32) (99 : Int32) sq) x22_111 x23_112 x24_113 := hz2_117.1
      refine lv_if_eq (tgt := 200) hx hb dX10_rest_184 (by decide) (fun c_124 => absurd c_124 (by decide)) (fun _ => ?_)
      refine lv_aload_n hx hb dX10_rest_187 rfl (lv_at hl 0 rfl) ?_
      refine lv_bipush (v := 59) hx hb dX10_rest_188 (by decide) ?_
      refine M_V ⟨hx, hb, hml, hown, hts⟩ (m_X10_need l dC dI sa g h0 b ln (gnu (Kp (a 19) ln) (Vp (a 19) ln) (nq (a 19) ln) (1 : Int32) (99 : Int32) sq) (va_up (va_up (va_up (va_up i 22 x22_111) 23 x23_112) 24 x24_113) 25 x25_114) (va_up a 27 y27_115) (59 : Int32) _ hL hmq_123 (by decide)) (cwV 1 hts gX10_rest_X10_need rfl rfl rfl (by decide +kernel) ⟨(by first | exact Nat.le_of_ble_eq_true rfl | (simp only [rm_X10_need, rm_X10_rest]; omega)), (by first | exact Nat.le_of_ble_eq_true rfl | (simp only [rm_X10_need, rm_X10_rest]; omega))⟩) hP hD hK hS hA hev rfl rfl rfl rfl hl.1 rfl (Nat.le_of_ble_eq_true rfl) dX10_rest_190 ⟨(by first | exact Nat.le_of_ble_eq_true rfl | (simp only [rm_X10_rest]; omega)), (by first | exact Nat.le_of_ble_eq_true rfl | (simp only [rm_X10_rest]; omega))⟩ (fun r u H locs hw hP hD hS => ?_)
      obtain ⟨x22_125, x23_126, x24_127⟩ := u
      have hw : ((r = some (.int 0) ∧ (MO (gpa (Kp (a 19) ln) (nq (a 19) ln) (59 : Int32) (gnu (Kp (a 19) ln) (Vp (a 19) ln) (nq (a 19) ln) (1 : Int32) (99 : Int32) sq)) x23_126 x24_127)) ∨ (r = some (.int 1) ∧ (MI (a 19) ln (gpa (Kp (a 19) ln) (nq (a 19) ln) (59 : Int32) (gnu (Kp (a 19) ln) (Vp (a 19) ln) (nq (a 19) ln) (1 : Int32) (99 : Int32) sq)) x22_125 x23_126 x24_127))) ∧ (True) := hw
      obtain ⟨⟨rfl, hz2_129⟩ | ⟨rfl, hz2_129⟩, hw_128⟩ := hw
      · have hP : va_P (dC, dI) vwCl (mw g h0 b (va_up (va_up (va_up (va_up i 22 x22_125) 23 x23_126) 24 x24_127) 25 x25_114) (va_up a 27 y27_115)) _ := hP
        have hD : va_D _ (mw g h0 b (va_up (va_up (va_up (va_up i 22 x22_125) 23 x23_126) 24 x24_127) 25 x25_114) (va_up a 27 y27_115)) := hD
        refine W.eq (g2 := F0 m 193 ls [.int 0]) rfl ?_
        refine lv_if_eq (tgt := 200) hx hb dX10_rest_193 (by decide) (fun _ => ?_) (fun c_130 => absurd c_130 (by decide))
        refine lv_iconst (v := 0) hx hb dX10_rest_200 (by decide) ?_
        exact M_z hx hb hr rfl hlocks (x22_125, x23_126, x24_127, x25_114, (i 36), (a 26), y27_115, (a 28), (a 29), (a 30), (a 31), (a 32), (a 33)) hP hD hK hS ⟨Or.inl ⟨rfl, ⟨_, Or.inl ⟨by decide, rfl⟩, by rw [hpl]; exact hz2_129⟩⟩, ⟨dp, hpr_122⟩⟩ (by first | exact Nat.le_of_ble_eq_true rfl | (simp only [rm_X10_rest]; omega)) (by first | exact Nat.le_of_ble_eq_true rfl | (simp only [rm_X10_rest]; omega)) dX10_rest_201
      · have hP : va_P (dC, dI) vwCl (mw g h0 b (va_up (va_up (va_up (va_up i 22 x22_125) 23 x23_126) 24 x24_127) 25 x25_114) (va_up a 27 y27_115)) _ := hP
        have hD : va_D _ (mw g h0 b (va_up (va_up (va_up (va_up i 22 x22_125) 23 x23_126) 24 x24_127) 25 x25_114) (va_up a 27 y27_115)) := hD
        refine W.eq (g2 := F0 m 193 ls [.int 1]) rfl ?_
        have hmq_131 : MI (a 19) ln (gpa (Kp (a 19) ln) (nq (a 19) ln) (59 : Int32) (gnu (Kp (a 19) ln) (Vp (a 19) ln) (nq (a 19) ln) (1 : Int32) (99 : Int32) sq)) x22_125 x23_126 x24_127 := hz2_129
        refine lv_if_eq (tgt := 200) hx hb dX10_rest_193 (by decide) (fun c_132 => absurd c_132 (by decide)) (fun _ => ?_)
        refine lv_iconst (v := 1) hx hb dX10_rest_196 (by decide) ?_
        refine lv_goto (tgt := 201) hx hb dX10_rest_197 (by decide) ?_
        exact M_z hx hb hr rfl hlocks (x22_125, x23_126, x24_127, x25_114, (i 36), (a 26), y27_115, (a 28), (a 29), (a 30), (a 31), (a 32), (a 33)) hP hD hK hS ⟨Or.inr ⟨rfl, ⟨_, Or.inl ⟨by decide, rfl⟩, by rw [hpl]; exact hmq_131, by rw [gpa_nd, gpl_nd]; exact hn36⟩⟩, ⟨dp, hpr_122⟩⟩ (by first | exact Nat.le_of_ble_eq_true rfl | (simp only [rm_X10_rest]; omega)) (by first | exact Nat.le_of_ble_eq_true rfl | (simp only [rm_X10_rest]; omega)) dX10_rest_201
  by_cases c_133 : z_1 = 7
  · refine lv_tableIn (tgt := 202) hx hb dX10_rest_6 (by rw [c_133]; decide) (by rw [c_133]; decide) (by rw [c_133]; rfl) (by decide) ?_
    obtain rfl : cw = 8 := (cw_is hcw.1 ez_1 c_133).trans (by decide)
    refine lv_aload_n hx hb dX10_rest_202 rfl (lv_at hl 0 rfl) ?_
    refine lv_iload_n hx hb dX10_rest_203 rfl (lv_at hl 1 rfl) ?_
    refine lv_iconst (v := 0) hx hb dX10_rest_204 (by decide) ?_
    refine lv_bipush (v := 50) hx hb dX10_rest_205 (by decide) ?_
    refine M_V ⟨hx, hb, hml, hown, hts⟩ (m_X10_single l dC dI sa g h0 b ln sq i a kk (0 : Int32) (50 : Int32) _ hL hM hk) (cwV 3 hts gX10_rest_X10_single rfl rfl rfl (by decide +kernel) ⟨(by first | exact Nat.le_of_ble_eq_true rfl | (simp only [rm_X10_single, rm_X10_rest]; omega)), (by first | exact Nat.le_of_ble_eq_true rfl | (simp only [rm_X10_single, rm_X10_rest]; omega))⟩) hP hD hK hS hA hev rfl rfl rfl rfl hl.1 rfl (Nat.le_of_ble_eq_true rfl) dX10_rest_207 ⟨(by first | exact Nat.le_of_ble_eq_true rfl | (simp only [rm_X10_rest]; omega)), (by first | exact Nat.le_of_ble_eq_true rfl | (simp only [rm_X10_rest]; omega))⟩ (fun r u H locs hw hP hD hS => ?_)
    obtain ⟨x22_134, x23_135, x24_136, x25_137, y27_138⟩ := u
    have hw : ((r = some (.int 0) ∧ (MO (gnu (Kp (a 19) ln) (Vp (a 19) ln) (nq (a 19) ln) (0 : Int32) (50 : Int32) sq) x23_135 x24_136 ∧ y27_138 = (a 27))) ∨ (r = some (.int 1) ∧ (MI (a 19) ln (gnu (Kp (a 19) ln) (Vp (a 19) ln) (nq (a 19) ln) (0 : Int32) (50 : Int32) sq) x22_134 x23_135 x24_136 ∧ (0 : Int32).toInt ≤ (Vp (a 19) ln sq.1).toInt ∧ (Vp (a 19) ln sq.1).toInt ≤ (50 : Int32).toInt ∧ y27_138 = upd (a 27) kk.toNatClampNeg (Vp (a 19) ln sq.1)))) ∧ (True) := hw
    obtain ⟨⟨rfl, hz2_140⟩ | ⟨rfl, hz2_140⟩, hw_139⟩ := hw
    · have hP : va_P (dC, dI) vwCl (mw g h0 b (va_up (va_up (va_up (va_up i 22 x22_134) 23 x23_135) 24 x24_136) 25 x25_137) (va_up a 27 y27_138)) _ := hP
      have hD : va_D _ (mw g h0 b (va_up (va_up (va_up (va_up i 22 x22_134) 23 x23_135) 24 x24_136) 25 x25_137) (va_up a 27 y27_138)) := hD
      refine W.eq (g2 := F0 m 210 ls [.int 0]) rfl ?_
      have hp_141 := PN.set hPN hq hVq (show y27_138 = (a 27) ∨ ∃ v : Int32, ((0 : Int32) : Int32).toInt ≤ v.toInt ∧ v.toInt ≤ ((50 : Int32) : Int32).toInt ∧ y27_138 = upd (a 27) kk.toNatClampNeg v from Or.inl hz2_140.2) (fun h9 => absurd h9 (by rw [← hkq, ← ez_1, c_133]; decide))
      have hpr_142 := PR.tr (PR.rf hPN) hp_141
      refine lv_if_eq (tgt := 226) hx hb dX10_rest_210 (by decide) (fun _ => ?_) (fun c_143 => absurd c_143 (by decide))
      refine lv_iconst (v := 0) hx hb dX10_rest_226 (by decide) ?_
      exact M_z hx hb hr rfl hlocks (x22_134, x23_135, x24_136, x25_137, (i 36), (a 26), y27_138, (a 28), (a 29), (a 30), (a 31), (a 32), (a 33)) hP hD hK hS ⟨Or.inl ⟨rfl, ⟨_, BU.i8 (Ev.fx2 (hz2_140.1).2.2.1), hz2_140.1⟩⟩, ⟨dp, hpr_142⟩⟩ (by first | exact Nat.le_of_ble_eq_true rfl | (simp only [rm_X10_rest]; omega)) (by first | exact Nat.le_of_ble_eq_true rfl | (simp only [rm_X10_rest]; omega)) dX10_rest_227
    · have hP : va_P (dC, dI) vwCl (mw g h0 b (va_up (va_up (va_up (va_up i 22 x22_134) 23 x23_135) 24 x24_136) 25 x25_137) (va_up a 27 y27_138)) _ := hP
      have hD : va_D _ (mw g h0 b (va_up (va_up (va_up (va_up i 22 x22_134) 23 x23_135) 24 x24_136) 25 x25_137) (va_up a 27 y27_138)) := hD
      refine W.eq (g2 := F0 m 210 ls [.int 1]) rfl ?_
      have hp_144 := PN.set hPN hq hVq (show y27_138 = (a 27) ∨ ∃ v : Int32, ((0 : Int32) : Int32).toInt ≤ v.toInt ∧ v.toInt ≤ ((50 : Int32) : Int32).toInt ∧ y27_138 = upd (a 27) kk.toNatClampNeg v from Or.inr ⟨_, hz2_140.2.1, hz2_140.2.2.1, hz2_140.2.2.2⟩) (fun h9 => absurd h9 (by rw [← hkq, ← ez_1, c_133]; decide))
      have hpr_145 := PR.tr (PR.rf hPN) hp_144
      have hmq_146 : MI (a 19) ln (gnu (Kp (a 19) ln) (Vp (a 19) ln) (nq (a 19) ln) (0 : Int32) (50 : Int32) sq) x22_134 x23_135 x24_136 := hz2_140.1
      refine lv_if_eq (tgt := 226) hx hb dX10_rest_210 (by decide) (fun c_147 => absurd c_147 (by decide)) (fun _ => ?_)
      refine lv_aload_n hx hb dX10_rest_213 rfl (lv_at hl 0 rfl) ?_
      refine lv_iload_n hx hb dX10_rest_214 rfl (lv_at hl 1 rfl) ?_
      refine lv_iconst (v := 0) hx hb dX10_rest_215 (by decide) ?_
      refine M_V ⟨hx, hb, hml, hown, hts⟩ (m_X10_block l dC dI sa g h0 b j bl dp ln (gnu (Kp (a 19) ln) (Vp (a 19) ln) (nq (a 19) ln) (0 : Int32) (50 : Int32) sq) (va_up (va_up (va_up (va_up i 22 x22_134) 23 x23_135) 24 x24_136) 25 x25_137) (va_up a 27 y27_138) kk (0 : Int32) _ hL hmq_146 (by first | exact hn36 | (simp only [gpa_nd, gnu_nd, gpl_nd, gte_nd, gob_nd, grf_nd]; exact hn36)) hp_144.2.1 hBL hj (by first | exact hn3 | (simp only [gpa_nd, gnu_nd, gpl_nd, gte_nd, gob_nd, grf_nd]; exact hn3)) (let h9 := PR.nd hpr_145 hVq hdq; ⟨q, hq, h9.1, h9.2⟩) IHS) (cwV 2 hts gX10_rest_X10_block rfl rfl rfl (by decide +kernel) ⟨(by first | exact Nat.le_of_ble_eq_true rfl | (simp only [rm_X10_block, rm_X10_rest]; omega)), (by first | exact Nat.le_of_ble_eq_true rfl | (simp only [rm_X10_block, rm_X10_rest]; omega))⟩) hP hD hK hS hA hev rfl rfl rfl rfl hl.1 rfl (Nat.le_of_ble_eq_true rfl) dX10_rest_216 ⟨(by first | exact Nat.le_of_ble_eq_true rfl | (simp only [rm_X10_rest]; omega)), (by first | exact Nat.le_of_ble_eq_true rfl | (simp only [rm_X10_rest]; omega))⟩ (fun r u H locs hw hP hD hS => ?_)
      obtain ⟨x22_148, x23_149, x24_150, x25_151, x36_152, y26_153, y27_154, y28_155, y29_156, y30_157, y31_158, y32_159, y33_160⟩ := u
      have hw : ((r = some (.int 0) ∧ (∃ rn : SG, Ev (Kp (a 19) ln) (Vp (a 19) ln) (nq (a 19) ln) 2 bl (gnu (Kp (a 19) ln) (Vp (a 19) ln) (nq (a 19) ln) (0 : Int32) (50 : Int32) sq) rn ∧ MO rn x23_149 x24_150)) ∨ (r = some (.int 1) ∧ (∃ rn : SG, Ev (Kp (a 19) ln) (Vp (a 19) ln) (nq (a 19) ln) 2 bl (gnu (Kp (a 19) ln) (Vp (a 19) ln) (nq (a 19) ln) (0 : Int32) (50 : Int32) sq) rn ∧ MI (a 19) ln rn x22_148 x23_149 x24_150 ∧ x36_152 = nI rn.2.1))) ∧ (∃ dpN : Nat → Nat, PR (i 36) x36_152 dp dpN (a 26) y27_138 (a 31) (a 32) (a 33) y26_153 y27_154 y31_158 y32_159 y33_160) := hw
      obtain ⟨⟨rfl, hz2_162⟩ | ⟨rfl, hz2_162⟩, hw_161⟩ := hw
      · have hP : va_P (dC, dI) vwCl (mw g h0 b (va_up (va_up (va_up (va_up (va_up i 22 x22_148) 23 x23_149) 24 x24_150) 25 x25_151) 36 x36_152) (va_up (va_up (va_up (va_up (va_up (va_up (va_up (va_up a 26 y26_153) 27 y27_154) 28 y28_155) 29 y29_156) 30 y30_157) 31 y31_158) 32 y32_159) 33 y33_160)) _ := hP
        have hD : va_D _ (mw g h0 b (va_up (va_up (va_up (va_up (va_up i 22 x22_148) 23 x23_149) 24 x24_150) 25 x25_151) 36 x36_152) (va_up (va_up (va_up (va_up (va_up (va_up (va_up (va_up a 26 y26_153) 27 y27_154) 28 y28_155) 29 y29_156) 30 y30_157) 31 y31_158) 32 y32_159) 33 y33_160)) := hD
        refine W.eq (g2 := F0 m 219 ls [.int 0]) rfl ?_
        obtain ⟨dp_164, hPR_163⟩ := hw_161
        have hpr_166 := PR.tr hpr_145 hPR_163
        obtain ⟨rn_167, hev_168, hmo_169⟩ := hz2_162
        refine lv_if_eq (tgt := 226) hx hb dX10_rest_219 (by decide) (fun _ => ?_) (fun c_170 => absurd c_170 (by decide))
        refine lv_iconst (v := 0) hx hb dX10_rest_226 (by decide) ?_
        exact M_z hx hb hr rfl hlocks (x22_148, x23_149, x24_150, x25_151, x36_152, y26_153, y27_154, y28_155, y29_156, y30_157, y31_158, y32_159, y33_160) hP hD hK hS ⟨Or.inl ⟨rfl, ⟨_, BU.i8 hev_168, hmo_169⟩⟩, ⟨dp_164, hpr_166⟩⟩ (by first | exact Nat.le_of_ble_eq_true rfl | (simp only [rm_X10_rest]; omega)) (by first | exact Nat.le_of_ble_eq_true rfl | (simp only [rm_X10_rest]; omega)) dX10_rest_227
      · have hP : va_P (dC, dI) vwCl (mw g h0 b (va_up (va_up (va_up (va_up (va_up i 22 x22_148) 23 x23_149) 24 x24_150) 25 x25_151) 36 x36_152) (va_up (va_up (va_up (va_up (va_up (va_up (va_up (va_up a 26 y26_153) 27 y27_154) 28 y28_155) 29 y29_156) 30 y30_157) 31 y31_158) 32 y32_159) 33 y33_160)) _ := hP
        have hD : va_D _ (mw g h0 b (va_up (va_up (va_up (va_up (va_up i 22 x22_148) 23 x23_149) 24 x24_150) 25 x25_151) 36 x36_152) (va_up (va_up (va_up (va_up (va_up (va_up (va_up (va_up a 26 y26_153) 27 y27_154) 28 y28_155) 29 y29_156) 30 y30_157) 31 y31_158) 32 y32_159) 33 y33_160)) := hD
        refine W.eq (g2 := F0 m 219 ls [.int 1]) rfl ?_
        obtain ⟨dp_172, hPR_171⟩ := hw_161
        have hpr_174 := PR.tr hpr_145 hPR_171
        obtain ⟨rn_175, hev_176, hmq_177, h36_178⟩ := hz2_162
        have h3_rn_175 : rn_175.2.1 ≤ 300 := hev_176.nd.2.2 (by first | exact hn3 | (simp only [gpa_nd, gnu_nd, gpl_nd, gte_nd, gob_nd, grf_nd]; exact hn3))
        refine lv_if_eq (tgt := 226) hx hb dX10_rest_219 (by decide) (fun c_179 => absurd c_179 (by decide)) (fun _ => ?_)
        refine lv_iconst (v := 1) hx hb dX10_rest_222 (by decide) ?_
        refine lv_goto (tgt := 227) hx hb dX10_rest_223 (by decide) ?_
        exact M_z hx hb hr rfl hlocks (x22_148, x23_149, x24_150, x25_151, x36_152, y26_153, y27_154, y28_155, y29_156, y30_157, y31_158, y32_159, y33_160) hP hD hK hS ⟨Or.inr ⟨rfl, ⟨_, BU.i8 hev_176, hmq_177, h36_178⟩⟩, ⟨dp_172, hpr_174⟩⟩ (by first | exact Nat.le_of_ble_eq_true rfl | (simp only [rm_X10_rest]; omega)) (by first | exact Nat.le_of_ble_eq_true rfl | (simp only [rm_X10_rest]; omega)) dX10_rest_227
  by_cases c_180 : z_1 = 8
  · refine lv_tableIn (tgt := 228) hx hb dX10_rest_6 (by rw [c_180]; decide) (by rw [c_180]; decide) (by rw [c_180]; rfl) (by decide) ?_
    obtain rfl : cw = 9 := (cw_is hcw.1 ez_1 c_180).trans (by decide)
    refine lv_aload_n hx hb dX10_rest_228 rfl (lv_at hl 0 rfl) ?_
    refine lv_iload_n hx hb dX10_rest_229 rfl (lv_at hl 1 rfl) ?_
    refine lv_iconst (v := 0) hx hb dX10_rest_230 (by decide) ?_
    refine lv_sipush (v := 200) hx hb dX10_rest_231 (by decide) ?_
    refine M_V ⟨hx, hb, hml, hown, hts⟩ (m_X10_single l dC dI sa g h0 b ln sq i a kk (0 : Int32) (200 : Int32) _ hL hM hk) (cwV 3 hts gX10_rest_X10_single rfl rfl rfl (by decide +kernel) ⟨(by first | exact Nat.le_of_ble_eq_true rfl | (simp only [rm_X10_single, rm_X10_rest]; omega)), (by first | exact Nat.le_of_ble_eq_true rfl | (simp only [rm_X10_single, rm_X10_rest]; omega))⟩) hP hD hK hS hA hev rfl rfl rfl rfl hl.1 rfl (Nat.le_of_ble_eq_true rfl) dX10_rest_234 ⟨(by first | exact Nat.le_of_ble_eq_true rfl | (simp only [rm_X10_rest]; omega)), (by first | exact Nat.le_of_ble_eq_true rfl | (simp only [rm_X10_rest]; omega))⟩ (fun r u H locs hw hP hD hS => ?_)
    obtain ⟨x22_181, x23_182, x24_183, x25_184, y27_185⟩ := u
    have hw : ((r = some (.int 0) ∧ (MO (gnu (Kp (a 19) ln) (Vp (a 19) ln) (nq (a 19) ln) (0 : Int32) (200 : Int32) sq) x23_182 x24_183 ∧ y27_185 = (a 27))) ∨ (r = some (.int 1) ∧ (MI (a 19) ln (gnu (Kp (a 19) ln) (Vp (a 19) ln) (nq (a 19) ln) (0 : Int32) (200 : Int32) sq) x22_181 x23_182 x24_183 ∧ (0 : Int32).toInt ≤ (Vp (a 19) ln sq.1).toInt ∧ (Vp (a 19) ln sq.1).toInt ≤ (200 : Int32).toInt ∧ y27_185 = upd (a 27) kk.toNatClampNeg (Vp (a 19) ln sq.1)))) ∧ (True) := hw
    obtain ⟨⟨rfl, hz2_187⟩ | ⟨rfl, hz2_187⟩, hw_186⟩ := hw
    · have hP : va_P (dC, dI) vwCl (mw g h0 b (va_up (va_up (va_up (va_up i 22 x22_181) 23 x23_182) 24 x24_183) 25 x25_184) (va_up a 27 y27_185)) _ := hP
      have hD : va_D _ (mw g h0 b (va_up (va_up (va_up (va_up i 22 x22_181) 23 x23_182) 24 x24_183) 25 x25_184) (va_up a 27 y27_185)) := hD
      refine W.eq (g2 := F0 m 237 ls [.int 0]) rfl ?_
      have hp_188 := PN.set hPN hq hVq (show y27_185 = (a 27) ∨ ∃ v : Int32, ((0 : Int32) : Int32).toInt ≤ v.toInt ∧ v.toInt ≤ ((200 : Int32) : Int32).toInt ∧ y27_185 = upd (a 27) kk.toNatClampNeg v from Or.inl hz2_187.2) (fun h9 => absurd h9 (by rw [← hkq, ← ez_1, c_180]; decide))
      have hpr_189 := PR.tr (PR.rf hPN) hp_188
      refine lv_if_eq (tgt := 253) hx hb dX10_rest_237 (by decide) (fun _ => ?_) (fun c_190 => absurd c_190 (by decide))
      refine lv_iconst (v := 0) hx hb dX10_rest_253 (by decide) ?_
      exact M_z hx hb hr rfl hlocks (x22_181, x23_182, x24_183, x25_184, (i 36), (a 26), y27_185, (a 28), (a 29), (a 30), (a 31), (a 32), (a 33)) hP hD hK hS ⟨Or.inl ⟨rfl, ⟨_, BU.i9 (Ev.fx2 (hz2_187.1).2.2.1), hz2_187.1⟩⟩, ⟨dp, hpr_189⟩⟩ (by first | exact Nat.le_of_ble_eq_true rfl | (simp only [rm_X10_rest]; omega)) (by first | exact Nat.le_of_ble_eq_true rfl | (simp only [rm_X10_rest]; omega)) dX10_rest_254
    · have hP : va_P (dC, dI) vwCl (mw g h0 b (va_up (va_up (va_up (va_up i 22 x22_181) 23 x23_182) 24 x24_183) 25 x25_184) (va_up a 27 y27_185)) _ := hP
      have hD : va_D _ (mw g h0 b (va_up (va_up (va_up (va_up i 22 x22_181) 23 x23_182) 24 x24_183) 25 x25_184) (va_up a 27 y27_185)) := hD
      refine W.eq (g2 := F0 m 237 ls [.int 1]) rfl ?_
      have hp_191 := PN.set hPN hq hVq (show y27_185 = (a 27) ∨ ∃ v : Int32, ((0 : Int32) : Int32).toInt ≤ v.toInt ∧ v.toInt ≤ ((200 : Int32) : Int32).toInt ∧ y27_185 = upd (a 27) kk.toNatClampNeg v from Or.inr ⟨_, hz2_187.2.1, hz2_187.2.2.1, hz2_187.2.2.2⟩) (fun h9 => absurd h9 (by rw [← hkq, ← ez_1, c_180]; decide))
      have hpr_192 := PR.tr (PR.rf hPN) hp_191
      have hmq_193 : MI (a 19) ln (gnu (Kp (a 19) ln) (Vp (a 19) ln) (nq (a 19) ln) (0 : Int32) (200 : Int32) sq) x22_181 x23_182 x24_183 := hz2_187.1
      refine lv_if_eq (tgt := 253) hx hb dX10_rest_237 (by decide) (fun c_194 => absurd c_194 (by decide)) (fun _ => ?_)
      refine lv_aload_n hx hb dX10_rest_240 rfl (lv_at hl 0 rfl) ?_
      refine lv_iload_n hx hb dX10_rest_241 rfl (lv_at hl 1 rfl) ?_
      refine lv_iconst (v := 0) hx hb dX10_rest_242 (by decide) ?_
      refine M_V ⟨hx, hb, hml, hown, hts⟩ (m_X10_block l dC dI sa g h0 b j bl dp ln (gnu (Kp (a 19) ln) (Vp (a 19) ln) (nq (a 19) ln) (0 : Int32) (200 : Int32) sq) (va_up (va_up (va_up (va_up i 22 x22_181) 23 x23_182) 24 x24_183) 25 x25_184) (va_up a 27 y27_185) kk (0 : Int32) _ hL hmq_193 (by first | exact hn36 | (simp only [gpa_nd, gnu_nd, gpl_nd, gte_nd, gob_nd, grf_nd]; exact hn36)) hp_191.2.1 hBL hj (by first | exact hn3 | (simp only [gpa_nd, gnu_nd, gpl_nd, gte_nd, gob_nd, grf_nd]; exact hn3)) (let h9 := PR.nd hpr_192 hVq hdq; ⟨q, hq, h9.1, h9.2⟩) IHS) (cwV 2 hts gX10_rest_X10_block rfl rfl rfl (by decide +kernel) ⟨(by first | exact Nat.le_of_ble_eq_true rfl | (simp only [rm_X10_block, rm_X10_rest]; omega)), (by first | exact Nat.le_of_ble_eq_true rfl | (simp only [rm_X10_block, rm_X10_rest]; omega))⟩) hP hD hK hS hA hev rfl rfl rfl rfl hl.1 rfl (Nat.le_of_ble_eq_true rfl) dX10_rest_243 ⟨(by first | exact Nat.le_of_ble_eq_true rfl | (simp only [rm_X10_rest]; omega)), (by first | exact Nat.le_of_ble_eq_true rfl | (simp only [rm_X10_rest]; omega))⟩ (fun r u H locs hw hP hD hS => ?_)
      obtain ⟨x22_195, x23_196, x24_197, x25_198, x36_199, y26_200, y27_201, y28_202, y29_203, y30_204, y31_205, y32_206, y33_207⟩ := u
      have hw : ((r = some (.int 0) ∧ (∃ rn : SG, Ev (Kp (a 19) ln) (Vp (a 19) ln) (nq (a 19) ln) 2 bl (gnu (Kp (a 19) ln) (Vp (a 19) ln) (nq (a 19) ln) (0 : Int32) (200 : Int32) sq) rn ∧ MO rn x23_196 x24_197)) ∨ (r = some (.int 1) ∧ (∃ rn : SG, Ev (Kp (a 19) ln) (Vp (a 19) ln) (nq (a 19) ln) 2 bl (gnu (Kp (a 19) ln) (Vp (a 19) ln) (nq (a 19) ln) (0 : Int32) (200 : Int32) sq) rn ∧ MI (a 19) ln rn x22_195 x23_196 x24_197 ∧ x36_199 = nI rn.2.1))) ∧ (∃ dpN : Nat → Nat, PR (i 36) x36_199 dp dpN (a 26) y27_185 (a 31) (a 32) (a 33) y26_200 y27_201 y31_205 y32_206 y33_207) := hw
      obtain ⟨⟨rfl, hz2_209⟩ | ⟨rfl, hz2_209⟩, hw_208⟩ := hw
      · have hP : va_P (dC, dI) vwCl (mw g h0 b (va_up (va_up (va_up (va_up (va_up i 22 x22_195) 23 x23_196) 24 x24_197) 25 x25_198) 36 x36_199) (va_up (va_up (va_up (va_up (va_up (va_up (va_up (va_up a 26 y26_200) 27 y27_201) 28 y28_202) 29 y29_203) 30 y30_204) 31 y31_205) 32 y32_206) 33 y33_207)) _ := hP
        have hD : va_D _ (mw g h0 b (va_up (va_up (va_up (va_up (va_up i 22 x22_195) 23 x23_196) 24 x24_197) 25 x25_198) 36 x36_199) (va_up (va_up (va_up (va_up (va_up (va_up (va_up (va_up a 26 y26_200) 27 y27_201) 28 y28_202) 29 y29_203) 30 y30_204) 31 y31_205) 32 y32_206) 33 y33_207)) := hD
        refine W.eq (g2 := F0 m 246 ls [.int 0]) rfl ?_
        obtain ⟨dp_211, hPR_210⟩ := hw_208
        have hpr_213 := PR.tr hpr_192 hPR_210
        obtain ⟨rn_214, hev_215, hmo_216⟩ := hz2_209
        refine lv_if_eq (tgt := 253) hx hb dX10_rest_246 (by decide) (fun _ => ?_) (fun c_217 => absurd c_217 (by decide))
        refine lv_iconst (v := 0) hx hb dX10_rest_253 (by decide) ?_
        exact M_z hx hb hr rfl hlocks (x22_195, x23_196, x24_197, x25_198, x36_199, y26_200, y27_201, y28_202, y29_203, y30_204, y31_205, y32_206, y33_207) hP hD hK hS ⟨Or.inl ⟨rfl, ⟨_, BU.i9 hev_215, hmo_216⟩⟩, ⟨dp_211, hpr_213⟩⟩ (by first | exact Nat.le_of_ble_eq_true rfl | (simp only [rm_X10_rest]; omega)) (by first | exact Nat.le_of_ble_eq_true rfl | (simp only [rm_X10_rest]; omega)) dX10_rest_254
      · have hP : va_P (dC, dI) vwCl (mw g h0 b (va_up (va_up (va_up (va_up (va_up i 22 x22_195) 23 x23_196) 24 x24_197) 25 x25_198) 36 x36_199) (va_up (va_up (va_up (va_up (va_up (va_up (va_up (va_up a 26 y26_200) 27 y27_201) 28 y28_202) 29 y29_203) 30 y30_204) 31 y31_205) 32 y32_206) 33 y33_207)) _ := hP
        have hD : va_D _ (mw g h0 b (va_up (va_up (va_up (va_up (va_up i 22 x22_195) 23 x23_196) 24 x24_197) 25 x25_198) 36 x36_199) (va_up (va_up (va_up (va_up (va_up (va_up (va_up (va_up a 26 y26_200) 27 y27_201) 28 y28_202) 29 y29_203) 30 y30_204) 31 y31_205) 32 y32_206) 33 y33_207)) := hD
        refine W.eq (g2 := F0 m 246 ls [.int 1]) rfl ?_
        obtain ⟨dp_219, hPR_218⟩ := hw_208
        have hpr_221 := PR.tr hpr_192 hPR_218
        obtain ⟨rn_222, hev_223, hmq_224, h36_225⟩ := hz2_209
        have h3_rn_222 : rn_222.2.1 ≤ 300 := hev_223.nd.2.2 (by first | exact hn3 | (simp only [gpa_nd, gnu_nd, gpl_nd, gte_nd, gob_nd, grf_nd]; exact hn3))
        refine lv_if_eq (tgt := 253) hx hb dX10_rest_246 (by decide) (fun c_226 => absurd c_226 (by decide)) (fun _ => ?_)
        refine lv_iconst (v := 1) hx hb dX10_rest_249 (by decide) ?_
        refine lv_goto (tgt := 254) hx hb dX10_rest_250 (by decide) ?_
        exact M_z hx hb hr rfl hlocks (x22_195, x23_196, x24_197, x25_198, x36_199, y26_200, y27_201, y28_202, y29_203, y30_204, y31_205, y32_206, y33_207) hP hD hK hS ⟨Or.inr ⟨rfl, ⟨_, BU.i9 hev_223, hmq_224, h36_225⟩⟩, ⟨dp_219, hpr_221⟩⟩ (by first | exact Nat.le_of_ble_eq_true rfl | (simp only [rm_X10_rest]; omega)) (by first | exact Nat.le_of_ble_eq_true rfl | (simp only [rm_X10_rest]; omega)) dX10_rest_254
  by_cases c_227 : z_1 = 9
  · refine lv_tableIn (tgt := 255) hx hb dX10_rest_6 (by rw [c_227]; decide) (by rw [c_227]; decide) (by rw [c_227]; rfl) (by decide) ?_
    obtain rfl : cw = 10 := (cw_is hcw.1 ez_1 c_227).trans (by decide)
    refine lv_aload_n hx hb dX10_rest_255 rfl (lv_at hl 0 rfl) ?_
    refine lv_iload_n hx hb dX10_rest_256 rfl (lv_at hl 1 rfl) ?_
    refine M_V ⟨hx, hb, hml, hown, hts⟩ (m_X10_test l dC dI sa g h0 b ln sq i a kk _ hL hM hk) (cwV 1 hts gX10_rest_X10_test rfl rfl rfl (by decide +kernel) ⟨(by first | exact Nat.le_of_ble_eq_true rfl | (simp only [rm_X10_test, rm_X10_rest]; omega)), (by first | exact Nat.le_of_ble_eq_true rfl | (simp only [rm_X10_test, rm_X10_rest]; omega))⟩) hP hD hK hS hA hev rfl rfl rfl rfl hl.1 rfl (Nat.le_of_ble_eq_true rfl) dX10_rest_257 ⟨(by first | exact Nat.le_of_ble_eq_true rfl | (simp only [rm_X10_rest]; omega)), (by first | exact Nat.le_of_ble_eq_true rfl | (simp only [rm_X10_rest]; omega))⟩ (fun r u H locs hw hP hD hS => ?_)
    obtain ⟨x22_228, x23_229, x24_230, x25_231, y27_232, y28_233, y29_234, y30_235⟩ := u
    have hw : ((r = some (.int 0) ∧ (MO (gte (Kp (a 19) ln) (Vp (a 19) ln) (nq (a 19) ln) sq) x23_229 x24_230)) ∨ (r = some (.int 1) ∧ (MI (a 19) ln (gte (Kp (a 19) ln) (Vp (a 19) ln) (nq (a 19) ln) sq) x22_228 x23_229 x24_230))) ∧ (y27_232 = (a 27) ∨ ∃ v : Int32, (0 : Int32).toInt ≤ v.toInt ∧ v.toInt ≤ (5 : Int32).toInt ∧ y27_232 = upd (a 27) kk.toNatClampNeg v) := hw
    obtain ⟨⟨rfl, hz2_237⟩ | ⟨rfl, hz2_237⟩, hw_236⟩ := hw
    · have hP : va_P (dC, dI) vwCl (mw g h0 b (va_up (va_up (va_up (va_up i 22 x22_228) 23 x23_229) 24 x24_230) 25 x25_231) (va_up (va_up (va_up (va_up a 27 y27_232) 28 y28_233) 29 y29_234) 30 y30_235)) _ := hP
      have hD : va_D _ (mw g h0 b (va_up (va_up (va_up (va_up i 22 x22_228) 23 x23_229) 24 x24_230) 25 x25_231) (va_up (va_up (va_up (va_up a 27 y27_232) 28 y28_233) 29 y29_234) 30 y30_235)) := hD
      refine W.eq (g2 := F0 m 260 ls [.int 0]) rfl ?_
      have hp_238 := PN.set hPN hq hVq (show y27_232 = (a 27) ∨ ∃ v : Int32, (0 : Int32).toInt ≤ v.toInt ∧ v.toInt ≤ (5 : Int32).toInt ∧ y27_232 = upd (a 27) kk.toNatClampNeg v from hw_236) (fun _ => by decide)
      have hpr_239 := PR.tr (PR.rf hPN) hp_238
      refine lv_if_eq (tgt := 272) hx hb dX10_rest_260 (by decide) (fun _ => ?_) (fun c_240 => absurd c_240 (by decide))
      refine lv_iconst (v := 0) hx hb dX10_rest_272 (by decide) ?_
      exact M_z hx hb hr rfl hlocks (x22_228, x23_229, x24_230, x25_231, (i 36), (a 26), y27_232, y28_233, y29_234, y30_235, (a 31), (a 32), (a 33)) hP hD hK hS ⟨Or.inl ⟨rfl, ⟨_, BU.i10x (Ev.fx2 (hz2_237).2.2.1) (hz2_237).2.2.1, hz2_237⟩⟩, ⟨dp, hpr_239⟩⟩ (by first | exact Nat.le_of_ble_eq_true rfl | (simp only [rm_X10_rest]; omega)) (by first | exact Nat.le_of_ble_eq_true rfl | (simp only [rm_X10_rest]; omega)) dX10_rest_273
    · have hP : va_P (dC, dI) vwCl (mw g h0 b (va_up (va_up (va_up (va_up i 22 x22_228) 23 x23_229) 24 x24_230) 25 x25_231) (va_up (va_up (va_up (va_up a 27 y27_232) 28 y28_233) 29 y29_234) 30 y30_235)) _ := hP
      have hD : va_D _ (mw g h0 b (va_up (va_up (va_up (va_up i 22 x22_228) 23 x23_229) 24 x24_230) 25 x25_231) (va_up (va_up (va_up (va_up a 27 y27_232) 28 y28_233) 29 y29_234) 30 y30_235)) := hD
      refine W.eq (g2 := F0 m 260 ls [.int 1]) rfl ?_
      have hp_241 := PN.set hPN hq hVq (show y27_232 = (a 27) ∨ ∃ v : Int32, (0 : Int32).toInt ≤ v.toInt ∧ v.toInt ≤ (5 : Int32).toInt ∧ y27_232 = upd (a 27) kk.toNatClampNeg v from hw_236) (fun _ => by decide)
      have hpr_242 := PR.tr (PR.rf hPN) hp_241
      have hmq_243 : MI (a 19) ln (gte (Kp (a 19) ln) (Vp (a 19) ln) (nq (a 19) ln) sq) x22_228 x23_229 x24_230 := hz2_237
      refine lv_if_eq (tgt := 272) hx hb dX10_rest_260 (by decide) (fun c_244 => absurd c_244 (by decide)) (fun _ => ?_)
      refine lv_aload_n hx hb dX10_rest_263 rfl (lv_at hl 0 rfl) ?_
      refine lv_iload_n hx hb dX10_rest_264 rfl (lv_at hl 1 rfl) ?_
      refine lv_iconst (v := 0) hx hb dX10_rest_265 (by decide) ?_
      refine M_V ⟨hx, hb, hml, hown, hts⟩ (m_X10_block l dC dI sa g h0 b j bl dp ln (gte (Kp (a 19) ln) (Vp (a 19) ln) (nq (a 19) ln) sq) (va_up (va_up (va_up (va_up i 22 x22_228) 23 x23_229) 24 x24_230) 25 x25_231) (va_up (va_up (va_up (va_up a 27 y27_232) 28 y28_233) 29 y29_234) 30 y30_235) kk (0 : Int32) _ hL hmq_243 (by first | exact hn36 | (simp only [gpa_nd, gnu_nd, gpl_nd, gte_nd, gob_nd, grf_nd]; exact hn36)) hp_241.2.1 hBL hj (by first | exact hn3 | (simp only [gpa_nd, gnu_nd, gpl_nd, gte_nd, gob_nd, grf_nd]; exact hn3)) (let h9 := PR.nd hpr_242 hVq hdq; ⟨q, hq, h9.1, h9.2⟩) IHS) (cwV 2 hts gX10_rest_X10_block rfl rfl rfl (by decide +kernel) ⟨(by first | exact Nat.le_of_ble_eq_true rfl | (simp only [rm_X10_block, rm_X10_rest]; omega)), (by first | exact Nat.le_of_ble_eq_true rfl | (simp only [rm_X10_block, rm_X10_rest]; omega))⟩) hP hD hK hS hA hev rfl rfl rfl rfl hl.1 rfl (Nat.le_of_ble_eq_true rfl) dX10_rest_266 ⟨(by first | exact Nat.le_of_ble_eq_true rfl | (simp only [rm_X10_rest]; omega)), (by first | exact Nat.le_of_ble_eq_true rfl | (simp only [rm_X10_rest]; omega))⟩ (fun r u H locs hw hP hD hS => ?_)
      obtain ⟨x22_245, x23_246, x24_247, x25_248, x36_249, y26_250, y27_251, y28_252, y29_253, y30_254, y31_255, y32_256, y33_257⟩ := u
      have hw : ((r = some (.int 0) ∧ (∃ rn : SG, Ev (Kp (a 19) ln) (Vp (a 19) ln) (nq (a 19) ln) 2 bl (gte (Kp (a 19) ln) (Vp (a 19) ln) (nq (a 19) ln) sq) rn ∧ MO rn x23_246 x24_247)) ∨ (r = some (.int 1) ∧ (∃ rn : SG, Ev (Kp (a 19) ln) (Vp (a 19) ln) (nq (a 19) ln) 2 bl (gte (Kp (a 19) ln) (Vp (a 19) ln) (nq (a 19) ln) sq) rn ∧ MI (a 19) ln rn x22_245 x23_246 x24_247 ∧ x36_249 = nI rn.2.1))) ∧ (∃ dpN : Nat → Nat, PR (i 36) x36_249 dp dpN (a 26) y27_232 (a 31) (a 32) (a 33) y26_250 y27_251 y31_255 y32_256 y33_257) := hw
      obtain ⟨⟨rfl, hz2_259⟩ | ⟨rfl, hz2_259⟩, hw_258⟩ := hw
      · have hP : va_P (dC, dI) vwCl (mw g h0 b (va_up (va_up (va_up (va_up (va_up i 22 x22_245) 23 x23_246) 24 x24_247) 25 x25_248) 36 x36_249) (va_up (va_up (va_up (va_up (va_up (va_up (va_up (va_up a 26 y26_250) 27 y27_251) 28 y28_252) 29 y29_253) 30 y30_254) 31 y31_255) 32 y32_256) 33 y33_257)) _ := hP
        have hD : va_D _ (mw g h0 b (va_up (va_up (va_up (va_up (va_up i 22 x22_245) 23 x23_246) 24 x24_247) 25 x25_248) 36 x36_249) (va_up (va_up (va_up (va_up (va_up (va_up (va_up (va_up a 26 y26_250) 27 y27_251) 28 y28_252) 29 y29_253) 30 y30_254) 31 y31_255) 32 y32_256) 33 y33_257)) := hD
        refine W.eq (g2 := F0 m 269 ls [.int 0]) rfl ?_
        obtain ⟨dp_261, hPR_260⟩ := hw_258
        have hpr_263 := PR.tr hpr_242 hPR_260
        obtain ⟨rn_264, hev_265, hmo_266⟩ := hz2_259
        refine lv_if_ne (tgt := 274) hx hb dX10_rest_269 (by decide) (fun c_267 => absurd c_267 (by decide)) (fun _ => ?_)
        refine lv_iconst (v := 0) hx hb dX10_rest_272 (by decide) ?_
        exact M_z hx hb hr rfl hlocks (x22_245, x23_246, x24_247, x25_248, x36_249, y26_250, y27_251, y28_252, y29_253, y30_254, y31_255, y32_256, y33_257) hP hD hK hS ⟨Or.inl ⟨rfl, ⟨_, BU.i10x hev_265 (hmo_266).2.2.1, hmo_266⟩⟩, ⟨dp_261, hpr_263⟩⟩ (by first | exact Nat.le_of_ble_eq_true rfl | (simp only [rm_X10_rest]; omega)) (by first | exact Nat.le_of_ble_eq_true rfl | (simp only [rm_X10_rest]; omega)) dX10_rest_273
      · have hP : va_P (dC, dI) vwCl (mw g h0 b (va_up (va_up (va_up (va_up (va_up i 22 x22_245) 23 x23_246) 24 x24_247) 25 x25_248) 36 x36_249) (va_up (va_up (va_up (va_up (va_up (va_up (va_up (va_up a 26 y26_250) 27 y27_251) 28 y28_252) 29 y29_253) 30 y30_254) 31 y31_255) 32 y32_256) 33 y33_257)) _ := hP
        have hD : va_D _ (mw g h0 b (va_up (va_up (va_up (va_up (va_up i 22 x22_245) 23 x23_246) 24 x24_247) 25 x25_248) 36 x36_249) (va_up (va_up (va_up (va_up (va_up (va_up (va_up (va_up a 26 y26_250) 27 y27_251) 28 y28_252) 29 y29_253) 30 y30_254) 31 y31_255) 32 y32_256) 33 y33_257)) := hD
        refine W.eq (g2 := F0 m 269 ls [.int 1]) rfl ?_
        obtain ⟨dp_269, hPR_268⟩ := hw_258
        have hpr_271 := PR.tr hpr_242 hPR_268
        obtain ⟨rn_272, hev_273, hmq_274, h36_275⟩ := hz2_259
        have h3_rn_272 : rn_272.2.1 ≤ 300 := hev_273.nd.2.2 (by first | exact hn3 | (simp only [gpa_nd, gnu_nd, gpl_nd, gte_nd, gob_nd, grf_nd]; exact hn3))
        refine lv_if_ne (tgt := 274) hx hb dX10_rest_269 (by decide) (fun _ => ?_) (fun c_276 => absurd c_276 (by decide))
        refine lv_aload_n hx hb dX10_rest_274 rfl (lv_at hl 0 rfl) ?_
        refine M_V ⟨hx, hb, hml, hown, hts⟩ (m_X10_word l dC dI sa g h0 b ln rn_272 (va_up (va_up (va_up (va_up (va_up i 22 x22_245) 23 x23_246) 24 x24_247) 25 x25_248) 36 x36_249) (va_up (va_up (va_up (va_up (va_up (va_up (va_up (va_up a 26 y26_250) 27 y27_251) 28 y28_252) 29 y29_253) 30 y30_254) 31 y31_255) 32 y32_256) 33 y33_257)  _ hL hmq_274) (cwV 0 hts gX10_rest_X10_word rfl rfl rfl (by decide +kernel) ⟨(by first | exact Nat.le_of_ble_eq_true rfl | (simp only [rm_X10_word, rm_X10_rest]; omega)), (by first | exact Nat.le_of_ble_eq_true rfl | (simp only [rm_X10_word, rm_X10_rest]; omega))⟩) hP hD hK hS hA hev rfl rfl rfl rfl hl.1 rfl (Nat.le_of_ble_eq_true rfl) dX10_rest_275 ⟨(by first | exact Nat.le_of_ble_eq_true rfl | (simp only [rm_X10_rest]; omega)), (by first | exact Nat.le_of_ble_eq_true rfl | (simp only [rm_X10_rest]; omega))⟩ (fun r u H locs hw hP hD hS => ?_)
        obtain ⟨x22_277, rfl⟩ : ∃ z, z = u := ⟨_, rfl⟩
        have hw : (∃ z : Int32, r = some (.int z) ∧ (z = cm (Kp (a 19) ln rn_272.1))) ∧ (x22_277 = nI rn_272.1) := hw
        obtain ⟨⟨z_279, rfl, hz_z_279⟩, hw_278⟩ := hw
        have hP : va_P (dC, dI) vwCl (mw g h0 b (va_up (va_up (va_up (va_up (va_up i 22 x22_277) 23 x23_246) 24 x24_247) 25 x25_248) 36 x36_249) (va_up (va_up (va_up (va_up (va_up (va_up (va_up (va_up a 26 y26_250) 27 y27_251) 28 y28_252) 29 y29_253) 30 y30_254) 31 y31_255) 32 y32_256) 33 y33_257)) _ := hP
        have hD : va_D _ (mw g h0 b (va_up (va_up (va_up (va_up (va_up i 22 x22_277) 23 x23_246) 24 x24_247) 25 x25_248) 36 x36_249) (va_up (va_up (va_up (va_up (va_up (va_up (va_up (va_up a 26 y26_250) 27 y27_251) 28 y28_252) 29 y29_253) 30 y30_254) 31 y31_255) 32 y32_256) 33 y33_257)) := hD
        refine W.eq (g2 := F0 m 278 ls [.int z_279]) rfl ?_
        have hmq_280 : MI (a 19) ln rn_272 x22_277 x23_246 x24_247 := (hmq_274).sk hw_278
        refine lv_bipush (v := 13) hx hb dX10_rest_278 (by decide) ?_
        refine lv_icmp_eq (tgt := 285) hx hb dX10_rest_280 (by decide) (fun c_281 => ?_) (fun c_281 => ?_)
        · have nc_281 := eq_i c_281
          have lc_281 : (13 : Int32).toInt = 13 := by decide
          refine lv_aload_n hx hb dX10_rest_285 rfl (lv_at hl 0 rfl) ?_
          refine lv_bipush (v := 13) hx hb dX10_rest_286 (by decide) ?_
          have hK13 : Kp (a 19) ln rn_272.1 = 13 := cm_13.mp (hz_z_279.symm.trans c_281)
          have hw13 : (13 : Int32) = nI 13 ∧ 13 ≤ 18 ∧ cm (Kp (a 19) ln rn_272.1) = nI 13 := ⟨rfl, by decide, by rw [hK13]; decide⟩
          refine M_V ⟨hx, hb, hml, hown, hts⟩ (m_X10_pass l dC dI sa g h0 b ln rn_272 13 (va_up (va_up (va_up (va_up (va_up i 22 x22_277) 23 x23_246) 24 x24_247) 25 x25_248) 36 x36_249) (va_up (va_up (va_up (va_up (va_up (va_up (va_up (va_up a 26 y26_250) 27 y27_251) 28 y28_252) 29 y29_253) 30 y30_254) 31 y31_255) 32 y32_256) 33 y33_257) (13 : Int32) _ hw_278 hw13) (cwV 1 hts gX10_rest_X10_pass rfl rfl rfl (by decide +kernel) ⟨(by first | exact Nat.le_of_ble_eq_true rfl | (simp only [rm_X10_pass, rm_X10_rest]; omega)), (by first | exact Nat.le_of_ble_eq_true rfl | (simp only [rm_X10_pass, rm_X10_rest]; omega))⟩) hP hD hK hS hA hev rfl rfl rfl rfl hl.1 rfl (Nat.le_of_ble_eq_true rfl) dX10_rest_288 ⟨(by first | exact Nat.le_of_ble_eq_true rfl | (simp only [rm_X10_rest]; omega)), (by first | exact Nat.le_of_ble_eq_true rfl | (simp only [rm_X10_rest]; omega))⟩ (fun r u H locs hw hP hD hS => ?_)
          obtain ⟨x22_282, rfl⟩ : ∃ z, z = u := ⟨_, rfl⟩
          have hw : (r = none) ∧ (x22_282 = nI (nx (a 19) ln rn_272.1)) := hw
          obtain ⟨rfl, hw_283⟩ := hw
          have hP : va_P (dC, dI) vwCl (mw g h0 b (va_up (va_up (va_up (va_up (va_up i 22 x22_282) 23 x23_246) 24 x24_247) 25 x25_248) 36 x36_249) (va_up (va_up (va_up (va_up (va_up (va_up (va_up (va_up a 26 y26_250) 27 y27_251) 28 y28_252) 29 y29_253) 30 y30_254) 31 y31_255) 32 y32_256) 33 y33_257)) _ := hP
          have hD : va_D _ (mw g h0 b (va_up (va_up (va_up (va_up (va_up i 22 x22_282) 23 x23_246) 24 x24_247) 25 x25_248) 36 x36_249) (va_up (va_up (va_up (va_up (va_up (va_up (va_up (va_up a 26 y26_250) 27 y27_251) 28 y28_252) 29 y29_253) 30 y30_254) 31 y31_255) 32 y32_256) 33 y33_257)) := hD
          refine W.eq (g2 := F0 m 291 ls []) rfl ?_
          have hmq_284 : MI (a 19) ln (gpa (Kp (a 19) ln) (nq (a 19) ln) 13 rn_272) x22_282 x23_246 x24_247 := (hmq_280).pass hK13 (wd_at hw13.2.1 hw13.2.2).1 hw_283
          refine lv_aload_n hx hb dX10_rest_291 rfl (lv_at hl 0 rfl) ?_
          refine lv_iload_n hx hb dX10_rest_292 rfl (lv_at hl 1 rfl) ?_
          refine lv_iconst (v := 1) hx hb dX10_rest_293 (by decide) ?_
          refine M_V ⟨hx, hb, hml, hown, hts⟩ (m_X10_block l dC dI sa g h0 b j bl dp_269 ln (gpa (Kp (a 19) ln) (nq (a 19) ln) 13 rn_272) (va_up (va_up (va_up (va_up (va_up i 22 x22_282) 23 x23_246) 24 x24_247) 25 x25_248) 36 x36_249) (va_up (va_up (va_up (va_up (va_up (va_up (va_up (va_up a 26 y26_250) 27 y27_251) 28 y28_252) 29 y29_253) 30 y30_254) 31 y31_255) 32 y32_256) 33 y33_257) kk (1 : Int32) _ hL hmq_284 (by first | exact h36_275 | (simp only [gpa_nd, gnu_nd, gpl_nd, gte_nd, gob_nd, grf_nd]; exact h36_275)) hPR_268.2.1 hBL hj (by first | exact h3_rn_272 | (simp only [gpa_nd, gnu_nd, gpl_nd, gte_nd, gob_nd, grf_nd]; exact h3_rn_272)) (let h9 := PR.nd hpr_271 hVq hdq; ⟨q, hq, h9.1, h9.2⟩) IHS) (cwV 2 hts gX10_rest_X10_block rfl rfl rfl (by decide +kernel) ⟨(by first | exact Nat.le_of_ble_eq_true rfl | (simp only [rm_X10_block, rm_X10_rest]; omega)), (by first | exact Nat.le_of_ble_eq_true rfl | (simp only [rm_X10_block, rm_X10_rest]; omega))⟩) hP hD hK hS hA hev rfl rfl rfl rfl hl.1 rfl (Nat.le_of_ble_eq_true rfl) dX10_rest_294 ⟨(by first | exact Nat.le_of_ble_eq_true rfl | (simp only [rm_X10_rest]; omega)), (by first | exact Nat.le_of_ble_eq_true rfl | (simp only [rm_X10_rest]; omega))⟩ (fun r u H locs hw hP hD hS => ?_)
          obtain ⟨x22_285, x23_286, x24_287, x25_288, x36_289, y26_290, y27_291, y28_292, y29_293, y30_294, y31_295, y32_296, y33_297⟩ := u
          have hw : ((r = some (.int 0) ∧ (∃ rn : SG, Ev (Kp (a 19) ln) (Vp (a 19) ln) (nq (a 19) ln) 2 bl (gpa (Kp (a 19) ln) (nq (a 19) ln) 13 rn_272) rn ∧ MO rn x23_286 x24_287)) ∨ (r = some (.int 1) ∧ (∃ rn : SG, Ev (Kp (a 19) ln) (Vp (a 19) ln) (nq (a 19) ln) 2 bl (gpa (Kp (a 19) ln) (nq (a 19) ln) 13 rn_272) rn ∧ MI (a 19) ln rn x22_285 x23_286 x24_287 ∧ x36_289 = nI rn.2.1))) ∧ (∃ dpN : Nat → Nat, PR x36_249 x36_289 dp_269 dpN y26_250 y27_251 y31_255 y32_256 y33_257 y26_290 y27_291 y31_295 y32_296 y33_297) := hw
          obtain ⟨⟨rfl, hz2_299⟩ | ⟨rfl, hz2_299⟩, hw_298⟩ := hw
          · have hP : va_P (dC, dI) vwCl (mw g h0 b (va_up (va_up (va_up (va_up (va_up i 22 x22_285) 23 x23_286) 24 x24_287) 25 x25_288) 36 x36_289) (va_up (va_up (va_up (va_up (va_up (va_up (va_up (va_up a 26 y26_290) 27 y27_291) 28 y28_292) 29 y29_293) 30 y30_294) 31 y31_295) 32 y32_296) 33 y33_297)) _ := hP
            have hD : va_D _ (mw g h0 b (va_up (va_up (va_up (va_up (va_up i 22 x22_285) 23 x23_286) 24 x24_287) 25 x25_288) 36 x36_289) (va_up (va_up (va_up (va_up (va_up (va_up (va_up (va_up a 26 y26_290) 27 y27_291) 28 y28_292) 29 y29_293) 30 y30_294) 31 y31_295) 32 y32_296) 33 y33_297)) := hD
            refine W.eq (g2 := F0 m 297 ls [.int 0]) rfl ?_
            obtain ⟨dp_301, hPR_300⟩ := hw_298
            have hpr_303 := PR.tr hpr_271 hPR_300
            obtain ⟨rn_304, hev_305, hmo_306⟩ := hz2_299
            exact M_z hx hb hr rfl hlocks (x22_285, x23_286, x24_287, x25_288, x36_289, y26_290, y27_291, y28_292, y29_293, y30_294, y31_295, y32_296, y33_297) hP hD hK hS ⟨Or.inl ⟨rfl, ⟨_, BU.i10 hev_273 (Or.inr ⟨hK13, hev_305⟩), hmo_306⟩⟩, ⟨dp_301, hpr_303⟩⟩ (by first | exact Nat.le_of_ble_eq_true rfl | (simp only [rm_X10_rest]; omega)) (by first | exact Nat.le_of_ble_eq_true rfl | (simp only [rm_X10_rest]; omega)) dX10_rest_297
          · have hP : va_P (dC, dI) vwCl (mw g h0 b (va_up (va_up (va_up (va_up (va_up i 22 x22_285) 23 x23_286) 24 x24_287) 25 x25_288) 36 x36_289) (va_up (va_up (va_up (va_up (va_up (va_up (va_up (va_up a 26 y26_290) 27 y27_291) 28 y28_292) 29 y29_293) 30 y30_294) 31 y31_295) 32 y32_296) 33 y33_297)) _ := hP
            have hD : va_D _ (mw g h0 b (va_up (va_up (va_up (va_up (va_up i 22 x22_285) 23 x23_286) 24 x24_287) 25 x25_288) 36 x36_289) (va_up (va_up (va_up (va_up (va_up (va_up (va_up (va_up a 26 y26_290) 27 y27_291) 28 y28_292) 29 y29_293) 30 y30_294) 31 y31_295) 32 y32_296) 33 y33_297)) := hD
            refine W.eq (g2 := F0 m 297 ls [.int 1]) rfl ?_
            obtain ⟨dp_308, hPR_307⟩ := hw_298
            have hpr_310 := PR.tr hpr_271 hPR_307
            obtain ⟨rn_311, hev_312, hmq_313, h36_314⟩ := hz2_299
            have h3_rn_311 : rn_311.2.1 ≤ 300 := hev_312.nd.2.2 (by first | exact h3_rn_272 | (simp only [gpa_nd, gnu_nd, gpl_nd, gte_nd, gob_nd, grf_nd]; exact h3_rn_272))
            exact M_z hx hb hr rfl hlocks (x22_285, x23_286, x24_287, x25_288, x36_289, y26_290, y27_291, y28_292, y29_293, y30_294, y31_295, y32_296, y33_297) hP hD hK hS ⟨Or.inr ⟨rfl, ⟨_, BU.i10 hev_273 (Or.inr ⟨hK13, hev_312⟩), hmq_313, h36_314⟩⟩, ⟨dp_308, hpr_310⟩⟩ (by first | exact Nat.le_of_ble_eq_true rfl | (simp only [rm_X10_rest]; omega)) (by first | exact Nat.le_of_ble_eq_true rfl | (simp only [rm_X10_rest]; omega)) dX10_rest_297
        · have nc_281 := ne_i c_281
          have lc_281 : (13 : Int32).toInt = 13 := by decide
          refine lv_iconst (v := 1) hx hb dX10_rest_283 (by decide) ?_
          exact M_z hx hb hr rfl hlocks (x22_277, x23_246, x24_247, x25_248, x36_249, y26_250, y27_251, y28_252, y29_253, y30_254, y31_255, y32_256, y33_257) hP hD hK hS ⟨Or.inr ⟨rfl, ⟨_, BU.i10 hev_273 (Or.inl ⟨fun h9 => c_281 (hz_z_279.trans (cm_13.mpr h9)), rfl⟩), hmq_280, h36_275⟩⟩, ⟨dp_269, hpr_271⟩⟩ (by first | exact Nat.le_of_ble_eq_true rfl | (simp only [rm_X10_rest]; omega)) (by first | exact Nat.le_of_ble_eq_true rfl | (simp only [rm_X10_rest]; omega)) dX10_rest_284
  by_cases c_315 : z_1 = 10
  · refine lv_tableIn (tgt := 298) hx hb dX10_rest_6 (by rw [c_315]; decide) (by rw [c_315]; decide) (by rw [c_315]; rfl) (by decide) ?_
    obtain rfl : cw = 11 := (cw_is hcw.1 ez_1 c_315).trans (by decide)
    refine lv_aload_n hx hb dX10_rest_298 rfl (lv_at hl 0 rfl) ?_
    refine lv_iload_n hx hb dX10_rest_299 rfl (lv_at hl 1 rfl) ?_
    refine lv_iconst (v := 0) hx hb dX10_rest_300 (by decide) ?_
    refine M_V ⟨hx, hb, hml, hown, hts⟩ (m_X10_block l dC dI sa g h0 b j bl dp ln sq i a kk (0 : Int32) _ hL hM (by first | exact hn36 | (simp only [gpa_nd, gnu_nd, gpl_nd, gte_nd, gob_nd, grf_nd]; exact hn36)) hPN hBL hj (by first | exact hn3 | (simp only [gpa_nd, gnu_nd, gpl_nd, gte_nd, gob_nd, grf_nd]; exact hn3)) (let h9 := PR.nd (PR.rf hPN) hVq hdq; ⟨q, hq, h9.1, h9.2⟩) IHS) (cwV 2 hts gX10_rest_X10_block rfl rfl rfl (by decide +kernel) ⟨(by first | exact Nat.le_of_ble_eq_true rfl | (simp only [rm_X10_block, rm_X10_rest]; omega)), (by first | exact Nat.le_of_ble_eq_true rfl | (simp only [rm_X10_block, rm_X10_rest]; omega))⟩) hP hD hK hS hA hev rfl rfl rfl rfl hl.1 rfl (Nat.le_of_ble_eq_true rfl) dX10_rest_301 ⟨(by first | exact Nat.le_of_ble_eq_true rfl | (simp only [rm_X10_rest]; omega)), (by first | exact Nat.le_of_ble_eq_true rfl | (simp only [rm_X10_rest]; omega))⟩ (fun r u H locs hw hP hD hS => ?_)
    obtain ⟨x22_316, x23_317, x24_318, x25_319, x36_320, y26_321, y27_322, y28_323, y29_324, y30_325, y31_326, y32_327, y33_328⟩ := u
    have hw : ((r = some (.int 0) ∧ (∃ rn : SG, Ev (Kp (a 19) ln) (Vp (a 19) ln) (nq (a 19) ln) 2 bl sq rn ∧ MO rn x23_317 x24_318)) ∨ (r = some (.int 1) ∧ (∃ rn : SG, Ev (Kp (a 19) ln) (Vp (a 19) ln) (nq (a 19) ln) 2 bl sq rn ∧ MI (a 19) ln rn x22_316 x23_317 x24_318 ∧ x36_320 = nI rn.2.1))) ∧ (∃ dpN : Nat → Nat, PR (i 36) x36_320 dp dpN (a 26) (a 27) (a 31) (a 32) (a 33) y26_321 y27_322 y31_326 y32_327 y33_328) := hw
    obtain ⟨⟨rfl, hz2_330⟩ | ⟨rfl, hz2_330⟩, hw_329⟩ := hw
    · have hP : va_P (dC, dI) vwCl (mw g h0 b (va_up (va_up (va_up (va_up (va_up i 22 x22_316) 23 x23_317) 24 x24_318) 25 x25_319) 36 x36_320) (va_up (va_up (va_up (va_up (va_up (va_up (va_up (va_up a 26 y26_321) 27 y27_322) 28 y28_323) 29 y29_324) 30 y30_325) 31 y31_326) 32 y32_327) 33 y33_328)) _ := hP
      have hD : va_D _ (mw g h0 b (va_up (va_up (va_up (va_up (va_up i 22 x22_316) 23 x23_317) 24 x24_318) 25 x25_319) 36 x36_320) (va_up (va_up (va_up (va_up (va_up (va_up (va_up (va_up a 26 y26_321) 27 y27_322) 28 y28_323) 29 y29_324) 30 y30_325) 31 y31_326) 32 y32_327) 33 y33_328)) := hD
      refine W.eq (g2 := F0 m 304 ls [.int 0]) rfl ?_
      obtain ⟨dp_332, hPR_331⟩ := hw_329
      have hpr_334 := PR.tr (PR.rf hPN) hPR_331
      obtain ⟨rn_335, hev_336, hmo_337⟩ := hz2_330
      refine lv_if_eq (tgt := 329) hx hb dX10_rest_304 (by decide) (fun _ => ?_) (fun c_338 => absurd c_338 (by decide))
      refine lv_iconst (v := 0) hx hb dX10_rest_329 (by decide) ?_
      exact M_z hx hb hr rfl hlocks (x22_316, x23_317, x24_318, x25_319, x36_320, y26_321, y27_322, y28_323, y29_324, y30_325, y31_326, y32_327, y33_328) hP hD hK hS ⟨Or.inl ⟨rfl, ⟨_, BU.i11x hev_336 (hmo_337).2.2.1, hmo_337⟩⟩, ⟨dp_332, hpr_334⟩⟩ (by first | exact Nat.le_of_ble_eq_true rfl | (simp only [rm_X10_rest]; omega)) (by first | exact Nat.le_of_ble_eq_true rfl | (simp only [rm_X10_rest]; omega)) dX10_rest_330
    · have hP : va_P (dC, dI) vwCl (mw g h0 b (va_up (va_up (va_up (va_up (va_up i 22 x22_316) 23 x23_317) 24 x24_318) 25 x25_319) 36 x36_320) (va_up (va_up (va_up (va_up (va_up (va_up (va_up (va_up a 26 y26_321) 27 y27_322) 28 y28_323) 29 y29_324) 30 y30_325) 31 y31_326) 32 y32_327) 33 y33_328)) _ := hP
      have hD : va_D _ (mw g h0 b (va_up (va_up (va_up (va_up (va_up i 22 x22_316) 23 x23_317) 24 x24_318) 25 x25_319) 36 x36_320) (va_up (va_up (va_up (va_up (va_up (va_up (va_up (va_up a 26 y26_321) 27 y27_322) 28 y28_323) 29 y29_324) 30 y30_325) 31 y31_326) 32 y32_327) 33 y33_328)) := hD
      refine W.eq (g2 := F0 m 304 ls [.int 1]) rfl ?_
      obtain ⟨dp_340, hPR_339⟩ := hw_329
      have hpr_342 := PR.tr (PR.rf hPN) hPR_339
      obtain ⟨rn_343, hev_344, hmq_345, h36_346⟩ := hz2_330
      have h3_rn_343 : rn_343.2.1 ≤ 300 := hev_344.nd.2.2 (by first | exact hn3 | (simp only [gpa_nd, gnu_nd, gpl_nd, gte_nd, gob_nd, grf_nd]; exact hn3))
      refine lv_if_eq (tgt := 329) hx hb dX10_rest_304 (by decide) (fun c_347 => absurd c_347 (by decide)) (fun _ => ?_)
      refine lv_aload_n hx hb dX10_rest_307 rfl (lv_at hl 0 rfl) ?_
      refine lv_bipush (v := 13) hx hb dX10_rest_308 (by decide) ?_
      refine M_V ⟨hx, hb, hml, hown, hts⟩ (m_X10_needWord l dC dI sa g h0 b ln rn_343 13 (va_up (va_up (va_up (va_up (va_up i 22 x22_316) 23 x23_317) 24 x24_318) 25 x25_319) 36 x36_320) (va_up (va_up (va_up (va_up (va_up (va_up (va_up (va_up a 26 y26_321) 27 y27_322) 28 y28_323) 29 y29_324) 30 y30_325) 31 y31_326) 32 y32_327) 33 y33_328) (13 : Int32) _ hL hmq_345 (Or.inl ⟨rfl, rfl⟩)) (cwV 1 hts gX10_rest_X10_needWord rfl rfl rfl (by decide +kernel) ⟨(by first | exact Nat.le_of_ble_eq_true rfl | (simp only [rm_X10_needWord, rm_X10_rest]; omega)), (by first | exact Nat.le_of_ble_eq_true rfl | (simp only [rm_X10_needWord, rm_X10_rest]; omega))⟩) hP hD hK hS hA hev rfl rfl rfl rfl hl.1 rfl (Nat.le_of_ble_eq_true rfl) dX10_rest_310 ⟨(by first | exact Nat.le_of_ble_eq_true rfl | (simp only [rm_X10_rest]; omega)), (by first | exact Nat.le_of_ble_eq_true rfl | (simp only [rm_X10_rest]; omega))⟩ (fun r u H locs hw hP hD hS => ?_)
      obtain ⟨x22_348, x23_349, x24_350⟩ := u
      have hw : ((r = some (.int 0) ∧ (MO (gpa (Kp (a 19) ln) (nq (a 19) ln) 13 rn_343) x23_349 x24_350)) ∨ (r = some (.int 1) ∧ (MI (a 19) ln (gpa (Kp (a 19) ln) (nq (a 19) ln) 13 rn_343) x22_348 x23_349 x24_350))) ∧ (True) := hw
      obtain ⟨⟨rfl, hz2_352⟩ | ⟨rfl, hz2_352⟩, hw_351⟩ := hw
      · have hP : va_P (dC, dI) vwCl (mw g h0 b (va_up (va_up (va_up (va_up (va_up i 22 x22_348) 23 x23_349) 24 x24_350) 25 x25_319) 36 x36_320) (va_up (va_up (va_up (va_up (va_up (va_up (va_up (va_up a 26 y26_321) 27 y27_322) 28 y28_323) 29 y29_324) 30 y30_325) 31 y31_326) 32 y32_327) 33 y33_328)) _ := hP
        have hD : va_D _ (mw g h0 b (va_up (va_up (va_up (va_up (va_up i 22 x22_348) 23 x23_349) 24 x24_350) 25 x25_319) 36 x36_320) (va_up (va_up (va_up (va_up (va_up (va_up (va_up (va_up a 26 y26_321) 27 y27_322) 28 y28_323) 29 y29_324) 30 y30_325) 31 y31_326) 32 y32_327) 33 y33_328)) := hD
        refine W.eq (g2 := F0 m 313 ls [.int 0]) rfl ?_
        refine lv_if_eq (tgt := 329) hx hb dX10_rest_313 (by decide) (fun _ => ?_) (fun c_353 => absurd c_353 (by decide))
        refine lv_iconst (v := 0) hx hb dX10_rest_329 (by decide) ?_
        exact M_z hx hb hr rfl hlocks (x22_348, x23_349, x24_350, x25_319, x36_320, y26_321, y27_322, y28_323, y29_324, y30_325, y31_326, y32_327, y33_328) hP hD hK hS ⟨Or.inl ⟨rfl, ⟨_, BU.i11 hev_344 (Ev.fx2 (hz2_352).2.2.1), hz2_352⟩⟩, ⟨dp_340, hpr_342⟩⟩ (by first | exact Nat.le_of_ble_eq_true rfl | (simp only [rm_X10_rest]; omega)) (by first | exact Nat.le_of_ble_eq_true rfl | (simp only [rm_X10_rest]; omega)) dX10_rest_330
      · have hP : va_P (dC, dI) vwCl (mw g h0 b (va_up (va_up (va_up (va_up (va_up i 22 x22_348) 23 x23_349) 24 x24_350) 25 x25_319) 36 x36_320) (va_up (va_up (va_up (va_up (va_up (va_up (va_up (va_up a 26 y26_321) 27 y27_322) 28 y28_323) 29 y29_324) 30 y30_325) 31 y31_326) 32 y32_327) 33 y33_328)) _ := hP
        have hD : va_D _ (mw g h0 b (va_up (va_up (va_up (va_up (va_up i 22 x22_348) 23 x23_349) 24 x24_350) 25 x25_319) 36 x36_320) (va_up (va_up (va_up (va_up (va_up (va_up (va_up (va_up a 26 y26_321) 27 y27_322) 28 y28_323) 29 y29_324) 30 y30_325) 31 y31_326) 32 y32_327) 33 y33_328)) := hD
        refine W.eq (g2 := F0 m 313 ls [.int 1]) rfl ?_
        have hmq_354 : MI (a 19) ln (gpa (Kp (a 19) ln) (nq (a 19) ln) 13 rn_343) x22_348 x23_349 x24_350 := hz2_352
        refine lv_if_eq (tgt := 329) hx hb dX10_rest_313 (by decide) (fun c_355 => absurd c_355 (by decide)) (fun _ => ?_)
        refine lv_aload_n hx hb dX10_rest_316 rfl (lv_at hl 0 rfl) ?_
        refine lv_iload_n hx hb dX10_rest_317 rfl (lv_at hl 1 rfl) ?_
        refine lv_iconst (v := 1) hx hb dX10_rest_318 (by decide) ?_
        refine M_V ⟨hx, hb, hml, hown, hts⟩ (m_X10_block l dC dI sa g h0 b j bl dp_340 ln (gpa (Kp (a 19) ln) (nq (a 19) ln) 13 rn_343) (va_up (va_up (va_up (va_up (va_up i 22 x22_348) 23 x23_349) 24 x24_350) 25 x25_319) 36 x36_320) (va_up (va_up (va_up (va_up (va_up (va_up (va_up (va_up a 26 y26_321) 27 y27_322) 28 y28_323) 29 y29_324) 30 y30_325) 31 y31_326) 32 y32_327) 33 y33_328) kk (1 : Int32) _ hL hmq_354 (by first | exact h36_346 | (simp only [gpa_nd, gnu_nd, gpl_nd, gte_nd, gob_nd, grf_nd]; exact h36_346)) hPR_339.2.1 hBL hj (by first | exact h3_rn_343 | (simp only [gpa_nd, gnu_nd, gpl_nd, gte_nd, gob_nd, grf_nd]; exact h3_rn_343)) (let h9 := PR.nd hpr_342 hVq hdq; ⟨q, hq, h9.1, h9.2⟩) IHS) (cwV 2 hts gX10_rest_X10_block rfl rfl rfl (by decide +kernel) ⟨(by first | exact Nat.le_of_ble_eq_true rfl | (simp only [rm_X10_block, rm_X10_rest]; omega)), (by first | exact Nat.le_of_ble_eq_true rfl | (simp only [rm_X10_block, rm_X10_rest]; omega))⟩) hP hD hK hS hA hev rfl rfl rfl rfl hl.1 rfl (Nat.le_of_ble_eq_true rfl) dX10_rest_319 ⟨(by first | exact Nat.le_of_ble_eq_true rfl | (simp only [rm_X10_rest]; omega)), (by first | exact Nat.le_of_ble_eq_true rfl | (simp only [rm_X10_rest]; omega))⟩ (fun r u H locs hw hP hD hS => ?_)
        obtain ⟨x22_356, x23_357, x24_358, x25_359, x36_360, y26_361, y27_362, y28_363, y29_364, y30_365, y31_366, y32_367, y33_368⟩ := u
        have hw : ((r = some (.int 0) ∧ (∃ rn : SG, Ev (Kp (a 19) ln) (Vp (a 19) ln) (nq (a 19) ln) 2 bl (gpa (Kp (a 19) ln) (nq (a 19) ln) 13 rn_343) rn ∧ MO rn x23_357 x24_358)) ∨ (r = some (.int 1) ∧ (∃ rn : SG, Ev (Kp (a 19) ln) (Vp (a 19) ln) (nq (a 19) ln) 2 bl (gpa (Kp (a 19) ln) (nq (a 19) ln) 13 rn_343) rn ∧ MI (a 19) ln rn x22_356 x23_357 x24_358 ∧ x36_360 = nI rn.2.1))) ∧ (∃ dpN : Nat → Nat, PR x36_320 x36_360 dp_340 dpN y26_321 y27_322 y31_326 y32_327 y33_328 y26_361 y27_362 y31_366 y32_367 y33_368) := hw
        obtain ⟨⟨rfl, hz2_370⟩ | ⟨rfl, hz2_370⟩, hw_369⟩ := hw
        · have hP : va_P (dC, dI) vwCl (mw g h0 b (va_up (va_up (va_up (va_up (va_up i 22 x22_356) 23 x23_357) 24 x24_358) 25 x25_359) 36 x36_360) (va_up (va_up (va_up (va_up (va_up (va_up (va_up (va_up a 26 y26_361) 27 y27_362) 28 y28_363) 29 y29_364) 30 y30_365) 31 y31_366) 32 y32_367) 33 y33_368)) _ := hP
          have hD : va_D _ (mw g h0 b (va_up (va_up (va_up (va_up (va_up i 22 x22_356) 23 x23_357) 24 x24_358) 25 x25_359) 36 x36_360) (va_up (va_up (va_up (va_up (va_up (va_up (va_up (va_up a 26 y26_361) 27 y27_362) 28 y28_363) 29 y29_364) 30 y30_365) 31 y31_366) 32 y32_367) 33 y33_368)) := hD
          refine W.eq (g2 := F0 m 322 ls [.int 0]) rfl ?_
          obtain ⟨dp_372, hPR_371⟩ := hw_369
          have hpr_374 := PR.tr hpr_342 hPR_371
          obtain ⟨rn_375, hev_376, hmo_377⟩ := hz2_370
          refine lv_if_eq (tgt := 329) hx hb dX10_rest_322 (by decide) (fun _ => ?_) (fun c_378 => absurd c_378 (by decide))
          refine lv_iconst (v := 0) hx hb dX10_rest_329 (by decide) ?_
          exact M_z hx hb hr rfl hlocks (x22_356, x23_357, x24_358, x25_359, x36_360, y26_361, y27_362, y28_363, y29_364, y30_365, y31_366, y32_367, y33_368) hP hD hK hS ⟨Or.inl ⟨rfl, ⟨_, BU.i11 hev_344 hev_376, hmo_377⟩⟩, ⟨dp_372, hpr_374⟩⟩ (by first | exact Nat.le_of_ble_eq_true rfl | (simp only [rm_X10_rest]; omega)) (by first | exact Nat.le_of_ble_eq_true rfl | (simp only [rm_X10_rest]; omega)) dX10_rest_330
        · have hP : va_P (dC, dI) vwCl (mw g h0 b (va_up (va_up (va_up (va_up (va_up i 22 x22_356) 23 x23_357) 24 x24_358) 25 x25_359) 36 x36_360) (va_up (va_up (va_up (va_up (va_up (va_up (va_up (va_up a 26 y26_361) 27 y27_362) 28 y28_363) 29 y29_364) 30 y30_365) 31 y31_366) 32 y32_367) 33 y33_368)) _ := hP
          have hD : va_D _ (mw g h0 b (va_up (va_up (va_up (va_up (va_up i 22 x22_356) 23 x23_357) 24 x24_358) 25 x25_359) 36 x36_360) (va_up (va_up (va_up (va_up (va_up (va_up (va_up (va_up a 26 y26_361) 27 y27_362) 28 y28_363) 29 y29_364) 30 y30_365) 31 y31_366) 32 y32_367) 33 y33_368)) := hD
          refine W.eq (g2 := F0 m 322 ls [.int 1]) rfl ?_
          obtain ⟨dp_380, hPR_379⟩ := hw_369
          have hpr_382 := PR.tr hpr_342 hPR_379
          obtain ⟨rn_383, hev_384, hmq_385, h36_386⟩ := hz2_370
          have h3_rn_383 : rn_383.2.1 ≤ 300 := hev_384.nd.2.2 (by first | exact h3_rn_343 | (simp only [gpa_nd, gnu_nd, gpl_nd, gte_nd, gob_nd, grf_nd]; exact h3_rn_343))
          refine lv_if_eq (tgt := 329) hx hb dX10_rest_322 (by decide) (fun c_387 => absurd c_387 (by decide)) (fun _ => ?_)
          refine lv_iconst (v := 1) hx hb dX10_rest_325 (by decide) ?_
          refine lv_goto (tgt := 330) hx hb dX10_rest_326 (by decide) ?_
          exact M_z hx hb hr rfl hlocks (x22_356, x23_357, x24_358, x25_359, x36_360, y26_361, y27_362, y28_363, y29_364, y30_365, y31_366, y32_367, y33_368) hP hD hK hS ⟨Or.inr ⟨rfl, ⟨_, BU.i11 hev_344 hev_384, hmq_385, h36_386⟩⟩, ⟨dp_380, hpr_382⟩⟩ (by first | exact Nat.le_of_ble_eq_true rfl | (simp only [rm_X10_rest]; omega)) (by first | exact Nat.le_of_ble_eq_true rfl | (simp only [rm_X10_rest]; omega)) dX10_rest_330
  refine lv_tableOut (tgt := 331) hx hb dX10_rest_6 (tab_out11 c_2 c_26 c_33 c_40 c_63 c_87 c_110 c_133 c_180 c_227 c_315) (by decide) ?_
  obtain rfl : cw = 12 := cw_12 hcw ez_1 ⟨c_2, c_26, c_33, c_40, c_63, c_87, c_110, c_133, c_180, c_227, c_315⟩
  refine lv_aload_n hx hb dX10_rest_331 rfl (lv_at hl 0 rfl) ?_
  refine lv_iload_n hx hb dX10_rest_332 rfl (lv_at hl 1 rfl) ?_
  refine lv_iconst (v := 0) hx hb dX10_rest_333 (by decide) ?_
  refine M_V ⟨hx, hb, hml, hown, hts⟩ (m_X10_block l dC dI sa g h0 b j bl dp ln sq i a kk (0 : Int32) _ hL hM (by first | exact hn36 | (simp only [gpa_nd, gnu_nd, gpl_nd, gte_nd, gob_nd, grf_nd]; exact hn36)) hPN hBL hj (by first | exact hn3 | (simp only [gpa_nd, gnu_nd, gpl_nd, gte_nd, gob_nd, grf_nd]; exact hn3)) (let h9 := PR.nd (PR.rf hPN) hVq hdq; ⟨q, hq, h9.1, h9.2⟩) IHS) (cwV 2 hts gX10_rest_X10_block rfl rfl rfl (by decide +kernel) ⟨(by first | exact Nat.le_of_ble_eq_true rfl | (simp only [rm_X10_block, rm_X10_rest]; omega)), (by first | exact Nat.le_of_ble_eq_true rfl | (simp only [rm_X10_block, rm_X10_rest]; omega))⟩) hP hD hK hS hA hev rfl rfl rfl rfl hl.1 rfl (Nat.le_of_ble_eq_true rfl) dX10_rest_334 ⟨(by first | exact Nat.le_of_ble_eq_true rfl | (simp only [rm_X10_rest]; omega)), (by first | exact Nat.le_of_ble_eq_true rfl | (simp only [rm_X10_rest]; omega))⟩ (fun r u H locs hw hP hD hS => ?_)
  obtain ⟨x22_388, x23_389, x24_390, x25_391, x36_392, y26_393, y27_394, y28_395, y29_396, y30_397, y31_398, y32_399, y33_400⟩ := u
  have hw : ((r = some (.int 0) ∧ (∃ rn : SG, Ev (Kp (a 19) ln) (Vp (a 19) ln) (nq (a 19) ln) 2 bl sq rn ∧ MO rn x23_389 x24_390)) ∨ (r = some (.int 1) ∧ (∃ rn : SG, Ev (Kp (a 19) ln) (Vp (a 19) ln) (nq (a 19) ln) 2 bl sq rn ∧ MI (a 19) ln rn x22_388 x23_389 x24_390 ∧ x36_392 = nI rn.2.1))) ∧ (∃ dpN : Nat → Nat, PR (i 36) x36_392 dp dpN (a 26) (a 27) (a 31) (a 32) (a 33) y26_393 y27_394 y31_398 y32_399 y33_400) := hw
  obtain ⟨⟨rfl, hz2_402⟩ | ⟨rfl, hz2_402⟩, hw_401⟩ := hw
  · have hP : va_P (dC, dI) vwCl (mw g h0 b (va_up (va_up (va_up (va_up (va_up i 22 x22_388) 23 x23_389) 24 x24_390) 25 x25_391) 36 x36_392) (va_up (va_up (va_up (va_up (va_up (va_up (va_up (va_up a 26 y26_393) 27 y27_394) 28 y28_395) 29 y29_396) 30 y30_397) 31 y31_398) 32 y32_399) 33 y33_400)) _ := hP
    have hD : va_D _ (mw g h0 b (va_up (va_up (va_up (va_up (va_up i 22 x22_388) 23 x23_389) 24 x24_390) 25 x25_391) 36 x36_392) (va_up (va_up (va_up (va_up (va_up (va_up (va_up (va_up a 26 y26_393) 27 y27_394) 28 y28_395) 29 y29_396) 30 y30_397) 31 y31_398) 32 y32_399) 33 y33_400)) := hD
    refine W.eq (g2 := F0 m 337 ls [.int 0]) rfl ?_
    obtain ⟨dp_404, hPR_403⟩ := hw_401
    have hpr_406 := PR.tr (PR.rf hPN) hPR_403
    obtain ⟨rn_407, hev_408, hmo_409⟩ := hz2_402
    refine lv_if_eq (tgt := 362) hx hb dX10_rest_337 (by decide) (fun _ => ?_) (fun c_410 => absurd c_410 (by decide))
    refine lv_iconst (v := 0) hx hb dX10_rest_362 (by decide) ?_
    exact M_z hx hb hr rfl hlocks (x22_388, x23_389, x24_390, x25_391, x36_392, y26_393, y27_394, y28_395, y29_396, y30_397, y31_398, y32_399, y33_400) hP hD hK hS ⟨Or.inl ⟨rfl, ⟨_, BU.i12x hev_408 (hmo_409).2.2.1, hmo_409⟩⟩, ⟨dp_404, hpr_406⟩⟩ (by first | exact Nat.le_of_ble_eq_true rfl | (simp only [rm_X10_rest]; omega)) (by first | exact Nat.le_of_ble_eq_true rfl | (simp only [rm_X10_rest]; omega)) dX10_rest_363
  · have hP : va_P (dC, dI) vwCl (mw g h0 b (va_up (va_up (va_up (va_up (va_up i 22 x22_388) 23 x23_389) 24 x24_390) 25 x25_391) 36 x36_392) (va_up (va_up (va_up (va_up (va_up (va_up (va_up (va_up a 26 y26_393) 27 y27_394) 28 y28_395) 29 y29_396) 30 y30_397) 31 y31_398) 32 y32_399) 33 y33_400)) _ := hP
    have hD : va_D _ (mw g h0 b (va_up (va_up (va_up (va_up (va_up i 22 x22_388) 23 x23_389) 24 x24_390) 25 x25_391) 36 x36_392) (va_up (va_up (va_up (va_up (va_up (va_up (va_up (va_up a 26 y26_393) 27 y27_394) 28 y28_395) 29 y29_396) 30 y30_397) 31 y31_398) 32 y32_399) 33 y33_400)) := hD
    refine W.eq (g2 := F0 m 337 ls [.int 1]) rfl ?_
    obtain ⟨dp_412, hPR_411⟩ := hw_401
    have hpr_414 := PR.tr (PR.rf hPN) hPR_411
    obtain ⟨rn_415, hev_416, hmq_417, h36_418⟩ := hz2_402
    have h3_rn_415 : rn_415.2.1 ≤ 300 := hev_416.nd.2.2 (by first | exact hn3 | (simp only [gpa_nd, gnu_nd, gpl_nd, gte_nd, gob_nd, grf_nd]; exact hn3))
    refine lv_if_eq (tgt := 362) hx hb dX10_rest_337 (by decide) (fun c_419 => absurd c_419 (by decide)) (fun _ => ?_)
    refine lv_aload_n hx hb dX10_rest_340 rfl (lv_at hl 0 rfl) ?_
    refine lv_bipush (v := 12) hx hb dX10_rest_341 (by decide) ?_
    refine M_V ⟨hx, hb, hml, hown, hts⟩ (m_X10_needWord l dC dI sa g h0 b ln rn_415 14 (va_up (va_up (va_up (va_up (va_up i 22 x22_388) 23 x23_389) 24 x24_390) 25 x25_391) 36 x36_392) (va_up (va_up (va_up (va_up (va_up (va_up (va_up (va_up a 26 y26_393) 27 y27_394) 28 y28_395) 29 y29_396) 30 y30_397) 31 y31_398) 32 y32_399) 33 y33_400) (12 : Int32) _ hL hmq_417 (Or.inr ⟨rfl, rfl⟩)) (cwV 1 hts gX10_rest_X10_needWord rfl rfl rfl (by decide +kernel) ⟨(by first | exact Nat.le_of_ble_eq_true rfl | (simp only [rm_X10_needWord, rm_X10_rest]; omega)), (by first | exact Nat.le_of_ble_eq_true rfl | (simp only [rm_X10_needWord, rm_X10_rest]; omega))⟩) hP hD hK hS hA hev rfl rfl rfl rfl hl.1 rfl (Nat.le_of_ble_eq_true rfl) dX10_rest_343 ⟨(by first | exact Nat.le_of_ble_eq_true rfl | (simp only [rm_X10_rest]; omega)), (by first | exact Nat.le_of_ble_eq_true rfl | (simp only [rm_X10_rest]; omega))⟩ (fun r u H locs hw hP hD hS => ?_)
    obtain ⟨x22_420, x23_421, x24_422⟩ := u
    have hw : ((r = some (.int 0) ∧ (MO (gpa (Kp (a 19) ln) (nq (a 19) ln) 14 rn_415) x23_421 x24_422)) ∨ (r = some (.int 1) ∧ (MI (a 19) ln (gpa (Kp (a 19) ln) (nq (a 19) ln) 14 rn_415) x22_420 x23_421 x24_422))) ∧ (True) := hw
    obtain ⟨⟨rfl, hz2_424⟩ | ⟨rfl, hz2_424⟩, hw_423⟩ := hw
    · have hP : va_P (dC, dI) vwCl (mw g h0 b (va_up (va_up (va_up (va_up (va_up i 22 x22_420) 23 x23_421) 24 x24_422) 25 x25_391) 36 x36_392) (va_up (va_up (va_up (va_up (va_up (va_up (va_up (va_up a 26 y26_393) 27 y27_394) 28 y28_395) 29 y29_396) 30 y30_397) 31 y31_398) 32 y32_399) 33 y33_400)) _ := hP
      have hD : va_D _ (mw g h0 b (va_up (va_up (va_up (va_up (va_up i 22 x22_420) 23 x23_421) 24 x24_422) 25 x25_391) 36 x36_392) (va_up (va_up (va_up (va_up (va_up (va_up (va_up (va_up a 26 y26_393) 27 y27_394) 28 y28_395) 29 y29_396) 30 y30_397) 31 y31_398) 32 y32_399) 33 y33_400)) := hD
      refine W.eq (g2 := F0 m 346 ls [.int 0]) rfl ?_
      refine lv_if_eq (tgt := 362) hx hb dX10_rest_346 (by decide) (fun _ => ?_) (fun c_425 => absurd c_425 (by decide))
      refine lv_iconst (v := 0) hx hb dX10_rest_362 (by decide) ?_
      exact M_z hx hb hr rfl hlocks (x22_420, x23_421, x24_422, x25_391, x36_392, y26_393, y27_394, y28_395, y29_396, y30_397, y31_398, y32_399, y33_400) hP hD hK hS ⟨Or.inl ⟨rfl, ⟨_, BU.i12 hev_416 (Ev.fx2 (hz2_424).2.2.1), hz2_424⟩⟩, ⟨dp_412, hpr_414⟩⟩ (by first | exact Nat.le_of_ble_eq_true rfl | (simp only [rm_X10_rest]; omega)) (by first | exact Nat.le_of_ble_eq_true rfl | (simp only [rm_X10_rest]; omega)) dX10_rest_363
    · have hP : va_P (dC, dI) vwCl (mw g h0 b (va_up (va_up (va_up (va_up (va_up i 22 x22_420) 23 x23_421) 24 x24_422) 25 x25_391) 36 x36_392) (va_up (va_up (va_up (va_up (va_up (va_up (va_up (va_up a 26 y26_393) 27 y27_394) 28 y28_395) 29 y29_396) 30 y30_397) 31 y31_398) 32 y32_399) 33 y33_400)) _ := hP
      have hD : va_D _ (mw g h0 b (va_up (va_up (va_up (va_up (va_up i 22 x22_420) 23 x23_421) 24 x24_422) 25 x25_391) 36 x36_392) (va_up (va_up (va_up (va_up (va_up (va_up (va_up (va_up a 26 y26_393) 27 y27_394) 28 y28_395) 29 y29_396) 30 y30_397) 31 y31_398) 32 y32_399) 33 y33_400)) := hD
      refine W.eq (g2 := F0 m 346 ls [.int 1]) rfl ?_
      have hmq_426 : MI (a 19) ln (gpa (Kp (a 19) ln) (nq (a 19) ln) 14 rn_415) x22_420 x23_421 x24_422 := hz2_424
      refine lv_if_eq (tgt := 362) hx hb dX10_rest_346 (by decide) (fun c_427 => absurd c_427 (by decide)) (fun _ => ?_)
      refine lv_aload_n hx hb dX10_rest_349 rfl (lv_at hl 0 rfl) ?_
      refine lv_iload_n hx hb dX10_rest_350 rfl (lv_at hl 1 rfl) ?_
      refine lv_iconst (v := 1) hx hb dX10_rest_351 (by decide) ?_
      refine M_V ⟨hx, hb, hml, hown, hts⟩ (m_X10_block l dC dI sa g h0 b j bl dp_412 ln (gpa (Kp (a 19) ln) (nq (a 19) ln) 14 rn_415) (va_up (va_up (va_up (va_up (va_up i 22 x22_420) 23 x23_421) 24 x24_422) 25 x25_391) 36 x36_392) (va_up (va_up (va_up (va_up (va_up (va_up (va_up (va_up a 26 y26_393) 27 y27_394) 28 y28_395) 29 y29_396) 30 y30_397) 31 y31_398) 32 y32_399) 33 y33_400) kk (1 : Int32) _ hL hmq_426 (by first | exact h36_418 | (simp only [gpa_nd, gnu_nd, gpl_nd, gte_nd, gob_nd, grf_nd]; exact h36_418)) hPR_411.2.1 hBL hj (by first | exact h3_rn_415 | (simp only [gpa_nd, gnu_nd, gpl_nd, gte_nd, gob_nd, grf_nd]; exact h3_rn_415)) (let h9 := PR.nd hpr_414 hVq hdq; ⟨q, hq, h9.1, h9.2⟩) IHS) (cwV 2 hts gX10_rest_X10_block rfl rfl rfl (by decide +kernel) ⟨(by first | exact Nat.le_of_ble_eq_true rfl | (simp only [rm_X10_block, rm_X10_rest]; omega)), (by first | exact Nat.le_of_ble_eq_true rfl | (simp only [rm_X10_block, rm_X10_rest]; omega))⟩) hP hD hK hS hA hev rfl rfl rfl rfl hl.1 rfl (Nat.le_of_ble_eq_true rfl) dX10_rest_352 ⟨(by first | exact Nat.le_of_ble_eq_true rfl | (simp only [rm_X10_rest]; omega)), (by first | exact Nat.le_of_ble_eq_true rfl | (simp only [rm_X10_rest]; omega))⟩ (fun r u H locs hw hP hD hS => ?_)
      obtain ⟨x22_428, x23_429, x24_430, x25_431, x36_432, y26_433, y27_434, y28_435, y29_436, y30_437, y31_438, y32_439, y33_440⟩ := u
      have hw : ((r = some (.int 0) ∧ (∃ rn : SG, Ev (Kp (a 19) ln) (Vp (a 19) ln) (nq (a 19) ln) 2 bl (gpa (Kp (a 19) ln) (nq (a 19) ln) 14 rn_415) rn ∧ MO rn x23_429 x24_430)) ∨ (r = some (.int 1) ∧ (∃ rn : SG, Ev (Kp (a 19) ln) (Vp (a 19) ln) (nq (a 19) ln) 2 bl (gpa (Kp (a 19) ln) (nq (a 19) ln) 14 rn_415) rn ∧ MI (a 19) ln rn x22_428 x23_429 x24_430 ∧ x36_432 = nI rn.2.1))) ∧ (∃ dpN : Nat → Nat, PR x36_392 x36_432 dp_412 dpN y26_393 y27_394 y31_398 y32_399 y33_400 y26_433 y27_434 y31_438 y32_439 y33_440) := hw
      obtain ⟨⟨rfl, hz2_442⟩ | ⟨rfl, hz2_442⟩, hw_441⟩ := hw
      · have hP : va_P (dC, dI) vwCl (mw g h0 b (va_up (va_up (va_up (va_up (va_up i 22 x22_428) 23 x23_429) 24 x24_430) 25 x25_431) 36 x36_432) (va_up (va_up (va_up (va_up (va_up (va_up (va_up (va_up a 26 y26_433) 27 y27_434) 28 y28_435) 29 y29_436) 30 y30_437) 31 y31_438) 32 y32_439) 33 y33_440)) _ := hP
        have hD : va_D _ (mw g h0 b (va_up (va_up (va_up (va_up (va_up i 22 x22_428) 23 x23_429) 24 x24_430) 25 x25_431) 36 x36_432) (va_up (va_up (va_up (va_up (va_up (va_up (va_up (va_up a 26 y26_433) 27 y27_434) 28 y28_435) 29 y29_436) 30 y30_437) 31 y31_438) 32 y32_439) 33 y33_440)) := hD
        refine W.eq (g2 := F0 m 355 ls [.int 0]) rfl ?_
        obtain ⟨dp_444, hPR_443⟩ := hw_441
        have hpr_446 := PR.tr hpr_414 hPR_443
        obtain ⟨rn_447, hev_448, hmo_449⟩ := hz2_442
        refine lv_if_eq (tgt := 362) hx hb dX10_rest_355 (by decide) (fun _ => ?_) (fun c_450 => absurd c_450 (by decide))
        refine lv_iconst (v := 0) hx hb dX10_rest_362 (by decide) ?_
        exact M_z hx hb hr rfl hlocks (x22_428, x23_429, x24_430, x25_431, x36_432, y26_433, y27_434, y28_435, y29_436, y30_437, y31_438, y32_439, y33_440) hP hD hK hS ⟨Or.inl ⟨rfl, ⟨_, BU.i12 hev_416 hev_448, hmo_449⟩⟩, ⟨dp_444, hpr_446⟩⟩ (by first | exact Nat.le_of_ble_eq_true rfl | (simp only [rm_X10_rest]; omega)) (by first | exact Nat.le_of_ble_eq_true rfl | (simp only [rm_X10_rest]; omega)) dX10_rest_363
      · have hP : va_P (dC, dI) vwCl (mw g h0 b (va_up (va_up (va_up (va_up (va_up i 22 x22_428) 23 x23_429) 24 x24_430) 25 x25_431) 36 x36_432) (va_up (va_up (va_up (va_up (va_up (va_up (va_up (va_up a 26 y26_433) 27 y27_434) 28 y28_435) 29 y29_436) 30 y30_437) 31 y31_438) 32 y32_439) 33 y33_440)) _ := hP
        have hD : va_D _ (mw g h0 b (va_up (va_up (va_up (va_up (va_up i 22 x22_428) 23 x23_429) 24 x24_430) 25 x25_431) 36 x36_432) (va_up (va_up (va_up (va_up (va_up (va_up (va_up (va_up a 26 y26_433) 27 y27_434) 28 y28_435) 29 y29_436) 30 y30_437) 31 y31_438) 32 y32_439) 33 y33_440)) := hD
        refine W.eq (g2 := F0 m 355 ls [.int 1]) rfl ?_
        obtain ⟨dp_452, hPR_451⟩ := hw_441
        have hpr_454 := PR.tr hpr_414 hPR_451
        obtain ⟨rn_455, hev_456, hmq_457, h36_458⟩ := hz2_442
        have h3_rn_455 : rn_455.2.1 ≤ 300 := hev_456.nd.2.2 (by first | exact h3_rn_415 | (simp only [gpa_nd, gnu_nd, gpl_nd, gte_nd, gob_nd, grf_nd]; exact h3_rn_415))
        refine lv_if_eq (tgt := 362) hx hb dX10_rest_355 (by decide) (fun c_459 => absurd c_459 (by decide)) (fun _ => ?_)
        refine lv_iconst (v := 1) hx hb dX10_rest_358 (by decide) ?_
        refine lv_goto (tgt := 363) hx hb dX10_rest_359 (by decide) ?_
        exact M_z hx hb hr rfl hlocks (x22_428, x23_429, x24_430, x25_431, x36_432, y26_433, y27_434, y28_435, y29_436, y30_437, y31_438, y32_439, y33_440) hP hD hK hS ⟨Or.inr ⟨rfl, ⟨_, BU.i12 hev_416 hev_456, hmq_457, h36_458⟩⟩, ⟨dp_452, hpr_454⟩⟩ (by first | exact Nat.le_of_ble_eq_true rfl | (simp only [rm_X10_rest]; omega)) (by first | exact Nat.le_of_ble_eq_true rfl | (simp only [rm_X10_rest]; omega)) dX10_rest_363

theorem st_no {k z : Int32} (hz : z = cm k) (c : z = -1 ∨ ¬ z ≤ 11) : ¬ (1 ≤ k ∧ k ≤ 12) := by
  have h := cm_i k
  rw [hz, ← Int32.toInt_inj, Int32.le_iff_toInt_le] at c
  rw [Int32.le_iff_toInt_le, Int32.le_iff_toInt_le]
  have e1 : (1 : Int32).toInt = 1 := by decide
  have e12 : (12 : Int32).toInt = 12 := by decide
  have e11 : (11 : Int32).toInt = 11 := by decide
  have em : (-1 : Int32).toInt = -1 := by decide
  omega
theorem st_yes {k z : Int32} (hz : z = cm k) (c1 : ¬ z = -1) (c : z ≤ 11) : (1 ≤ k ∧ k ≤ 12) ∧ z = k - 1 := by
  have h := cm_i k
  have hr : 1 ≤ k ∧ k ≤ 12 := by
    rw [hz, ← Int32.toInt_inj] at c1
    rw [hz, Int32.le_iff_toInt_le] at c
    rw [Int32.le_iff_toInt_le, Int32.le_iff_toInt_le]
    have e1 : (1 : Int32).toInt = 1 := by decide
    have e12 : (12 : Int32).toInt = 12 := by decide
    have e11 : (11 : Int32).toInt = 11 := by decide
    have em : (-1 : Int32).toInt = -1 := by decide
    omega
  refine ⟨hr, ?_⟩
  rw [hz]
  unfold cm
  rw [if_pos hr]
theorem MI.st1 {tt : Nat → Int32} {ln d : Nat} {r : SG} {x22 x23 x24 y z : Int32} (h : MI tt ln r x22 x23 x24) (hn : ¬ (1 ≤ Kp tt ln r.1 ∧ Kp tt ln r.1 ≤ 12)) (hy : y = 1) (hz : z = nI r.1) : ∃ rn : SG, SXx (Kp tt ln) (Vp tt ln) (nq tt ln) d r rn ∧ MO rn y z :=
  ⟨gfl 1 r, Or.inr ⟨hn, rfl⟩, hy, hz, by show ¬ (1 : Int32) = 0; decide, by rw [hy]; decide⟩
theorem MI.st2 {tt : Nat → Int32} {ln d : Nat} {r : SG} {x22 x23 x24 y z n36 : Int32} (h : MI tt ln r x22 x23 x24) (hn : 1 ≤ Kp tt ln r.1 ∧ Kp tt ln r.1 ≤ 12) (h36 : n36 = nI r.2.1) (hr : r.2.1 ≤ 300) (c : n36 = 300) (hy : y = 2) (hz : z = nI r.1) : ∃ rn : SG, SXx (Kp tt ln) (Vp tt ln) (nq tt ln) d r rn ∧ MO rn y z := by
  have h3 : 300 ≤ r.2.1 := by
    have c : nI r.2.1 = nI 300 := h36.symm.trans c
    rw [nI_eq (by omega) (by omega)] at c
    omega
  refine ⟨grf 2 r, Or.inl ⟨hn, Ev.full h3⟩, ?_⟩
  have e : grf 2 r = gfl 2 r := if_pos h.2.1
  rw [e]
  exact ⟨hy, hz, by show ¬ (2 : Int32) = 0; decide, by rw [hy]; decide⟩
theorem MI.gad {tt : Nat → Int32} {ln : Nat} {r : SG} {x22 x23 x24 y : Int32} (h : MI tt ln r x22 x23 x24) (hq : r.1 < ln) (hy : y = nI (nx tt ln r.1)) : MI tt ln (gad (nq tt ln) r) y x23 x24 := by
  have h2 := h.pass (c := Kp tt ln r.1) rfl hq hy
  have e : gpa (Kp tt ln) (nq tt ln) (Kp tt ln r.1) r = (nq tt ln r.1, r.2) := by
    unfold gpa
    rw [if_pos h.2.1, if_pos rfl]
  rw [e] at h2
  exact h2
theorem n36_lt {n36 z : Int32} {n : Nat} (h : n36 = nI n) (hn : n ≤ 300) (c : ¬ n36 = 300) (hz : z = n36 + 1) : ¬ 300 ≤ n ∧ z = nI (n + 1) := by
  have h3 : ¬ n = 300 := fun e => c (by rw [h, e]; rfl)
  exact ⟨by omega, by rw [hz, h]; exact nI_1 n⟩
theorem PN.n300 {n : Int32} {dp : Nat → Nat} {kd on inr oth nx : Nat → Int32} {m : Nat} (h : PN n dp kd on inr oth nx) (he : n = nI m) (hm : m < 2147483648) : m ≤ 300 := by
  have h1 := h.2.1
  rw [he, nI_toInt hm] at h1
  omega

theorem inw_X10_step_10 : ∀ w ∈ wsX100, w ∈ wsX10_step := by decide +kernel
set_option maxHeartbeats 1000000 in
set_option maxRecDepth 100000 in
theorem m_X10_step (l : Launch) (dC : Nat → ClassId) (dI : Nat → Nat → Nat) (sa : Nat → Nat) (g : Nat → Nat) (h0 : Nat) (b : Nat → Nat) (j : Nat) (bl : Nat) (dp : Nat → Nat) (ln : Nat) (sq : SG) (i : Nat → Int32) (a : Nat → Nat → Int32) (sz : Nat) (hL : (i 21) = nI ln ∧ ln ≤ 1500) (hM : MI (a 19) ln sq (i 22) (i 23) (i 24)) (hn36 : (i 36) = nI sq.2.1) (hPN : PN (i 36) dp (a 26) (a 27) (a 31) (a 32) (a 33)) (hBL : (i 38) = nI bl) (hj : bl + j = 8) (hn3 : sq.2.1 ≤ 300) (IHS : ∀ j' bl' : Nat, bl' + j' = 8 → j = j' + 1 → ∀ (dp : Nat → Nat) (ln : Nat) (sq : SG) (i : Nat → Int32) (a : Nat → Nat → Int32) (ib : Int32) (sz : Nat) (hL : (i 21) = nI ln ∧ ln ≤ 1500) (hM : MI (a 19) ln sq (i 22) (i 23) (i 24)) (hn36 : (i 36) = nI sq.2.1) (hPN : PN (i 36) dp (a 26) (a 27) (a 31) (a 32) (a 33)) (hBL : (i 38) = nI bl') (hn3 : sq.2.1 ≤ 300), CT l dC dI sa yX10_steps wsX10_steps (rm_X10_steps j' bl' dp ln sq) [.ref h0, .int ib] (mw g h0 b i a) (tyM g) sz (fun (r : Option Value) (u : Int32 × Int32 × Int32 × Int32 × Int32 × (Nat → Int32) × (Nat → Int32) × (Nat → Int32) × (Nat → Int32) × (Nat → Int32) × (Nat → Int32) × (Nat → Int32) × (Nat → Int32)) => match u with | (x22, x23, x24, x25, x36, y26, y27, y28, y29, y30, y31, y32, y33) => (∃ z : Int32, r = some (.int z)) ∧ (∃ dpN : Nat → Nat, PR (i 36) x36 dp dpN (a 26) (a 27) (a 31) (a 32) (a 33) y26 y27 y31 y32 y33 ∧ (∀ z : Int32, r = some (.int z) → (z = -2 ∧ ∃ rn : SG, ST (Kp (a 19) ln) (Vp (a 19) ln) (nq (a 19) ln) bl' (if ib = 0 then (0 : Int32) else 125) sq rn ∧ MO rn x23 x24) ∨ (lk (PV x36) dpN bl' z ∧ ∃ rn : SG, ST (Kp (a 19) ln) (Vp (a 19) ln) (nq (a 19) ln) bl' (if ib = 0 then (0 : Int32) else 125) sq rn ∧ MI (a 19) ln rn x22 x23 x24 ∧ x36 = nI rn.2.1)))) (fun (u : Int32 × Int32 × Int32 × Int32 × Int32 × (Nat → Int32) × (Nat → Int32) × (Nat → Int32) × (Nat → Int32) × (Nat → Int32) × (Nat → Int32) × (Nat → Int32) × (Nat → Int32)) => match u with | (x22, x23, x24, x25, x36, y26, y27, y28, y29, y30, y31, y32, y33) => mw g h0 b (va_up (va_up (va_up (va_up (va_up i 22 x22) 23 x23) 24 x24) 25 x25) 36 x36) (va_up (va_up (va_up (va_up (va_up (va_up (va_up (va_up a 26 y26) 27 y27) 28 y28) 29 y29) 30 y30) 31 y31) 32 y32) 33 y33)) (fun _ => []) 0 0) : CT l dC dI sa yX10_step wsX10_step (rm_X10_step j bl dp ln sq) [.ref h0] (mw g h0 b i a) (tyM g) sz (fun (r : Option Value) (u : Int32 × Int32 × Int32 × Int32 × Int32 × (Nat → Int32) × (Nat → Int32) × (Nat → Int32) × (Nat → Int32) × (Nat → Int32) × (Nat → Int32) × (Nat → Int32) × (Nat → Int32)) => match u with | (x22, x23, x24, x25, x36, y26, y27, y28, y29, y30, y31, y32, y33) => (∃ z : Int32, r = some (.int z)) ∧ (∃ dpN : Nat → Nat, PR (i 36) x36 dp dpN (a 26) (a 27) (a 31) (a 32) (a 33) y26 y27 y31 y32 y33 ∧ (∀ z : Int32, r = some (.int z) → (z = -1 ∧ ∃ rn : SG, SXx (Kp (a 19) ln) (Vp (a 19) ln) (nq (a 19) ln) bl sq rn ∧ MO rn x23 x24) ∨ ((∃ q : Nat, z = nI q ∧ PV x36 q ∧ dpN q = bl) ∧ (i 36).toInt < x36.toInt ∧ ∃ rn : SG, SXx (Kp (a 19) ln) (Vp (a 19) ln) (nq (a 19) ln) bl sq rn ∧ MI (a 19) ln rn x22 x23 x24 ∧ x36 = nI rn.2.1)))) (fun (u : Int32 × Int32 × Int32 × Int32 × Int32 × (Nat → Int32) × (Nat → Int32) × (Nat → Int32) × (Nat → Int32) × (Nat → Int32) × (Nat → Int32) × (Nat → Int32) × (Nat → Int32)) => match u with | (x22, x23, x24, x25, x36, y26, y27, y28, y29, y30, y31, y32, y33) => mw g h0 b (va_up (va_up (va_up (va_up (va_up i 22 x22) 23 x23) 24 x24) 25 x25) 36 x36) (va_up (va_up (va_up (va_up (va_up (va_up (va_up (va_up a 26 y26) 27 y27) 28 y28) 29 y29) 30 y30) 31 y31) 32 y32) 33 y33)) (fun _ => []) 0 0 := by
  refine CT.start (cc := cX10_step) (maxL := 3) (ret := (some .int)) (by decide) rfl (Nat.le_of_ble_eq_true rfl) ?_
  intro p e s m below meth c ls hst hP hK hD hev hS hl
  obtain ⟨hx, hb, hr, hml, hts, hown, hlocks, hin⟩ := hst
  have hown : s.vm.findClass RX10 = some m.cls := hown
  have hA : ∀ q : Nat, s.heap.size ≤ q → va_A (mw g h0 b i a) s.heap.size q := fun _ h => Or.inr h
  have hl : lv_has ls 3 [(0, .ref h0)] := hl
  refine lv_aload_n hx hb dX10_step_0 rfl (lv_at hl 0 rfl) ?_
  refine M_V ⟨hx, hb, hml, hown, hts⟩ (m_X10_word l dC dI sa g h0 b ln sq i a  _ hL hM) (cwV 0 hts gX10_step_X10_word rfl rfl rfl (by decide +kernel) ⟨(by first | exact Nat.le_of_ble_eq_true rfl | (simp only [rm_X10_word, rm_X10_step]; omega)), (by first | exact Nat.le_of_ble_eq_true rfl | (simp only [rm_X10_word, rm_X10_step]; omega))⟩) hP hD hK hS hA hev rfl rfl rfl rfl hl.1 rfl (Nat.le_of_ble_eq_true rfl) dX10_step_1 ⟨(by first | exact Nat.le_of_ble_eq_true rfl | (simp only [rm_X10_step]; omega)), (by first | exact Nat.le_of_ble_eq_true rfl | (simp only [rm_X10_step]; omega))⟩ (fun r u H locs hw hP hD hS => ?_)
  obtain ⟨x22_1, rfl⟩ : ∃ z, z = u := ⟨_, rfl⟩
  have hw : (∃ z : Int32, r = some (.int z) ∧ (z = cm (Kp (a 19) ln sq.1))) ∧ (x22_1 = nI sq.1) := hw
  obtain ⟨⟨z_3, rfl, hz_z_3⟩, hw_2⟩ := hw
  have hP : va_P (dC, dI) vwCl (mw g h0 b (va_up i 22 x22_1) a) _ := hP
  have hD : va_D _ (mw g h0 b (va_up i 22 x22_1) a) := hD
  refine W.eq (g2 := F0 m 4 ls [.int z_3]) rfl ?_
  have hmq_4 : MI (a 19) ln sq x22_1 (i 23) (i 24) := (hM).sk hw_2
  refine lv_istore_n (lv' := [(1, .int z_3), (0, .ref h0)]) hx hb dX10_step_4 rfl hl (by decide) rfl (fun ls hl => ?_)
  refine lv_iload_n hx hb dX10_step_5 rfl (lv_at hl 0 rfl) ?_
  refine lv_iconst (v := (-1)) hx hb dX10_step_6 (by decide) ?_
  refine lv_icmp_eq (tgt := 16) hx hb dX10_step_7 (by decide) (fun c_5 => ?_) (fun c_5 => ?_)
  · have nc_5 := eq_i c_5
    have lc_5 : ((-1) : Int32).toInt = -1 := by decide
    refine lv_aload_n hx hb dX10_step_16 rfl (lv_at hl 1 rfl) ?_
    refine lv_iconst (v := 1) hx hb dX10_step_17 (by decide) ?_
    refine lv_aload_n hx hb dX10_step_18 rfl (lv_at hl 1 rfl) ?_
    refine va_get (D := (dC, dI)) (ci := 10) (v := .int x22_1) (C := RX10) (T := TX10) (N := 51) hx hb hts inw_X10_step_10 hown hK hP 0 rfl rfl 22 (by decide) (hts (.fieldLink RX10 168 "VatHouseModel" "at" "I") (by decide +kernel)) (fun _ h9 => h9) rfl dX10_step_19 ?_
    refine M_V ⟨hx, hb, hml, hown, hts⟩ (m_X10_wrong l dC dI sa g h0 b (va_up i 22 x22_1) a (1 : Int32) x22_1 _ (hmq_4).1) (cwV 2 hts gX10_step_X10_wrong rfl rfl rfl (by decide +kernel) ⟨(by first | exact Nat.le_of_ble_eq_true rfl | (simp only [rm_X10_wrong, rm_X10_step]; omega)), (by first | exact Nat.le_of_ble_eq_true rfl | (simp only [rm_X10_wrong, rm_X10_step]; omega))⟩) hP hD hK hS hA hev rfl rfl rfl rfl hl.1 rfl (Nat.le_of_ble_eq_true rfl) dX10_step_22 ⟨(by first | exact Nat.le_of_ble_eq_true rfl | (simp only [rm_X10_step]; omega)), (by first | exact Nat.le_of_ble_eq_true rfl | (simp only [rm_X10_step]; omega))⟩ (fun r u H locs hw hP hD hS => ?_)
    obtain ⟨x23_6, x24_7⟩ := u
    have hw : ((r = some (.int 0) ∧ (x23_6 = (1 : Int32) ∧ x24_7 = x22_1)) ∨ (r = some (.int 1) ∧ (False))) ∧ (True) := hw
    obtain ⟨⟨rfl, hz2_9⟩ | ⟨rfl, hz2_9⟩, hw_8⟩ := hw
    · have hP : va_P (dC, dI) vwCl (mw g h0 b (va_up (va_up (va_up i 22 x22_1) 23 x23_6) 24 x24_7) a) _ := hP
      have hD : va_D _ (mw g h0 b (va_up (va_up (va_up i 22 x22_1) 23 x23_6) 24 x24_7) a) := hD
      refine W.eq (g2 := F0 m 25 ls [.int 0]) rfl ?_
      refine lv_pop hx hb dX10_step_25 rfl ?_
      refine lv_iconst (v := (-1)) hx hb dX10_step_26 (by decide) ?_
      exact M_i hx hb hr hlocks (x22_1, x23_6, x24_7, (i 25), (i 36), (a 26), (a 27), (a 28), (a 29), (a 30), (a 31), (a 32), (a 33)) hP hD hK hS ⟨⟨_, rfl⟩, ⟨dp, (PR.rf hPN), fun z9 h9 => Or.inl ⟨by cases h9; rfl, (hmq_4).st1 (d := bl) (st_no hz_z_3 (Or.inl c_5)) hz2_9.1 (hz2_9.2.trans hw_2)⟩⟩⟩ (by first | exact Nat.le_of_ble_eq_true rfl | (simp only [rm_X10_step]; omega)) (by first | exact Nat.le_of_ble_eq_true rfl | (simp only [rm_X10_step]; omega)) dX10_step_27
    · have hP : va_P (dC, dI) vwCl (mw g h0 b (va_up (va_up (va_up i 22 x22_1) 23 x23_6) 24 x24_7) a) _ := hP
      have hD : va_D _ (mw g h0 b (va_up (va_up (va_up i 22 x22_1) 23 x23_6) 24 x24_7) a) := hD
      refine W.eq (g2 := F0 m 25 ls [.int 1]) rfl ?_
      exact hz2_9.elim
  · have nc_5 := ne_i c_5
    have lc_5 : ((-1) : Int32).toInt = -1 := by decide
    refine lv_iload_n hx hb dX10_step_10 rfl (lv_at hl 0 rfl) ?_
    refine lv_bipush (v := 11) hx hb dX10_step_11 (by decide) ?_
    refine lv_icmp_le (tgt := 28) hx hb dX10_step_13 (by decide) (fun c_10 => ?_) (fun c_10 => ?_)
    · have nc_10 := le_i c_10
      have lc_10 : (11 : Int32).toInt = 11 := by decide
      obtain ⟨hrg, hw1⟩ := st_yes hz_z_3 c_5 c_10
      refine lv_aload_n hx hb dX10_step_28 rfl (lv_at hl 1 rfl) ?_
      refine va_get (D := (dC, dI)) (ci := 10) (v := .int (i 36)) (C := RX10) (T := TX10) (N := 51) hx hb hts inw_X10_step_10 hown hK hP 0 rfl rfl 36 (by decide) (hts (.fieldLink RX10 249 "VatHouseModel" "nodes" "I") (by decide +kernel)) (fun _ h9 => h9) rfl dX10_step_29 ?_
      refine lv_sipush (v := 300) hx hb dX10_step_32 (by decide) ?_
      refine lv_icmp_ne (tgt := 50) hx hb dX10_step_35 (by decide) (fun c_11 => ?_) (fun c_11 => ?_)
      · have nc_11 := ne_i c_11
        have lc_11 : (300 : Int32).toInt = 300 := by decide
        refine lv_sipush (v := 2400) hx hb dX10_step_50 (by decide) ?_
        refine lv_aload_n hx hb dX10_step_53 rfl (lv_at hl 1 rfl) ?_
        refine va_get (D := (dC, dI)) (ci := 10) (v := .int (i 36)) (C := RX10) (T := TX10) (N := 51) hx hb hts inw_X10_step_10 hown hK hP 0 rfl rfl 36 (by decide) (hts (.fieldLink RX10 249 "VatHouseModel" "nodes" "I") (by decide +kernel)) (fun _ h9 => h9) rfl dX10_step_54 ?_
        refine lv_iadd hx hb dX10_step_57 ?_
        refine lv_topi (fun z_12 ez_12 => ?_)
        refine lv_istore_n (lv' := [(2, .int z_12), (1, .int z_3), (0, .ref h0)]) hx hb dX10_step_58 rfl hl (by decide) rfl (fun ls hl => ?_)
        refine lv_aload_n hx hb dX10_step_59 rfl (lv_at hl 2 rfl) ?_
        refine lv_dup hx hb dX10_step_60 rfl ?_
        refine va_get (D := (dC, dI)) (ci := 10) (v := .int (i 36)) (C := RX10) (T := TX10) (N := 51) hx hb hts inw_X10_step_10 hown hK hP 0 rfl rfl 36 (by decide) (hts (.fieldLink RX10 249 "VatHouseModel" "nodes" "I") (by decide +kernel)) (fun _ h9 => h9) rfl dX10_step_61 ?_
        refine lv_iconst (v := 1) hx hb dX10_step_64 (by decide) ?_
        refine lv_iadd hx hb dX10_step_65 ?_
        refine lv_topi (fun z_13 ez_13 => ?_)
        refine va_put (D := (dC, dI)) (ci := 10) (v := .int z_13) (ty := .int) (C := RX10) (T := TX10) (N := 51) hx hb hts inw_X10_step_10 tyX10 tyX10_ok nmX10 hown hK hP hD hS 0 rfl rfl 36 (by decide) (hts (.fieldLink RX10 249 "VatHouseModel" "nodes" "I") (by decide +kernel)) (fun _ h9 => h9) rfl (by decide +kernel) rfl rfl (Nat.le_of_ble_eq_true rfl) dX10_step_66 (fun H locs hP hD hS => ?_)
        have hP : va_P (dC, dI) vwCl (mw g h0 b (va_up (va_up i 22 x22_1) 36 z_13) a) _ := hP
        have hD : va_D _ (mw g h0 b (va_up (va_up i 22 x22_1) 36 z_13) a) := hD
        obtain ⟨h300, hg36⟩ := n36_lt hn36 hn3 c_11 ez_13
        obtain ⟨q, hq, hVq, hdq, hnn, hp0⟩ := PN.new (w := z_3) (bl := bl) hPN (by omega) ez_12 ez_13 (fun h9 => c_11 (Int32.toInt_inj.mp (h9.trans (by decide))))
        have hk : vp_in z_12 2700 := by rw [hq]; exact vp_in_nI (by have := hVq.2; have := hp0.2.1.2.1; omega) (by decide)
        have hnk : ¬ z_12 = -1 := fun h9 => by rw [h9] at hq; exact (nq_ne hq hVq hp0.2.1.2.1).1 rfl
        refine lv_aload_n hx hb dX10_step_69 rfl (lv_at hl 2 rfl) ?_
        refine va_get (D := (dC, dI)) (ci := 10) (v := .ref (b 26)) (C := RX10) (T := TX10) (N := 51) hx hb hts inw_X10_step_10 hown hK hP 0 rfl rfl 26 (by decide) (hts (.fieldLink RX10 60 "VatHouseModel" "kind" "[I") (by decide +kernel)) (fun _ h9 => h9) rfl dX10_step_70 ?_
        refine lv_iload_n hx hb dX10_step_73 rfl (lv_at hl 0 rfl) ?_
        refine lv_iload_n hx hb dX10_step_74 rfl (lv_at hl 1 rfl) ?_
        refine va_iast hx hb hK hP hD hS 16 15 rfl rfl (by assumption) dX10_step_75 (fun H locs hP hD hS => ?_)
        have hP : va_P (dC, dI) vwCl (mw g h0 b (va_up (va_up i 22 x22_1) 36 z_13) (va_up a 26 (upd (a 26) z_12.toNatClampNeg z_3))) _ := hP
        have hD : va_D _ (mw g h0 b (va_up (va_up i 22 x22_1) 36 z_13) (va_up a 26 (upd (a 26) z_12.toNatClampNeg z_3))) := hD
        obtain ⟨f_14, ef_14⟩ : ∃ z, z = (upd (a 26) z_12.toNatClampNeg z_3) := ⟨_, rfl⟩
        rw [← ef_14] at hP hD
        refine lv_aload_n hx hb dX10_step_76 rfl (lv_at hl 2 rfl) ?_
        refine va_get (D := (dC, dI)) (ci := 10) (v := .ref (b 27)) (C := RX10) (T := TX10) (N := 51) hx hb hts inw_X10_step_10 hown hK hP 0 rfl rfl 27 (by decide) (hts (.fieldLink RX10 63 "VatHouseModel" "one" "[I") (by decide +kernel)) (fun _ h9 => h9) rfl dX10_step_77 ?_
        refine lv_iload_n hx hb dX10_step_80 rfl (lv_at hl 0 rfl) ?_
        refine lv_iconst (v := 0) hx hb dX10_step_81 (by decide) ?_
        refine va_iast hx hb hK hP hD hS 17 16 rfl rfl (by assumption) dX10_step_82 (fun H locs hP hD hS => ?_)
        have hP : va_P (dC, dI) vwCl (mw g h0 b (va_up (va_up i 22 x22_1) 36 z_13) (va_up (va_up a 26 f_14) 27 (upd (a 27) z_12.toNatClampNeg (0 : Int32)))) _ := hP
        have hD : va_D _ (mw g h0 b (va_up (va_up i 22 x22_1) 36 z_13) (va_up (va_up a 26 f_14) 27 (upd (a 27) z_12.toNatClampNeg (0 : Int32)))) := hD
        obtain ⟨f_15, ef_15⟩ : ∃ z, z = (upd (a 27) z_12.toNatClampNeg (0 : Int32)) := ⟨_, rfl⟩
        rw [← ef_15] at hP hD
        refine lv_aload_n hx hb dX10_step_83 rfl (lv_at hl 2 rfl) ?_
        refine va_get (D := (dC, dI)) (ci := 10) (v := .ref (b 28)) (C := RX10) (T := TX10) (N := 51) hx hb hts inw_X10_step_10 hown hK hP 0 rfl rfl 28 (by decide) (hts (.fieldLink RX10 66 "VatHouseModel" "two" "[I") (by decide +kernel)) (fun _ h9 => h9) rfl dX10_step_84 ?_
        refine lv_iload_n hx hb dX10_step_87 rfl (lv_at hl 0 rfl) ?_
        refine lv_iconst (v := 0) hx hb dX10_step_88 (by decide) ?_
        refine va_iast hx hb hK hP hD hS 18 17 rfl rfl (by assumption) dX10_step_89 (fun H locs hP hD hS => ?_)
        have hP : va_P (dC, dI) vwCl (mw g h0 b (va_up (va_up i 22 x22_1) 36 z_13) (va_up (va_up (va_up a 26 f_14) 27 f_15) 28 (upd (a 28) z_12.toNatClampNeg (0 : Int32)))) _ := hP
        have hD : va_D _ (mw g h0 b (va_up (va_up i 22 x22_1) 36 z_13) (va_up (va_up (va_up a 26 f_14) 27 f_15) 28 (upd (a 28) z_12.toNatClampNeg (0 : Int32)))) := hD
        obtain ⟨f_16, ef_16⟩ : ∃ z, z = (upd (a 28) z_12.toNatClampNeg (0 : Int32)) := ⟨_, rfl⟩
        rw [← ef_16] at hP hD
        refine lv_aload_n hx hb dX10_step_90 rfl (lv_at hl 2 rfl) ?_
        refine va_get (D := (dC, dI)) (ci := 10) (v := .ref (b 31)) (C := RX10) (T := TX10) (N := 51) hx hb hts inw_X10_step_10 hown hK hP 0 rfl rfl 31 (by decide) (hts (.fieldLink RX10 75 "VatHouseModel" "inner" "[I") (by decide +kernel)) (fun _ h9 => h9) rfl dX10_step_91 ?_
        refine lv_iload_n hx hb dX10_step_94 rfl (lv_at hl 0 rfl) ?_
        refine lv_iconst (v := (-1)) hx hb dX10_step_95 (by decide) ?_
        refine va_iast hx hb hK hP hD hS 21 20 rfl rfl (by assumption) dX10_step_96 (fun H locs hP hD hS => ?_)
        have hP : va_P (dC, dI) vwCl (mw g h0 b (va_up (va_up i 22 x22_1) 36 z_13) (va_up (va_up (va_up (va_up a 26 f_14) 27 f_15) 28 f_16) 31 (upd (a 31) z_12.toNatClampNeg ((-1) : Int32)))) _ := hP
        have hD : va_D _ (mw g h0 b (va_up (va_up i 22 x22_1) 36 z_13) (va_up (va_up (va_up (va_up a 26 f_14) 27 f_15) 28 f_16) 31 (upd (a 31) z_12.toNatClampNeg ((-1) : Int32)))) := hD
        obtain ⟨f_17, ef_17⟩ : ∃ z, z = (upd (a 31) z_12.toNatClampNeg ((-1) : Int32)) := ⟨_, rfl⟩
        rw [← ef_17] at hP hD
        refine lv_aload_n hx hb dX10_step_97 rfl (lv_at hl 2 rfl) ?_
        refine va_get (D := (dC, dI)) (ci := 10) (v := .ref (b 32)) (C := RX10) (T := TX10) (N := 51) hx hb hts inw_X10_step_10 hown hK hP 0 rfl rfl 32 (by decide) (hts (.fieldLink RX10 78 "VatHouseModel" "other" "[I") (by decide +kernel)) (fun _ h9 => h9) rfl dX10_step_98 ?_
        refine lv_iload_n hx hb dX10_step_101 rfl (lv_at hl 0 rfl) ?_
        refine lv_iconst (v := (-1)) hx hb dX10_step_102 (by decide) ?_
        refine va_iast hx hb hK hP hD hS 22 21 rfl rfl (by assumption) dX10_step_103 (fun H locs hP hD hS => ?_)
        have hP : va_P (dC, dI) vwCl (mw g h0 b (va_up (va_up i 22 x22_1) 36 z_13) (va_up (va_up (va_up (va_up (va_up a 26 f_14) 27 f_15) 28 f_16) 31 f_17) 32 (upd (a 32) z_12.toNatClampNeg ((-1) : Int32)))) _ := hP
        have hD : va_D _ (mw g h0 b (va_up (va_up i 22 x22_1) 36 z_13) (va_up (va_up (va_up (va_up (va_up a 26 f_14) 27 f_15) 28 f_16) 31 f_17) 32 (upd (a 32) z_12.toNatClampNeg ((-1) : Int32)))) := hD
        obtain ⟨f_18, ef_18⟩ : ∃ z, z = (upd (a 32) z_12.toNatClampNeg ((-1) : Int32)) := ⟨_, rfl⟩
        rw [← ef_18] at hP hD
        refine lv_aload_n hx hb dX10_step_104 rfl (lv_at hl 2 rfl) ?_
        refine va_get (D := (dC, dI)) (ci := 10) (v := .ref (b 33)) (C := RX10) (T := TX10) (N := 51) hx hb hts inw_X10_step_10 hown hK hP 0 rfl rfl 33 (by decide) (hts (.fieldLink RX10 81 "VatHouseModel" "next" "[I") (by decide +kernel)) (fun _ h9 => h9) rfl dX10_step_105 ?_
        refine lv_iload_n hx hb dX10_step_108 rfl (lv_at hl 0 rfl) ?_
        refine lv_iconst (v := (-1)) hx hb dX10_step_109 (by decide) ?_
        refine va_iast hx hb hK hP hD hS 23 22 rfl rfl (by assumption) dX10_step_110 (fun H locs hP hD hS => ?_)
        have hP : va_P (dC, dI) vwCl (mw g h0 b (va_up (va_up i 22 x22_1) 36 z_13) (va_up (va_up (va_up (va_up (va_up (va_up a 26 f_14) 27 f_15) 28 f_16) 31 f_17) 32 f_18) 33 (upd (a 33) z_12.toNatClampNeg ((-1) : Int32)))) _ := hP
        have hD : va_D _ (mw g h0 b (va_up (va_up i 22 x22_1) 36 z_13) (va_up (va_up (va_up (va_up (va_up (va_up a 26 f_14) 27 f_15) 28 f_16) 31 f_17) 32 f_18) 33 (upd (a 33) z_12.toNatClampNeg ((-1) : Int32)))) := hD
        obtain ⟨f_19, ef_19⟩ : ∃ z, z = (upd (a 33) z_12.toNatClampNeg ((-1) : Int32)) := ⟨_, rfl⟩
        rw [← ef_19] at hP hD
        rw [← ef_14, ← ef_15, ← ef_17, ← ef_18, ← ef_19] at hp0
        have hpr_20 := PR.tr (PR.rf hPN) hp0
        refine lv_aload_n hx hb dX10_step_111 rfl (lv_at hl 2 rfl) ?_
        refine lv_iload_n hx hb dX10_step_112 rfl (lv_at hl 1 rfl) ?_
        obtain ⟨kq, hkq⟩ := cm_k hz_z_3 c_5
        have hqlt := (wd_at hkq.2.1 hkq.2.2).1
        refine M_V ⟨hx, hb, hml, hown, hts⟩ (m_X10_pass l dC dI sa g h0 b ln sq kq (va_up (va_up i 22 x22_1) 36 z_13) (va_up (va_up (va_up (va_up (va_up (va_up a 26 f_14) 27 f_15) 28 f_16) 31 f_17) 32 f_18) 33 f_19) z_3 _ hw_2 hkq) (cwV 1 hts gX10_step_X10_pass rfl rfl rfl (by decide +kernel) ⟨(by first | exact Nat.le_of_ble_eq_true rfl | (simp only [rm_X10_pass, rm_X10_step]; omega)), (by first | exact Nat.le_of_ble_eq_true rfl | (simp only [rm_X10_pass, rm_X10_step]; omega))⟩) hP hD hK hS hA hev rfl rfl rfl rfl hl.1 rfl (Nat.le_of_ble_eq_true rfl) dX10_step_113 ⟨(by first | exact Nat.le_of_ble_eq_true rfl | (simp only [rm_X10_step]; omega)), (by first | exact Nat.le_of_ble_eq_true rfl | (simp only [rm_X10_step]; omega))⟩ (fun r u H locs hw hP hD hS => ?_)
        obtain ⟨x22_21, rfl⟩ : ∃ z, z = u := ⟨_, rfl⟩
        have hw : (r = none) ∧ (x22_21 = nI (nx (a 19) ln sq.1)) := hw
        obtain ⟨rfl, hw_22⟩ := hw
        have hP : va_P (dC, dI) vwCl (mw g h0 b (va_up (va_up i 22 x22_21) 36 z_13) (va_up (va_up (va_up (va_up (va_up (va_up a 26 f_14) 27 f_15) 28 f_16) 31 f_17) 32 f_18) 33 f_19)) _ := hP
        have hD : va_D _ (mw g h0 b (va_up (va_up i 22 x22_21) 36 z_13) (va_up (va_up (va_up (va_up (va_up (va_up a 26 f_14) 27 f_15) 28 f_16) 31 f_17) 32 f_18) 33 f_19)) := hD
        refine W.eq (g2 := F0 m 116 ls []) rfl ?_
        have hmq_23 : MI (a 19) ln (gad (nq (a 19) ln) sq) x22_21 (i 23) (i 24) := (hmq_4).gad hqlt hw_22
        refine lv_aload_n hx hb dX10_step_116 rfl (lv_at hl 2 rfl) ?_
        refine lv_iload_n hx hb dX10_step_117 rfl (lv_at hl 0 rfl) ?_
        refine M_V ⟨hx, hb, hml, hown, hts⟩ (m_X10_rest l dC dI sa g h0 b j bl (va_up dp q bl) ln (gad (nq (a 19) ln) sq) (Kp (a 19) ln sq.1) (va_up (va_up i 22 x22_21) 36 z_13) (va_up (va_up (va_up (va_up (va_up (va_up a 26 f_14) 27 f_15) 28 f_16) 31 f_17) 32 f_18) 33 f_19) z_12 _ hL hmq_23 hg36 hp0.2.1 hBL hj (show sq.2.1 + 1 ≤ 300 by omega) (show ∃ q0 : Nat, z_12 = nI q0 ∧ PV z_13 q0 ∧ (va_up dp q bl) q0 = bl from ⟨q, hq, hVq, hdq⟩) (⟨by rw [ef_14]; exact (if_pos rfl).trans hw1, hrg.1, hrg.2⟩) IHS) (cwV 1 hts gX10_step_X10_rest rfl rfl rfl (by decide +kernel) ⟨(by first | exact Nat.le_of_ble_eq_true rfl | (simp only [rm_X10_rest, rm_X10_step]; omega)), (by first | exact Nat.le_of_ble_eq_true rfl | (simp only [rm_X10_rest, rm_X10_step]; omega))⟩) hP hD hK hS hA hev rfl rfl rfl rfl hl.1 rfl (Nat.le_of_ble_eq_true rfl) dX10_step_118 ⟨(by first | exact Nat.le_of_ble_eq_true rfl | (simp only [rm_X10_step]; omega)), (by first | exact Nat.le_of_ble_eq_true rfl | (simp only [rm_X10_step]; omega))⟩ (fun r u H locs hw hP hD hS => ?_)
        obtain ⟨x22_24, x23_25, x24_26, x25_27, x36_28, y26_29, y27_30, y28_31, y29_32, y30_33, y31_34, y32_35, y33_36⟩ := u
        have hw : ((r = some (.int 0) ∧ (∃ rn : SG, RSx (Kp (a 19) ln) (Vp (a 19) ln) (nq (a 19) ln) (Kp (a 19) ln sq.1) bl (gad (nq (a 19) ln) sq) rn ∧ MO rn x23_25 x24_26)) ∨ (r = some (.int 1) ∧ (∃ rn : SG, RSx (Kp (a 19) ln) (Vp (a 19) ln) (nq (a 19) ln) (Kp (a 19) ln sq.1) bl (gad (nq (a 19) ln) sq) rn ∧ MI (a 19) ln rn x22_24 x23_25 x24_26 ∧ x36_28 = nI rn.2.1))) ∧ (∃ dpN : Nat → Nat, PR z_13 x36_28 (va_up dp q bl) dpN f_14 f_15 f_17 f_18 f_19 y26_29 y27_30 y31_34 y32_35 y33_36) := hw
        obtain ⟨⟨rfl, hz2_38⟩ | ⟨rfl, hz2_38⟩, hw_37⟩ := hw
        · have hP : va_P (dC, dI) vwCl (mw g h0 b (va_up (va_up (va_up (va_up (va_up i 22 x22_24) 23 x23_25) 24 x24_26) 25 x25_27) 36 x36_28) (va_up (va_up (va_up (va_up (va_up (va_up (va_up (va_up a 26 y26_29) 27 y27_30) 28 y28_31) 29 y29_32) 30 y30_33) 31 y31_34) 32 y32_35) 33 y33_36)) _ := hP
          have hD : va_D _ (mw g h0 b (va_up (va_up (va_up (va_up (va_up i 22 x22_24) 23 x23_25) 24 x24_26) 25 x25_27) 36 x36_28) (va_up (va_up (va_up (va_up (va_up (va_up (va_up (va_up a 26 y26_29) 27 y27_30) 28 y28_31) 29 y29_32) 30 y30_33) 31 y31_34) 32 y32_35) 33 y33_36)) := hD
          refine W.eq (g2 := F0 m 121 ls [.int 0]) rfl ?_
          obtain ⟨dp_40, hPR_39⟩ := hw_37
          have hpr_42 := PR.tr hpr_20 hPR_39
          refine lv_if_eq (tgt := 128) hx hb dX10_step_121 (by decide) (fun _ => ?_) (fun c_43 => absurd c_43 (by decide))
          refine lv_iconst (v := (-1)) hx hb dX10_step_128 (by decide) ?_
          exact M_i hx hb hr hlocks (x22_24, x23_25, x24_26, x25_27, x36_28, y26_29, y27_30, y28_31, y29_32, y30_33, y31_34, y32_35, y33_36) hP hD hK hS ⟨⟨_, rfl⟩, ⟨dp_40, hpr_42, fun z9 h9 => Or.inl ⟨by cases h9; rfl, (by obtain ⟨rn, h1, h2⟩ := hz2_38; exact ⟨rn, Or.inl ⟨hrg, RSx.ev h300 h1⟩, h2⟩)⟩⟩⟩ (by first | exact Nat.le_of_ble_eq_true rfl | (simp only [rm_X10_step]; omega)) (by first | exact Nat.le_of_ble_eq_true rfl | (simp only [rm_X10_step]; omega)) dX10_step_129
        · have hP : va_P (dC, dI) vwCl (mw g h0 b (va_up (va_up (va_up (va_up (va_up i 22 x22_24) 23 x23_25) 24 x24_26) 25 x25_27) 36 x36_28) (va_up (va_up (va_up (va_up (va_up (va_up (va_up (va_up a 26 y26_29) 27 y27_30) 28 y28_31) 29 y29_32) 30 y30_33) 31 y31_34) 32 y32_35) 33 y33_36)) _ := hP
          have hD : va_D _ (mw g h0 b (va_up (va_up (va_up (va_up (va_up i 22 x22_24) 23 x23_25) 24 x24_26) 25 x25_27) 36 x36_28) (va_up (va_up (va_up (va_up (va_up (va_up (va_up (va_up a 26 y26_29) 27 y27_30) 28 y28_31) 29 y29_32) 30 y30_33) 31 y31_34) 32 y32_35) 33 y33_36)) := hD
          refine W.eq (g2 := F0 m 121 ls [.int 1]) rfl ?_
          obtain ⟨dp_45, hPR_44⟩ := hw_37
          have hpr_47 := PR.tr hpr_20 hPR_44
          refine lv_if_eq (tgt := 128) hx hb dX10_step_121 (by decide) (fun c_48 => absurd c_48 (by decide)) (fun _ => ?_)
          refine lv_iload_n hx hb dX10_step_124 rfl (lv_at hl 0 rfl) ?_
          refine lv_goto (tgt := 129) hx hb dX10_step_125 (by decide) ?_
          exact M_i hx hb hr hlocks (x22_24, x23_25, x24_26, x25_27, x36_28, y26_29, y27_30, y28_31, y29_32, y30_33, y31_34, y32_35, y33_36) hP hD hK hS ⟨⟨_, rfl⟩, ⟨dp_45, hpr_47, fun z9 h9 => by cases h9; exact Or.inr ⟨⟨q, hq, PR.nd hPR_44 hVq hdq⟩, by have := hPR_44.2.2.2; omega, by obtain ⟨rn, h1, h2, h3⟩ := hz2_38; exact ⟨rn, Or.inl ⟨hrg, RSx.ev h300 h1⟩, h2, h3⟩⟩⟩⟩ (by first | exact Nat.le_of_ble_eq_true rfl | (simp only [rm_X10_step]; omega)) (by first | exact Nat.le_of_ble_eq_true rfl | (simp only [rm_X10_step]; omega)) dX10_step_129
      · have nc_11 := eq_i c_11
        have lc_11 : (300 : Int32).toInt = 300 := by decide
        refine lv_aload_n hx hb dX10_step_38 rfl (lv_at hl 1 rfl) ?_
        refine lv_iconst (v := 2) hx hb dX10_step_39 (by decide) ?_
        refine lv_aload_n hx hb dX10_step_40 rfl (lv_at hl 1 rfl) ?_
        refine va_get (D := (dC, dI)) (ci := 10) (v := .int x22_1) (C := RX10) (T := TX10) (N := 51) hx hb hts inw_X10_step_10 hown hK hP 0 rfl rfl 22 (by decide) (hts (.fieldLink RX10 168 "VatHouseModel" "at" "I") (by decide +kernel)) (fun _ h9 => h9) rfl dX10_step_41 ?_
        refine M_V ⟨hx, hb, hml, hown, hts⟩ (m_X10_wrong l dC dI sa g h0 b (va_up i 22 x22_1) a (2 : Int32) x22_1 _ (hmq_4).1) (cwV 2 hts gX10_step_X10_wrong rfl rfl rfl (by decide +kernel) ⟨(by first | exact Nat.le_of_ble_eq_true rfl | (simp only [rm_X10_wrong, rm_X10_step]; omega)), (by first | exact Nat.le_of_ble_eq_true rfl | (simp only [rm_X10_wrong, rm_X10_step]; omega))⟩) hP hD hK hS hA hev rfl rfl rfl rfl hl.1 rfl (Nat.le_of_ble_eq_true rfl) dX10_step_44 ⟨(by first | exact Nat.le_of_ble_eq_true rfl | (simp only [rm_X10_step]; omega)), (by first | exact Nat.le_of_ble_eq_true rfl | (simp only [rm_X10_step]; omega))⟩ (fun r u H locs hw hP hD hS => ?_)
        obtain ⟨x23_49, x24_50⟩ := u
        have hw : ((r = some (.int 0) ∧ (x23_49 = (2 : Int32) ∧ x24_50 = x22_1)) ∨ (r = some (.int 1) ∧ (False))) ∧ (True) := hw
        obtain ⟨⟨rfl, hz2_52⟩ | ⟨rfl, hz2_52⟩, hw_51⟩ := hw
        · have hP : va_P (dC, dI) vwCl (mw g h0 b (va_up (va_up (va_up i 22 x22_1) 23 x23_49) 24 x24_50) a) _ := hP
          have hD : va_D _ (mw g h0 b (va_up (va_up (va_up i 22 x22_1) 23 x23_49) 24 x24_50) a) := hD
          refine W.eq (g2 := F0 m 47 ls [.int 0]) rfl ?_
          refine lv_pop hx hb dX10_step_47 rfl ?_
          refine lv_iconst (v := (-1)) hx hb dX10_step_48 (by decide) ?_
          exact M_i hx hb hr hlocks (x22_1, x23_49, x24_50, (i 25), (i 36), (a 26), (a 27), (a 28), (a 29), (a 30), (a 31), (a 32), (a 33)) hP hD hK hS ⟨⟨_, rfl⟩, ⟨dp, (PR.rf hPN), fun z9 h9 => Or.inl ⟨by cases h9; rfl, (hmq_4).st2 (d := bl) hrg hn36 hn3 c_11 hz2_52.1 (hz2_52.2.trans hw_2)⟩⟩⟩ (by first | exact Nat.le_of_ble_eq_true rfl | (simp only [rm_X10_step]; omega)) (by first | exact Nat.le_of_ble_eq_true rfl | (simp only [rm_X10_step]; omega)) dX10_step_49
        · have hP : va_P (dC, dI) vwCl (mw g h0 b (va_up (va_up (va_up i 22 x22_1) 23 x23_49) 24 x24_50) a) _ := hP
          have hD : va_D _ (mw g h0 b (va_up (va_up (va_up i 22 x22_1) 23 x23_49) 24 x24_50) a) := hD
          refine W.eq (g2 := F0 m 47 ls [.int 1]) rfl ?_
          exact hz2_52.elim
    · have nc_10 := nle_i c_10
      have lc_10 : (11 : Int32).toInt = 11 := by decide
      refine lv_aload_n hx hb dX10_step_16 rfl (lv_at hl 1 rfl) ?_
      refine lv_iconst (v := 1) hx hb dX10_step_17 (by decide) ?_
      refine lv_aload_n hx hb dX10_step_18 rfl (lv_at hl 1 rfl) ?_
      refine va_get (D := (dC, dI)) (ci := 10) (v := .int x22_1) (C := RX10) (T := TX10) (N := 51) hx hb hts inw_X10_step_10 hown hK hP 0 rfl rfl 22 (by decide) (hts (.fieldLink RX10 168 "VatHouseModel" "at" "I") (by decide +kernel)) (fun _ h9 => h9) rfl dX10_step_19 ?_
      refine M_V ⟨hx, hb, hml, hown, hts⟩ (m_X10_wrong l dC dI sa g h0 b (va_up i 22 x22_1) a (1 : Int32) x22_1 _ (hmq_4).1) (cwV 2 hts gX10_step_X10_wrong rfl rfl rfl (by decide +kernel) ⟨(by first | exact Nat.le_of_ble_eq_true rfl | (simp only [rm_X10_wrong, rm_X10_step]; omega)), (by first | exact Nat.le_of_ble_eq_true rfl | (simp only [rm_X10_wrong, rm_X10_step]; omega))⟩) hP hD hK hS hA hev rfl rfl rfl rfl hl.1 rfl (Nat.le_of_ble_eq_true rfl) dX10_step_22 ⟨(by first | exact Nat.le_of_ble_eq_true rfl | (simp only [rm_X10_step]; omega)), (by first | exact Nat.le_of_ble_eq_true rfl | (simp only [rm_X10_step]; omega))⟩ (fun r u H locs hw hP hD hS => ?_)
      obtain ⟨x23_53, x24_54⟩ := u
      have hw : ((r = some (.int 0) ∧ (x23_53 = (1 : Int32) ∧ x24_54 = x22_1)) ∨ (r = some (.int 1) ∧ (False))) ∧ (True) := hw
      obtain ⟨⟨rfl, hz2_56⟩ | ⟨rfl, hz2_56⟩, hw_55⟩ := hw
      · have hP : va_P (dC, dI) vwCl (mw g h0 b (va_up (va_up (va_up i 22 x22_1) 23 x23_53) 24 x24_54) a) _ := hP
        have hD : va_D _ (mw g h0 b (va_up (va_up (va_up i 22 x22_1) 23 x23_53) 24 x24_54) a) := hD
        refine W.eq (g2 := F0 m 25 ls [.int 0]) rfl ?_
        refine lv_pop hx hb dX10_step_25 rfl ?_
        refine lv_iconst (v := (-1)) hx hb dX10_step_26 (by decide) ?_
        exact M_i hx hb hr hlocks (x22_1, x23_53, x24_54, (i 25), (i 36), (a 26), (a 27), (a 28), (a 29), (a 30), (a 31), (a 32), (a 33)) hP hD hK hS ⟨⟨_, rfl⟩, ⟨dp, (PR.rf hPN), fun z9 h9 => Or.inl ⟨by cases h9; rfl, (hmq_4).st1 (d := bl) (st_no hz_z_3 (Or.inr c_10)) hz2_56.1 (hz2_56.2.trans hw_2)⟩⟩⟩ (by first | exact Nat.le_of_ble_eq_true rfl | (simp only [rm_X10_step]; omega)) (by first | exact Nat.le_of_ble_eq_true rfl | (simp only [rm_X10_step]; omega)) dX10_step_27
      · have hP : va_P (dC, dI) vwCl (mw g h0 b (va_up (va_up (va_up i 22 x22_1) 23 x23_53) 24 x24_54) a) _ := hP
        have hD : va_D _ (mw g h0 b (va_up (va_up (va_up i 22 x22_1) 23 x23_53) 24 x24_54) a) := hD
        refine W.eq (g2 := F0 m 25 ls [.int 1]) rfl ?_
        exact hz2_56.elim

section SST
variable {tt : Nat → Int32} {ln d : Nat} {q q1 rn : SG} {x22 x23 x24 y z c : Int32}
theorem SXx.n3 {K V : Nat → Int32} {N : Nat → Nat} (h : SXx K V N d q rn) (hn : q.2.1 ≤ 300) : rn.2.1 ≤ 300 := by
  rcases h with ⟨-, h⟩ | ⟨-, rfl⟩
  · exact h.nd.2.2 hn
  · exact hn
/-- a step fails, or none stands here -/
theorem ST.no (h : MI tt ln q1 x22 x23 x24) (hall : ∀ r : SG, Ev (Kp tt ln) (Vp tt ln) (nq tt ln) 0 d q1 r → Ev (Kp tt ln) (Vp tt ln) (nq tt ln) 0 d q r) (hc : ¬ Kp tt ln q1.1 = c) (hs : SXx (Kp tt ln) (Vp tt ln) (nq tt ln) d q1 rn) (hm : MO rn y z) : ∃ rn : SG, ST (Kp tt ln) (Vp tt ln) (nq tt ln) d c q rn ∧ MO rn y z := by
  rcases hs with ⟨h1, h2⟩ | ⟨h1, rfl⟩
  · refine ⟨rn, ⟨rn, hall _ (Ev.go ⟨h.2.1, h1⟩ h2 (Ev.fx0 hm.2.2.1)), (gpa_fx hm.2.2.1).symm⟩, hm⟩
  · refine ⟨gfl 1 q1, ⟨q1, hall _ (Ev.stop fun g => h1 g.2), ?_⟩, hm⟩
    unfold gpa
    rw [if_pos h.2.1, if_neg hc]
theorem ST.go (h : MI tt ln q1 x22 x23 x24) (hall : ∀ r : SG, Ev (Kp tt ln) (Vp tt ln) (nq tt ln) 0 d q1 r → Ev (Kp tt ln) (Vp tt ln) (nq tt ln) 0 d q r) (hs : SXx (Kp tt ln) (Vp tt ln) (nq tt ln) d q1 rn) (hm : rn.2.2.1 = 0) : ∀ r : SG, Ev (Kp tt ln) (Vp tt ln) (nq tt ln) 0 d rn r → Ev (Kp tt ln) (Vp tt ln) (nq tt ln) 0 d q r := by
  rcases hs with ⟨h1, h2⟩ | ⟨h1, rfl⟩
  · exact fun r hr => hall _ (Ev.go ⟨h.2.1, h1⟩ h2 hr)
  · exact absurd (show (1 : Int32) = 0 from hm) (by decide)
theorem ST.end1 (hall : ∀ r : SG, Ev (Kp tt ln) (Vp tt ln) (nq tt ln) 0 d q1 r → Ev (Kp tt ln) (Vp tt ln) (nq tt ln) 0 d q r) (hc : Kp tt ln q1.1 = 125) : ST (Kp tt ln) (Vp tt ln) (nq tt ln) d 125 q (gpa (Kp tt ln) (nq tt ln) 125 q1) := ⟨q1, hall _ (Ev.stop fun g => absurd (hc ▸ g.2) (by decide)), rfl⟩
theorem ST.end0 (h : MI tt ln q1 x22 x23 x24) (hall : ∀ r : SG, Ev (Kp tt ln) (Vp tt ln) (nq tt ln) 0 d q1 r → Ev (Kp tt ln) (Vp tt ln) (nq tt ln) 0 d q r) (hc : ln ≤ q1.1) : ST (Kp tt ln) (Vp tt ln) (nq tt ln) d 0 q (gpa (Kp tt ln) (nq tt ln) 0 q1) ∧ MI tt ln (gpa (Kp tt ln) (nq tt ln) 0 q1) x22 x23 x24 := by
  have hk : Kp tt ln q1.1 = 0 := Kp_0.mpr hc
  refine ⟨⟨q1, hall _ (Ev.stop fun g => absurd (hk ▸ g.2) (by decide)), rfl⟩, ?_⟩
  have e : gpa (Kp tt ln) (nq tt ln) 0 q1 = (q1.1, q1.2) := by
    unfold gpa nq
    rw [if_pos h.2.1, if_pos hk, if_neg (by omega)]
  rw [e]
  exact h
end SST

theorem inw_X10_steps_10 : ∀ w ∈ wsX100, w ∈ wsX10_steps := by decide +kernel
set_option maxHeartbeats 1000000 in
set_option maxRecDepth 100000 in
theorem m_X10_steps (l : Launch) (dC : Nat → ClassId) (dI : Nat → Nat → Nat) (sa : Nat → Nat) (g : Nat → Nat) (h0 : Nat) (b : Nat → Nat) (j : Nat) (bl : Nat) (dp : Nat → Nat) (ln : Nat) (sq : SG) (i : Nat → Int32) (a : Nat → Nat → Int32) (ib : Int32) (sz : Nat) (hL : (i 21) = nI ln ∧ ln ≤ 1500) (hM : MI (a 19) ln sq (i 22) (i 23) (i 24)) (hn36 : (i 36) = nI sq.2.1) (hPN : PN (i 36) dp (a 26) (a 27) (a 31) (a 32) (a 33)) (hBL : (i 38) = nI bl) (hj : bl + j = 8) (hn3 : sq.2.1 ≤ 300) (IHS : ∀ j' bl' : Nat, bl' + j' = 8 → j = j' + 1 → ∀ (dp : Nat → Nat) (ln : Nat) (sq : SG) (i : Nat → Int32) (a : Nat → Nat → Int32) (ib : Int32) (sz : Nat) (hL : (i 21) = nI ln ∧ ln ≤ 1500) (hM : MI (a 19) ln sq (i 22) (i 23) (i 24)) (hn36 : (i 36) = nI sq.2.1) (hPN : PN (i 36) dp (a 26) (a 27) (a 31) (a 32) (a 33)) (hBL : (i 38) = nI bl') (hn3 : sq.2.1 ≤ 300), CT l dC dI sa yX10_steps wsX10_steps (rm_X10_steps j' bl' dp ln sq) [.ref h0, .int ib] (mw g h0 b i a) (tyM g) sz (fun (r : Option Value) (u : Int32 × Int32 × Int32 × Int32 × Int32 × (Nat → Int32) × (Nat → Int32) × (Nat → Int32) × (Nat → Int32) × (Nat → Int32) × (Nat → Int32) × (Nat → Int32) × (Nat → Int32)) => match u with | (x22, x23, x24, x25, x36, y26, y27, y28, y29, y30, y31, y32, y33) => (∃ z : Int32, r = some (.int z)) ∧ (∃ dpN : Nat → Nat, PR (i 36) x36 dp dpN (a 26) (a 27) (a 31) (a 32) (a 33) y26 y27 y31 y32 y33 ∧ (∀ z : Int32, r = some (.int z) → (z = -2 ∧ ∃ rn : SG, ST (Kp (a 19) ln) (Vp (a 19) ln) (nq (a 19) ln) bl' (if ib = 0 then (0 : Int32) else 125) sq rn ∧ MO rn x23 x24) ∨ (lk (PV x36) dpN bl' z ∧ ∃ rn : SG, ST (Kp (a 19) ln) (Vp (a 19) ln) (nq (a 19) ln) bl' (if ib = 0 then (0 : Int32) else 125) sq rn ∧ MI (a 19) ln rn x22 x23 x24 ∧ x36 = nI rn.2.1)))) (fun (u : Int32 × Int32 × Int32 × Int32 × Int32 × (Nat → Int32) × (Nat → Int32) × (Nat → Int32) × (Nat → Int32) × (Nat → Int32) × (Nat → Int32) × (Nat → Int32) × (Nat → Int32)) => match u with | (x22, x23, x24, x25, x36, y26, y27, y28, y29, y30, y31, y32, y33) => mw g h0 b (va_up (va_up (va_up (va_up (va_up i 22 x22) 23 x23) 24 x24) 25 x25) 36 x36) (va_up (va_up (va_up (va_up (va_up (va_up (va_up (va_up a 26 y26) 27 y27) 28 y28) 29 y29) 30 y30) 31 y31) 32 y32) 33 y33)) (fun _ => []) 0 0) : CT l dC dI sa yX10_steps wsX10_steps (rm_X10_steps j bl dp ln sq) [.ref h0, .int ib] (mw g h0 b i a) (tyM g) sz (fun (r : Option Value) (u : Int32 × Int32 × Int32 × Int32 × Int32 × (Nat → Int32) × (Nat → Int32) × (Nat → Int32) × (Nat → Int32) × (Nat → Int32) × (Nat → Int32) × (Nat → Int32) × (Nat → Int32)) => match u with | (x22, x23, x24, x25, x36, y26, y27, y28, y29, y30, y31, y32, y33) => (∃ z : Int32, r = some (.int z)) ∧ (∃ dpN : Nat → Nat, PR (i 36) x36 dp dpN (a 26) (a 27) (a 31) (a 32) (a 33) y26 y27 y31 y32 y33 ∧ (∀ z : Int32, r = some (.int z) → (z = -2 ∧ ∃ rn : SG, ST (Kp (a 19) ln) (Vp (a 19) ln) (nq (a 19) ln) bl (if ib = 0 then (0 : Int32) else 125) sq rn ∧ MO rn x23 x24) ∨ (lk (PV x36) dpN bl z ∧ ∃ rn : SG, ST (Kp (a 19) ln) (Vp (a 19) ln) (nq (a 19) ln) bl (if ib = 0 then (0 : Int32) else 125) sq rn ∧ MI (a 19) ln rn x22 x23 x24 ∧ x36 = nI rn.2.1)))) (fun (u : Int32 × Int32 × Int32 × Int32 × Int32 × (Nat → Int32) × (Nat → Int32) × (Nat → Int32) × (Nat → Int32) × (Nat → Int32) × (Nat → Int32) × (Nat → Int32) × (Nat → Int32)) => match u with | (x22, x23, x24, x25, x36, y26, y27, y28, y29, y30, y31, y32, y33) => mw g h0 b (va_up (va_up (va_up (va_up (va_up i 22 x22) 23 x23) 24 x24) 25 x25) 36 x36) (va_up (va_up (va_up (va_up (va_up (va_up (va_up (va_up a 26 y26) 27 y27) 28 y28) 29 y29) 30 y30) 31 y31) 32 y32) 33 y33)) (fun _ => []) 0 0 := by
  refine CT.start (cc := cX10_steps) (maxL := 5) (ret := (some .int)) (by decide) rfl (Nat.le_of_ble_eq_true rfl) ?_
  intro p e s m below meth c ls hst hP hK hD hev hS hl
  obtain ⟨hx, hb, hr, hml, hts, hown, hlocks, hin⟩ := hst
  have hown : s.vm.findClass RX10 = some m.cls := hown
  have hA : ∀ q : Nat, s.heap.size ≤ q → va_A (mw g h0 b i a) s.heap.size q := fun _ h => Or.inr h
  have hl : lv_has ls 5 [(0, .ref h0), (1, .int ib)] := hl
  refine lv_iconst (v := (-1)) hx hb dX10_steps_0 (by decide) ?_
  refine lv_istore_n (lv' := [(2, .int (-1)), (0, .ref h0), (1, .int ib)]) hx hb dX10_steps_1 rfl hl (by decide) rfl (fun ls hl => ?_)
  refine lv_iconst (v := (-1)) hx hb dX10_steps_2 (by decide) ?_
  refine lv_istore_n (lv' := [(3, .int (-1)), (2, .int (-1)), (0, .ref h0), (1, .int ib)]) hx hb dX10_steps_3 rfl hl (by decide) rfl (fun ls hl => ?_)
  refine lv_aload_n hx hb dX10_steps_4 rfl (lv_at hl 2 rfl) ?_
  refine M_V ⟨hx, hb, hml, hown, hts⟩ (m_X10_skip l dC dI sa g h0 b ln sq i a  _ hL hM) (cwV 0 hts gX10_steps_X10_skip rfl rfl rfl (by decide +kernel) ⟨(by first | exact Nat.le_of_ble_eq_true rfl | (simp only [rm_X10_skip, rm_X10_steps]; omega)), (by first | exact Nat.le_of_ble_eq_true rfl | (simp only [rm_X10_skip, rm_X10_steps]; omega))⟩) hP hD hK hS hA hev rfl rfl rfl rfl hl.1 rfl (Nat.le_of_ble_eq_true rfl) dX10_steps_5 ⟨(by first | exact Nat.le_of_ble_eq_true rfl | (simp only [rm_X10_steps]; omega)), (by first | exact Nat.le_of_ble_eq_true rfl | (simp only [rm_X10_steps]; omega))⟩ (fun r u H locs hw hP hD hS => ?_)
  obtain ⟨x22_1, rfl⟩ : ∃ z, z = u := ⟨_, rfl⟩
  have hw : (r = none) ∧ (x22_1 = nI sq.1) := hw
  obtain ⟨rfl, hw_2⟩ := hw
  have hP : va_P (dC, dI) vwCl (mw g h0 b (va_up i 22 x22_1) a) _ := hP
  have hD : va_D _ (mw g h0 b (va_up i 22 x22_1) a) := hD
  refine W.eq (g2 := F0 m 8 ls []) rfl ?_
  have hmq_3 : MI (a 19) ln sq x22_1 (i 23) (i 24) := (hM).sk hw_2
  have lp : ∀ (n : Nat) (hh : Int32) (la : Int32) (l22 : Int32) (l23 : Int32) (l24 : Int32) (l25 : Int32) (l36 : Int32) (l26 : Nat → Int32) (l27 : Nat → Int32) (l28 : Nat → Int32) (l29 : Nat → Int32) (l30 : Nat → Int32) (l31 : Nat → Int32) (l32 : Nat → Int32) (l33 : Nat → Int32) (H : Heap) (locs : List Loc) (ls : Array Slot), ((300 - l36.toInt).toNat < n) → (∃ q1 : SG, MI (a 19) ln q1 l22 l23 l24 ∧ l22 = nI q1.1 ∧ (l36 = nI q1.2.1 ∧ q1.2.1 ≤ 300) ∧ ∀ r9 : SG, Ev (Kp (a 19) ln) (Vp (a 19) ln) (nq (a 19) ln) 0 bl q1 r9 → Ev (Kp (a 19) ln) (Vp (a 19) ln) (nq (a 19) ln) 0 bl sq r9) → (∃ dp1 : Nat → Nat, PR (i 36) l36 dp dp1 (a 26) (a 27) (a 31) (a 32) (a 33) l26 l27 l31 l32 l33 ∧ lk (PV l36) dp1 bl hh ∧ lk (PV l36) dp1 bl la) → va_P (dC, dI) vwCl (mw g h0 b (va_up (va_up (va_up (va_up (va_up i 22 l22) 23 l23) 24 l24) 25 l25) 36 l36) (va_up (va_up (va_up (va_up (va_up (va_up (va_up (va_up a 26 l26) 27 l27) 28 l28) 29 l29) 30 l30) 31 l31) 32 l32) 33 l33)) H → va_D (va_A (mw g h0 b i a) s.heap.size) (mw g h0 b (va_up (va_up (va_up (va_up (va_up i 22 l22) 23 l23) 24 l24) 25 l25) 36 l36) (va_up (va_up (va_up (va_up (va_up (va_up (va_up (va_up a 26 l26) 27 l27) 28 l28) 29 l29) 30 l30) 31 l31) 32 l32) 33 l33)) → va_S (va_A (mw g h0 b i a) s.heap.size) s.heap H locs → lv_has ls 5 [(2, .int hh), (3, .int la), (0, .ref h0), (1, .int ib)] → W p l e (rm_X10_steps j bl dp ln sq) s m [.ref h0, .int ib].toArray below meth c H locs 0 0 (MQ below (Qg (fun (r : Option Value) (u : Int32 × Int32 × Int32 × Int32 × Int32 × (Nat → Int32) × (Nat → Int32) × (Nat → Int32) × (Nat → Int32) × (Nat → Int32) × (Nat → Int32) × (Nat → Int32) × (Nat → Int32)) => match u with | (x22, x23, x24, x25, x36, y26, y27, y28, y29, y30, y31, y32, y33) => (∃ z : Int32, r = some (.int z)) ∧ (∃ dpN : Nat → Nat, PR (i 36) x36 dp dpN (a 26) (a 27) (a 31) (a 32) (a 33) y26 y27 y31 y32 y33 ∧ (∀ z : Int32, r = some (.int z) → (z = -2 ∧ ∃ rn : SG, ST (Kp (a 19) ln) (Vp (a 19) ln) (nq (a 19) ln) bl (if ib = 0 then (0 : Int32) else 125) sq rn ∧ MO rn x23 x24) ∨ (lk (PV x36) dpN bl z ∧ ∃ rn : SG, ST (Kp (a 19) ln) (Vp (a 19) ln) (nq (a 19) ln) bl (if ib = 0 then (0 : Int32) else 125) sq rn ∧ MI (a 19) ln rn x22 x23 x24 ∧ x36 = nI rn.2.1)))) (fun u t => QW dC dI (va_A (mw g h0 b i a) s.heap.size) ((fun (u : Int32 × Int32 × Int32 × Int32 × Int32 × (Nat → Int32) × (Nat → Int32) × (Nat → Int32) × (Nat → Int32) × (Nat → Int32) × (Nat → Int32) × (Nat → Int32) × (Nat → Int32)) => match u with | (x22, x23, x24, x25, x36, y26, y27, y28, y29, y30, y31, y32, y33) => mw g h0 b (va_up (va_up (va_up (va_up (va_up i 22 x22) 23 x23) 24 x24) 25 x25) 36 x36) (va_up (va_up (va_up (va_up (va_up (va_up (va_up (va_up a 26 y26) 27 y27) 28 y28) 29 y29) 30 y30) 31 y31) 32 y32) 33 y33)) u) [] t) (va_A (mw g h0 b i a) s.heap.size)) [.ref h0, .int ib].toArray s 0 0 (va_A (mw g h0 b i a) s.heap.size)) (F0 m 8 ls []) := by
    intro n
    induction n with
    | zero => intro hh la l22 l23 l24 l25 l36 l26 l27 l28 l29 l30 l31 l32 l33 H locs ls hm hR hpr hP hD hS hl; exact absurd hm (by omega)
    | succ n ih =>
      intro hh la l22 l23 l24 l25 l36 l26 l27 l28 l29 l30 l31 l32 l33 H locs ls hm hR hpr hP hD hS hl
      refine lv_iload_n hx hb dX10_steps_8 rfl (lv_at hl 3 rfl) ?_
      obtain ⟨dp1, hpr1, hlk1, hlk2⟩ := hpr
      obtain ⟨q1, hm1, hq1, ⟨h361, hb3⟩, hall⟩ := hR
      have hn31 : q1.2.1 ≤ 300 := hb3
      refine lv_if_eq (tgt := 24) hx hb dX10_steps_9 (by decide) (fun c_4 => ?_) (fun c_4 => ?_)
      · have nc_4 := eq_i c_4
        have lc_4 : (0 : Int32).toInt = 0 := by decide
        refine lv_aload_n hx hb dX10_steps_24 rfl (lv_at hl 2 rfl) ?_
        refine va_get (D := (dC, dI)) (ci := 10) (v := .int l22) (C := RX10) (T := TX10) (N := 51) hx hb hts inw_X10_steps_10 hown hK hP 0 rfl rfl 22 (by decide) (hts (.fieldLink RX10 168 "VatHouseModel" "at" "I") (by decide +kernel)) (fun _ h9 => h9) rfl dX10_steps_25 ?_
        refine lv_aload_n hx hb dX10_steps_28 rfl (lv_at hl 2 rfl) ?_
        refine va_get (D := (dC, dI)) (ci := 10) (v := .int (i 21)) (C := RX10) (T := TX10) (N := 51) hx hb hts inw_X10_steps_10 hown hK hP 0 rfl rfl 21 (by decide) (hts (.fieldLink RX10 171 "VatHouseModel" "size" "I") (by decide +kernel)) (fun _ h9 => h9) rfl dX10_steps_29 ?_
        refine lv_icmp_ge (tgt := 79) hx hb dX10_steps_32 (by decide) (fun c_5 => ?_) (fun c_5 => ?_)
        · have nc_5 := le_i c_5
          refine lv_iload_n hx hb dX10_steps_79 rfl (lv_at hl 3 rfl) ?_
          refine lv_if_eq (tgt := 93) hx hb dX10_steps_80 (by decide) (fun c_6 => ?_) (fun c_6 => ?_)
          · have nc_6 := eq_i c_6
            have lc_6 : (0 : Int32).toInt = 0 := by decide
            refine lv_iload_n hx hb dX10_steps_93 rfl (lv_at hl 0 rfl) ?_
            exact M_i hx hb hr hlocks (l22, l23, l24, l25, l36, l26, l27, l28, l29, l30, l31, l32, l33) hP hD hK hS ⟨⟨_, rfl⟩, ⟨dp1, hpr1, fun z9 h9 => by cases h9; have hend := ST.end0 hm1 hall (pl_ge hq1 hL.1 (by have := hm1.q.1; have := hL.2; omega) (by have := hL.2; omega) c_5); exact Or.inr ⟨hlk1, by rw [if_pos c_4]; exact ⟨_, hend.1, hend.2, by rw [gpa_nd]; exact h361⟩⟩⟩⟩ (by first | exact Nat.le_of_ble_eq_true rfl | (simp only [rm_X10_steps]; omega)) (by first | exact Nat.le_of_ble_eq_true rfl | (simp only [rm_X10_steps]; omega)) dX10_steps_94
          · have nc_6 := ne_i c_6
            have lc_6 : (0 : Int32).toInt = 0 := by decide
            exact absurd c_4 c_6
        · have nc_5 := nle_i c_5
          refine lv_aload_n hx hb dX10_steps_35 rfl (lv_at hl 2 rfl) ?_
          have hKc : ¬ Kp (a 19) ln q1.1 = 0 := fun h9 => absurd (Kp_0.mp h9) (Nat.not_le.mpr (pl_lt hq1 hL.1 (by have := hm1.q.1; have := hL.2; omega) (by have := hL.2; omega) c_5))
          refine M_V ⟨hx, hb, hml, hown, hts⟩ (m_X10_step l dC dI sa g h0 b j bl dp1 ln q1 (va_up (va_up (va_up (va_up (va_up i 22 l22) 23 l23) 24 l24) 25 l25) 36 l36) (va_up (va_up (va_up (va_up (va_up (va_up (va_up (va_up a 26 l26) 27 l27) 28 l28) 29 l29) 30 l30) 31 l31) 32 l32) 33 l33)  _ hL hm1 h361 hpr1.2.1 hBL hj hn31 IHS) (cwV 0 hts gX10_steps_X10_step rfl rfl rfl (by decide +kernel) ⟨(by first | exact Nat.le_of_ble_eq_true rfl | (simp only [rm_X10_step, rm_X10_steps]; omega)), (by first | exact Nat.le_of_ble_eq_true rfl | (simp only [rm_X10_step, rm_X10_steps]; omega))⟩) hP hD hK hS hA hev rfl rfl rfl rfl hl.1 rfl (Nat.le_of_ble_eq_true rfl) dX10_steps_36 ⟨(by first | exact Nat.le_of_ble_eq_true rfl | (simp only [rm_X10_steps]; omega)), (by first | exact Nat.le_of_ble_eq_true rfl | (simp only [rm_X10_steps]; omega))⟩ (fun r u H locs hw hP hD hS => ?_)
          obtain ⟨x22_7, x23_8, x24_9, x25_10, x36_11, y26_12, y27_13, y28_14, y29_15, y30_16, y31_17, y32_18, y33_19⟩ := u
          have hw : (∃ z : Int32, r = some (.int z)) ∧ (∃ dpN : Nat → Nat, PR l36 x36_11 dp1 dpN l26 l27 l31 l32 l33 y26_12 y27_13 y31_17 y32_18 y33_19 ∧ (∀ z : Int32, r = some (.int z) → (z = -1 ∧ ∃ rn : SG, SXx (Kp (a 19) ln) (Vp (a 19) ln) (nq (a 19) ln) bl q1 rn ∧ MO rn x23_8 x24_9) ∨ ((∃ q : Nat, z = nI q ∧ PV x36_11 q ∧ dpN q = bl) ∧ l36.toInt < x36_11.toInt ∧ ∃ rn : SG, SXx (Kp (a 19) ln) (Vp (a 19) ln) (nq (a 19) ln) bl q1 rn ∧ MI (a 19) ln rn x22_7 x23_8 x24_9 ∧ x36_11 = nI rn.2.1))) := hw
          obtain ⟨⟨z_21, rfl⟩, hw_20⟩ := hw
          have hP : va_P (dC, dI) vwCl (mw g h0 b (va_up (va_up (va_up (va_up (va_up i 22 x22_7) 23 x23_8) 24 x24_9) 25 x25_10) 36 x36_11) (va_up (va_up (va_up (va_up (va_up (va_up (va_up (va_up a 26 y26_12) 27 y27_13) 28 y28_14) 29 y29_15) 30 y30_16) 31 y31_17) 32 y32_18) 33 y33_19)) _ := hP
          have hD : va_D _ (mw g h0 b (va_up (va_up (va_up (va_up (va_up i 22 x22_7) 23 x23_8) 24 x24_9) 25 x25_10) 36 x36_11) (va_up (va_up (va_up (va_up (va_up (va_up (va_up (va_up a 26 y26_12) 27 y27_13) 28 y28_14) 29 y29_15) 30 y30_16) 31 y31_17) 32 y32_18) 33 y33_19)) := hD
          refine W.eq (g2 := F0 m 39 ls [.int z_21]) rfl ?_
          obtain ⟨dp_23, hPR_22, hres_24⟩ := hw_20
          have hres_24 := hres_24 _ rfl
          have hpr_25 := PR.tr hpr1 hPR_22
          refine lv_istore (lv' := [(4, .int z_21), (2, .int hh), (3, .int la), (0, .ref h0), (1, .int ib)]) hx hb dX10_steps_39 hl (by decide) rfl (fun ls hl => ?_)
          refine lv_iload hx hb dX10_steps_41 (lv_at hl 0 rfl) ?_
          refine lv_iconst (v := (-1)) hx hb dX10_steps_43 (by decide) ?_
          refine lv_icmp_ne (tgt := 50) hx hb dX10_steps_44 (by decide) (fun c_26 => ?_) (fun c_26 => ?_)
          · have nc_26 := ne_i c_26
            have lc_26 : ((-1) : Int32).toInt = -1 := by decide
            obtain ⟨⟨qk, hk1, hk2, hk3⟩, hlt, rn, hsx, hmr, h36r⟩ := hres_24.resolve_left (fun h9 => c_26 h9.1)
            have h300 := hPR_22.2.1.2.1
            refine lv_iload_n hx hb dX10_steps_50 rfl (lv_at hl 2 rfl) ?_
            refine lv_iconst (v := (-1)) hx hb dX10_steps_51 (by decide) ?_
            refine lv_icmp_ne (tgt := 61) hx hb dX10_steps_52 (by decide) (fun c_27 => ?_) (fun c_27 => ?_)
            · have nc_27 := ne_i c_27
              have lc_27 : ((-1) : Int32).toInt = -1 := by decide
              obtain ⟨ql, hl1, hl2, hl3⟩ := hlk2.node c_27
              have hndl := PR.nd hPR_22 hl2 hl3
              have hkl : vp_in la 2700 := lk.in hpr1.2.1.2.2 hlk2 c_27
              refine lv_aload_n hx hb dX10_steps_61 rfl (lv_at hl 3 rfl) ?_
              refine va_get (D := (dC, dI)) (ci := 10) (v := .ref (b 33)) (C := RX10) (T := TX10) (N := 51) hx hb hts inw_X10_steps_10 hown hK hP 0 rfl rfl 33 (by decide) (hts (.fieldLink RX10 81 "VatHouseModel" "next" "[I") (by decide +kernel)) (fun _ h9 => h9) rfl dX10_steps_62 ?_
              refine lv_iload_n hx hb dX10_steps_65 rfl (lv_at hl 2 rfl) ?_
              refine lv_iload hx hb dX10_steps_66 (lv_at hl 0 rfl) ?_
              refine va_iast hx hb hK hP hD hS 23 22 rfl rfl (by assumption) dX10_steps_68 (fun H locs hP hD hS => ?_)
              have hP : va_P (dC, dI) vwCl (mw g h0 b (va_up (va_up (va_up (va_up (va_up i 22 x22_7) 23 x23_8) 24 x24_9) 25 x25_10) 36 x36_11) (va_up (va_up (va_up (va_up (va_up (va_up (va_up (va_up a 26 y26_12) 27 y27_13) 28 y28_14) 29 y29_15) 30 y30_16) 31 y31_17) 32 y32_18) 33 (upd y33_19 la.toNatClampNeg z_21))) _ := hP
              have hD : va_D _ (mw g h0 b (va_up (va_up (va_up (va_up (va_up i 22 x22_7) 23 x23_8) 24 x24_9) 25 x25_10) 36 x36_11) (va_up (va_up (va_up (va_up (va_up (va_up (va_up (va_up a 26 y26_12) 27 y27_13) 28 y28_14) 29 y29_15) 30 y30_16) 31 y31_17) 32 y32_18) 33 (upd y33_19 la.toNatClampNeg z_21))) := hD
              obtain ⟨f_28, ef_28⟩ : ∃ z, z = (upd y33_19 la.toNatClampNeg z_21) := ⟨_, rfl⟩
              rw [← ef_28] at hP hD
              have hpn := PN.next hPR_22.2.1 hl1 hndl.1 (Or.inr ⟨qk, hk1, hk2, hk3.trans hndl.2.symm⟩)
              rw [← ef_28] at hpn
              have hpr_29 := PR.tr hpr_25 hpn
              refine lv_iload hx hb dX10_steps_69 (lv_at hl 0 rfl) ?_
              refine lv_istore_n (lv' := [(3, .int z_21), (4, .int z_21), (2, .int hh), (0, .ref h0), (1, .int ib)]) hx hb dX10_steps_71 rfl hl (by decide) rfl (fun ls hl => ?_)
              refine lv_aload_n hx hb dX10_steps_72 rfl (lv_at hl 3 rfl) ?_
              refine M_V ⟨hx, hb, hml, hown, hts⟩ (m_X10_skip l dC dI sa g h0 b ln rn (va_up (va_up (va_up (va_up (va_up i 22 x22_7) 23 x23_8) 24 x24_9) 25 x25_10) 36 x36_11) (va_up (va_up (va_up (va_up (va_up (va_up (va_up (va_up a 26 y26_12) 27 y27_13) 28 y28_14) 29 y29_15) 30 y30_16) 31 y31_17) 32 y32_18) 33 f_28)  _ hL hmr) (cwV 0 hts gX10_steps_X10_skip rfl rfl rfl (by decide +kernel) ⟨(by first | exact Nat.le_of_ble_eq_true rfl | (simp only [rm_X10_skip, rm_X10_steps]; omega)), (by first | exact Nat.le_of_ble_eq_true rfl | (simp only [rm_X10_skip, rm_X10_steps]; omega))⟩) hP hD hK hS hA hev rfl rfl rfl rfl hl.1 rfl (Nat.le_of_ble_eq_true rfl) dX10_steps_73 ⟨(by first | exact Nat.le_of_ble_eq_true rfl | (simp only [rm_X10_steps]; omega)), (by first | exact Nat.le_of_ble_eq_true rfl | (simp only [rm_X10_steps]; omega))⟩ (fun r u H locs hw hP hD hS => ?_)
              obtain ⟨x22_30, rfl⟩ : ∃ z, z = u := ⟨_, rfl⟩
              have hw : (r = none) ∧ (x22_30 = nI rn.1) := hw
              obtain ⟨rfl, hw_31⟩ := hw
              have hP : va_P (dC, dI) vwCl (mw g h0 b (va_up (va_up (va_up (va_up (va_up i 22 x22_30) 23 x23_8) 24 x24_9) 25 x25_10) 36 x36_11) (va_up (va_up (va_up (va_up (va_up (va_up (va_up (va_up a 26 y26_12) 27 y27_13) 28 y28_14) 29 y29_15) 30 y30_16) 31 y31_17) 32 y32_18) 33 f_28)) _ := hP
              have hD : va_D _ (mw g h0 b (va_up (va_up (va_up (va_up (va_up i 22 x22_30) 23 x23_8) 24 x24_9) 25 x25_10) 36 x36_11) (va_up (va_up (va_up (va_up (va_up (va_up (va_up (va_up a 26 y26_12) 27 y27_13) 28 y28_14) 29 y29_15) 30 y30_16) 31 y31_17) 32 y32_18) 33 f_28)) := hD
              refine W.eq (g2 := F0 m 76 ls []) rfl ?_
              have hmq_32 : MI (a 19) ln rn x22_30 x23_8 x24_9 := (hmr).sk hw_31
              refine lv_goto (tgt := 8) hx hb dX10_steps_76 (by decide) ?_
              exact ih hh z_21 x22_30 x23_8 x24_9 x25_10 x36_11 y26_12 y27_13 y28_14 y29_15 y30_16 y31_17 y32_18 f_28 _ _ _ (nx300 hm hlt h300) (⟨rn, hmq_32, hw_31, ⟨h36r, SXx.n3 hsx hb3⟩, ST.go hm1 hall hsx hmr.2.1⟩) (⟨dp_23, hpr_29, PR.lk hPR_22 hlk1, (Or.inr ⟨qk, hk1, hk2, hk3⟩)⟩) hP hD hS (lv_sub hl [2, 0, 3, 4] rfl)
            · have nc_27 := eq_i c_27
              have lc_27 : ((-1) : Int32).toInt = -1 := by decide
              refine lv_iload hx hb dX10_steps_55 (lv_at hl 0 rfl) ?_
              refine lv_istore_n (lv' := [(2, .int z_21), (4, .int z_21), (3, .int la), (0, .ref h0), (1, .int ib)]) hx hb dX10_steps_57 rfl hl (by decide) rfl (fun ls hl => ?_)
              refine lv_goto (tgt := 69) hx hb dX10_steps_58 (by decide) ?_
              refine lv_iload hx hb dX10_steps_69 (lv_at hl 1 rfl) ?_
              refine lv_istore_n (lv' := [(3, .int z_21), (2, .int z_21), (4, .int z_21), (0, .ref h0), (1, .int ib)]) hx hb dX10_steps_71 rfl hl (by decide) rfl (fun ls hl => ?_)
              refine lv_aload_n hx hb dX10_steps_72 rfl (lv_at hl 3 rfl) ?_
              refine M_V ⟨hx, hb, hml, hown, hts⟩ (m_X10_skip l dC dI sa g h0 b ln rn (va_up (va_up (va_up (va_up (va_up i 22 x22_7) 23 x23_8) 24 x24_9) 25 x25_10) 36 x36_11) (va_up (va_up (va_up (va_up (va_up (va_up (va_up (va_up a 26 y26_12) 27 y27_13) 28 y28_14) 29 y29_15) 30 y30_16) 31 y31_17) 32 y32_18) 33 y33_19)  _ hL hmr) (cwV 0 hts gX10_steps_X10_skip rfl rfl rfl (by decide +kernel) ⟨(by first | exact Nat.le_of_ble_eq_true rfl | (simp only [rm_X10_skip, rm_X10_steps]; omega)), (by first | exact Nat.le_of_ble_eq_true rfl | (simp only [rm_X10_skip, rm_X10_steps]; omega))⟩) hP hD hK hS hA hev rfl rfl rfl rfl hl.1 rfl (Nat.le_of_ble_eq_true rfl) dX10_steps_73 ⟨(by first | exact Nat.le_of_ble_eq_true rfl | (simp only [rm_X10_steps]; omega)), (by first | exact Nat.le_of_ble_eq_true rfl | (simp only [rm_X10_steps]; omega))⟩ (fun r u H locs hw hP hD hS => ?_)
              obtain ⟨x22_33, rfl⟩ : ∃ z, z = u := ⟨_, rfl⟩
              have hw : (r = none) ∧ (x22_33 = nI rn.1) := hw
              obtain ⟨rfl, hw_34⟩ := hw
              have hP : va_P (dC, dI) vwCl (mw g h0 b (va_up (va_up (va_up (va_up (va_up i 22 x22_33) 23 x23_8) 24 x24_9) 25 x25_10) 36 x36_11) (va_up (va_up (va_up (va_up (va_up (va_up (va_up (va_up a 26 y26_12) 27 y27_13) 28 y28_14) 29 y29_15) 30 y30_16) 31 y31_17) 32 y32_18) 33 y33_19)) _ := hP
              have hD : va_D _ (mw g h0 b (va_up (va_up (va_up (va_up (va_up i 22 x22_33) 23 x23_8) 24 x24_9) 25 x25_10) 36 x36_11) (va_up (va_up (va_up (va_up (va_up (va_up (va_up (va_up a 26 y26_12) 27 y27_13) 28 y28_14) 29 y29_15) 30 y30_16) 31 y31_17) 32 y32_18) 33 y33_19)) := hD
              refine W.eq (g2 := F0 m 76 ls []) rfl ?_
              have hmq_35 : MI (a 19) ln rn x22_33 x23_8 x24_9 := (hmr).sk hw_34
              refine lv_goto (tgt := 8) hx hb dX10_steps_76 (by decide) ?_
              exact ih z_21 z_21 x22_33 x23_8 x24_9 x25_10 x36_11 y26_12 y27_13 y28_14 y29_15 y30_16 y31_17 y32_18 y33_19 _ _ _ (nx300 hm hlt h300) (⟨rn, hmq_35, hw_34, ⟨h36r, SXx.n3 hsx hb3⟩, ST.go hm1 hall hsx hmr.2.1⟩) (⟨dp_23, hpr_25, (Or.inr ⟨qk, hk1, hk2, hk3⟩), (Or.inr ⟨qk, hk1, hk2, hk3⟩)⟩) hP hD hS (lv_sub hl [1, 0, 3, 4] rfl)
          · have nc_26 := eq_i c_26
            have lc_26 : ((-1) : Int32).toInt = -1 := by decide
            refine lv_bipush (v := (-2)) hx hb dX10_steps_47 (by decide) ?_
            exact M_i hx hb hr hlocks (x22_7, x23_8, x24_9, x25_10, x36_11, y26_12, y27_13, y28_14, y29_15, y30_16, y31_17, y32_18, y33_19) hP hD hK hS ⟨⟨_, rfl⟩, ⟨dp_23, hpr_25, fun z9 h9 => Or.inl ⟨by cases h9; rfl, by rw [if_pos c_4]; rcases hres_24 with ⟨-, rn, h1, h2⟩ | ⟨⟨q9, g1, g2, g3⟩, -⟩; exact ST.no hm1 hall hKc h1 h2; exact absurd c_26 (nq_ne g1 g2 hPR_22.2.1.2.1).1⟩⟩⟩ (by first | exact Nat.le_of_ble_eq_true rfl | (simp only [rm_X10_steps]; omega)) (by first | exact Nat.le_of_ble_eq_true rfl | (simp only [rm_X10_steps]; omega)) dX10_steps_49
      · have nc_4 := ne_i c_4
        have lc_4 : (0 : Int32).toInt = 0 := by decide
        refine lv_aload_n hx hb dX10_steps_12 rfl (lv_at hl 2 rfl) ?_
        refine lv_bipush (v := 125) hx hb dX10_steps_13 (by decide) ?_
        refine M_V ⟨hx, hb, hml, hown, hts⟩ (m_X10_isSign l dC dI sa g h0 b ln q1 (va_up (va_up (va_up (va_up (va_up i 22 l22) 23 l23) 24 l24) 25 l25) 36 l36) (va_up (va_up (va_up (va_up (va_up (va_up (va_up (va_up a 26 l26) 27 l27) 28 l28) 29 l29) 30 l30) 31 l31) 32 l32) 33 l33) (125 : Int32) _ hL hm1 (by decide)) (cwV 1 hts gX10_steps_X10_isSign rfl rfl rfl (by decide +kernel) ⟨(by first | exact Nat.le_of_ble_eq_true rfl | (simp only [rm_X10_isSign, rm_X10_steps]; omega)), (by first | exact Nat.le_of_ble_eq_true rfl | (simp only [rm_X10_isSign, rm_X10_steps]; omega))⟩) hP hD hK hS hA hev rfl rfl rfl rfl hl.1 rfl (Nat.le_of_ble_eq_true rfl) dX10_steps_15 ⟨(by first | exact Nat.le_of_ble_eq_true rfl | (simp only [rm_X10_steps]; omega)), (by first | exact Nat.le_of_ble_eq_true rfl | (simp only [rm_X10_steps]; omega))⟩ (fun r u H locs hw hP hD hS => ?_)
        obtain ⟨x22_36, rfl⟩ : ∃ z, z = u := ⟨_, rfl⟩
        have hw : ((r = some (.int 0) ∧ (¬ Kp (a 19) ln q1.1 = (125 : Int32))) ∨ (r = some (.int 1) ∧ (q1.1 < ln ∧ Kp (a 19) ln q1.1 = (125 : Int32)))) ∧ (x22_36 = nI q1.1) := hw
        obtain ⟨⟨rfl, hz2_38⟩ | ⟨rfl, hz2_38⟩, hw_37⟩ := hw
        · have hP : va_P (dC, dI) vwCl (mw g h0 b (va_up (va_up (va_up (va_up (va_up i 22 x22_36) 23 l23) 24 l24) 25 l25) 36 l36) (va_up (va_up (va_up (va_up (va_up (va_up (va_up (va_up a 26 l26) 27 l27) 28 l28) 29 l29) 30 l30) 31 l31) 32 l32) 33 l33)) _ := hP
          have hD : va_D _ (mw g h0 b (va_up (va_up (va_up (va_up (va_up i 22 x22_36) 23 l23) 24 l24) 25 l25) 36 l36) (va_up (va_up (va_up (va_up (va_up (va_up (va_up (va_up a 26 l26) 27 l27) 28 l28) 29 l29) 30 l30) 31 l31) 32 l32) 33 l33)) := hD
          refine W.eq (g2 := F0 m 18 ls [.int 0]) rfl ?_
          have hmq_39 : MI (a 19) ln q1 x22_36 l23 l24 := (hm1).sk hw_37
          refine lv_if_ne (tgt := 79) hx hb dX10_steps_18 (by decide) (fun c_40 => absurd c_40 (by decide)) (fun _ => ?_)
          refine lv_goto (tgt := 35) hx hb dX10_steps_21 (by decide) ?_
          refine lv_aload_n hx hb dX10_steps_35 rfl (lv_at hl 2 rfl) ?_
          have hKc : ¬ Kp (a 19) ln q1.1 = 125 := hz2_38
          refine M_V ⟨hx, hb, hml, hown, hts⟩ (m_X10_step l dC dI sa g h0 b j bl dp1 ln q1 (va_up (va_up (va_up (va_up (va_up i 22 x22_36) 23 l23) 24 l24) 25 l25) 36 l36) (va_up (va_up (va_up (va_up (va_up (va_up (va_up (va_up a 26 l26) 27 l27) 28 l28) 29 l29) 30 l30) 31 l31) 32 l32) 33 l33)  _ hL hmq_39 h361 hpr1.2.1 hBL hj hn31 IHS) (cwV 0 hts gX10_steps_X10_step rfl rfl rfl (by decide +kernel) ⟨(by first | exact Nat.le_of_ble_eq_true rfl | (simp only [rm_X10_step, rm_X10_steps]; omega)), (by first | exact Nat.le_of_ble_eq_true rfl | (simp only [rm_X10_step, rm_X10_steps]; omega))⟩) hP hD hK hS hA hev rfl rfl rfl rfl hl.1 rfl (Nat.le_of_ble_eq_true rfl) dX10_steps_36 ⟨(by first | exact Nat.le_of_ble_eq_true rfl | (simp only [rm_X10_steps]; omega)), (by first | exact Nat.le_of_ble_eq_true rfl | (simp only [rm_X10_steps]; omega))⟩ (fun r u H locs hw hP hD hS => ?_)
          obtain ⟨x22_41, x23_42, x24_43, x25_44, x36_45, y26_46, y27_47, y28_48, y29_49, y30_50, y31_51, y32_52, y33_53⟩ := u
          have hw : (∃ z : Int32, r = some (.int z)) ∧ (∃ dpN : Nat → Nat, PR l36 x36_45 dp1 dpN l26 l27 l31 l32 l33 y26_46 y27_47 y31_51 y32_52 y33_53 ∧ (∀ z : Int32, r = some (.int z) → (z = -1 ∧ ∃ rn : SG, SXx (Kp (a 19) ln) (Vp (a 19) ln) (nq (a 19) ln) bl q1 rn ∧ MO rn x23_42 x24_43) ∨ ((∃ q : Nat, z = nI q ∧ PV x36_45 q ∧ dpN q = bl) ∧ l36.toInt < x36_45.toInt ∧ ∃ rn : SG, SXx (Kp (a 19) ln) (Vp (a 19) ln) (nq (a 19) ln) bl q1 rn ∧ MI (a 19) ln rn x22_41 x23_42 x24_43 ∧ x36_45 = nI rn.2.1))) := hw
          obtain ⟨⟨z_55, rfl⟩, hw_54⟩ := hw
          have hP : va_P (dC, dI) vwCl (mw g h0 b (va_up (va_up (va_up (va_up (va_up i 22 x22_41) 23 x23_42) 24 x24_43) 25 x25_44) 36 x36_45) (va_up (va_up (va_up (va_up (va_up (va_up (va_up (va_up a 26 y26_46) 27 y27_47) 28 y28_48) 29 y29_49) 30 y30_50) 31 y31_51) 32 y32_52) 33 y33_53)) _ := hP
          have hD : va_D _ (mw g h0 b (va_up (va_up (va_up (va_up (va_up i 22 x22_41) 23 x23_42) 24 x24_43) 25 x25_44) 36 x36_45) (va_up (va_up (va_up (va_up (va_up (va_up (va_up (va_up a 26 y26_46) 27 y27_47) 28 y28_48) 29 y29_49) 30 y30_50) 31 y31_51) 32 y32_52) 33 y33_53)) := hD
          refine W.eq (g2 := F0 m 39 ls [.int z_55]) rfl ?_
          obtain ⟨dp_57, hPR_56, hres_58⟩ := hw_54
          have hres_58 := hres_58 _ rfl
          have hpr_59 := PR.tr hpr1 hPR_56
          refine lv_istore (lv' := [(4, .int z_55), (2, .int hh), (3, .int la), (0, .ref h0), (1, .int ib)]) hx hb dX10_steps_39 hl (by decide) rfl (fun ls hl => ?_)
          refine lv_iload hx hb dX10_steps_41 (lv_at hl 0 rfl) ?_
          refine lv_iconst (v := (-1)) hx hb dX10_steps_43 (by decide) ?_
          refine lv_icmp_ne (tgt := 50) hx hb dX10_steps_44 (by decide) (fun c_60 => ?_) (fun c_60 => ?_)
          · have nc_60 := ne_i c_60
            have lc_60 : ((-1) : Int32).toInt = -1 := by decide
            obtain ⟨⟨qk, hk1, hk2, hk3⟩, hlt, rn, hsx, hmr, h36r⟩ := hres_58.resolve_left (fun h9 => c_60 h9.1)
            have h300 := hPR_56.2.1.2.1
            refine lv_iload_n hx hb dX10_steps_50 rfl (lv_at hl 2 rfl) ?_
            refine lv_iconst (v := (-1)) hx hb dX10_steps_51 (by decide) ?_
            refine lv_icmp_ne (tgt := 61) hx hb dX10_steps_52 (by decide) (fun c_61 => ?_) (fun c_61 => ?_)
            · have nc_61 := ne_i c_61
              have lc_61 : ((-1) : Int32).toInt = -1 := by decide
              obtain ⟨ql, hl1, hl2, hl3⟩ := hlk2.node c_61
              have hndl := PR.nd hPR_56 hl2 hl3
              have hkl : vp_in la 2700 := lk.in hpr1.2.1.2.2 hlk2 c_61
              refine lv_aload_n hx hb dX10_steps_61 rfl (lv_at hl 3 rfl) ?_
              refine va_get (D := (dC, dI)) (ci := 10) (v := .ref (b 33)) (C := RX10) (T := TX10) (N := 51) hx hb hts inw_X10_steps_10 hown hK hP 0 rfl rfl 33 (by decide) (hts (.fieldLink RX10 81 "VatHouseModel" "next" "[I") (by decide +kernel)) (fun _ h9 => h9) rfl dX10_steps_62 ?_
              refine lv_iload_n hx hb dX10_steps_65 rfl (lv_at hl 2 rfl) ?_
              refine lv_iload hx hb dX10_steps_66 (lv_at hl 0 rfl) ?_
              refine va_iast hx hb hK hP hD hS 23 22 rfl rfl (by assumption) dX10_steps_68 (fun H locs hP hD hS => ?_)
              have hP : va_P (dC, dI) vwCl (mw g h0 b (va_up (va_up (va_up (va_up (va_up i 22 x22_41) 23 x23_42) 24 x24_43) 25 x25_44) 36 x36_45) (va_up (va_up (va_up (va_up (va_up (va_up (va_up (va_up a 26 y26_46) 27 y27_47) 28 y28_48) 29 y29_49) 30 y30_50) 31 y31_51) 32 y32_52) 33 (upd y33_53 la.toNatClampNeg z_55))) _ := hP
              have hD : va_D _ (mw g h0 b (va_up (va_up (va_up (va_up (va_up i 22 x22_41) 23 x23_42) 24 x24_43) 25 x25_44) 36 x36_45) (va_up (va_up (va_up (va_up (va_up (va_up (va_up (va_up a 26 y26_46) 27 y27_47) 28 y28_48) 29 y29_49) 30 y30_50) 31 y31_51) 32 y32_52) 33 (upd y33_53 la.toNatClampNeg z_55))) := hD
              obtain ⟨f_62, ef_62⟩ : ∃ z, z = (upd y33_53 la.toNatClampNeg z_55) := ⟨_, rfl⟩
              rw [← ef_62] at hP hD
              have hpn := PN.next hPR_56.2.1 hl1 hndl.1 (Or.inr ⟨qk, hk1, hk2, hk3.trans hndl.2.symm⟩)
              rw [← ef_62] at hpn
              have hpr_63 := PR.tr hpr_59 hpn
              refine lv_iload hx hb dX10_steps_69 (lv_at hl 0 rfl) ?_
              refine lv_istore_n (lv' := [(3, .int z_55), (4, .int z_55), (2, .int hh), (0, .ref h0), (1, .int ib)]) hx hb dX10_steps_71 rfl hl (by decide) rfl (fun ls hl => ?_)
              refine lv_aload_n hx hb dX10_steps_72 rfl (lv_at hl 3 rfl) ?_
              refine M_V ⟨hx, hb, hml, hown, hts⟩ (m_X10_skip l dC dI sa g h0 b ln rn (va_up (va_up (va_up (va_up (va_up i 22 x22_41) 23 x23_42) 24 x24_43) 25 x25_44) 36 x36_45) (va_up (va_up (va_up (va_up (va_up (va_up (va_up (va_up a 26 y26_46) 27 y27_47) 28 y28_48) 29 y29_49) 30 y30_50) 31 y31_51) 32 y32_52) 33 f_62)  _ hL hmr) (cwV 0 hts gX10_steps_X10_skip rfl rfl rfl (by decide +kernel) ⟨(by first | exact Nat.le_of_ble_eq_true rfl | (simp only [rm_X10_skip, rm_X10_steps]; omega)), (by first | exact Nat.le_of_ble_eq_true rfl | (simp only [rm_X10_skip, rm_X10_steps]; omega))⟩) hP hD hK hS hA hev rfl rfl rfl rfl hl.1 rfl (Nat.le_of_ble_eq_true rfl) dX10_steps_73 ⟨(by first | exact Nat.le_of_ble_eq_true rfl | (simp only [rm_X10_steps]; omega)), (by first | exact Nat.le_of_ble_eq_true rfl | (simp only [rm_X10_steps]; omega))⟩ (fun r u H locs hw hP hD hS => ?_)
              obtain ⟨x22_64, rfl⟩ : ∃ z, z = u := ⟨_, rfl⟩
              have hw : (r = none) ∧ (x22_64 = nI rn.1) := hw
              obtain ⟨rfl, hw_65⟩ := hw
              have hP : va_P (dC, dI) vwCl (mw g h0 b (va_up (va_up (va_up (va_up (va_up i 22 x22_64) 23 x23_42) 24 x24_43) 25 x25_44) 36 x36_45) (va_up (va_up (va_up (va_up (va_up (va_up (va_up (va_up a 26 y26_46) 27 y27_47) 28 y28_48) 29 y29_49) 30 y30_50) 31 y31_51) 32 y32_52) 33 f_62)) _ := hP
              have hD : va_D _ (mw g h0 b (va_up (va_up (va_up (va_up (va_up i 22 x22_64) 23 x23_42) 24 x24_43) 25 x25_44) 36 x36_45) (va_up (va_up (va_up (va_up (va_up (va_up (va_up (va_up a 26 y26_46) 27 y27_47) 28 y28_48) 29 y29_49) 30 y30_50) 31 y31_51) 32 y32_52) 33 f_62)) := hD
              refine W.eq (g2 := F0 m 76 ls []) rfl ?_
              have hmq_66 : MI (a 19) ln rn x22_64 x23_42 x24_43 := (hmr).sk hw_65
              refine lv_goto (tgt := 8) hx hb dX10_steps_76 (by decide) ?_
              exact ih hh z_55 x22_64 x23_42 x24_43 x25_44 x36_45 y26_46 y27_47 y28_48 y29_49 y30_50 y31_51 y32_52 f_62 _ _ _ (nx300 hm hlt h300) (⟨rn, hmq_66, hw_65, ⟨h36r, SXx.n3 hsx hb3⟩, ST.go hm1 hall hsx hmr.2.1⟩) (⟨dp_57, hpr_63, PR.lk hPR_56 hlk1, (Or.inr ⟨qk, hk1, hk2, hk3⟩)⟩) hP hD hS (lv_sub hl [2, 0, 3, 4] rfl)
            · have nc_61 := eq_i c_61
              have lc_61 : ((-1) : Int32).toInt = -1 := by decide
              refine lv_iload hx hb dX10_steps_55 (lv_at hl 0 rfl) ?_
              refine lv_istore_n (lv' := [(2, .int z_55), (4, .int z_55), (3, .int la), (0, .ref h0), (1, .int ib)]) hx hb dX10_steps_57 rfl hl (by decide) rfl (fun ls hl => ?_)
              refine lv_goto (tgt := 69) hx hb dX10_steps_58 (by decide) ?_
              refine lv_iload hx hb dX10_steps_69 (lv_at hl 1 rfl) ?_
              refine lv_istore_n (lv' := [(3, .int z_55), (2, .int z_55), (4, .int z_55), (0, .ref h0), (1, .int ib)]) hx hb dX10_steps_71 rfl hl (by decide) rfl (fun ls hl => ?_)
              refine lv_aload_n hx hb dX10_steps_72 rfl (lv_at hl 3 rfl) ?_
              refine M_V ⟨hx, hb, hml, hown, hts⟩ (m_X10_skip l dC dI sa g h0 b ln rn (va_up (va_up (va_up (va_up (va_up i 22 x22_41) 23 x23_42) 24 x24_43) 25 x25_44) 36 x36_45) (va_up (va_up (va_up (va_up (va_up (va_up (va_up (va_up a 26 y26_46) 27 y27_47) 28 y28_48) 29 y29_49) 30 y30_50) 31 y31_51) 32 y32_52) 33 y33_53)  _ hL hmr) (cwV 0 hts gX10_steps_X10_skip rfl rfl rfl (by decide +kernel) ⟨(by first | exact Nat.le_of_ble_eq_true rfl | (simp only [rm_X10_skip, rm_X10_steps]; omega)), (by first | exact Nat.le_of_ble_eq_true rfl | (simp only [rm_X10_skip, rm_X10_steps]; omega))⟩) hP hD hK hS hA hev rfl rfl rfl rfl hl.1 rfl (Nat.le_of_ble_eq_true rfl) dX10_steps_73 ⟨(by first | exact Nat.le_of_ble_eq_true rfl | (simp only [rm_X10_steps]; omega)), (by first | exact Nat.le_of_ble_eq_true rfl | (simp only [rm_X10_steps]; omega))⟩ (fun r u H locs hw hP hD hS => ?_)
              obtain ⟨x22_67, rfl⟩ : ∃ z, z = u := ⟨_, rfl⟩
              have hw : (r = none) ∧ (x22_67 = nI rn.1) := hw
              obtain ⟨rfl, hw_68⟩ := hw
              have hP : va_P (dC, dI) vwCl (mw g h0 b (va_up (va_up (va_up (va_up (va_up i 22 x22_67) 23 x23_42) 24 x24_43) 25 x25_44) 36 x36_45) (va_up (va_up (va_up (va_up (va_up (va_up (va_up (va_up a 26 y26_46) 27 y27_47) 28 y28_48) 29 y29_49) 30 y30_50) 31 y31_51) 32 y32_52) 33 y33_53)) _ := hP
              have hD : va_D _ (mw g h0 b (va_up (va_up (va_up (va_up (va_up i 22 x22_67) 23 x23_42) 24 x24_43) 25 x25_44) 36 x36_45) (va_up (va_up (va_up (va_up (va_up (va_up (va_up (va_up a 26 y26_46) 27 y27_47) 28 y28_48) 29 y29_49) 30 y30_50) 31 y31_51) 32 y32_52) 33 y33_53)) := hD
              refine W.eq (g2 := F0 m 76 ls []) rfl ?_
              have hmq_69 : MI (a 19) ln rn x22_67 x23_42 x24_43 := (hmr).sk hw_68
              refine lv_goto (tgt := 8) hx hb dX10_steps_76 (by decide) ?_
              exact ih z_55 z_55 x22_67 x23_42 x24_43 x25_44 x36_45 y26_46 y27_47 y28_48 y29_49 y30_50 y31_51 y32_52 y33_53 _ _ _ (nx300 hm hlt h300) (⟨rn, hmq_69, hw_68, ⟨h36r, SXx.n3 hsx hb3⟩, ST.go hm1 hall hsx hmr.2.1⟩) (⟨dp_57, hpr_59, (Or.inr ⟨qk, hk1, hk2, hk3⟩), (Or.inr ⟨qk, hk1, hk2, hk3⟩)⟩) hP hD hS (lv_sub hl [1, 0, 3, 4] rfl)
          · have nc_60 := eq_i c_60
            have lc_60 : ((-1) : Int32).toInt = -1 := by decide
            refine lv_bipush (v := (-2)) hx hb dX10_steps_47 (by decide) ?_
            exact M_i hx hb hr hlocks (x22_41, x23_42, x24_43, x25_44, x36_45, y26_46, y27_47, y28_48, y29_49, y30_50, y31_51, y32_52, y33_53) hP hD hK hS ⟨⟨_, rfl⟩, ⟨dp_57, hpr_59, fun z9 h9 => Or.inl ⟨by cases h9; rfl, by rw [if_neg c_4]; rcases hres_58 with ⟨-, rn, h1, h2⟩ | ⟨⟨q9, g1, g2, g3⟩, -⟩; exact ST.no hm1 hall hKc h1 h2; exact absurd c_60 (nq_ne g1 g2 hPR_56.2.1.2.1).1⟩⟩⟩ (by first | exact Nat.le_of_ble_eq_true rfl | (simp only [rm_X10_steps]; omega)) (by first | exact Nat.le_of_ble_eq_true rfl | (simp only [rm_X10_steps]; omega)) dX10_steps_49
        · have hP : va_P (dC, dI) vwCl (mw g h0 b (va_up (va_up (va_up (va_up (va_up i 22 x22_36) 23 l23) 24 l24) 25 l25) 36 l36) (va_up (va_up (va_up (va_up (va_up (va_up (va_up (va_up a 26 l26) 27 l27) 28 l28) 29 l29) 30 l30) 31 l31) 32 l32) 33 l33)) _ := hP
          have hD : va_D _ (mw g h0 b (va_up (va_up (va_up (va_up (va_up i 22 x22_36) 23 l23) 24 l24) 25 l25) 36 l36) (va_up (va_up (va_up (va_up (va_up (va_up (va_up (va_up a 26 l26) 27 l27) 28 l28) 29 l29) 30 l30) 31 l31) 32 l32) 33 l33)) := hD
          refine W.eq (g2 := F0 m 18 ls [.int 1]) rfl ?_
          have hmq_70 : MI (a 19) ln q1 x22_36 l23 l24 := (hm1).sk hw_37
          refine lv_if_ne (tgt := 79) hx hb dX10_steps_18 (by decide) (fun _ => ?_) (fun c_71 => absurd c_71 (by decide))
          refine lv_iload_n hx hb dX10_steps_79 rfl (lv_at hl 3 rfl) ?_
          refine lv_if_eq (tgt := 93) hx hb dX10_steps_80 (by decide) (fun c_72 => ?_) (fun c_72 => ?_)
          · have nc_72 := eq_i c_72
            have lc_72 : (0 : Int32).toInt = 0 := by decide
            exact absurd c_72 c_4
          · have nc_72 := ne_i c_72
            have lc_72 : (0 : Int32).toInt = 0 := by decide
            refine lv_aload_n hx hb dX10_steps_83 rfl (lv_at hl 2 rfl) ?_
            refine lv_dup hx hb dX10_steps_84 rfl ?_
            refine va_get (D := (dC, dI)) (ci := 10) (v := .int x22_36) (C := RX10) (T := TX10) (N := 51) hx hb hts inw_X10_steps_10 hown hK hP 0 rfl rfl 22 (by decide) (hts (.fieldLink RX10 168 "VatHouseModel" "at" "I") (by decide +kernel)) (fun _ h9 => h9) rfl dX10_steps_85 ?_
            refine lv_iconst (v := 1) hx hb dX10_steps_88 (by decide) ?_
            refine lv_iadd hx hb dX10_steps_89 ?_
            refine lv_topi (fun z_73 ez_73 => ?_)
            refine va_put (D := (dC, dI)) (ci := 10) (v := .int z_73) (ty := .int) (C := RX10) (T := TX10) (N := 51) hx hb hts inw_X10_steps_10 tyX10 tyX10_ok nmX10 hown hK hP hD hS 0 rfl rfl 22 (by decide) (hts (.fieldLink RX10 168 "VatHouseModel" "at" "I") (by decide +kernel)) (fun _ h9 => h9) rfl (by decide +kernel) rfl rfl (Nat.le_of_ble_eq_true rfl) dX10_steps_90 (fun H locs hP hD hS => ?_)
            have hP : va_P (dC, dI) vwCl (mw g h0 b (va_up (va_up (va_up (va_up (va_up i 22 z_73) 23 l23) 24 l24) 25 l25) 36 l36) (va_up (va_up (va_up (va_up (va_up (va_up (va_up (va_up a 26 l26) 27 l27) 28 l28) 29 l29) 30 l30) 31 l31) 32 l32) 33 l33)) _ := hP
            have hD : va_D _ (mw g h0 b (va_up (va_up (va_up (va_up (va_up i 22 z_73) 23 l23) 24 l24) 25 l25) 36 l36) (va_up (va_up (va_up (va_up (va_up (va_up (va_up (va_up a 26 l26) 27 l27) 28 l28) 29 l29) 30 l30) 31 l31) 32 l32) 33 l33)) := hD
            refine lv_iload_n hx hb dX10_steps_93 rfl (lv_at hl 0 rfl) ?_
            exact M_i hx hb hr hlocks (z_73, l23, l24, l25, l36, l26, l27, l28, l29, l30, l31, l32, l33) hP hD hK hS ⟨⟨_, rfl⟩, ⟨dp1, hpr1, fun z9 h9 => by cases h9; exact Or.inr ⟨hlk1, by rw [if_neg c_4]; exact ⟨_, ST.end1 hall hz2_38.2, (hmq_70).pass hz2_38.2 hz2_38.1 (by rw [ez_73, hw_37, nx_sign (by decide) ((Kp_sign (by decide)).mp hz2_38.2).2]; exact nI_1 _), by rw [gpa_nd]; exact h361⟩⟩⟩⟩ (by first | exact Nat.le_of_ble_eq_true rfl | (simp only [rm_X10_steps]; omega)) (by first | exact Nat.le_of_ble_eq_true rfl | (simp only [rm_X10_steps]; omega)) dX10_steps_94
  exact lp ((300 - (i 36).toInt).toNat + 1) ((-1) : Int32) ((-1) : Int32) x22_1 (i 23) (i 24) (i 25) (i 36) (a 26) (a 27) (a 28) (a 29) (a 30) (a 31) (a 32) (a 33) _ _ _ (by omega) (⟨sq, hmq_3, hw_2, ⟨hn36, hn3⟩, fun _ h9 => h9⟩) (⟨dp, PR.rf hPN, Or.inl rfl, Or.inl rfl⟩) hP hD hS (lv_sub hl [1, 0, 2, 3] rfl)

theorem X10_steps_all (l : Launch) (dC : Nat → ClassId) (dI : Nat → Nat → Nat) (sa : Nat → Nat) (g : Nat → Nat) (h0 : Nat) (b : Nat → Nat) : ∀ (j bl : Nat), bl + j = 8 → ∀ (dp : Nat → Nat) (ln : Nat) (sq : SG) (i : Nat → Int32) (a : Nat → Nat → Int32) (ib : Int32) (sz : Nat) (hL : (i 21) = nI ln ∧ ln ≤ 1500) (hM : MI (a 19) ln sq (i 22) (i 23) (i 24)) (hn36 : (i 36) = nI sq.2.1) (hPN : PN (i 36) dp (a 26) (a 27) (a 31) (a 32) (a 33)) (hBL : (i 38) = nI bl) (hn3 : sq.2.1 ≤ 300), CT l dC dI sa yX10_steps wsX10_steps (rm_X10_steps j bl dp ln sq) [.ref h0, .int ib] (mw g h0 b i a) (tyM g) sz (fun (r : Option Value) (u : Int32 × Int32 × Int32 × Int32 × Int32 × (Nat → Int32) × (Nat → Int32) × (Nat → Int32) × (Nat → Int32) × (Nat → Int32) × (Nat → Int32) × (Nat → Int32) × (Nat → Int32)) => match u with | (x22, x23, x24, x25, x36, y26, y27, y28, y29, y30, y31, y32, y33) => (∃ z : Int32, r = some (.int z)) ∧ (∃ dpN : Nat → Nat, PR (i 36) x36 dp dpN (a 26) (a 27) (a 31) (a 32) (a 33) y26 y27 y31 y32 y33 ∧ (∀ z : Int32, r = some (.int z) → (z = -2 ∧ ∃ rn : SG, ST (Kp (a 19) ln) (Vp (a 19) ln) (nq (a 19) ln) bl (if ib = 0 then (0 : Int32) else 125) sq rn ∧ MO rn x23 x24) ∨ (lk (PV x36) dpN bl z ∧ ∃ rn : SG, ST (Kp (a 19) ln) (Vp (a 19) ln) (nq (a 19) ln) bl (if ib = 0 then (0 : Int32) else 125) sq rn ∧ MI (a 19) ln rn x22 x23 x24 ∧ x36 = nI rn.2.1)))) (fun (u : Int32 × Int32 × Int32 × Int32 × Int32 × (Nat → Int32) × (Nat → Int32) × (Nat → Int32) × (Nat → Int32) × (Nat → Int32) × (Nat → Int32) × (Nat → Int32) × (Nat → Int32)) => match u with | (x22, x23, x24, x25, x36, y26, y27, y28, y29, y30, y31, y32, y33) => mw g h0 b (va_up (va_up (va_up (va_up (va_up i 22 x22) 23 x23) 24 x24) 25 x25) 36 x36) (va_up (va_up (va_up (va_up (va_up (va_up (va_up (va_up a 26 y26) 27 y27) 28 y28) 29 y29) 30 y30) 31 y31) 32 y32) 33 y33)) (fun _ => []) 0 0 := by
  intro j
  induction j with
  | zero => exact fun bl hj dp ln sq i a ib sz hL hM hn36 hPN hBL hn3 => m_X10_steps l dC dI sa g h0 b 0 bl dp ln sq i a ib sz hL hM hn36 hPN hBL hj hn3 (fun j' d' _ h => absurd h (by omega))
  | succ j ih =>
    exact fun bl hj dp ln sq i a ib sz hL hM hn36 hPN hBL hn3 => m_X10_steps l dC dI sa g h0 b (j + 1) bl dp ln sq i a ib sz hL hM hn36 hPN hBL hj hn3 (fun j' d' hd' h => by
      obtain rfl : j = j' := by omega
      exact ih d' hd')
