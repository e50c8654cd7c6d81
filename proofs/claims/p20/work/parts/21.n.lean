theorem ne0_of {z w : Int32} (hz : z = w) (h : 1 ≤ w.toInt) : z ≠ 0 := fun e => by
  rw [← hz, e] at h
  exact absurd h (by decide)
theorem ne0_100 {z x w : Int32} (hz : z = 100 + x) (hx : x = w) (h : 1 ≤ w.toInt) (h2 : w.toInt ≤ 50) : z ≠ 0 := fun e => by
  subst hx
  have e1 := add_i hz (by have : (100 : Int32).toInt = 100 := by decide
                          omega) (by have : (100 : Int32).toInt = 100 := by decide
                                     omega)
  have : (100 : Int32).toInt = 100 := by decide
  have e0 : (0 : Int32).toInt = 0 := by decide
  rw [e] at e1
  omega
/-- the cloths: at most 30, each of a weight of 1 to 50 -/
noncomputable def CI (cl : Int32) (w : Nat → Int32) : Prop := 0 ≤ cl.toInt ∧ cl.toInt ≤ 30 ∧ ∀ k : Nat, (k : Int) < cl.toInt → 1 ≤ (w k).toInt ∧ (w k).toInt ≤ 50
theorem CI.at {cl x : Int32} {w : Nat → Int32} (h : CI cl w) (hc : 0 ≤ x.toInt ∧ x.toInt < cl.toInt) : vp_in x 30 ∧ 1 ≤ (w x.toNatClampNeg).toInt ∧ (w x.toNatClampNeg).toInt ≤ 50 := by
  refine ⟨in_i hc.1 (by have := h.2.1; omega), h.2.2 _ ?_⟩
  rw [clamp_i hc.1]
  exact hc.2
theorem CI.add {cl z x : Int32} {w : Nat → Int32} (h : CI cl w) (hn : cl.toInt ≠ 30) (hz : z = cl + 1) (h1 : 1 ≤ x.toInt) (h2 : x.toInt ≤ 50) : CI z (upd w cl.toNatClampNeg x) := by
  have e := add_i hz (by have := h.1; have e1 : (1 : Int32).toInt = 1 := by decide
                         omega) (by have := h.2.1; have e1 : (1 : Int32).toInt = 1 := by decide
                                    omega)
  have e1 : (1 : Int32).toInt = 1 := by decide
  rw [e1] at e
  have h0 := h.1
  have h3 := h.2.1
  refine ⟨by omega, by omega, fun k hk => ?_⟩
  have hc := clamp_i h.1
  by_cases hkc : k = cl.toNatClampNeg
  · subst hkc
    simp only [upd, if_pos]
    exact ⟨h1, h2⟩
  · simp only [upd, hkc, if_false]
    exact h.2.2 k (by omega)

noncomputable abbrev rm_X10_right : Room := { frames := 0, cells := 0, slots := 0, locals := 0 }
theorem inw_X10_right_10 : ∀ w ∈ wsX100, w ∈ wsX10_right := fun _ h => List.mem_cons_of_mem _ (List.mem_append_right _ h)
set_option maxHeartbeats 1000000 in
set_option maxRecDepth 100000 in
theorem m_X10_right (l : Launch) (dC : Nat → ClassId) (dI : Nat → Nat → Nat) (sa : Nat → Nat) (g : Nat → Nat) (h0 : Nat) (b : Nat → Nat) (i : Nat → Int32) (a : Nat → Nat → Int32) (iz : Int32) (wh : Int32) (sz : Nat) (hwh : ¬ wh = 0) : CT l dC dI sa yX10_right wsX10_right rm_X10_right [.ref h0, .int iz, .int wh] (mw g h0 b i a) (tyM g) sz (fun (r : Option Value) (x0 : Int32) => ((r = some (.int 0) ∧ (True)) ∨ (r = some (.int 1) ∧ (¬ iz = 0))) ∧ (True)) (fun (x0 : Int32) => mw g h0 b (va_up i 0 x0) a) (fun _ => []) 0 0 := by
  refine CT.start (cc := cX10_right) (maxL := 3) (ret := (some .boolean)) (by decide) rfl (Nat.le_of_ble_eq_true rfl) ?_
  intro p e s m below meth c ls hst hP hK hD hev hS hl
  obtain ⟨hx, hb, hr, hml, hts, hown, hlocks, hin⟩ := hst
  have hown : s.vm.findClass RX10 = some m.cls := hown
  have hA : ∀ q : Nat, s.heap.size ≤ q → va_A (mw g h0 b i a) s.heap.size q := fun _ h => Or.inr h
  have hl : lv_has ls 3 [(0, .ref h0), (1, .int iz), (2, .int wh)] := hl
  refine lv_aload_n hx hb dX10_right_0 rfl (lv_at hl 0 rfl) ?_
  refine va_get (D := (dC, dI)) (ci := 10) (v := .int (i 0)) (C := RX10) (T := TX10) (N := 51) hx hb hts inw_X10_right_10 hown hK hP 0 rfl rfl 0 (by decide) (hts (.fieldLink RX10 105 "VatHouseModel" "thrown" "I") (List.mem_of_getElem? (i := 1) (by exact rfl))) (fun _ h9 => h9) rfl dX10_right_1 ?_
  refine lv_if_ne (tgt := 16) hx hb dX10_right_4 (by decide) (fun c_1 => ?_) (fun c_1 => ?_)
  · have nc_1 := ne_i c_1
    have lc_1 : (0 : Int32).toInt = 0 := by decide
    refine lv_aload_n hx hb dX10_right_16 rfl (lv_at hl 0 rfl) ?_
    refine va_get (D := (dC, dI)) (ci := 10) (v := .int (i 0)) (C := RX10) (T := TX10) (N := 51) hx hb hts inw_X10_right_10 hown hK hP 0 rfl rfl 0 (by decide) (hts (.fieldLink RX10 105 "VatHouseModel" "thrown" "I") (List.mem_of_getElem? (i := 1) (by exact rfl))) (fun _ h9 => h9) rfl dX10_right_17 ?_
    refine lv_if_ne (tgt := 27) hx hb dX10_right_20 (by decide) (fun c_2 => ?_) (fun c_2 => ?_)
    · have nc_2 := ne_i c_2
      have lc_2 : (0 : Int32).toInt = 0 := by decide
      refine lv_iconst (v := 0) hx hb dX10_right_27 (by decide) ?_
      exact M_z hx hb hr rfl hlocks ((i 0)) hP hD hK hS ⟨Or.inl ⟨rfl, trivial⟩, trivial⟩ (Nat.le_of_ble_eq_true rfl) (Nat.le_of_ble_eq_true rfl) dX10_right_28
    · have nc_2 := eq_i c_2
      have lc_2 : (0 : Int32).toInt = 0 := by decide
      refine lv_iconst (v := 1) hx hb dX10_right_23 (by decide) ?_
      refine lv_goto (tgt := 28) hx hb dX10_right_24 (by decide) ?_
      exact M_z hx hb hr rfl hlocks ((i 0)) hP hD hK hS ⟨Or.inr ⟨rfl, absurd c_2 c_1⟩, trivial⟩ (Nat.le_of_ble_eq_true rfl) (Nat.le_of_ble_eq_true rfl) dX10_right_28
  · have nc_1 := eq_i c_1
    have lc_1 : (0 : Int32).toInt = 0 := by decide
    refine lv_iload_n hx hb dX10_right_7 rfl (lv_at hl 1 rfl) ?_
    refine lv_if_ne (tgt := 16) hx hb dX10_right_8 (by decide) (fun c_3 => ?_) (fun c_3 => ?_)
    · have nc_3 := ne_i c_3
      have lc_3 : (0 : Int32).toInt = 0 := by decide
      refine lv_aload_n hx hb dX10_right_16 rfl (lv_at hl 0 rfl) ?_
      refine va_get (D := (dC, dI)) (ci := 10) (v := .int (i 0)) (C := RX10) (T := TX10) (N := 51) hx hb hts inw_X10_right_10 hown hK hP 0 rfl rfl 0 (by decide) (hts (.fieldLink RX10 105 "VatHouseModel" "thrown" "I") (List.mem_of_getElem? (i := 1) (by exact rfl))) (fun _ h9 => h9) rfl dX10_right_17 ?_
      refine lv_if_ne (tgt := 27) hx hb dX10_right_20 (by decide) (fun c_4 => ?_) (fun c_4 => ?_)
      · have nc_4 := ne_i c_4
        have lc_4 : (0 : Int32).toInt = 0 := by decide
        refine lv_iconst (v := 0) hx hb dX10_right_27 (by decide) ?_
        exact M_z hx hb hr rfl hlocks ((i 0)) hP hD hK hS ⟨Or.inl ⟨rfl, trivial⟩, trivial⟩ (Nat.le_of_ble_eq_true rfl) (Nat.le_of_ble_eq_true rfl) dX10_right_28
      · have nc_4 := eq_i c_4
        have lc_4 : (0 : Int32).toInt = 0 := by decide
        refine lv_iconst (v := 1) hx hb dX10_right_23 (by decide) ?_
        refine lv_goto (tgt := 28) hx hb dX10_right_24 (by decide) ?_
        exact M_z hx hb hr rfl hlocks ((i 0)) hP hD hK hS ⟨Or.inr ⟨rfl, c_3⟩, trivial⟩ (Nat.le_of_ble_eq_true rfl) (Nat.le_of_ble_eq_true rfl) dX10_right_28
    · have nc_3 := eq_i c_3
      have lc_3 : (0 : Int32).toInt = 0 := by decide
      refine lv_aload_n hx hb dX10_right_11 rfl (lv_at hl 0 rfl) ?_
      refine lv_iload_n hx hb dX10_right_12 rfl (lv_at hl 2 rfl) ?_
      refine va_put (D := (dC, dI)) (ci := 10) (v := .int wh) (ty := .int) (C := RX10) (T := TX10) (N := 51) hx hb hts inw_X10_right_10 tyX10 tyX10_ok nmX10 hown hK hP hD hS 0 rfl rfl 0 (by decide) (hts (.fieldLink RX10 105 "VatHouseModel" "thrown" "I") (List.mem_of_getElem? (i := 1) (by exact rfl))) (fun _ h9 => h9) rfl (tyX10_ok 0 (by decide)) rfl rfl (Nat.le_of_ble_eq_true rfl) dX10_right_13 (fun H locs hP hD hS => ?_)
      have hP : va_P (dC, dI) vwCl (mw g h0 b (va_up i 0 wh) a) _ := hP
      have hD : va_D _ (mw g h0 b (va_up i 0 wh) a) := hD
      refine lv_aload_n hx hb dX10_right_16 rfl (lv_at hl 0 rfl) ?_
      refine va_get (D := (dC, dI)) (ci := 10) (v := .int wh) (C := RX10) (T := TX10) (N := 51) hx hb hts inw_X10_right_10 hown hK hP 0 rfl rfl 0 (by decide) (hts (.fieldLink RX10 105 "VatHouseModel" "thrown" "I") (List.mem_of_getElem? (i := 1) (by exact rfl))) (fun _ h9 => h9) rfl dX10_right_17 ?_
      refine lv_if_ne (tgt := 27) hx hb dX10_right_20 (by decide) (fun c_5 => ?_) (fun c_5 => ?_)
      · have nc_5 := ne_i c_5
        have lc_5 : (0 : Int32).toInt = 0 := by decide
        refine lv_iconst (v := 0) hx hb dX10_right_27 (by decide) ?_
        exact M_z hx hb hr rfl hlocks (wh) hP hD hK hS ⟨Or.inl ⟨rfl, trivial⟩, trivial⟩ (Nat.le_of_ble_eq_true rfl) (Nat.le_of_ble_eq_true rfl) dX10_right_28
      · have nc_5 := eq_i c_5
        have lc_5 : (0 : Int32).toInt = 0 := by decide
        refine lv_iconst (v := 1) hx hb dX10_right_23 (by decide) ?_
        refine lv_goto (tgt := 28) hx hb dX10_right_24 (by decide) ?_
        exact M_z hx hb hr rfl hlocks (wh) hP hD hK hS ⟨Or.inr ⟨rfl, absurd c_5 hwh⟩, trivial⟩ (Nat.le_of_ble_eq_true rfl) (Nat.le_of_ble_eq_true rfl) dX10_right_28

theorem inw_X10_isVat_10 : ∀ w ∈ wsX100, w ∈ wsX10_isVat := fun _ h => List.mem_cons_of_mem _ (List.mem_append_right _ h)

theorem inw_X10_isCloth_10 : ∀ w ∈ wsX100, w ∈ wsX10_isCloth := fun _ h => List.mem_cons_of_mem _ (List.mem_append_right _ h)

theorem inw_X10_isDry_10 : ∀ w ∈ wsX100, w ∈ wsX10_isDry := fun _ h => List.mem_cons_of_mem _ (List.mem_append_right _ h)

theorem inw_X10_shadeOf_10 : ∀ w ∈ wsX100, w ∈ wsX10_shadeOf := fun _ h => List.mem_cons_of_mem _ (List.mem_append_right _ h)

theorem inw_X10_charge_10 : ∀ w ∈ wsX100, w ∈ wsX10_charge := fun _ h => List.mem_cons_of_mem _ (List.mem_append_right _ h)

theorem inw_X10_feeds_10 : ∀ w ∈ wsX100, w ∈ wsX10_feeds := fun _ h => List.mem_cons_of_mem _ (List.mem_append_right _ h)

theorem inw_X10_feed_10 : ∀ w ∈ wsX100, w ∈ wsX10_feed := fun _ h => List.mem_cons_of_mem _ (List.mem_append_right _ h)

theorem inw_X10_limes_10 : ∀ w ∈ wsX100, w ∈ wsX10_limes := fun _ h => List.mem_cons_of_mem _ (List.mem_append_right _ h)

theorem inw_X10_lime_10 : ∀ w ∈ wsX100, w ∈ wsX10_lime := fun _ h => List.mem_cons_of_mem _ (List.mem_append_right _ h)

theorem inw_X10_hour_10 : ∀ w ∈ wsX100, w ∈ wsX10_hour := fun _ h => List.mem_cons_of_mem _ (List.mem_append_right _ h)

theorem inw_X10_hours_10 : ∀ w ∈ wsX100, w ∈ wsX10_hours := fun _ h => List.mem_cons_of_mem _ (List.mem_append_right _ h)

theorem tab_out5 {x : Int32} (h0 : ¬ x = 0) (h1 : ¬ x = 1) (h2 : ¬ x = 2) (h3 : ¬ x = 3) (h4 : ¬ x = 4) : x.toInt < 0 ∨ 4 < x.toInt := by
  have e0 : x.toInt ≠ 0 := fun h => h0 (Int32.toInt_inj.mp h)
  have e1 : x.toInt ≠ 1 := fun h => h1 (Int32.toInt_inj.mp h)
  have e2 : x.toInt ≠ 2 := fun h => h2 (Int32.toInt_inj.mp h)
  have e3 : x.toInt ≠ 3 := fun h => h3 (Int32.toInt_inj.mp h)
  have e4 : x.toInt ≠ 4 := fun h => h4 (Int32.toInt_inj.mp h)
  omega

theorem tab_out7 {x : Int32} (h0 : ¬ x = 0) (h1 : ¬ x = 1) (h2 : ¬ x = 2) (h3 : ¬ x = 3) (h4 : ¬ x = 4) (h5 : ¬ x = 5) (h6 : ¬ x = 6) : x.toInt < 0 ∨ 6 < x.toInt := by
  have e0 : x.toInt ≠ 0 := fun h => h0 (Int32.toInt_inj.mp h)
  have e1 : x.toInt ≠ 1 := fun h => h1 (Int32.toInt_inj.mp h)
  have e2 : x.toInt ≠ 2 := fun h => h2 (Int32.toInt_inj.mp h)
  have e3 : x.toInt ≠ 3 := fun h => h3 (Int32.toInt_inj.mp h)
  have e4 : x.toInt ≠ 4 := fun h => h4 (Int32.toInt_inj.mp h)
  have e5 : x.toInt ≠ 5 := fun h => h5 (Int32.toInt_inj.mp h)
  have e6 : x.toInt ≠ 6 := fun h => h6 (Int32.toInt_inj.mp h)
  omega

theorem inw_X10_cloth_10 : ∀ w ∈ wsX100, w ∈ wsX10_cloth := fun _ h => List.mem_cons_of_mem _ (List.mem_append_right _ h)

theorem inw_X10_moves_10 : ∀ w ∈ wsX100, w ∈ wsX10_moves := fun _ h => List.mem_cons_of_mem _ (List.mem_append_right _ h)

theorem inw_X10_dips_10 : ∀ w ∈ wsX100, w ∈ wsX10_dips := fun _ h => List.mem_cons_of_mem _ (List.mem_append_right _ h)

theorem inw_X10_dip_10 : ∀ w ∈ wsX100, w ∈ wsX10_dip := fun _ h => List.mem_cons_of_mem _ (List.mem_append_right _ h)

theorem inw_X10_airs_10 : ∀ w ∈ wsX100, w ∈ wsX10_airs := fun _ h => List.mem_cons_of_mem _ (List.mem_append_right _ h)

theorem inw_X10_washes_10 : ∀ w ∈ wsX100, w ∈ wsX10_washes := fun _ h => List.mem_cons_of_mem _ (List.mem_append_right _ h)

theorem inw_X10_treat_10 : ∀ w ∈ wsX100, w ∈ wsX10_treat := fun _ h => List.mem_cons_of_mem _ (List.mem_append_right _ h)

/-- lays: the shift, the times done, what is taped -/
noncomputable def La (tl k : Int32) (x : Int32) (n : Nat) : Prop := ∃ i : Nat, ((i = 0 ∧ x = 24) ∨ (i = 1 ∧ x = 16) ∨ (i = 2 ∧ x = 8) ∨ (i = 3 ∧ x = 0) ∨ (i = 4 ∧ x = -8)) ∧ 4 < i + n ∧ k.toInt = tl.toInt + i
theorem La.z {tl k x : Int32} (h : La tl k x 0) : False := by
  obtain ⟨i, h1, h2, -⟩ := h
  rcases h1 with ⟨h, -⟩ | ⟨h, -⟩ | ⟨h, -⟩ | ⟨h, -⟩ | ⟨h, -⟩ <;> omega
theorem La.in {tl k x : Int32} {n : Nat} (h : La tl k x (n + 1)) (h0 : ¬ x < 0) (ht : 0 ≤ tl.toInt ∧ tl.toInt ≤ 1496) : 0 ≤ k.toInt ∧ k.toInt < 1500 := by
  obtain ⟨i, h1, -, h3⟩ := h
  have h5 : i ≤ 3 := by
    rcases h1 with ⟨h, -⟩ | ⟨h, -⟩ | ⟨h, -⟩ | ⟨h, -⟩ | ⟨h, e⟩
    · omega
    · omega
    · omega
    · omega
    · subst e; exact absurd (by decide) h0
  omega
theorem La.nx {tl k z x : Int32} {n : Nat} (h : La tl k x (n + 1)) (h0 : ¬ x < 0) (ht : 0 ≤ tl.toInt ∧ tl.toInt ≤ 1496) (hz : z = k + 1) : La tl z (x + (-8)) n := by
  have hin := h.in h0 ht
  have ez := inc_toInt (a := k) (b := 1500) (by rw [Int32.lt_iff_toInt_lt]; have e : (1500 : Int32).toInt = 1500 := by decide
                                                omega)
  rw [← hz] at ez
  obtain ⟨i, h1, h2, h3⟩ := h
  refine ⟨i + 1, ?_, by omega, by push_cast; omega⟩
  rcases h1 with ⟨rfl, rfl⟩ | ⟨rfl, rfl⟩ | ⟨rfl, rfl⟩ | ⟨rfl, rfl⟩ | ⟨rfl, rfl⟩
  · exact Or.inr (Or.inl ⟨rfl, by decide⟩)
  · exact Or.inr (Or.inr (Or.inl ⟨rfl, by decide⟩))
  · exact Or.inr (Or.inr (Or.inr (Or.inl ⟨rfl, by decide⟩)))
  · exact Or.inr (Or.inr (Or.inr (Or.inr ⟨rfl, by decide⟩)))
  · exact absurd (by decide) h0
theorem La.e {tl k x : Int32} {n : Nat} (h : La tl k x n) (h0 : x < 0) : k.toInt = tl.toInt + 4 := by
  obtain ⟨i, h1, -, h3⟩ := h
  rcases h1 with ⟨rfl, rfl⟩ | ⟨rfl, rfl⟩ | ⟨rfl, rfl⟩ | ⟨rfl, rfl⟩ | ⟨rfl, rfl⟩
  · exact absurd h0 (by decide)
  · exact absurd h0 (by decide)
  · exact absurd h0 (by decide)
  · exact absurd h0 (by decide)
  · exact h3

theorem inw_X10_lays_10 : ∀ w ∈ wsX100, w ∈ wsX10_lays := fun _ h => List.mem_cons_of_mem _ (List.mem_append_right _ h)

theorem inw_X10_put_10 : ∀ w ∈ wsX100, w ∈ wsX10_put := fun _ h => List.mem_cons_of_mem _ (List.mem_append_right _ h)

theorem inw_X10_fault_10 : ∀ w ∈ wsX100, w ∈ wsX10_fault := fun _ h => List.mem_cons_of_mem _ (List.mem_append_right _ h)

theorem inw_X10_ran_10 : ∀ w ∈ wsX100, w ∈ wsX10_ran := fun _ h => List.mem_cons_of_mem _ (List.mem_append_right _ h)

noncomputable abbrev rm_X10_planned : Room := { frames := 1, cells := 0, slots := 0, locals := 22 }
theorem inw_X10_planned_10 : ∀ w ∈ wsX100, w ∈ wsX10_planned := fun _ h => List.mem_cons_of_mem _ (List.mem_append_right _ h)
set_option maxHeartbeats 1000000 in
set_option maxRecDepth 100000 in
theorem m_X10_planned (l : Launch) (dC : Nat → ClassId) (dI : Nat → Nat → Nat) (sa : Nat → Nat) (g : Nat → Nat) (h0 : Nat) (b : Nat → Nat) (i : Nat → Int32) (a : Nat → Nat → Int32) (ix : Int32) (wt : Int32) (sz : Nat) (hkp : (i 46).toInt ≤ 3) : CT l dC dI sa yX10_planned wsX10_planned rm_X10_planned [.ref h0, .int ix, .int wt] (mw g h0 b i a) (tyM g) sz (fun (r : Option Value) (x0 : Int32) => (∃ z : Int32, r = some (.int z)) ∧ (True)) (fun (x0 : Int32) => mw g h0 b (va_up i 0 x0) a) (fun _ => []) 0 0 := by
  refine CT.start (cc := cX10_planned) (maxL := 3) (ret := (some .int)) (by decide) rfl (Nat.le_of_ble_eq_true rfl) ?_
  intro p e s m below meth c ls hst hP hK hD hev hS hl
  obtain ⟨hx, hb, hr, hml, hts, hown, hlocks, hin⟩ := hst
  have hown : s.vm.findClass RX10 = some m.cls := hown
  have hA : ∀ q : Nat, s.heap.size ≤ q → va_A (mw g h0 b i a) s.heap.size q := fun _ h => Or.inr h
  have hl : lv_has ls 3 [(0, .ref h0), (1, .int ix), (2, .int wt)] := hl
  refine lv_aload_n hx hb dX10_planned_0 rfl (lv_at hl 0 rfl) ?_
  refine lv_iconst (v := 0) hx hb dX10_planned_1 (by decide) ?_
  refine va_put (D := (dC, dI)) (ci := 10) (v := .int 0) (ty := .int) (C := RX10) (T := TX10) (N := 51) hx hb hts inw_X10_planned_10 tyX10 tyX10_ok nmX10 hown hK hP hD hS 0 rfl rfl 0 (by decide) (hts (.fieldLink RX10 105 "VatHouseModel" "thrown" "I") (List.mem_of_getElem? (i := 1) (by exact rfl))) (fun _ h9 => h9) rfl (tyX10_ok 0 (by decide)) rfl rfl (Nat.le_of_ble_eq_true rfl) dX10_planned_2 (fun H locs hP hD hS => ?_)
  have hP : va_P (dC, dI) vwCl (mw g h0 b (va_up i 0 (0 : Int32)) a) _ := hP
  have hD : va_D _ (mw g h0 b (va_up i 0 (0 : Int32)) a) := hD
  refine lv_aload_n hx hb dX10_planned_5 rfl (lv_at hl 0 rfl) ?_
  refine lv_iload_n hx hb dX10_planned_6 rfl (lv_at hl 1 rfl) ?_
  refine lv_if_lt (tgt := 31) hx hb dX10_planned_7 (by decide) (fun c_1 => ?_) (fun c_1 => ?_)
  · have nc_1 := lt_i c_1
    have lc_1 : (0 : Int32).toInt = 0 := by decide
    refine lv_iconst (v := 0) hx hb dX10_planned_31 (by decide) ?_
    refine lv_iconst (v := 1) hx hb dX10_planned_32 (by decide) ?_
    refine M_V ⟨hx, hb, hml, hown, hts⟩ (m_X10_right l dC dI sa g h0 b (va_up i 0 (0 : Int32)) a (0 : Int32) (1 : Int32) _ (by decide)) (cwV 2 hts gX10_planned_X10_right rfl rfl rfl (by decide +kernel) ⟨Nat.le_of_ble_eq_true rfl, Nat.le_of_ble_eq_true rfl⟩) hP hD hK hS hA hev rfl rfl rfl rfl hl.1 rfl (Nat.le_of_ble_eq_true rfl) dX10_planned_33 ⟨(Nat.le_of_ble_eq_true rfl), (Nat.le_of_ble_eq_true rfl)⟩ (fun r u H locs hw hP hD hS => ?_)
    obtain ⟨x0_2, rfl⟩ : ∃ z, z = u := ⟨_, rfl⟩
    have hw : ((r = some (.int 0) ∧ (True)) ∨ (r = some (.int 1) ∧ (¬ (0 : Int32) = 0))) ∧ (True) := hw
    obtain ⟨⟨rfl, hz2_4⟩ | ⟨rfl, hz2_4⟩, hw_3⟩ := hw
    · have hP : va_P (dC, dI) vwCl (mw g h0 b (va_up i 0 x0_2) a) _ := hP
      have hD : va_D _ (mw g h0 b (va_up i 0 x0_2) a) := hD
      refine W.eq (g2 := F0 m 36 ls [.int 0]) rfl ?_
      refine lv_if_ne (tgt := 41) hx hb dX10_planned_36 (by decide) (fun c_5 => absurd c_5 (by decide)) (fun _ => ?_)
      refine lv_iconst (v := 0) hx hb dX10_planned_39 (by decide) ?_
      exact M_i hx hb hr hlocks (x0_2) hP hD hK hS ⟨⟨_, rfl⟩, trivial⟩ (Nat.le_of_ble_eq_true rfl) (Nat.le_of_ble_eq_true rfl) dX10_planned_40
    · have hP : va_P (dC, dI) vwCl (mw g h0 b (va_up i 0 x0_2) a) _ := hP
      have hD : va_D _ (mw g h0 b (va_up i 0 x0_2) a) := hD
      refine W.eq (g2 := F0 m 36 ls [.int 1]) rfl ?_
      exact absurd rfl hz2_4
  · have nc_1 := nlt_i c_1
    have lc_1 : (0 : Int32).toInt = 0 := by decide
    refine lv_iload_n hx hb dX10_planned_10 rfl (lv_at hl 1 rfl) ?_
    refine lv_aload_n hx hb dX10_planned_11 rfl (lv_at hl 0 rfl) ?_
    refine va_get (D := (dC, dI)) (ci := 10) (v := .int (i 46)) (C := RX10) (T := TX10) (N := 51) hx hb hts inw_X10_planned_10 hown hK hP 0 rfl rfl 46 (by decide) (hts (.fieldLink RX10 346 "VatHouseModel" "kept" "I") (List.mem_of_getElem? (i := 2) (by exact rfl))) (fun _ h9 => h9) rfl dX10_planned_12 ?_
    refine lv_icmp_ge (tgt := 31) hx hb dX10_planned_15 (by decide) (fun c_6 => ?_) (fun c_6 => ?_)
    · have nc_6 := le_i c_6
      refine lv_iconst (v := 0) hx hb dX10_planned_31 (by decide) ?_
      refine lv_iconst (v := 1) hx hb dX10_planned_32 (by decide) ?_
      refine M_V ⟨hx, hb, hml, hown, hts⟩ (m_X10_right l dC dI sa g h0 b (va_up i 0 (0 : Int32)) a (0 : Int32) (1 : Int32) _ (by decide)) (cwV 2 hts gX10_planned_X10_right rfl rfl rfl (by decide +kernel) ⟨Nat.le_of_ble_eq_true rfl, Nat.le_of_ble_eq_true rfl⟩) hP hD hK hS hA hev rfl rfl rfl rfl hl.1 rfl (Nat.le_of_ble_eq_true rfl) dX10_planned_33 ⟨(Nat.le_of_ble_eq_true rfl), (Nat.le_of_ble_eq_true rfl)⟩ (fun r u H locs hw hP hD hS => ?_)
      obtain ⟨x0_7, rfl⟩ : ∃ z, z = u := ⟨_, rfl⟩
      have hw : ((r = some (.int 0) ∧ (True)) ∨ (r = some (.int 1) ∧ (¬ (0 : Int32) = 0))) ∧ (True) := hw
      obtain ⟨⟨rfl, hz2_9⟩ | ⟨rfl, hz2_9⟩, hw_8⟩ := hw
      · have hP : va_P (dC, dI) vwCl (mw g h0 b (va_up i 0 x0_7) a) _ := hP
        have hD : va_D _ (mw g h0 b (va_up i 0 x0_7) a) := hD
        refine W.eq (g2 := F0 m 36 ls [.int 0]) rfl ?_
        refine lv_if_ne (tgt := 41) hx hb dX10_planned_36 (by decide) (fun c_10 => absurd c_10 (by decide)) (fun _ => ?_)
        refine lv_iconst (v := 0) hx hb dX10_planned_39 (by decide) ?_
        exact M_i hx hb hr hlocks (x0_7) hP hD hK hS ⟨⟨_, rfl⟩, trivial⟩ (Nat.le_of_ble_eq_true rfl) (Nat.le_of_ble_eq_true rfl) dX10_planned_40
      · have hP : va_P (dC, dI) vwCl (mw g h0 b (va_up i 0 x0_7) a) _ := hP
        have hD : va_D _ (mw g h0 b (va_up i 0 x0_7) a) := hD
        refine W.eq (g2 := F0 m 36 ls [.int 1]) rfl ?_
        exact absurd rfl hz2_9
    · have nc_6 := nle_i c_6
      refine lv_iload_n hx hb dX10_planned_18 rfl (lv_at hl 2 rfl) ?_
      refine lv_if_lt (tgt := 31) hx hb dX10_planned_19 (by decide) (fun c_11 => ?_) (fun c_11 => ?_)
      · have nc_11 := lt_i c_11
        have lc_11 : (0 : Int32).toInt = 0 := by decide
        refine lv_iconst (v := 0) hx hb dX10_planned_31 (by decide) ?_
        refine lv_iconst (v := 1) hx hb dX10_planned_32 (by decide) ?_
        refine M_V ⟨hx, hb, hml, hown, hts⟩ (m_X10_right l dC dI sa g h0 b (va_up i 0 (0 : Int32)) a (0 : Int32) (1 : Int32) _ (by decide)) (cwV 2 hts gX10_planned_X10_right rfl rfl rfl (by decide +kernel) ⟨Nat.le_of_ble_eq_true rfl, Nat.le_of_ble_eq_true rfl⟩) hP hD hK hS hA hev rfl rfl rfl rfl hl.1 rfl (Nat.le_of_ble_eq_true rfl) dX10_planned_33 ⟨(Nat.le_of_ble_eq_true rfl), (Nat.le_of_ble_eq_true rfl)⟩ (fun r u H locs hw hP hD hS => ?_)
        obtain ⟨x0_12, rfl⟩ : ∃ z, z = u := ⟨_, rfl⟩
        have hw : ((r = some (.int 0) ∧ (True)) ∨ (r = some (.int 1) ∧ (¬ (0 : Int32) = 0))) ∧ (True) := hw
        obtain ⟨⟨rfl, hz2_14⟩ | ⟨rfl, hz2_14⟩, hw_13⟩ := hw
        · have hP : va_P (dC, dI) vwCl (mw g h0 b (va_up i 0 x0_12) a) _ := hP
          have hD : va_D _ (mw g h0 b (va_up i 0 x0_12) a) := hD
          refine W.eq (g2 := F0 m 36 ls [.int 0]) rfl ?_
          refine lv_if_ne (tgt := 41) hx hb dX10_planned_36 (by decide) (fun c_15 => absurd c_15 (by decide)) (fun _ => ?_)
          refine lv_iconst (v := 0) hx hb dX10_planned_39 (by decide) ?_
          exact M_i hx hb hr hlocks (x0_12) hP hD hK hS ⟨⟨_, rfl⟩, trivial⟩ (Nat.le_of_ble_eq_true rfl) (Nat.le_of_ble_eq_true rfl) dX10_planned_40
        · have hP : va_P (dC, dI) vwCl (mw g h0 b (va_up i 0 x0_12) a) _ := hP
          have hD : va_D _ (mw g h0 b (va_up i 0 x0_12) a) := hD
          refine W.eq (g2 := F0 m 36 ls [.int 1]) rfl ?_
          exact absurd rfl hz2_14
      · have nc_11 := nlt_i c_11
        have lc_11 : (0 : Int32).toInt = 0 := by decide
        refine lv_iload_n hx hb dX10_planned_22 rfl (lv_at hl 2 rfl) ?_
        refine lv_iconst (v := 2) hx hb dX10_planned_23 (by decide) ?_
        refine lv_icmp_gt (tgt := 31) hx hb dX10_planned_24 (by decide) (fun c_16 => ?_) (fun c_16 => ?_)
        · have nc_16 := lt_i c_16
          have lc_16 : (2 : Int32).toInt = 2 := by decide
          refine lv_iconst (v := 0) hx hb dX10_planned_31 (by decide) ?_
          refine lv_iconst (v := 1) hx hb dX10_planned_32 (by decide) ?_
          refine M_V ⟨hx, hb, hml, hown, hts⟩ (m_X10_right l dC dI sa g h0 b (va_up i 0 (0 : Int32)) a (0 : Int32) (1 : Int32) _ (by decide)) (cwV 2 hts gX10_planned_X10_right rfl rfl rfl (by decide +kernel) ⟨Nat.le_of_ble_eq_true rfl, Nat.le_of_ble_eq_true rfl⟩) hP hD hK hS hA hev rfl rfl rfl rfl hl.1 rfl (Nat.le_of_ble_eq_true rfl) dX10_planned_33 ⟨(Nat.le_of_ble_eq_true rfl), (Nat.le_of_ble_eq_true rfl)⟩ (fun r u H locs hw hP hD hS => ?_)
          obtain ⟨x0_17, rfl⟩ : ∃ z, z = u := ⟨_, rfl⟩
          have hw : ((r = some (.int 0) ∧ (True)) ∨ (r = some (.int 1) ∧ (¬ (0 : Int32) = 0))) ∧ (True) := hw
          obtain ⟨⟨rfl, hz2_19⟩ | ⟨rfl, hz2_19⟩, hw_18⟩ := hw
          · have hP : va_P (dC, dI) vwCl (mw g h0 b (va_up i 0 x0_17) a) _ := hP
            have hD : va_D _ (mw g h0 b (va_up i 0 x0_17) a) := hD
            refine W.eq (g2 := F0 m 36 ls [.int 0]) rfl ?_
            refine lv_if_ne (tgt := 41) hx hb dX10_planned_36 (by decide) (fun c_20 => absurd c_20 (by decide)) (fun _ => ?_)
            refine lv_iconst (v := 0) hx hb dX10_planned_39 (by decide) ?_
            exact M_i hx hb hr hlocks (x0_17) hP hD hK hS ⟨⟨_, rfl⟩, trivial⟩ (Nat.le_of_ble_eq_true rfl) (Nat.le_of_ble_eq_true rfl) dX10_planned_40
          · have hP : va_P (dC, dI) vwCl (mw g h0 b (va_up i 0 x0_17) a) _ := hP
            have hD : va_D _ (mw g h0 b (va_up i 0 x0_17) a) := hD
            refine W.eq (g2 := F0 m 36 ls [.int 1]) rfl ?_
            exact absurd rfl hz2_19
        · have nc_16 := nlt_i c_16
          have lc_16 : (2 : Int32).toInt = 2 := by decide
          refine lv_iconst (v := 1) hx hb dX10_planned_27 (by decide) ?_
          refine lv_goto (tgt := 32) hx hb dX10_planned_28 (by decide) ?_
          refine lv_iconst (v := 1) hx hb dX10_planned_32 (by decide) ?_
          refine M_V ⟨hx, hb, hml, hown, hts⟩ (m_X10_right l dC dI sa g h0 b (va_up i 0 (0 : Int32)) a (1 : Int32) (1 : Int32) _ (by decide)) (cwV 2 hts gX10_planned_X10_right rfl rfl rfl (by decide +kernel) ⟨Nat.le_of_ble_eq_true rfl, Nat.le_of_ble_eq_true rfl⟩) hP hD hK hS hA hev rfl rfl rfl rfl hl.1 rfl (Nat.le_of_ble_eq_true rfl) dX10_planned_33 ⟨(Nat.le_of_ble_eq_true rfl), (Nat.le_of_ble_eq_true rfl)⟩ (fun r u H locs hw hP hD hS => ?_)
          obtain ⟨x0_21, rfl⟩ : ∃ z, z = u := ⟨_, rfl⟩
          have hw : ((r = some (.int 0) ∧ (True)) ∨ (r = some (.int 1) ∧ (¬ (1 : Int32) = 0))) ∧ (True) := hw
          obtain ⟨⟨rfl, hz2_23⟩ | ⟨rfl, hz2_23⟩, hw_22⟩ := hw
          · have hP : va_P (dC, dI) vwCl (mw g h0 b (va_up i 0 x0_21) a) _ := hP
            have hD : va_D _ (mw g h0 b (va_up i 0 x0_21) a) := hD
            refine W.eq (g2 := F0 m 36 ls [.int 0]) rfl ?_
            refine lv_if_ne (tgt := 41) hx hb dX10_planned_36 (by decide) (fun c_24 => absurd c_24 (by decide)) (fun _ => ?_)
            refine lv_iconst (v := 0) hx hb dX10_planned_39 (by decide) ?_
            exact M_i hx hb hr hlocks (x0_21) hP hD hK hS ⟨⟨_, rfl⟩, trivial⟩ (Nat.le_of_ble_eq_true rfl) (Nat.le_of_ble_eq_true rfl) dX10_planned_40
          · have hP : va_P (dC, dI) vwCl (mw g h0 b (va_up i 0 x0_21) a) _ := hP
            have hD : va_D _ (mw g h0 b (va_up i 0 x0_21) a) := hD
            refine W.eq (g2 := F0 m 36 ls [.int 1]) rfl ?_
            refine lv_if_ne (tgt := 41) hx hb dX10_planned_36 (by decide) (fun _ => ?_) (fun c_25 => absurd c_25 (by decide))
            refine lv_iload_n hx hb dX10_planned_41 rfl (lv_at hl 2 rfl) ?_
            refine lv_if_ne (tgt := 54) hx hb dX10_planned_42 (by decide) (fun c_26 => ?_) (fun c_26 => ?_)
            · have nc_26 := ne_i c_26
              have lc_26 : (0 : Int32).toInt = 0 := by decide
              refine lv_iload_n hx hb dX10_planned_54 rfl (lv_at hl 2 rfl) ?_
              refine lv_iconst (v := 1) hx hb dX10_planned_55 (by decide) ?_
              refine lv_icmp_ne (tgt := 68) hx hb dX10_planned_56 (by decide) (fun c_27 => ?_) (fun c_27 => ?_)
              · have nc_27 := ne_i c_27
                have lc_27 : (1 : Int32).toInt = 1 := by decide
                refine lv_aload_n hx hb dX10_planned_68 rfl (lv_at hl 0 rfl) ?_
                refine va_get (D := (dC, dI)) (ci := 10) (v := .ref (b 49)) (C := RX10) (T := TX10) (N := 51) hx hb hts inw_X10_planned_10 hown hK hP 0 rfl rfl 49 (by decide) (hts (.fieldLink RX10 99 "VatHouseModel" "keptShade" "[I") (List.mem_of_getElem? (i := 5) (by exact rfl))) (fun _ h9 => h9) rfl dX10_planned_69 ?_
                refine lv_iload_n hx hb dX10_planned_72 rfl (lv_at hl 1 rfl) ?_
                refine va_iald hx hb hK hP 28 27 rfl rfl (in_i (by omega) (by omega)) dX10_planned_73 ?_
                refine lv_topi (fun z_28 ez_28 => ?_)
                have ez_28 : z_28 = (a 49) ix.toNatClampNeg := ez_28
                exact M_i hx hb hr hlocks (x0_21) hP hD hK hS ⟨⟨_, rfl⟩, trivial⟩ (Nat.le_of_ble_eq_true rfl) (Nat.le_of_ble_eq_true rfl) dX10_planned_74
              · have nc_27 := eq_i c_27
                have lc_27 : (1 : Int32).toInt = 1 := by decide
                refine lv_aload_n hx hb dX10_planned_59 rfl (lv_at hl 0 rfl) ?_
                refine va_get (D := (dC, dI)) (ci := 10) (v := .ref (b 48)) (C := RX10) (T := TX10) (N := 51) hx hb hts inw_X10_planned_10 hown hK hP 0 rfl rfl 48 (by decide) (hts (.fieldLink RX10 96 "VatHouseModel" "keptMinutes" "[I") (List.mem_of_getElem? (i := 4) (by exact rfl))) (fun _ h9 => h9) rfl dX10_planned_60 ?_
                refine lv_iload_n hx hb dX10_planned_63 rfl (lv_at hl 1 rfl) ?_
                refine va_iald hx hb hK hP 27 26 rfl rfl (in_i (by omega) (by omega)) dX10_planned_64 ?_
                refine lv_topi (fun z_29 ez_29 => ?_)
                have ez_29 : z_29 = (a 48) ix.toNatClampNeg := ez_29
                refine lv_goto (tgt := 74) hx hb dX10_planned_65 (by decide) ?_
                exact M_i hx hb hr hlocks (x0_21) hP hD hK hS ⟨⟨_, rfl⟩, trivial⟩ (Nat.le_of_ble_eq_true rfl) (Nat.le_of_ble_eq_true rfl) dX10_planned_74
            · have nc_26 := eq_i c_26
              have lc_26 : (0 : Int32).toInt = 0 := by decide
              refine lv_aload_n hx hb dX10_planned_45 rfl (lv_at hl 0 rfl) ?_
              refine va_get (D := (dC, dI)) (ci := 10) (v := .ref (b 47)) (C := RX10) (T := TX10) (N := 51) hx hb hts inw_X10_planned_10 hown hK hP 0 rfl rfl 47 (by decide) (hts (.fieldLink RX10 93 "VatHouseModel" "keptVat" "[I") (List.mem_of_getElem? (i := 3) (by exact rfl))) (fun _ h9 => h9) rfl dX10_planned_46 ?_
              refine lv_iload_n hx hb dX10_planned_49 rfl (lv_at hl 1 rfl) ?_
              refine va_iald hx hb hK hP 26 25 rfl rfl (in_i (by omega) (by omega)) dX10_planned_50 ?_
              refine lv_topi (fun z_30 ez_30 => ?_)
              have ez_30 : z_30 = (a 47) ix.toNatClampNeg := ez_30
              refine lv_goto (tgt := 74) hx hb dX10_planned_51 (by decide) ?_
              exact M_i hx hb hr hlocks (x0_21) hP hD hK hS ⟨⟨_, rfl⟩, trivial⟩ (Nat.le_of_ble_eq_true rfl) (Nat.le_of_ble_eq_true rfl) dX10_planned_74

theorem inw_X10_vat_10 : ∀ w ∈ wsX100, w ∈ wsX10_vat := fun _ h => List.mem_cons_of_mem _ (List.mem_append_right _ h)

theorem inw_X10_about_10 : ∀ w ∈ wsX100, w ∈ wsX10_about := fun _ h => List.mem_cons_of_mem _ (List.mem_append_right _ h)

theorem inw_X10_count_10 : ∀ w ∈ wsX100, w ∈ wsX10_count := fun _ h => List.mem_cons_of_mem _ (List.mem_append_right _ h)

theorem inw_X10_hasSpan_10 : ∀ w ∈ wsX100, w ∈ wsX10_hasSpan := fun _ h => List.mem_cons_of_mem _ (List.mem_append_right _ h)

theorem inw_X10_fadedTo_10 : ∀ w ∈ wsX100, w ∈ wsX10_fadedTo := fun _ h => List.mem_cons_of_mem _ (List.mem_append_right _ h)


theorem inw_X10_matching_10 : ∀ w ∈ wsX100, w ∈ wsX10_matching := fun _ h => List.mem_cons_of_mem _ (List.mem_append_right _ h)
