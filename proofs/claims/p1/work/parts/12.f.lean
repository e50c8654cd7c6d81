abbrev rm_X6_keep : Room := { frames := 0, cells := 0, slots := 0, locals := 0 }
theorem inw_X6_keep_6 : ∀ w ∈ wsX60, w ∈ wsX6_keep := by decide +kernel
set_option maxHeartbeats 800000 in
set_option maxRecDepth 100000 in
theorem c_X6_keep (l : Launch) (dC : Nat → ClassId) (dI : Nat → Nat → Nat) (sa : Nat → Nat) (hlt : l.stackTraces = false) (sz : Nat) (ad : Nat → Nat) (ca : Nat → ClassId) : CT l dC dI sa yX6_keep wsX6_keep rm_X6_keep [.ref (ad 11), .int 0, .int 0, .int 0] [((ad 11), .inr (6, [.ref (ad 9), .int 0, .int 0, .int 0, .ref (ad 12), .ref (ad 13), .ref (ad 14)])), ((ad 12), .inl ((ca 12), 1501, .inl (fun _ => 0))), ((ad 13), .inl ((ca 13), 1501, .inl (fun _ => 0))), ((ad 14), .inl ((ca 14), 1501, .inl (fun _ => 0)))] [((ca 12), .int), ((ca 13), .int), ((ca 14), .int)] sz (fun (r : Option Value) (u : (Nat → Int32) × (Nat → Int32) × (Nat → Int32)) => match u with | (g1, g2, g3) => r = none ∧ (g1 0 = 0)) (fun (u : (Nat → Int32) × (Nat → Int32) × (Nat → Int32)) => match u with | (g1, g2, g3) => [((ad 11), .inr (6, [.ref (ad 9), .int 0, .int 0, .int 1, .ref (ad 12), .ref (ad 13), .ref (ad 14)])), ((ad 12), .inl ((ca 12), 1501, .inl g1)), ((ad 13), .inl ((ca 13), 1501, .inl g2)), ((ad 14), .inl ((ca 14), 1501, .inl g3))]) (fun (u : (Nat → Int32) × (Nat → Int32) × (Nat → Int32)) => match u with | (g1, g2, g3) => []) 0 0 := by
  refine CT.start (cc := cX6_keep) (maxL := 4) (ret := none) (by decide) rfl (Nat.le_of_ble_eq_true rfl) ?_
  intro p e s m below meth c ls hst hP hK hD hev hS hl
  obtain ⟨hx, hb, hr, hml, hts, hown, hlocks, hin⟩ := hst
  have hown : s.vm.findClass RX6 = some m.cls := hown
  have hin : meth.name = yX6_keep.name := hin
  have hA : ∀ q : Nat, s.heap.size ≤ q → va_A [((ad 11), .inr (6, [.ref (ad 9), .int 0, .int 0, .int 0, .ref (ad 12), .ref (ad 13), .ref (ad 14)])), ((ad 12), .inl ((ca 12), 1501, .inl (fun _ => 0))), ((ad 13), .inl ((ca 13), 1501, .inl (fun _ => 0))), ((ad 14), .inl ((ca 14), 1501, .inl (fun _ => 0)))] s.heap.size q := fun _ h => Or.inr h
  have hl : lv_has ls 4 [(0, .ref (ad 11)), (1, .int 0), (2, .int 0), (3, .int 0)] := hl
  refine lv_aload_n hx hb dX6_keep_0 rfl (lv_at hl 0 rfl) ?_
  refine va_get (D := (dC, dI)) (ci := 6) (v := .int 0) (C := RX6) (T := TX6) (N := 7) hx hb hts inw_X6_keep_6 hown hK hP 0 rfl rfl 3 (by decide) (hts (.fieldLink RX6 41 "VatHouse$Tokens" "size" "I") (by decide +kernel)) (fun _ h9 => h9) rfl dX6_keep_1 ?_
  refine lv_if_lt (tgt := 59) hx hb dX6_keep_4 (by decide) (fun c_1 => ?_) (fun c_1 => ?_)
  · exact absurd c_1 (by decide)
  refine lv_aload_n hx hb dX6_keep_7 rfl (lv_at hl 0 rfl) ?_
  refine va_get (D := (dC, dI)) (ci := 6) (v := .int 0) (C := RX6) (T := TX6) (N := 7) hx hb hts inw_X6_keep_6 hown hK hP 0 rfl rfl 3 (by decide) (hts (.fieldLink RX6 41 "VatHouse$Tokens" "size" "I") (by decide +kernel)) (fun _ h9 => h9) rfl dX6_keep_8 ?_
  refine lv_aload_n hx hb dX6_keep_11 rfl (lv_at hl 0 rfl) ?_
  refine va_get (D := (dC, dI)) (ci := 6) (v := .ref (ad 12)) (C := RX6) (T := TX6) (N := 7) hx hb hts inw_X6_keep_6 hown hK hP 0 rfl rfl 4 (by decide) (hts (.fieldLink RX6 9 "VatHouse$Tokens" "kinds" "[I") (by decide +kernel)) (fun _ h9 => h9) rfl dX6_keep_12 ?_
  refine va_alen hx hb hK hP 1 0 rfl rfl (v := 1501) rfl dX6_keep_15 ?_
  refine lv_icmp_ge (tgt := 59) hx hb dX6_keep_16 (by decide) (fun c_2 => ?_) (fun c_2 => ?_)
  · exact absurd c_2 (by decide)
  refine lv_aload_n hx hb dX6_keep_19 rfl (lv_at hl 0 rfl) ?_
  refine va_get (D := (dC, dI)) (ci := 6) (v := .ref (ad 12)) (C := RX6) (T := TX6) (N := 7) hx hb hts inw_X6_keep_6 hown hK hP 0 rfl rfl 4 (by decide) (hts (.fieldLink RX6 9 "VatHouse$Tokens" "kinds" "[I") (by decide +kernel)) (fun _ h9 => h9) rfl dX6_keep_20 ?_
  refine lv_aload_n hx hb dX6_keep_23 rfl (lv_at hl 0 rfl) ?_
  refine va_get (D := (dC, dI)) (ci := 6) (v := .int 0) (C := RX6) (T := TX6) (N := 7) hx hb hts inw_X6_keep_6 hown hK hP 0 rfl rfl 3 (by decide) (hts (.fieldLink RX6 41 "VatHouse$Tokens" "size" "I") (by decide +kernel)) (fun _ h9 => h9) rfl dX6_keep_24 ?_
  refine lv_iload_n hx hb dX6_keep_27 rfl (lv_at hl 1 rfl) ?_
  refine va_iast hx hb hK hP hD hS 1 0 rfl rfl (by unfold vp_in; decide) dX6_keep_28 (fun H locs hP hD hS => ?_)
  have hP : va_P (dC, dI) vwCl [((ad 11), .inr (6, [.ref (ad 9), .int 0, .int 0, .int 0, .ref (ad 12), .ref (ad 13), .ref (ad 14)])), ((ad 12), .inl ((ca 12), 1501, .inl (upd (fun _ => 0) (0 : Int32).toNatClampNeg 0))), ((ad 13), .inl ((ca 13), 1501, .inl (fun _ => 0))), ((ad 14), .inl ((ca 14), 1501, .inl (fun _ => 0)))] _ := hP
  have hD : va_D _ [((ad 11), .inr (6, [.ref (ad 9), .int 0, .int 0, .int 0, .ref (ad 12), .ref (ad 13), .ref (ad 14)])), ((ad 12), .inl ((ca 12), 1501, .inl (upd (fun _ => 0) (0 : Int32).toNatClampNeg 0))), ((ad 13), .inl ((ca 13), 1501, .inl (fun _ => 0))), ((ad 14), .inl ((ca 14), 1501, .inl (fun _ => 0)))] := hD
  obtain ⟨f_3, ef_3⟩ : ∃ z, z = (upd (fun _ => 0) (0 : Int32).toNatClampNeg 0) := ⟨_, rfl⟩
  rw [← ef_3] at hP hD
  refine lv_aload_n hx hb dX6_keep_29 rfl (lv_at hl 0 rfl) ?_
  refine va_get (D := (dC, dI)) (ci := 6) (v := .ref (ad 13)) (C := RX6) (T := TX6) (N := 7) hx hb hts inw_X6_keep_6 hown hK hP 0 rfl rfl 5 (by decide) (hts (.fieldLink RX6 15 "VatHouse$Tokens" "starts" "[I") (by decide +kernel)) (fun _ h9 => h9) rfl dX6_keep_30 ?_
  refine lv_aload_n hx hb dX6_keep_33 rfl (lv_at hl 0 rfl) ?_
  refine va_get (D := (dC, dI)) (ci := 6) (v := .int 0) (C := RX6) (T := TX6) (N := 7) hx hb hts inw_X6_keep_6 hown hK hP 0 rfl rfl 3 (by decide) (hts (.fieldLink RX6 41 "VatHouse$Tokens" "size" "I") (by decide +kernel)) (fun _ h9 => h9) rfl dX6_keep_34 ?_
  refine lv_iload_n hx hb dX6_keep_37 rfl (lv_at hl 2 rfl) ?_
  refine va_iast hx hb hK hP hD hS 2 1 rfl rfl (by unfold vp_in; decide) dX6_keep_38 (fun H locs hP hD hS => ?_)
  have hP : va_P (dC, dI) vwCl [((ad 11), .inr (6, [.ref (ad 9), .int 0, .int 0, .int 0, .ref (ad 12), .ref (ad 13), .ref (ad 14)])), ((ad 12), .inl ((ca 12), 1501, .inl f_3)), ((ad 13), .inl ((ca 13), 1501, .inl (upd (fun _ => 0) (0 : Int32).toNatClampNeg 0))), ((ad 14), .inl ((ca 14), 1501, .inl (fun _ => 0)))] _ := hP
  have hD : va_D _ [((ad 11), .inr (6, [.ref (ad 9), .int 0, .int 0, .int 0, .ref (ad 12), .ref (ad 13), .ref (ad 14)])), ((ad 12), .inl ((ca 12), 1501, .inl f_3)), ((ad 13), .inl ((ca 13), 1501, .inl (upd (fun _ => 0) (0 : Int32).toNatClampNeg 0))), ((ad 14), .inl ((ca 14), 1501, .inl (fun _ => 0)))] := hD
  obtain ⟨f_4, ef_4⟩ : ∃ z, z = (upd (fun _ => 0) (0 : Int32).toNatClampNeg 0) := ⟨_, rfl⟩
  rw [← ef_4] at hP hD
  refine lv_aload_n hx hb dX6_keep_39 rfl (lv_at hl 0 rfl) ?_
  refine va_get (D := (dC, dI)) (ci := 6) (v := .ref (ad 14)) (C := RX6) (T := TX6) (N := 7) hx hb hts inw_X6_keep_6 hown hK hP 0 rfl rfl 6 (by decide) (hts (.fieldLink RX6 18 "VatHouse$Tokens" "values" "[I") (by decide +kernel)) (fun _ h9 => h9) rfl dX6_keep_40 ?_
  refine lv_aload_n hx hb dX6_keep_43 rfl (lv_at hl 0 rfl) ?_
  refine va_get (D := (dC, dI)) (ci := 6) (v := .int 0) (C := RX6) (T := TX6) (N := 7) hx hb hts inw_X6_keep_6 hown hK hP 0 rfl rfl 3 (by decide) (hts (.fieldLink RX6 41 "VatHouse$Tokens" "size" "I") (by decide +kernel)) (fun _ h9 => h9) rfl dX6_keep_44 ?_
  refine lv_iload_n hx hb dX6_keep_47 rfl (lv_at hl 3 rfl) ?_
  refine va_iast hx hb hK hP hD hS 3 2 rfl rfl (by unfold vp_in; decide) dX6_keep_48 (fun H locs hP hD hS => ?_)
  have hP : va_P (dC, dI) vwCl [((ad 11), .inr (6, [.ref (ad 9), .int 0, .int 0, .int 0, .ref (ad 12), .ref (ad 13), .ref (ad 14)])), ((ad 12), .inl ((ca 12), 1501, .inl f_3)), ((ad 13), .inl ((ca 13), 1501, .inl f_4)), ((ad 14), .inl ((ca 14), 1501, .inl (upd (fun _ => 0) (0 : Int32).toNatClampNeg 0)))] _ := hP
  have hD : va_D _ [((ad 11), .inr (6, [.ref (ad 9), .int 0, .int 0, .int 0, .ref (ad 12), .ref (ad 13), .ref (ad 14)])), ((ad 12), .inl ((ca 12), 1501, .inl f_3)), ((ad 13), .inl ((ca 13), 1501, .inl f_4)), ((ad 14), .inl ((ca 14), 1501, .inl (upd (fun _ => 0) (0 : Int32).toNatClampNeg 0)))] := hD
  obtain ⟨f_5, ef_5⟩ : ∃ z, z = (upd (fun _ => 0) (0 : Int32).toNatClampNeg 0) := ⟨_, rfl⟩
  rw [← ef_5] at hP hD
  refine lv_aload_n hx hb dX6_keep_49 rfl (lv_at hl 0 rfl) ?_
  refine lv_dup hx hb dX6_keep_50 rfl ?_
  refine va_get (D := (dC, dI)) (ci := 6) (v := .int 0) (C := RX6) (T := TX6) (N := 7) hx hb hts inw_X6_keep_6 hown hK hP 0 rfl rfl 3 (by decide) (hts (.fieldLink RX6 41 "VatHouse$Tokens" "size" "I") (by decide +kernel)) (fun _ h9 => h9) rfl dX6_keep_51 ?_
  refine lv_iconst (v := 1) hx hb dX6_keep_54 (by decide) ?_
  refine lv_iadd hx hb dX6_keep_55 ?_
  refine lv_topi (fun z_6 ez_6 => ?_)
  obtain rfl : z_6 = 1 := ez_6.trans (by decide)
  refine va_put (D := (dC, dI)) (ci := 6) (v := .int 1) (ty := .int) (C := RX6) (T := TX6) (N := 7) hx hb hts inw_X6_keep_6 tyX6 tyX6_ok nmX6 hown hK hP hD hS 0 rfl rfl 3 (by decide) (hts (.fieldLink RX6 41 "VatHouse$Tokens" "size" "I") (by decide +kernel)) (fun _ h9 => h9) rfl (by decide +kernel) rfl rfl (Nat.le_of_ble_eq_true rfl) dX6_keep_56 (fun H locs hP hD hS => ?_)
  have hP : va_P (dC, dI) vwCl [((ad 11), .inr (6, [.ref (ad 9), .int 0, .int 0, .int 1, .ref (ad 12), .ref (ad 13), .ref (ad 14)])), ((ad 12), .inl ((ca 12), 1501, .inl f_3)), ((ad 13), .inl ((ca 13), 1501, .inl f_4)), ((ad 14), .inl ((ca 14), 1501, .inl f_5))] _ := hP
  have hD : va_D _ [((ad 11), .inr (6, [.ref (ad 9), .int 0, .int 0, .int 1, .ref (ad 12), .ref (ad 13), .ref (ad 14)])), ((ad 12), .inl ((ca 12), 1501, .inl f_3)), ((ad 13), .inl ((ca 13), 1501, .inl f_4)), ((ad 14), .inl ((ca 14), 1501, .inl f_5))] := hD
  exact en_v hx hb hr hlocks hP hD hK hS (f_3, f_4, f_5) ⟨rfl, by rw [ef_3]; rfl⟩ [0, 1, 2, 3] [] rfl rfl rfl (Nat.le_of_ble_eq_true rfl) (Nat.le_of_ble_eq_true rfl) dX6_keep_59

abbrev rm_X6_split : Room := { frames := 1, cells := 0, slots := 0, locals := 23 }
theorem inw_X6_split_6 : ∀ w ∈ wsX60, w ∈ wsX6_split := by decide +kernel
set_option maxHeartbeats 800000 in
set_option maxRecDepth 100000 in
theorem c_X6_split (l : Launch) (dC : Nat → ClassId) (dI : Nat → Nat → Nat) (sa : Nat → Nat) (hlt : l.stackTraces = false) (sz : Nat) (ad : Nat → Nat) (ca : Nat → ClassId) : CT l dC dI sa yX6_split wsX6_split rm_X6_split [.ref (ad 11), .int 0] [((ad 11), .inr (6, [.ref (ad 9), .int 0, .int 0, .int 0, .ref (ad 12), .ref (ad 13), .ref (ad 14)])), ((ad 12), .inl ((ca 12), 1501, .inl (fun _ => 0))), ((ad 13), .inl ((ca 13), 1501, .inl (fun _ => 0))), ((ad 14), .inl ((ca 14), 1501, .inl (fun _ => 0))), ((ad 9), .inl ((ca 9), 1500, .inl (fun _ => 0)))] [((ca 12), .int), ((ca 13), .int), ((ca 14), .int), ((ca 9), .byte)] sz (fun (r : Option Value) (u : (Nat → Int32) × (Nat → Int32) × (Nat → Int32)) => match u with | (g1, g2, g3) => r = none ∧ (g1 0 = 0)) (fun (u : (Nat → Int32) × (Nat → Int32) × (Nat → Int32)) => match u with | (g1, g2, g3) => [((ad 11), .inr (6, [.ref (ad 9), .int 0, .int 0, .int 1, .ref (ad 12), .ref (ad 13), .ref (ad 14)])), ((ad 12), .inl ((ca 12), 1501, .inl g1)), ((ad 13), .inl ((ca 13), 1501, .inl g2)), ((ad 14), .inl ((ca 14), 1501, .inl g3)), ((ad 9), .inl ((ca 9), 1500, .inl (fun _ => 0)))]) (fun (u : (Nat → Int32) × (Nat → Int32) × (Nat → Int32)) => match u with | (g1, g2, g3) => []) 0 0 := by
  refine CT.start (cc := cX6_split) (maxL := 3) (ret := none) (by decide) rfl (Nat.le_of_ble_eq_true rfl) ?_
  intro p e s m below meth c ls hst hP hK hD hev hS hl
  obtain ⟨hx, hb, hr, hml, hts, hown, hlocks, hin⟩ := hst
  have hown : s.vm.findClass RX6 = some m.cls := hown
  have hin : meth.name = yX6_split.name := hin
  have hA : ∀ q : Nat, s.heap.size ≤ q → va_A [((ad 11), .inr (6, [.ref (ad 9), .int 0, .int 0, .int 0, .ref (ad 12), .ref (ad 13), .ref (ad 14)])), ((ad 12), .inl ((ca 12), 1501, .inl (fun _ => 0))), ((ad 13), .inl ((ca 13), 1501, .inl (fun _ => 0))), ((ad 14), .inl ((ca 14), 1501, .inl (fun _ => 0))), ((ad 9), .inl ((ca 9), 1500, .inl (fun _ => 0)))] s.heap.size q := fun _ h => Or.inr h
  have hl : lv_has ls 3 [(0, .ref (ad 11)), (1, .int 0)] := hl
  refine lv_aload_n hx hb dX6_split_0 rfl (lv_at hl 0 rfl) ?_
  refine lv_iconst (v := 0) hx hb dX6_split_1 (by decide) ?_
  refine lv_iload_n hx hb dX6_split_2 rfl (lv_at hl 1 rfl) ?_
  refine lv_aload_n hx hb dX6_split_3 rfl (lv_at hl 0 rfl) ?_
  refine va_get (D := (dC, dI)) (ci := 6) (v := .ref (ad 9)) (C := RX6) (T := TX6) (N := 7) hx hb hts inw_X6_split_6 hown hK hP 0 rfl rfl 0 (by decide) (hts (.fieldLink RX6 21 "VatHouse$Tokens" "text" "[B") (by decide +kernel)) (fun _ h9 => h9) rfl dX6_split_4 ?_
  refine va_alen hx hb hK hP 4 3 rfl rfl (v := 1500) rfl dX6_split_7 ?_
  refine va_mmin hx hb (hml.trans hl.1.symm) hown (hts (.methodLink RX6 25 Lib.Math.min.name) (by decide +kernel)) (hts (.static Lib.Math.min.name) (by decide +kernel)) (hts (.initialized "java/lang/Math") (by decide +kernel)) (hts (.code Lib.Math.min.name Lib.Math.min.code 2 (some .int)) (by decide +kernel)) (Nat.le_of_ble_eq_true rfl) (Nat.le_of_ble_eq_true rfl) (Nat.le_of_ble_eq_true rfl) (Nat.le_of_ble_eq_true rfl) dX6_split_8 ?_
  refine lv_topi (fun z_1 ez_1 => ?_)
  obtain rfl : z_1 = 0 := ez_1.trans (by decide)
  refine va_mmax hx hb (hml.trans hl.1.symm) hown (hts (.methodLink RX6 31 Lib.Math.max.name) (by decide +kernel)) (hts (.static Lib.Math.max.name) (by decide +kernel)) (hts (.initialized "java/lang/Math") (by decide +kernel)) (hts (.code Lib.Math.max.name Lib.Math.max.code 2 (some .int)) (by decide +kernel)) (Nat.le_of_ble_eq_true rfl) (Nat.le_of_ble_eq_true rfl) (Nat.le_of_ble_eq_true rfl) (Nat.le_of_ble_eq_true rfl) dX6_split_11 ?_
  refine lv_topi (fun z_2 ez_2 => ?_)
  obtain rfl : z_2 = 0 := ez_2.trans (by decide)
  refine va_put (D := (dC, dI)) (ci := 6) (v := .int 0) (ty := .int) (C := RX6) (T := TX6) (N := 7) hx hb hts inw_X6_split_6 tyX6 tyX6_ok nmX6 hown hK hP hD hS 0 rfl rfl 1 (by decide) (hts (.fieldLink RX6 34 "VatHouse$Tokens" "length" "I") (by decide +kernel)) (fun _ h9 => h9) rfl (by decide +kernel) rfl rfl (Nat.le_of_ble_eq_true rfl) dX6_split_14 (fun H locs hP hD hS => ?_)
  have hP : va_P (dC, dI) vwCl [((ad 11), .inr (6, [.ref (ad 9), .int 0, .int 0, .int 0, .ref (ad 12), .ref (ad 13), .ref (ad 14)])), ((ad 12), .inl ((ca 12), 1501, .inl (fun _ => 0))), ((ad 13), .inl ((ca 13), 1501, .inl (fun _ => 0))), ((ad 14), .inl ((ca 14), 1501, .inl (fun _ => 0))), ((ad 9), .inl ((ca 9), 1500, .inl (fun _ => 0)))] _ := hP
  have hD : va_D _ [((ad 11), .inr (6, [.ref (ad 9), .int 0, .int 0, .int 0, .ref (ad 12), .ref (ad 13), .ref (ad 14)])), ((ad 12), .inl ((ca 12), 1501, .inl (fun _ => 0))), ((ad 13), .inl ((ca 13), 1501, .inl (fun _ => 0))), ((ad 14), .inl ((ca 14), 1501, .inl (fun _ => 0))), ((ad 9), .inl ((ca 9), 1500, .inl (fun _ => 0)))] := hD
  refine lv_aload_n hx hb dX6_split_17 rfl (lv_at hl 0 rfl) ?_
  refine lv_iconst (v := 0) hx hb dX6_split_18 (by decide) ?_
  refine va_put (D := (dC, dI)) (ci := 6) (v := .int 0) (ty := .int) (C := RX6) (T := TX6) (N := 7) hx hb hts inw_X6_split_6 tyX6 tyX6_ok nmX6 hown hK hP hD hS 0 rfl rfl 2 (by decide) (hts (.fieldLink RX6 38 "VatHouse$Tokens" "at" "I") (by decide +kernel)) (fun _ h9 => h9) rfl (by decide +kernel) rfl rfl (Nat.le_of_ble_eq_true rfl) dX6_split_19 (fun H locs hP hD hS => ?_)
  have hP : va_P (dC, dI) vwCl [((ad 11), .inr (6, [.ref (ad 9), .int 0, .int 0, .int 0, .ref (ad 12), .ref (ad 13), .ref (ad 14)])), ((ad 12), .inl ((ca 12), 1501, .inl (fun _ => 0))), ((ad 13), .inl ((ca 13), 1501, .inl (fun _ => 0))), ((ad 14), .inl ((ca 14), 1501, .inl (fun _ => 0))), ((ad 9), .inl ((ca 9), 1500, .inl (fun _ => 0)))] _ := hP
  have hD : va_D _ [((ad 11), .inr (6, [.ref (ad 9), .int 0, .int 0, .int 0, .ref (ad 12), .ref (ad 13), .ref (ad 14)])), ((ad 12), .inl ((ca 12), 1501, .inl (fun _ => 0))), ((ad 13), .inl ((ca 13), 1501, .inl (fun _ => 0))), ((ad 14), .inl ((ca 14), 1501, .inl (fun _ => 0))), ((ad 9), .inl ((ca 9), 1500, .inl (fun _ => 0)))] := hD
  refine lv_aload_n hx hb dX6_split_22 rfl (lv_at hl 0 rfl) ?_
  refine lv_iconst (v := 0) hx hb dX6_split_23 (by decide) ?_
  refine va_put (D := (dC, dI)) (ci := 6) (v := .int 0) (ty := .int) (C := RX6) (T := TX6) (N := 7) hx hb hts inw_X6_split_6 tyX6 tyX6_ok nmX6 hown hK hP hD hS 0 rfl rfl 3 (by decide) (hts (.fieldLink RX6 41 "VatHouse$Tokens" "size" "I") (by decide +kernel)) (fun _ h9 => h9) rfl (by decide +kernel) rfl rfl (Nat.le_of_ble_eq_true rfl) dX6_split_24 (fun H locs hP hD hS => ?_)
  have hP : va_P (dC, dI) vwCl [((ad 11), .inr (6, [.ref (ad 9), .int 0, .int 0, .int 0, .ref (ad 12), .ref (ad 13), .ref (ad 14)])), ((ad 12), .inl ((ca 12), 1501, .inl (fun _ => 0))), ((ad 13), .inl ((ca 13), 1501, .inl (fun _ => 0))), ((ad 14), .inl ((ca 14), 1501, .inl (fun _ => 0))), ((ad 9), .inl ((ca 9), 1500, .inl (fun _ => 0)))] _ := hP
  have hD : va_D _ [((ad 11), .inr (6, [.ref (ad 9), .int 0, .int 0, .int 0, .ref (ad 12), .ref (ad 13), .ref (ad 14)])), ((ad 12), .inl ((ca 12), 1501, .inl (fun _ => 0))), ((ad 13), .inl ((ca 13), 1501, .inl (fun _ => 0))), ((ad 14), .inl ((ca 14), 1501, .inl (fun _ => 0))), ((ad 9), .inl ((ca 9), 1500, .inl (fun _ => 0)))] := hD
  refine lv_iconst (v := 0) hx hb dX6_split_27 (by decide) ?_
  refine lv_istore_n (lv' := [(2, .int 0), (0, .ref (ad 11)), (1, .int 0)]) hx hb dX6_split_28 rfl hl (by decide) rfl (fun ls hl => ?_)
  refine lv_iload_n hx hb dX6_split_29 rfl (lv_at hl 0 rfl) ?_
  refine lv_aload_n hx hb dX6_split_30 rfl (lv_at hl 1 rfl) ?_
  refine va_get (D := (dC, dI)) (ci := 6) (v := .int 0) (C := RX6) (T := TX6) (N := 7) hx hb hts inw_X6_split_6 hown hK hP 0 rfl rfl 1 (by decide) (hts (.fieldLink RX6 34 "VatHouse$Tokens" "length" "I") (by decide +kernel)) (fun _ h9 => h9) rfl dX6_split_31 ?_
  refine lv_icmp_ge (tgt := 85) hx hb dX6_split_34 (by decide) (fun c_3 => ?_) (fun c_3 => ?_)
  rotate_left
  · exact absurd c_3 (by decide)
  refine lv_aload_n hx hb dX6_split_85 rfl (lv_at hl 1 rfl) ?_
  refine lv_iconst (v := 0) hx hb dX6_split_86 (by decide) ?_
  refine lv_aload_n hx hb dX6_split_87 rfl (lv_at hl 1 rfl) ?_
  refine va_get (D := (dC, dI)) (ci := 6) (v := .int 0) (C := RX6) (T := TX6) (N := 7) hx hb hts inw_X6_split_6 hown hK hP 0 rfl rfl 1 (by decide) (hts (.fieldLink RX6 34 "VatHouse$Tokens" "length" "I") (by decide +kernel)) (fun _ h9 => h9) rfl dX6_split_88 ?_
  refine lv_iconst (v := 0) hx hb dX6_split_91 (by decide) ?_
  refine go_V (wr := [((ad 9), .inl ((ca 9), 1500, .inl (fun _ => 0)))]) ⟨hx, hb, hml, hown, hts⟩ (c_X6_keep l dC dI sa hlt _ ad ca ) (cwV 3 hts gX6_split_X6_keep rfl rfl rfl (by decide +kernel) ⟨Nat.le_of_ble_eq_true rfl, Nat.le_of_ble_eq_true rfl⟩) hP hD hK hS hA hev [0, 1, 2, 3] [4] [0, 1, 2] rfl rfl rfl rfl (by decide) rfl 0 6 rfl rfl rfl rfl hl.1 rfl (Nat.le_of_ble_eq_true rfl) dX6_split_92 ⟨Nat.le_of_ble_eq_true rfl, Nat.le_of_ble_eq_true rfl⟩ (fun r u H locs hw hP hD hK hS => ?_)
  obtain ⟨g1_4, g2_5, g3_6⟩ := u
  have hw : r = none ∧ (g1_4 0 = 0) := hw
  obtain ⟨rfl, hw_7⟩ := hw
  have hP : va_P (dC, dI) vwCl [((ad 9), .inl ((ca 9), 1500, .inl (fun _ => 0))), ((ad 11), .inr (6, [.ref (ad 9), .int 0, .int 0, .int 1, .ref (ad 12), .ref (ad 13), .ref (ad 14)])), ((ad 12), .inl ((ca 12), 1501, .inl g1_4)), ((ad 13), .inl ((ca 13), 1501, .inl g2_5)), ((ad 14), .inl ((ca 14), 1501, .inl g3_6))] _ := hP
  have hD : va_D _ [((ad 9), .inl ((ca 9), 1500, .inl (fun _ => 0))), ((ad 11), .inr (6, [.ref (ad 9), .int 0, .int 0, .int 1, .ref (ad 12), .ref (ad 13), .ref (ad 14)])), ((ad 12), .inl ((ca 12), 1501, .inl g1_4)), ((ad 13), .inl ((ca 13), 1501, .inl g2_5)), ((ad 14), .inl ((ca 14), 1501, .inl g3_6))] := hD
  have hK : va_K (dC, dI) vwCl [((ca 12), .int), ((ca 13), .int), ((ca 14), .int), ((ca 9), .byte)] s := hK
  refine W.eq (g2 := F0 m 95 ls []) rfl ?_
  exact en_v hx hb hr hlocks hP hD hK hS (g1_4, g2_5, g3_6) ⟨rfl, hw_7⟩ [1, 2, 3, 4, 0] [] rfl rfl rfl (Nat.le_of_ble_eq_true rfl) (Nat.le_of_ble_eq_true rfl) dX6_split_95

abbrev rm_X2_moveTo_0 : Room := { frames := 0, cells := 0, slots := 0, locals := 0 }
theorem inw_X2_moveTo_2 : ∀ w ∈ wsX20, w ∈ wsX2_moveTo := by decide +kernel
theorem inw_X2_moveTo_6 : ∀ w ∈ wsX60, w ∈ wsX2_moveTo := by decide +kernel
set_option maxHeartbeats 800000 in
set_option maxRecDepth 100000 in
theorem c_X2_moveTo_0 (l : Launch) (dC : Nat → ClassId) (dI : Nat → Nat → Nat) (sa : Nat → Nat) (hlt : l.stackTraces = false) (sz : Nat) (ad : Nat → Nat) (ca : Nat → ClassId) (g1 : Nat → Int32) (hg : g1 0 = 0) : CT l dC dI sa yX2_moveTo wsX2_moveTo rm_X2_moveTo_0 [.ref (ad 10), .int 0] [((ad 10), .inr (2, [.ref (ad 11), .int 0, .int 0, .int 0, .int (-1), .int 0])), ((ad 11), .inr (6, [.ref (ad 9), .int 0, .int 0, .int 1, .ref (ad 12), .ref (ad 13), .ref (ad 14)])), ((ad 12), .inl ((ca 12), 1501, .inl g1))] [((ca 12), .int)] sz (fun (r : Option Value) (_ : Unit) => r = none ∧ (True)) (fun (_ : Unit) => [((ad 10), .inr (2, [.ref (ad 11), .int 0, .int 0, .int 0, .int (-1), .int 0])), ((ad 11), .inr (6, [.ref (ad 9), .int 0, .int 0, .int 1, .ref (ad 12), .ref (ad 13), .ref (ad 14)])), ((ad 12), .inl ((ca 12), 1501, .inl g1))]) (fun (_ : Unit) => []) 0 0 := by
  refine CT.start (cc := cX2_moveTo) (maxL := 2) (ret := none) (by decide) rfl (Nat.le_of_ble_eq_true rfl) ?_
  intro p e s m below meth c ls hst hP hK hD hev hS hl
  obtain ⟨hx, hb, hr, hml, hts, hown, hlocks, hin⟩ := hst
  have hown : s.vm.findClass RX2 = some m.cls := hown
  have hin : meth.name = yX2_moveTo.name := hin
  have hA : ∀ q : Nat, s.heap.size ≤ q → va_A [((ad 10), .inr (2, [.ref (ad 11), .int 0, .int 0, .int 0, .int (-1), .int 0])), ((ad 11), .inr (6, [.ref (ad 9), .int 0, .int 0, .int 1, .ref (ad 12), .ref (ad 13), .ref (ad 14)])), ((ad 12), .inl ((ca 12), 1501, .inl g1))] s.heap.size q := fun _ h => Or.inr h
  have hl : lv_has ls 2 [(0, .ref (ad 10)), (1, .int 0)] := hl
  refine lv_aload_n hx hb dX2_moveTo_0 rfl (lv_at hl 0 rfl) ?_
  refine lv_iload_n hx hb dX2_moveTo_1 rfl (lv_at hl 1 rfl) ?_
  refine va_put (D := (dC, dI)) (ci := 2) (v := .int 0) (ty := .int) (C := RX2) (T := TX2) (N := 6) hx hb hts inw_X2_moveTo_2 tyX2 tyX2_ok nmX2 hown hK hP hD hS 0 rfl rfl 1 (by decide) (hts (.fieldLink RX2 101 "VatHouse$Reader" "at" "I") (by decide +kernel)) (fun _ h9 => h9) rfl (by decide +kernel) rfl rfl (Nat.le_of_ble_eq_true rfl) dX2_moveTo_2 (fun H locs hP hD hS => ?_)
  have hP : va_P (dC, dI) vwCl [((ad 10), .inr (2, [.ref (ad 11), .int 0, .int 0, .int 0, .int (-1), .int 0])), ((ad 11), .inr (6, [.ref (ad 9), .int 0, .int 0, .int 1, .ref (ad 12), .ref (ad 13), .ref (ad 14)])), ((ad 12), .inl ((ca 12), 1501, .inl g1))] _ := hP
  have hD : va_D _ [((ad 10), .inr (2, [.ref (ad 11), .int 0, .int 0, .int 0, .int (-1), .int 0])), ((ad 11), .inr (6, [.ref (ad 9), .int 0, .int 0, .int 1, .ref (ad 12), .ref (ad 13), .ref (ad 14)])), ((ad 12), .inl ((ca 12), 1501, .inl g1))] := hD
  refine lv_aload_n hx hb dX2_moveTo_5 rfl (lv_at hl 0 rfl) ?_
  refine lv_iload_n hx hb dX2_moveTo_6 rfl (lv_at hl 1 rfl) ?_
  refine lv_if_lt (tgt := 45) hx hb dX2_moveTo_7 (by decide) (fun c_1 => ?_) (fun c_1 => ?_)
  · exact absurd c_1 (by decide)
  refine lv_iload_n hx hb dX2_moveTo_10 rfl (lv_at hl 1 rfl) ?_
  refine lv_aload_n hx hb dX2_moveTo_11 rfl (lv_at hl 0 rfl) ?_
  refine va_get (D := (dC, dI)) (ci := 2) (v := .ref (ad 11)) (C := RX2) (T := TX2) (N := 6) hx hb hts inw_X2_moveTo_2 hown hK hP 0 rfl rfl 0 (by decide) (hts (.fieldLink RX2 20 "VatHouse$Reader" "tokens" "LVatHouse$Tokens;") (by decide +kernel)) (fun _ h9 => h9) rfl dX2_moveTo_12 ?_
  refine va_get (D := (dC, dI)) (ci := 6) (v := .int 1) (C := RX6) (T := TX6) (N := 7) hx hb hts inw_X2_moveTo_6 hown hK hP 1 rfl rfl 3 (by decide) (hts (.fieldLink RX2 108 "VatHouse$Tokens" "size" "I") (by decide +kernel)) (fun _ h9 => h9) rfl dX2_moveTo_15 ?_
  refine lv_icmp_ge (tgt := 45) hx hb dX2_moveTo_18 (by decide) (fun c_2 => ?_) (fun c_2 => ?_)
  · exact absurd c_2 (by decide)
  refine lv_iload_n hx hb dX2_moveTo_21 rfl (lv_at hl 1 rfl) ?_
  refine lv_aload_n hx hb dX2_moveTo_22 rfl (lv_at hl 0 rfl) ?_
  refine va_get (D := (dC, dI)) (ci := 2) (v := .ref (ad 11)) (C := RX2) (T := TX2) (N := 6) hx hb hts inw_X2_moveTo_2 hown hK hP 0 rfl rfl 0 (by decide) (hts (.fieldLink RX2 20 "VatHouse$Reader" "tokens" "LVatHouse$Tokens;") (by decide +kernel)) (fun _ h9 => h9) rfl dX2_moveTo_23 ?_
  refine va_get (D := (dC, dI)) (ci := 6) (v := .ref (ad 12)) (C := RX6) (T := TX6) (N := 7) hx hb hts inw_X2_moveTo_6 hown hK hP 1 rfl rfl 4 (by decide) (hts (.fieldLink RX2 111 "VatHouse$Tokens" "kinds" "[I") (by decide +kernel)) (fun _ h9 => h9) rfl dX2_moveTo_26 ?_
  refine va_alen hx hb hK hP 2 0 rfl rfl (v := 1501) rfl dX2_moveTo_29 ?_
  refine lv_icmp_ge (tgt := 45) hx hb dX2_moveTo_30 (by decide) (fun c_3 => ?_) (fun c_3 => ?_)
  · exact absurd c_3 (by decide)
  refine lv_aload_n hx hb dX2_moveTo_33 rfl (lv_at hl 0 rfl) ?_
  refine va_get (D := (dC, dI)) (ci := 2) (v := .ref (ad 11)) (C := RX2) (T := TX2) (N := 6) hx hb hts inw_X2_moveTo_2 hown hK hP 0 rfl rfl 0 (by decide) (hts (.fieldLink RX2 20 "VatHouse$Reader" "tokens" "LVatHouse$Tokens;") (by decide +kernel)) (fun _ h9 => h9) rfl dX2_moveTo_34 ?_
  refine va_get (D := (dC, dI)) (ci := 6) (v := .ref (ad 12)) (C := RX6) (T := TX6) (N := 7) hx hb hts inw_X2_moveTo_6 hown hK hP 1 rfl rfl 4 (by decide) (hts (.fieldLink RX2 111 "VatHouse$Tokens" "kinds" "[I") (by decide +kernel)) (fun _ h9 => h9) rfl dX2_moveTo_37 ?_
  refine lv_iload_n hx hb dX2_moveTo_40 rfl (lv_at hl 1 rfl) ?_
  refine va_iald hx hb hK hP 2 0 rfl rfl (by unfold vp_in; decide) dX2_moveTo_41 ?_
  refine lv_topi (fun z_4 ez_4 => ?_)
  refine lv_goto (tgt := 46) hx hb dX2_moveTo_42 (by decide) ?_
  obtain rfl : z_4 = 0 := ez_4.trans hg
  refine va_put (D := (dC, dI)) (ci := 2) (v := .int 0) (ty := .int) (C := RX2) (T := TX2) (N := 6) hx hb hts inw_X2_moveTo_2 tyX2 tyX2_ok nmX2 hown hK hP hD hS 0 rfl rfl 2 (by decide) (hts (.fieldLink RX2 44 "VatHouse$Reader" "token" "I") (by decide +kernel)) (fun _ h9 => h9) rfl (by decide +kernel) rfl rfl (Nat.le_of_ble_eq_true rfl) dX2_moveTo_46 (fun H locs hP hD hS => ?_)
  have hP : va_P (dC, dI) vwCl [((ad 10), .inr (2, [.ref (ad 11), .int 0, .int 0, .int 0, .int (-1), .int 0])), ((ad 11), .inr (6, [.ref (ad 9), .int 0, .int 0, .int 1, .ref (ad 12), .ref (ad 13), .ref (ad 14)])), ((ad 12), .inl ((ca 12), 1501, .inl g1))] _ := hP
  have hD : va_D _ [((ad 10), .inr (2, [.ref (ad 11), .int 0, .int 0, .int 0, .int (-1), .int 0])), ((ad 11), .inr (6, [.ref (ad 9), .int 0, .int 0, .int 1, .ref (ad 12), .ref (ad 13), .ref (ad 14)])), ((ad 12), .inl ((ca 12), 1501, .inl g1))] := hD
  exact en_v hx hb hr hlocks hP hD hK hS () ⟨rfl, trivial⟩ [0, 1, 2] [] rfl rfl rfl (Nat.le_of_ble_eq_true rfl) (Nat.le_of_ble_eq_true rfl) dX2_moveTo_49

abbrev rm_X2_moveTo_1 : Room := { frames := 0, cells := 0, slots := 0, locals := 0 }
set_option maxHeartbeats 800000 in
set_option maxRecDepth 100000 in
theorem c_X2_moveTo_1 (l : Launch) (dC : Nat → ClassId) (dI : Nat → Nat → Nat) (sa : Nat → Nat) (hlt : l.stackTraces = false) (sz : Nat) (ad : Nat → Nat) (ca : Nat → ClassId) : CT l dC dI sa yX2_moveTo wsX2_moveTo rm_X2_moveTo_1 [.ref (ad 10), .int 1] [((ad 10), .inr (2, [.ref (ad 11), .int 0, .int 0, .int 0, .int (-1), .int 0])), ((ad 11), .inr (6, [.ref (ad 9), .int 0, .int 0, .int 1, .ref (ad 12), .ref (ad 13), .ref (ad 14)]))] [] sz (fun (r : Option Value) (_ : Unit) => r = none ∧ (True)) (fun (_ : Unit) => [((ad 10), .inr (2, [.ref (ad 11), .int 1, .int 0, .int 0, .int (-1), .int 0])), ((ad 11), .inr (6, [.ref (ad 9), .int 0, .int 0, .int 1, .ref (ad 12), .ref (ad 13), .ref (ad 14)]))]) (fun (_ : Unit) => []) 0 0 := by
  refine CT.start (cc := cX2_moveTo) (maxL := 2) (ret := none) (by decide) rfl (Nat.le_of_ble_eq_true rfl) ?_
  intro p e s m below meth c ls hst hP hK hD hev hS hl
  obtain ⟨hx, hb, hr, hml, hts, hown, hlocks, hin⟩ := hst
  have hown : s.vm.findClass RX2 = some m.cls := hown
  have hin : meth.name = yX2_moveTo.name := hin
  have hA : ∀ q : Nat, s.heap.size ≤ q → va_A [((ad 10), .inr (2, [.ref (ad 11), .int 0, .int 0, .int 0, .int (-1), .int 0])), ((ad 11), .inr (6, [.ref (ad 9), .int 0, .int 0, .int 1, .ref (ad 12), .ref (ad 13), .ref (ad 14)]))] s.heap.size q := fun _ h => Or.inr h
  have hl : lv_has ls 2 [(0, .ref (ad 10)), (1, .int 1)] := hl
  refine lv_aload_n hx hb dX2_moveTo_0 rfl (lv_at hl 0 rfl) ?_
  refine lv_iload_n hx hb dX2_moveTo_1 rfl (lv_at hl 1 rfl) ?_
  refine va_put (D := (dC, dI)) (ci := 2) (v := .int 1) (ty := .int) (C := RX2) (T := TX2) (N := 6) hx hb hts inw_X2_moveTo_2 tyX2 tyX2_ok nmX2 hown hK hP hD hS 0 rfl rfl 1 (by decide) (hts (.fieldLink RX2 101 "VatHouse$Reader" "at" "I") (by decide +kernel)) (fun _ h9 => h9) rfl (by decide +kernel) rfl rfl (Nat.le_of_ble_eq_true rfl) dX2_moveTo_2 (fun H locs hP hD hS => ?_)
  have hP : va_P (dC, dI) vwCl [((ad 10), .inr (2, [.ref (ad 11), .int 1, .int 0, .int 0, .int (-1), .int 0])), ((ad 11), .inr (6, [.ref (ad 9), .int 0, .int 0, .int 1, .ref (ad 12), .ref (ad 13), .ref (ad 14)]))] _ := hP
  have hD : va_D _ [((ad 10), .inr (2, [.ref (ad 11), .int 1, .int 0, .int 0, .int (-1), .int 0])), ((ad 11), .inr (6, [.ref (ad 9), .int 0, .int 0, .int 1, .ref (ad 12), .ref (ad 13), .ref (ad 14)]))] := hD
  refine lv_aload_n hx hb dX2_moveTo_5 rfl (lv_at hl 0 rfl) ?_
  refine lv_iload_n hx hb dX2_moveTo_6 rfl (lv_at hl 1 rfl) ?_
  refine lv_if_lt (tgt := 45) hx hb dX2_moveTo_7 (by decide) (fun c_1 => ?_) (fun c_1 => ?_)
  · exact absurd c_1 (by decide)
  refine lv_iload_n hx hb dX2_moveTo_10 rfl (lv_at hl 1 rfl) ?_
  refine lv_aload_n hx hb dX2_moveTo_11 rfl (lv_at hl 0 rfl) ?_
  refine va_get (D := (dC, dI)) (ci := 2) (v := .ref (ad 11)) (C := RX2) (T := TX2) (N := 6) hx hb hts inw_X2_moveTo_2 hown hK hP 0 rfl rfl 0 (by decide) (hts (.fieldLink RX2 20 "VatHouse$Reader" "tokens" "LVatHouse$Tokens;") (by decide +kernel)) (fun _ h9 => h9) rfl dX2_moveTo_12 ?_
  refine va_get (D := (dC, dI)) (ci := 6) (v := .int 1) (C := RX6) (T := TX6) (N := 7) hx hb hts inw_X2_moveTo_6 hown hK hP 1 rfl rfl 3 (by decide) (hts (.fieldLink RX2 108 "VatHouse$Tokens" "size" "I") (by decide +kernel)) (fun _ h9 => h9) rfl dX2_moveTo_15 ?_
  refine lv_icmp_ge (tgt := 45) hx hb dX2_moveTo_18 (by decide) (fun c_2 => ?_) (fun c_2 => ?_)
  rotate_left
  · exact absurd c_2 (by decide)
  refine lv_iconst (v := 0) hx hb dX2_moveTo_45 (by decide) ?_
  refine va_put (D := (dC, dI)) (ci := 2) (v := .int 0) (ty := .int) (C := RX2) (T := TX2) (N := 6) hx hb hts inw_X2_moveTo_2 tyX2 tyX2_ok nmX2 hown hK hP hD hS 0 rfl rfl 2 (by decide) (hts (.fieldLink RX2 44 "VatHouse$Reader" "token" "I") (by decide +kernel)) (fun _ h9 => h9) rfl (by decide +kernel) rfl rfl (Nat.le_of_ble_eq_true rfl) dX2_moveTo_46 (fun H locs hP hD hS => ?_)
  have hP : va_P (dC, dI) vwCl [((ad 10), .inr (2, [.ref (ad 11), .int 1, .int 0, .int 0, .int (-1), .int 0])), ((ad 11), .inr (6, [.ref (ad 9), .int 0, .int 0, .int 1, .ref (ad 12), .ref (ad 13), .ref (ad 14)]))] _ := hP
  have hD : va_D _ [((ad 10), .inr (2, [.ref (ad 11), .int 1, .int 0, .int 0, .int (-1), .int 0])), ((ad 11), .inr (6, [.ref (ad 9), .int 0, .int 0, .int 1, .ref (ad 12), .ref (ad 13), .ref (ad 14)]))] := hD
  exact en_v hx hb hr hlocks hP hD hK hS () ⟨rfl, trivial⟩ [0, 1] [] rfl rfl rfl (Nat.le_of_ble_eq_true rfl) (Nat.le_of_ble_eq_true rfl) dX2_moveTo_49

abbrev rm_X2_readSteps : Room := { frames := 0, cells := 0, slots := 0, locals := 0 }
theorem inw_X2_readSteps_2 : ∀ w ∈ wsX20, w ∈ wsX2_readSteps := by decide +kernel
set_option maxHeartbeats 800000 in
set_option maxRecDepth 100000 in
theorem c_X2_readSteps (l : Launch) (dC : Nat → ClassId) (dI : Nat → Nat → Nat) (sa : Nat → Nat) (hlt : l.stackTraces = false) (sz : Nat) (ad : Nat → Nat) (ca : Nat → ClassId) : CT l dC dI sa yX2_readSteps wsX2_readSteps rm_X2_readSteps [.ref (ad 10), .int 0] [((ad 10), .inr (2, [.ref (ad 11), .int 0, .int 0, .int 0, .int (-1), .int 0]))] [] sz (fun (r : Option Value) (_ : Unit) => r = some (.null) ∧ (True)) (fun (_ : Unit) => [((ad 10), .inr (2, [.ref (ad 11), .int 0, .int 0, .int 0, .int (-1), .int 0]))]) (fun (_ : Unit) => []) 0 0 := by
  refine CT.start (cc := cX2_readSteps) (maxL := 6) (ret := (some (.object "VatHouse$Step"))) (by decide) rfl (Nat.le_of_ble_eq_true rfl) ?_
  intro p e s m below meth c ls hst hP hK hD hev hS hl
  obtain ⟨hx, hb, hr, hml, hts, hown, hlocks, hin⟩ := hst
  have hown : s.vm.findClass RX2 = some m.cls := hown
  have hin : meth.name = yX2_readSteps.name := hin
  have hA : ∀ q : Nat, s.heap.size ≤ q → va_A [((ad 10), .inr (2, [.ref (ad 11), .int 0, .int 0, .int 0, .int (-1), .int 0]))] s.heap.size q := fun _ h => Or.inr h
  have hl : lv_has ls 6 [(0, .ref (ad 10)), (1, .int 0)] := hl
  refine lv_null hx hb dX2_readSteps_0 ?_
  refine lv_astore_nN (lv' := [(2, .null), (0, .ref (ad 10)), (1, .int 0)]) hx hb dX2_readSteps_1 rfl hl (by decide) rfl (fun ls hl => ?_)
  refine lv_null hx hb dX2_readSteps_2 ?_
  refine lv_astore_nN (lv' := [(3, .null), (2, .null), (0, .ref (ad 10)), (1, .int 0)]) hx hb dX2_readSteps_3 rfl hl (by decide) rfl (fun ls hl => ?_)
  refine lv_iconst (v := 0) hx hb dX2_readSteps_4 (by decide) ?_
  refine lv_istore (lv' := [(4, .int 0), (3, .null), (2, .null), (0, .ref (ad 10)), (1, .int 0)]) hx hb dX2_readSteps_5 hl (by decide) rfl (fun ls hl => ?_)
  refine lv_iload hx hb dX2_readSteps_7 (lv_at hl 0 rfl) ?_
  refine lv_sipush (v := 300) hx hb dX2_readSteps_9 (by decide) ?_
  refine lv_icmp_gt (tgt := 71) hx hb dX2_readSteps_12 (by decide) (fun c_1 => ?_) (fun c_1 => ?_)
  · exact absurd c_1 (by decide)
  refine lv_aload_n hx hb dX2_readSteps_15 rfl (lv_at hl 3 rfl) ?_
  refine va_get (D := (dC, dI)) (ci := 2) (v := .int 0) (C := RX2) (T := TX2) (N := 6) hx hb hts inw_X2_readSteps_2 hown hK hP 0 rfl rfl 3 (by decide) (hts (.fieldLink RX2 28 "VatHouse$Reader" "fault" "I") (by decide +kernel)) (fun _ h9 => h9) rfl dX2_readSteps_16 ?_
  refine lv_if_ne (tgt := 71) hx hb dX2_readSteps_19 (by decide) (fun c_2 => ?_) (fun c_2 => ?_)
  · exact absurd c_2 (by decide)
  refine lv_aload_n hx hb dX2_readSteps_22 rfl (lv_at hl 3 rfl) ?_
  refine va_get (D := (dC, dI)) (ci := 2) (v := .int 0) (C := RX2) (T := TX2) (N := 6) hx hb hts inw_X2_readSteps_2 hown hK hP 0 rfl rfl 2 (by decide) (hts (.fieldLink RX2 44 "VatHouse$Reader" "token" "I") (by decide +kernel)) (fun _ h9 => h9) rfl dX2_readSteps_23 ?_
  refine lv_iconst (v := 1) hx hb dX2_readSteps_26 (by decide) ?_
  refine lv_icmp_lt (tgt := 71) hx hb dX2_readSteps_27 (by decide) (fun c_3 => ?_) (fun c_3 => ?_)
  rotate_left
  · exact absurd c_3 (by decide)
  refine lv_aload_nN hx hb dX2_readSteps_71 rfl (lv_at hl 2 rfl) ?_
  exact en_a hx hb hr (Or.inl ⟨_, rfl⟩) (Or.inl rfl) hlocks hP hD hK hS () ⟨rfl, trivial⟩ [0] [] rfl rfl rfl (Nat.le_of_ble_eq_true rfl) (Nat.le_of_ble_eq_true rfl) dX2_readSteps_72

abbrev rm_X2_pass : Room := { frames := 1, cells := 0, slots := 0, locals := 21 }
theorem inw_X2_pass_2 : ∀ w ∈ wsX20, w ∈ wsX2_pass := by decide +kernel
set_option maxHeartbeats 800000 in
set_option maxRecDepth 100000 in
theorem c_X2_pass (l : Launch) (dC : Nat → ClassId) (dI : Nat → Nat → Nat) (sa : Nat → Nat) (hlt : l.stackTraces = false) (sz : Nat) (ad : Nat → Nat) (ca : Nat → ClassId) : CT l dC dI sa yX2_pass wsX2_pass rm_X2_pass [.ref (ad 10), .int 0] [((ad 10), .inr (2, [.ref (ad 11), .int 0, .int 0, .int 0, .int (-1), .int 0])), ((ad 11), .inr (6, [.ref (ad 9), .int 0, .int 0, .int 1, .ref (ad 12), .ref (ad 13), .ref (ad 14)]))] [] sz (fun (r : Option Value) (_ : Unit) => r = none ∧ (True)) (fun (_ : Unit) => [((ad 10), .inr (2, [.ref (ad 11), .int 1, .int 0, .int 0, .int (-1), .int 0])), ((ad 11), .inr (6, [.ref (ad 9), .int 0, .int 0, .int 1, .ref (ad 12), .ref (ad 13), .ref (ad 14)]))]) (fun (_ : Unit) => []) 0 0 := by
  refine CT.start (cc := cX2_pass) (maxL := 2) (ret := none) (by decide) rfl (Nat.le_of_ble_eq_true rfl) ?_
  intro p e s m below meth c ls hst hP hK hD hev hS hl
  obtain ⟨hx, hb, hr, hml, hts, hown, hlocks, hin⟩ := hst
  have hown : s.vm.findClass RX2 = some m.cls := hown
  have hin : meth.name = yX2_pass.name := hin
  have hA : ∀ q : Nat, s.heap.size ≤ q → va_A [((ad 10), .inr (2, [.ref (ad 11), .int 0, .int 0, .int 0, .int (-1), .int 0])), ((ad 11), .inr (6, [.ref (ad 9), .int 0, .int 0, .int 1, .ref (ad 12), .ref (ad 13), .ref (ad 14)]))] s.heap.size q := fun _ h => Or.inr h
  have hl : lv_has ls 2 [(0, .ref (ad 10)), (1, .int 0)] := hl
  refine lv_aload_n hx hb dX2_pass_0 rfl (lv_at hl 0 rfl) ?_
  refine va_get (D := (dC, dI)) (ci := 2) (v := .int 0) (C := RX2) (T := TX2) (N := 6) hx hb hts inw_X2_pass_2 hown hK hP 0 rfl rfl 2 (by decide) (hts (.fieldLink RX2 44 "VatHouse$Reader" "token" "I") (by decide +kernel)) (fun _ h9 => h9) rfl dX2_pass_1 ?_
  refine lv_iload_n hx hb dX2_pass_4 rfl (lv_at hl 1 rfl) ?_
  refine lv_icmp_eq (tgt := 13) hx hb dX2_pass_5 (by decide) (fun c_1 => ?_) (fun c_1 => ?_)
  rotate_left
  · exact absurd c_1 (by decide)
  refine lv_aload_n hx hb dX2_pass_13 rfl (lv_at hl 0 rfl) ?_
  refine va_get (D := (dC, dI)) (ci := 2) (v := .int 0) (C := RX2) (T := TX2) (N := 6) hx hb hts inw_X2_pass_2 hown hK hP 0 rfl rfl 3 (by decide) (hts (.fieldLink RX2 28 "VatHouse$Reader" "fault" "I") (by decide +kernel)) (fun _ h9 => h9) rfl dX2_pass_14 ?_
  refine lv_if_ne (tgt := 30) hx hb dX2_pass_17 (by decide) (fun c_2 => ?_) (fun c_2 => ?_)
  · exact absurd c_2 (by decide)
  refine lv_aload_n hx hb dX2_pass_20 rfl (lv_at hl 0 rfl) ?_
  refine lv_aload_n hx hb dX2_pass_21 rfl (lv_at hl 0 rfl) ?_
  refine va_get (D := (dC, dI)) (ci := 2) (v := .int 0) (C := RX2) (T := TX2) (N := 6) hx hb hts inw_X2_pass_2 hown hK hP 0 rfl rfl 1 (by decide) (hts (.fieldLink RX2 101 "VatHouse$Reader" "at" "I") (by decide +kernel)) (fun _ h9 => h9) rfl dX2_pass_22 ?_
  refine lv_iconst (v := 1) hx hb dX2_pass_25 (by decide) ?_
  refine lv_iadd hx hb dX2_pass_26 ?_
  refine lv_topi (fun z_3 ez_3 => ?_)
  obtain rfl : z_3 = 1 := ez_3.trans (by decide)
  refine go_V (wr := []) ⟨hx, hb, hml, hown, hts⟩ (c_X2_moveTo_1 l dC dI sa hlt _ ad ca ) (cwV 1 hts gX2_pass_X2_moveTo rfl rfl rfl (by decide +kernel) ⟨Nat.le_of_ble_eq_true rfl, Nat.le_of_ble_eq_true rfl⟩) hP hD hK hS hA hev [0, 1] [] [] rfl rfl rfl rfl (by decide) rfl 0 2 rfl rfl rfl rfl hl.1 rfl (Nat.le_of_ble_eq_true rfl) dX2_pass_27 ⟨Nat.le_of_ble_eq_true rfl, Nat.le_of_ble_eq_true rfl⟩ (fun r u H locs hw hP hD hK hS => ?_)
  have hw : r = none ∧ (True) := hw
  obtain ⟨rfl, hw_4⟩ := hw
  have hP : va_P (dC, dI) vwCl [((ad 10), .inr (2, [.ref (ad 11), .int 1, .int 0, .int 0, .int (-1), .int 0])), ((ad 11), .inr (6, [.ref (ad 9), .int 0, .int 0, .int 1, .ref (ad 12), .ref (ad 13), .ref (ad 14)]))] _ := hP
  have hD : va_D _ [((ad 10), .inr (2, [.ref (ad 11), .int 1, .int 0, .int 0, .int (-1), .int 0])), ((ad 11), .inr (6, [.ref (ad 9), .int 0, .int 0, .int 1, .ref (ad 12), .ref (ad 13), .ref (ad 14)]))] := hD
  have hK : va_K (dC, dI) vwCl [] s := hK
  refine W.eq (g2 := F0 m 30 ls []) rfl ?_
  exact en_v hx hb hr hlocks hP hD hK hS () ⟨rfl, trivial⟩ [0, 1] [] rfl rfl rfl (Nat.le_of_ble_eq_true rfl) (Nat.le_of_ble_eq_true rfl) dX2_pass_30

abbrev rm_X2_readRecipe : Room := { frames := 2, cells := 0, slots := 0, locals := 45 }
theorem inw_X2_readRecipe_2 : ∀ w ∈ wsX20, w ∈ wsX2_readRecipe := by decide +kernel
set_option maxHeartbeats 800000 in
set_option maxRecDepth 100000 in
theorem c_X2_readRecipe (l : Launch) (dC : Nat → ClassId) (dI : Nat → Nat → Nat) (sa : Nat → Nat) (hlt : l.stackTraces = false) (sz : Nat) (ad : Nat → Nat) (ca : Nat → ClassId) : CT l dC dI sa yX2_readRecipe wsX2_readRecipe rm_X2_readRecipe [.ref (ad 10), .int 0] [((ad 10), .inr (2, [.ref (ad 11), .int 0, .int 0, .int 0, .int (-1), .int 0])), ((ad 11), .inr (6, [.ref (ad 9), .int 0, .int 0, .int 0, .ref (ad 12), .ref (ad 13), .ref (ad 14)])), ((ad 12), .inl ((ca 12), 1501, .inl (fun _ => 0))), ((ad 13), .inl ((ca 13), 1501, .inl (fun _ => 0))), ((ad 14), .inl ((ca 14), 1501, .inl (fun _ => 0))), ((ad 9), .inl ((ca 9), 1500, .inl (fun _ => 0)))] [((ca 12), .int), ((ca 13), .int), ((ca 14), .int), ((ca 9), .byte)] sz (fun (r : Option Value) (u : (Nat → Int32) × (Nat → Int32) × (Nat → Int32)) => match u with | (g1, g2, g3) => r = some (.null) ∧ (True)) (fun (u : (Nat → Int32) × (Nat → Int32) × (Nat → Int32)) => match u with | (g1, g2, g3) => [((ad 10), .inr (2, [.ref (ad 11), .int 1, .int 0, .int 0, .int (-1), .int 0])), ((ad 11), .inr (6, [.ref (ad 9), .int 0, .int 0, .int 1, .ref (ad 12), .ref (ad 13), .ref (ad 14)])), ((ad 12), .inl ((ca 12), 1501, .inl g1)), ((ad 13), .inl ((ca 13), 1501, .inl g2)), ((ad 14), .inl ((ca 14), 1501, .inl g3)), ((ad 9), .inl ((ca 9), 1500, .inl (fun _ => 0)))]) (fun (u : (Nat → Int32) × (Nat → Int32) × (Nat → Int32)) => match u with | (g1, g2, g3) => []) 0 0 := by
  refine CT.start (cc := cX2_readRecipe) (maxL := 3) (ret := (some (.object "VatHouse$Step"))) (by decide) rfl (Nat.le_of_ble_eq_true rfl) ?_
  intro p e s m below meth c ls hst hP hK hD hev hS hl
  obtain ⟨hx, hb, hr, hml, hts, hown, hlocks, hin⟩ := hst
  have hown : s.vm.findClass RX2 = some m.cls := hown
  have hin : meth.name = yX2_readRecipe.name := hin
  have hA : ∀ q : Nat, s.heap.size ≤ q → va_A [((ad 10), .inr (2, [.ref (ad 11), .int 0, .int 0, .int 0, .int (-1), .int 0])), ((ad 11), .inr (6, [.ref (ad 9), .int 0, .int 0, .int 0, .ref (ad 12), .ref (ad 13), .ref (ad 14)])), ((ad 12), .inl ((ca 12), 1501, .inl (fun _ => 0))), ((ad 13), .inl ((ca 13), 1501, .inl (fun _ => 0))), ((ad 14), .inl ((ca 14), 1501, .inl (fun _ => 0))), ((ad 9), .inl ((ca 9), 1500, .inl (fun _ => 0)))] s.heap.size q := fun _ h => Or.inr h
  have hl : lv_has ls 3 [(0, .ref (ad 10)), (1, .int 0)] := hl
  refine lv_aload_n hx hb dX2_readRecipe_0 rfl (lv_at hl 0 rfl) ?_
  refine va_get (D := (dC, dI)) (ci := 2) (v := .ref (ad 11)) (C := RX2) (T := TX2) (N := 6) hx hb hts inw_X2_readRecipe_2 hown hK hP 0 rfl rfl 0 (by decide) (hts (.fieldLink RX2 20 "VatHouse$Reader" "tokens" "LVatHouse$Tokens;") (by decide +kernel)) (fun _ h9 => h9) rfl dX2_readRecipe_1 ?_
  refine lv_iload_n hx hb dX2_readRecipe_4 rfl (lv_at hl 1 rfl) ?_
  refine go_V (wr := [((ad 10), .inr (2, [.ref (ad 11), .int 0, .int 0, .int 0, .int (-1), .int 0]))]) ⟨hx, hb, hml, hown, hts⟩ (c_X6_split l dC dI sa hlt _ ad ca ) (cwV 1 hts gX2_readRecipe_X6_split rfl rfl rfl (by decide +kernel) ⟨Nat.le_of_ble_eq_true rfl, Nat.le_of_ble_eq_true rfl⟩) hP hD hK hS hA hev [1, 2, 3, 4, 5] [0] [0, 1, 2, 3] rfl rfl rfl rfl (by decide) rfl 1 6 rfl rfl rfl rfl hl.1 rfl (Nat.le_of_ble_eq_true rfl) dX2_readRecipe_5 ⟨Nat.le_of_ble_eq_true rfl, Nat.le_of_ble_eq_true rfl⟩ (fun r u H locs hw hP hD hK hS => ?_)
  obtain ⟨g1_1, g2_2, g3_3⟩ := u
  have hw : r = none ∧ (g1_1 0 = 0) := hw
  obtain ⟨rfl, hw_4⟩ := hw
  have hP : va_P (dC, dI) vwCl [((ad 10), .inr (2, [.ref (ad 11), .int 0, .int 0, .int 0, .int (-1), .int 0])), ((ad 11), .inr (6, [.ref (ad 9), .int 0, .int 0, .int 1, .ref (ad 12), .ref (ad 13), .ref (ad 14)])), ((ad 12), .inl ((ca 12), 1501, .inl g1_1)), ((ad 13), .inl ((ca 13), 1501, .inl g2_2)), ((ad 14), .inl ((ca 14), 1501, .inl g3_3)), ((ad 9), .inl ((ca 9), 1500, .inl (fun _ => 0)))] _ := hP
  have hD : va_D _ [((ad 10), .inr (2, [.ref (ad 11), .int 0, .int 0, .int 0, .int (-1), .int 0])), ((ad 11), .inr (6, [.ref (ad 9), .int 0, .int 0, .int 1, .ref (ad 12), .ref (ad 13), .ref (ad 14)])), ((ad 12), .inl ((ca 12), 1501, .inl g1_1)), ((ad 13), .inl ((ca 13), 1501, .inl g2_2)), ((ad 14), .inl ((ca 14), 1501, .inl g3_3)), ((ad 9), .inl ((ca 9), 1500, .inl (fun _ => 0)))] := hD
  have hK : va_K (dC, dI) vwCl [((ca 12), .int), ((ca 13), .int), ((ca 14), .int), ((ca 9), .byte)] s := hK
  refine W.eq (g2 := F0 m 8 ls []) rfl ?_
  refine lv_aload_n hx hb dX2_readRecipe_8 rfl (lv_at hl 0 rfl) ?_
  refine lv_iconst (v := 0) hx hb dX2_readRecipe_9 (by decide) ?_
  refine va_put (D := (dC, dI)) (ci := 2) (v := .int 0) (ty := .int) (C := RX2) (T := TX2) (N := 6) hx hb hts inw_X2_readRecipe_2 tyX2 tyX2_ok nmX2 hown hK hP hD hS 0 rfl rfl 3 (by decide) (hts (.fieldLink RX2 28 "VatHouse$Reader" "fault" "I") (by decide +kernel)) (fun _ h9 => h9) rfl (by decide +kernel) rfl rfl (Nat.le_of_ble_eq_true rfl) dX2_readRecipe_10 (fun H locs hP hD hS => ?_)
  have hP : va_P (dC, dI) vwCl [((ad 10), .inr (2, [.ref (ad 11), .int 0, .int 0, .int 0, .int (-1), .int 0])), ((ad 11), .inr (6, [.ref (ad 9), .int 0, .int 0, .int 1, .ref (ad 12), .ref (ad 13), .ref (ad 14)])), ((ad 12), .inl ((ca 12), 1501, .inl g1_1)), ((ad 13), .inl ((ca 13), 1501, .inl g2_2)), ((ad 14), .inl ((ca 14), 1501, .inl g3_3)), ((ad 9), .inl ((ca 9), 1500, .inl (fun _ => 0)))] _ := hP
  have hD : va_D _ [((ad 10), .inr (2, [.ref (ad 11), .int 0, .int 0, .int 0, .int (-1), .int 0])), ((ad 11), .inr (6, [.ref (ad 9), .int 0, .int 0, .int 1, .ref (ad 12), .ref (ad 13), .ref (ad 14)])), ((ad 12), .inl ((ca 12), 1501, .inl g1_1)), ((ad 13), .inl ((ca 13), 1501, .inl g2_2)), ((ad 14), .inl ((ca 14), 1501, .inl g3_3)), ((ad 9), .inl ((ca 9), 1500, .inl (fun _ => 0)))] := hD
  refine lv_aload_n hx hb dX2_readRecipe_13 rfl (lv_at hl 0 rfl) ?_
  refine lv_iconst (v := (-1)) hx hb dX2_readRecipe_14 (by decide) ?_
  refine va_put (D := (dC, dI)) (ci := 2) (v := .int (-1)) (ty := .int) (C := RX2) (T := TX2) (N := 6) hx hb hts inw_X2_readRecipe_2 tyX2 tyX2_ok nmX2 hown hK hP hD hS 0 rfl rfl 4 (by decide) (hts (.fieldLink RX2 9 "VatHouse$Reader" "place" "I") (by decide +kernel)) (fun _ h9 => h9) rfl (by decide +kernel) rfl rfl (Nat.le_of_ble_eq_true rfl) dX2_readRecipe_15 (fun H locs hP hD hS => ?_)
  have hP : va_P (dC, dI) vwCl [((ad 10), .inr (2, [.ref (ad 11), .int 0, .int 0, .int 0, .int (-1), .int 0])), ((ad 11), .inr (6, [.ref (ad 9), .int 0, .int 0, .int 1, .ref (ad 12), .ref (ad 13), .ref (ad 14)])), ((ad 12), .inl ((ca 12), 1501, .inl g1_1)), ((ad 13), .inl ((ca 13), 1501, .inl g2_2)), ((ad 14), .inl ((ca 14), 1501, .inl g3_3)), ((ad 9), .inl ((ca 9), 1500, .inl (fun _ => 0)))] _ := hP
  have hD : va_D _ [((ad 10), .inr (2, [.ref (ad 11), .int 0, .int 0, .int 0, .int (-1), .int 0])), ((ad 11), .inr (6, [.ref (ad 9), .int 0, .int 0, .int 1, .ref (ad 12), .ref (ad 13), .ref (ad 14)])), ((ad 12), .inl ((ca 12), 1501, .inl g1_1)), ((ad 13), .inl ((ca 13), 1501, .inl g2_2)), ((ad 14), .inl ((ca 14), 1501, .inl g3_3)), ((ad 9), .inl ((ca 9), 1500, .inl (fun _ => 0)))] := hD
  refine lv_aload_n hx hb dX2_readRecipe_18 rfl (lv_at hl 0 rfl) ?_
  refine lv_iconst (v := 0) hx hb dX2_readRecipe_19 (by decide) ?_
  refine va_put (D := (dC, dI)) (ci := 2) (v := .int 0) (ty := .int) (C := RX2) (T := TX2) (N := 6) hx hb hts inw_X2_readRecipe_2 tyX2 tyX2_ok nmX2 hown hK hP hD hS 0 rfl rfl 5 (by decide) (hts (.fieldLink RX2 31 "VatHouse$Reader" "steps" "I") (by decide +kernel)) (fun _ h9 => h9) rfl (by decide +kernel) rfl rfl (Nat.le_of_ble_eq_true rfl) dX2_readRecipe_20 (fun H locs hP hD hS => ?_)
  have hP : va_P (dC, dI) vwCl [((ad 10), .inr (2, [.ref (ad 11), .int 0, .int 0, .int 0, .int (-1), .int 0])), ((ad 11), .inr (6, [.ref (ad 9), .int 0, .int 0, .int 1, .ref (ad 12), .ref (ad 13), .ref (ad 14)])), ((ad 12), .inl ((ca 12), 1501, .inl g1_1)), ((ad 13), .inl ((ca 13), 1501, .inl g2_2)), ((ad 14), .inl ((ca 14), 1501, .inl g3_3)), ((ad 9), .inl ((ca 9), 1500, .inl (fun _ => 0)))] _ := hP
  have hD : va_D _ [((ad 10), .inr (2, [.ref (ad 11), .int 0, .int 0, .int 0, .int (-1), .int 0])), ((ad 11), .inr (6, [.ref (ad 9), .int 0, .int 0, .int 1, .ref (ad 12), .ref (ad 13), .ref (ad 14)])), ((ad 12), .inl ((ca 12), 1501, .inl g1_1)), ((ad 13), .inl ((ca 13), 1501, .inl g2_2)), ((ad 14), .inl ((ca 14), 1501, .inl g3_3)), ((ad 9), .inl ((ca 9), 1500, .inl (fun _ => 0)))] := hD
  refine lv_aload_n hx hb dX2_readRecipe_23 rfl (lv_at hl 0 rfl) ?_
  refine lv_iconst (v := 0) hx hb dX2_readRecipe_24 (by decide) ?_
  refine go_V (wr := [((ad 13), .inl ((ca 13), 1501, .inl g2_2)), ((ad 14), .inl ((ca 14), 1501, .inl g3_3)), ((ad 9), .inl ((ca 9), 1500, .inl (fun _ => 0)))]) ⟨hx, hb, hml, hown, hts⟩ (c_X2_moveTo_0 l dC dI sa hlt _ ad ca g1_1 hw_4) (cwV 1 hts gX2_readRecipe_X2_moveTo rfl rfl rfl (by decide +kernel) ⟨Nat.le_of_ble_eq_true rfl, Nat.le_of_ble_eq_true rfl⟩) hP hD hK hS hA hev [0, 1, 2] [3, 4, 5] [0] rfl rfl rfl rfl (by decide) rfl 0 2 rfl rfl rfl rfl hl.1 rfl (Nat.le_of_ble_eq_true rfl) dX2_readRecipe_25 ⟨Nat.le_of_ble_eq_true rfl, Nat.le_of_ble_eq_true rfl⟩ (fun r u H locs hw hP hD hK hS => ?_)
  have hw : r = none ∧ (True) := hw
  obtain ⟨rfl, hw_5⟩ := hw
  have hP : va_P (dC, dI) vwCl [((ad 13), .inl ((ca 13), 1501, .inl g2_2)), ((ad 14), .inl ((ca 14), 1501, .inl g3_3)), ((ad 9), .inl ((ca 9), 1500, .inl (fun _ => 0))), ((ad 10), .inr (2, [.ref (ad 11), .int 0, .int 0, .int 0, .int (-1), .int 0])), ((ad 11), .inr (6, [.ref (ad 9), .int 0, .int 0, .int 1, .ref (ad 12), .ref (ad 13), .ref (ad 14)])), ((ad 12), .inl ((ca 12), 1501, .inl g1_1))] _ := hP
  have hD : va_D _ [((ad 13), .inl ((ca 13), 1501, .inl g2_2)), ((ad 14), .inl ((ca 14), 1501, .inl g3_3)), ((ad 9), .inl ((ca 9), 1500, .inl (fun _ => 0))), ((ad 10), .inr (2, [.ref (ad 11), .int 0, .int 0, .int 0, .int (-1), .int 0])), ((ad 11), .inr (6, [.ref (ad 9), .int 0, .int 0, .int 1, .ref (ad 12), .ref (ad 13), .ref (ad 14)])), ((ad 12), .inl ((ca 12), 1501, .inl g1_1))] := hD
  have hK : va_K (dC, dI) vwCl [((ca 12), .int), ((ca 13), .int), ((ca 14), .int), ((ca 9), .byte)] s := hK
  refine W.eq (g2 := F0 m 28 ls []) rfl ?_
  refine lv_aload_n hx hb dX2_readRecipe_28 rfl (lv_at hl 0 rfl) ?_
  refine lv_iconst (v := 0) hx hb dX2_readRecipe_29 (by decide) ?_
  refine go_V (wr := [((ad 13), .inl ((ca 13), 1501, .inl g2_2)), ((ad 14), .inl ((ca 14), 1501, .inl g3_3)), ((ad 9), .inl ((ca 9), 1500, .inl (fun _ => 0))), ((ad 11), .inr (6, [.ref (ad 9), .int 0, .int 0, .int 1, .ref (ad 12), .ref (ad 13), .ref (ad 14)])), ((ad 12), .inl ((ca 12), 1501, .inl g1_1))]) ⟨hx, hb, hml, hown, hts⟩ (c_X2_readSteps l dC dI sa hlt _ ad ca ) (cwV 1 hts gX2_readRecipe_X2_readSteps rfl rfl rfl (by decide +kernel) ⟨Nat.le_of_ble_eq_true rfl, Nat.le_of_ble_eq_true rfl⟩) hP hD hK hS hA hev [3] [0, 1, 2, 4, 5] [] rfl rfl rfl rfl (by decide) rfl 3 2 rfl rfl rfl rfl hl.1 rfl (Nat.le_of_ble_eq_true rfl) dX2_readRecipe_30 ⟨Nat.le_of_ble_eq_true rfl, Nat.le_of_ble_eq_true rfl⟩ (fun r u H locs hw hP hD hK hS => ?_)
  have hw : r = some (.null) ∧ (True) := hw
  obtain ⟨rfl, hw_6⟩ := hw
  have hP : va_P (dC, dI) vwCl [((ad 13), .inl ((ca 13), 1501, .inl g2_2)), ((ad 14), .inl ((ca 14), 1501, .inl g3_3)), ((ad 9), .inl ((ca 9), 1500, .inl (fun _ => 0))), ((ad 11), .inr (6, [.ref (ad 9), .int 0, .int 0, .int 1, .ref (ad 12), .ref (ad 13), .ref (ad 14)])), ((ad 12), .inl ((ca 12), 1501, .inl g1_1)), ((ad 10), .inr (2, [.ref (ad 11), .int 0, .int 0, .int 0, .int (-1), .int 0]))] _ := hP
  have hD : va_D _ [((ad 13), .inl ((ca 13), 1501, .inl g2_2)), ((ad 14), .inl ((ca 14), 1501, .inl g3_3)), ((ad 9), .inl ((ca 9), 1500, .inl (fun _ => 0))), ((ad 11), .inr (6, [.ref (ad 9), .int 0, .int 0, .int 1, .ref (ad 12), .ref (ad 13), .ref (ad 14)])), ((ad 12), .inl ((ca 12), 1501, .inl g1_1)), ((ad 10), .inr (2, [.ref (ad 11), .int 0, .int 0, .int 0, .int (-1), .int 0]))] := hD
  have hK : va_K (dC, dI) vwCl [((ca 12), .int), ((ca 13), .int), ((ca 14), .int), ((ca 9), .byte)] s := hK
  refine W.eq (g2 := F0 m 33 ls [.null]) rfl ?_
  refine lv_astore_nN (lv' := [(2, .null), (0, .ref (ad 10)), (1, .int 0)]) hx hb dX2_readRecipe_33 rfl hl (by decide) rfl (fun ls hl => ?_)
  refine lv_aload_n hx hb dX2_readRecipe_34 rfl (lv_at hl 1 rfl) ?_
  refine lv_iconst (v := 0) hx hb dX2_readRecipe_35 (by decide) ?_
  refine go_V (wr := [((ad 13), .inl ((ca 13), 1501, .inl g2_2)), ((ad 14), .inl ((ca 14), 1501, .inl g3_3)), ((ad 9), .inl ((ca 9), 1500, .inl (fun _ => 0))), ((ad 12), .inl ((ca 12), 1501, .inl g1_1))]) ⟨hx, hb, hml, hown, hts⟩ (c_X2_pass l dC dI sa hlt _ ad ca ) (cwV 1 hts gX2_readRecipe_X2_pass rfl rfl rfl (by decide +kernel) ⟨Nat.le_of_ble_eq_true rfl, Nat.le_of_ble_eq_true rfl⟩) hP hD hK hS hA hev [5, 3] [0, 1, 2, 4] [] rfl rfl rfl rfl (by decide) rfl 5 2 rfl rfl rfl rfl hl.1 rfl (Nat.le_of_ble_eq_true rfl) dX2_readRecipe_36 ⟨Nat.le_of_ble_eq_true rfl, Nat.le_of_ble_eq_true rfl⟩ (fun r u H locs hw hP hD hK hS => ?_)
  have hw : r = none ∧ (True) := hw
  obtain ⟨rfl, hw_7⟩ := hw
  have hP : va_P (dC, dI) vwCl [((ad 13), .inl ((ca 13), 1501, .inl g2_2)), ((ad 14), .inl ((ca 14), 1501, .inl g3_3)), ((ad 9), .inl ((ca 9), 1500, .inl (fun _ => 0))), ((ad 12), .inl ((ca 12), 1501, .inl g1_1)), ((ad 10), .inr (2, [.ref (ad 11), .int 1, .int 0, .int 0, .int (-1), .int 0])), ((ad 11), .inr (6, [.ref (ad 9), .int 0, .int 0, .int 1, .ref (ad 12), .ref (ad 13), .ref (ad 14)]))] _ := hP
  have hD : va_D _ [((ad 13), .inl ((ca 13), 1501, .inl g2_2)), ((ad 14), .inl ((ca 14), 1501, .inl g3_3)), ((ad 9), .inl ((ca 9), 1500, .inl (fun _ => 0))), ((ad 12), .inl ((ca 12), 1501, .inl g1_1)), ((ad 10), .inr (2, [.ref (ad 11), .int 1, .int 0, .int 0, .int (-1), .int 0])), ((ad 11), .inr (6, [.ref (ad 9), .int 0, .int 0, .int 1, .ref (ad 12), .ref (ad 13), .ref (ad 14)]))] := hD
  have hK : va_K (dC, dI) vwCl [((ca 12), .int), ((ca 13), .int), ((ca 14), .int), ((ca 9), .byte)] s := hK
  refine W.eq (g2 := F0 m 39 ls []) rfl ?_
  refine lv_aload_nN hx hb dX2_readRecipe_39 rfl (lv_at hl 0 rfl) ?_
  exact en_a hx hb hr (Or.inl ⟨_, rfl⟩) (Or.inl rfl) hlocks hP hD hK hS (g1_1, g2_2, g3_3) ⟨rfl, trivial⟩ [4, 5, 3, 0, 1, 2] [] rfl rfl rfl (Nat.le_of_ble_eq_true rfl) (Nat.le_of_ble_eq_true rfl) dX2_readRecipe_40

abbrev rm_X3_init : Room := { frames := 1, cells := 0, slots := 0, locals := 12 }
theorem inw_X3_init_3 : ∀ w ∈ wsX30, w ∈ wsX3_init := by decide +kernel
set_option maxHeartbeats 800000 in
set_option maxRecDepth 100000 in
theorem c_X3_init (l : Launch) (dC : Nat → ClassId) (dI : Nat → Nat → Nat) (sa : Nat → Nat) (hlt : l.stackTraces = false) (sz : Nat) (h0 : Nat) : CT l dC dI sa yX3_init wsX3_init rm_X3_init [.ref h0, .null] [(h0, .inr (3, [.null]))] [] sz (fun (r : Option Value) (_ : Unit) => r = none ∧ (True)) (fun (_ : Unit) => [(h0, .inr (3, [.null]))]) (fun (_ : Unit) => []) 0 0 := by
  refine CT.start (cc := cX3_init) (maxL := 2) (ret := none) (by decide) rfl (Nat.le_of_ble_eq_true rfl) ?_
  intro p e s m below meth c ls hst hP hK hD hev hS hl
  obtain ⟨hx, hb, hr, hml, hts, hown, hlocks, hin⟩ := hst
  have hown : s.vm.findClass RX3 = some m.cls := hown
  have hin : meth.name = yX3_init.name := hin
  have hA : ∀ q : Nat, s.heap.size ≤ q → va_A [(h0, .inr (3, [.null]))] s.heap.size q := fun _ h => Or.inr h
  have hl : lv_has ls 2 [(0, .ref h0), (1, .null)] := hl
  refine lv_aload_n hx hb dX3_init_0 rfl (lv_at hl 0 rfl) ?_
  refine W.objInit hx hb hown (hts (.methodLink RX3 1 objectInit) (by decide +kernel)) (hts (.instanceMethod objectInit) (by decide +kernel)) (hts (.code objectInit ⟨#[0xb1]⟩ 1 none) (by decide +kernel)) rfl (by rw [hml]; exact hl.1) rfl dX3_init_1 (Nat.le_of_ble_eq_true rfl) (Nat.le_of_ble_eq_true rfl) ?_
  refine W.eq (g2 := F0 m 4 ls []) rfl ?_
  refine lv_aload_n hx hb dX3_init_4 rfl (lv_at hl 0 rfl) ?_
  refine lv_aload_nN hx hb dX3_init_5 rfl (lv_at hl 1 rfl) ?_
  refine va_putF (D := (dC, dI)) (ci := 3) (v := .null) (ty := .object "VatHouse$Step") (C := RX3) (T := TX3) (N := 1) hx hb hts inw_X3_init_3 tyX3 tyX3_ok nmX3 hown hK hP hD hS 0 rfl rfl 0 (by decide) (hts (.fieldLink RX3 7 "VatHouse$Recipe" "first" "LVatHouse$Step;") (by decide +kernel)) (fun _ h9 => h9) rfl hin rfl (by decide +kernel) rfl rfl (Nat.le_of_ble_eq_true rfl) dX3_init_6 (fun H locs hP hD hS => ?_)
  have hP : va_P (dC, dI) vwCl [(h0, .inr (3, [.null]))] _ := hP
  have hD : va_D _ [(h0, .inr (3, [.null]))] := hD
  exact en_v hx hb hr hlocks hP hD hK hS () ⟨rfl, trivial⟩ [0] [] rfl rfl rfl (Nat.le_of_ble_eq_true rfl) (Nat.le_of_ble_eq_true rfl) dX3_init_9

abbrev rm_X9_recipe : Room := { frames := 7, cells := 2, slots := 7, locals := 102 }
theorem inw_X9_recipe_2 : ∀ w ∈ wsX20, w ∈ wsX9_recipe := by decide +kernel
theorem inw_X9_recipe_3 : ∀ w ∈ wsX30, w ∈ wsX9_recipe := by decide +kernel
theorem inw_X9_recipe_9 : ∀ w ∈ wsX90, w ∈ wsX9_recipe := by decide +kernel
set_option maxHeartbeats 800000 in
set_option maxRecDepth 100000 in
theorem c_X9_recipe (l : Launch) (dC : Nat → ClassId) (dI : Nat → Nat → Nat) (sa : Nat → Nat) (hlt : l.stackTraces = false) (sz : Nat) (h0 : Nat) (ad : Nat → Nat) (ca : Nat → ClassId) (p0 : Int32) (p1 : Int32) : CX l dC dI sa yX9_recipe wsX9_recipe rm_X9_recipe [.ref h0, .int p0, .int p1] [(h0, .inr (9, [.ref (ad 0), .ref (ad 8), .int 0, .int 0, .ref (ad 9), .int 0, .ref (ad 10), .ref (ad 15), .int 0, .ref (ad 16), .ref (ad 17)])), ((ad 10), .inr (2, [.ref (ad 11), .int 0, .int 0, .int 0, .int (-1), .int 0])), ((ad 11), .inr (6, [.ref (ad 9), .int 0, .int 0, .int 0, .ref (ad 12), .ref (ad 13), .ref (ad 14)])), ((ad 12), .inl ((ca 12), 1501, .inl (fun _ => 0))), ((ad 13), .inl ((ca 13), 1501, .inl (fun _ => 0))), ((ad 14), .inl ((ca 14), 1501, .inl (fun _ => 0))), ((ad 9), .inl ((ca 9), 1500, .inl (fun _ => 0))), ((ad 15), .inl ((ca 15), 8, .inr (.inr (.inr (.inr (fun _ => none))))))] [((ca 12), .int), ((ca 13), .int), ((ca 14), .int), ((ca 9), .byte), ((ca 15), .object "VatHouse$Recipe")] sz (fun (r : Option Value) (x : Int32) => r = some (.int x) ∧ (E_recipe p0 p1 = (0, x))) (fun (x : Int32) => []) (fun (x : Int32) => []) (fun E => E = IAE ∧ E_recipe p0 p1 = (1, 0)) 2 7 := by
  refine CX.start (cc := cX9_recipe) (maxL := 4) (ret := (some .int)) (by decide) rfl (Nat.le_of_ble_eq_true rfl) ?_
  intro p e s m below meth c ls hst hno hP hK hD hev hS hl
  obtain ⟨hx, hb, hr, hml, hts, hown, hlocks, hin⟩ := hst
  have hown : s.vm.findClass RX9 = some m.cls := hown
  have hin : meth.name = yX9_recipe.name := hin
  have hA : ∀ q : Nat, s.heap.size ≤ q → va_A [(h0, .inr (9, [.ref (ad 0), .ref (ad 8), .int 0, .int 0, .ref (ad 9), .int 0, .ref (ad 10), .ref (ad 15), .int 0, .ref (ad 16), .ref (ad 17)])), ((ad 10), .inr (2, [.ref (ad 11), .int 0, .int 0, .int 0, .int (-1), .int 0])), ((ad 11), .inr (6, [.ref (ad 9), .int 0, .int 0, .int 0, .ref (ad 12), .ref (ad 13), .ref (ad 14)])), ((ad 12), .inl ((ca 12), 1501, .inl (fun _ => 0))), ((ad 13), .inl ((ca 13), 1501, .inl (fun _ => 0))), ((ad 14), .inl ((ca 14), 1501, .inl (fun _ => 0))), ((ad 9), .inl ((ca 9), 1500, .inl (fun _ => 0))), ((ad 15), .inl ((ca 15), 8, .inr (.inr (.inr (.inr (fun _ => none))))))] s.heap.size q := fun _ h => Or.inr h
  have hl : lv_has ls 4 [(0, .ref h0), (1, .int p0), (2, .int p1)] := hl
  refine lv_iload_n hx hb dX9_recipe_0 rfl (lv_at hl 1 rfl) ?_
  refine lv_if_lt (tgt := 29) hx hb dX9_recipe_1 (by decide) (fun c_1 => ?_) (fun c_1 => ?_)
  · refine lv_iconst (v := 0) hx hb dX9_recipe_29 (by decide) ?_
    refine go_SX (wr := [(h0, .inr (9, [.ref (ad 0), .ref (ad 8), .int 0, .int 0, .ref (ad 9), .int 0, .ref (ad 10), .ref (ad 15), .int 0, .ref (ad 16), .ref (ad 17)])), ((ad 10), .inr (2, [.ref (ad 11), .int 0, .int 0, .int 0, .int (-1), .int 0])), ((ad 11), .inr (6, [.ref (ad 9), .int 0, .int 0, .int 0, .ref (ad 12), .ref (ad 13), .ref (ad 14)])), ((ad 12), .inl ((ca 12), 1501, .inl (fun _ => 0))), ((ad 13), .inl ((ca 13), 1501, .inl (fun _ => 0))), ((ad 14), .inl ((ca 14), 1501, .inl (fun _ => 0))), ((ad 9), .inl ((ca 9), 1500, .inl (fun _ => 0))), ((ad 15), .inl ((ca 15), 8, .inr (.inr (.inr (.inr (fun _ => none))))))]) ⟨hx, hb, hml, hown, hts⟩ (c_X9_demand l dC dI sa hlt _ 0 ) (va_cwS 1 hts gX9_recipe_X9_demand rfl rfl rfl (by decide +kernel) ⟨Nat.le_of_ble_eq_true rfl, Nat.le_of_ble_eq_true rfl⟩) hP hD hK hS hA hev [] [0, 1, 2, 3, 4, 5, 6, 7] [] rfl rfl rfl rfl (by decide) rfl rfl hl.1 rfl (Nat.le_of_ble_eq_true rfl) dX9_recipe_30 ⟨Nat.le_of_ble_eq_true rfl, Nat.le_of_ble_eq_true rfl⟩ (fun E ce q9 H locs hpx hP hD hS hce hcv hcl => ?_) (fun r u H locs hw hP hD hK hS => ?_)
    · have hpx_2 : E = IAE ∧ (0 : Int32) = 0 := hpx
      obtain ⟨rfl, hpx_2⟩ := hpx_2
      exact go_out hno hlocks ⟨rfl, by simp [E_recipe, c_1, hpx_2]⟩ hP hD hK hS hce hcv hcl [0, 1, 2, 3, 4, 5, 6, 7] rfl rfl (Nat.le_of_ble_eq_true rfl) (Nat.le_of_ble_eq_true rfl)
    have hw : r = none ∧ (¬ (0 : Int32) = 0) := hw
    obtain ⟨rfl, hw_3⟩ := hw
    exact absurd rfl hw_3
  · refine lv_iload_n hx hb dX9_recipe_4 rfl (lv_at hl 1 rfl) ?_
    refine lv_aload_n hx hb dX9_recipe_5 rfl (lv_at hl 0 rfl) ?_
    refine va_get (D := (dC, dI)) (ci := 9) (v := .ref (ad 15)) (C := RX9) (T := TX9) (N := 11) hx hb hts inw_X9_recipe_9 hown hK hP 0 rfl rfl 7 (by decide) (hts (.fieldLink RX9 37 "VatHouse" "recipes" "[LVatHouse$Recipe;") (by decide +kernel)) (fun _ h9 => h9) rfl dX9_recipe_6 ?_
    refine va_alen hx hb hK hP 7 4 rfl rfl (v := 8) rfl dX9_recipe_9 ?_
    refine lv_icmp_ge (tgt := 29) hx hb dX9_recipe_10 (by decide) (fun c_4 => ?_) (fun c_4 => ?_)
    · refine lv_iconst (v := 0) hx hb dX9_recipe_29 (by decide) ?_
      refine go_SX (wr := [(h0, .inr (9, [.ref (ad 0), .ref (ad 8), .int 0, .int 0, .ref (ad 9), .int 0, .ref (ad 10), .ref (ad 15), .int 0, .ref (ad 16), .ref (ad 17)])), ((ad 10), .inr (2, [.ref (ad 11), .int 0, .int 0, .int 0, .int (-1), .int 0])), ((ad 11), .inr (6, [.ref (ad 9), .int 0, .int 0, .int 0, .ref (ad 12), .ref (ad 13), .ref (ad 14)])), ((ad 12), .inl ((ca 12), 1501, .inl (fun _ => 0))), ((ad 13), .inl ((ca 13), 1501, .inl (fun _ => 0))), ((ad 14), .inl ((ca 14), 1501, .inl (fun _ => 0))), ((ad 9), .inl ((ca 9), 1500, .inl (fun _ => 0))), ((ad 15), .inl ((ca 15), 8, .inr (.inr (.inr (.inr (fun _ => none))))))]) ⟨hx, hb, hml, hown, hts⟩ (c_X9_demand l dC dI sa hlt _ 0 ) (va_cwS 1 hts gX9_recipe_X9_demand rfl rfl rfl (by decide +kernel) ⟨Nat.le_of_ble_eq_true rfl, Nat.le_of_ble_eq_true rfl⟩) hP hD hK hS hA hev [] [0, 1, 2, 3, 4, 5, 6, 7] [] rfl rfl rfl rfl (by decide) rfl rfl hl.1 rfl (Nat.le_of_ble_eq_true rfl) dX9_recipe_30 ⟨Nat.le_of_ble_eq_true rfl, Nat.le_of_ble_eq_true rfl⟩ (fun E ce q9 H locs hpx hP hD hS hce hcv hcl => ?_) (fun r u H locs hw hP hD hK hS => ?_)
      · have hpx_5 : E = IAE ∧ (0 : Int32) = 0 := hpx
        obtain ⟨rfl, hpx_5⟩ := hpx_5
        exact go_out hno hlocks ⟨rfl, by simp [E_recipe, c_1, c_4, hpx_5]⟩ hP hD hK hS hce hcv hcl [0, 1, 2, 3, 4, 5, 6, 7] rfl rfl (Nat.le_of_ble_eq_true rfl) (Nat.le_of_ble_eq_true rfl)
      have hw : r = none ∧ (¬ (0 : Int32) = 0) := hw
      obtain ⟨rfl, hw_6⟩ := hw
      exact absurd rfl hw_6
    · refine lv_iload_n hx hb dX9_recipe_13 rfl (lv_at hl 2 rfl) ?_
      refine lv_if_lt (tgt := 29) hx hb dX9_recipe_14 (by decide) (fun c_7 => ?_) (fun c_7 => ?_)
      · refine lv_iconst (v := 0) hx hb dX9_recipe_29 (by decide) ?_
        refine go_SX (wr := [(h0, .inr (9, [.ref (ad 0), .ref (ad 8), .int 0, .int 0, .ref (ad 9), .int 0, .ref (ad 10), .ref (ad 15), .int 0, .ref (ad 16), .ref (ad 17)])), ((ad 10), .inr (2, [.ref (ad 11), .int 0, .int 0, .int 0, .int (-1), .int 0])), ((ad 11), .inr (6, [.ref (ad 9), .int 0, .int 0, .int 0, .ref (ad 12), .ref (ad 13), .ref (ad 14)])), ((ad 12), .inl ((ca 12), 1501, .inl (fun _ => 0))), ((ad 13), .inl ((ca 13), 1501, .inl (fun _ => 0))), ((ad 14), .inl ((ca 14), 1501, .inl (fun _ => 0))), ((ad 9), .inl ((ca 9), 1500, .inl (fun _ => 0))), ((ad 15), .inl ((ca 15), 8, .inr (.inr (.inr (.inr (fun _ => none))))))]) ⟨hx, hb, hml, hown, hts⟩ (c_X9_demand l dC dI sa hlt _ 0 ) (va_cwS 1 hts gX9_recipe_X9_demand rfl rfl rfl (by decide +kernel) ⟨Nat.le_of_ble_eq_true rfl, Nat.le_of_ble_eq_true rfl⟩) hP hD hK hS hA hev [] [0, 1, 2, 3, 4, 5, 6, 7] [] rfl rfl rfl rfl (by decide) rfl rfl hl.1 rfl (Nat.le_of_ble_eq_true rfl) dX9_recipe_30 ⟨Nat.le_of_ble_eq_true rfl, Nat.le_of_ble_eq_true rfl⟩ (fun E ce q9 H locs hpx hP hD hS hce hcv hcl => ?_) (fun r u H locs hw hP hD hK hS => ?_)
        · have hpx_8 : E = IAE ∧ (0 : Int32) = 0 := hpx
          obtain ⟨rfl, hpx_8⟩ := hpx_8
          exact go_out hno hlocks ⟨rfl, by simp [E_recipe, c_1, c_4, c_7, hpx_8]⟩ hP hD hK hS hce hcv hcl [0, 1, 2, 3, 4, 5, 6, 7] rfl rfl (Nat.le_of_ble_eq_true rfl) (Nat.le_of_ble_eq_true rfl)
        have hw : r = none ∧ (¬ (0 : Int32) = 0) := hw
        obtain ⟨rfl, hw_9⟩ := hw
        exact absurd rfl hw_9
      · refine lv_iload_n hx hb dX9_recipe_17 rfl (lv_at hl 2 rfl) ?_
        refine lv_aload_n hx hb dX9_recipe_18 rfl (lv_at hl 0 rfl) ?_
        refine va_get (D := (dC, dI)) (ci := 9) (v := .int 0) (C := RX9) (T := TX9) (N := 11) hx hb hts inw_X9_recipe_9 hown hK hP 0 rfl rfl 5 (by decide) (hts (.fieldLink RX9 124 "VatHouse" "tapeLength" "I") (by decide +kernel)) (fun _ h9 => h9) rfl dX9_recipe_19 ?_
        refine lv_icmp_gt (tgt := 29) hx hb dX9_recipe_22 (by decide) (fun c_10 => ?_) (fun c_10 => ?_)
        · refine lv_iconst (v := 0) hx hb dX9_recipe_29 (by decide) ?_
          refine go_SX (wr := [(h0, .inr (9, [.ref (ad 0), .ref (ad 8), .int 0, .int 0, .ref (ad 9), .int 0, .ref (ad 10), .ref (ad 15), .int 0, .ref (ad 16), .ref (ad 17)])), ((ad 10), .inr (2, [.ref (ad 11), .int 0, .int 0, .int 0, .int (-1), .int 0])), ((ad 11), .inr (6, [.ref (ad 9), .int 0, .int 0, .int 0, .ref (ad 12), .ref (ad 13), .ref (ad 14)])), ((ad 12), .inl ((ca 12), 1501, .inl (fun _ => 0))), ((ad 13), .inl ((ca 13), 1501, .inl (fun _ => 0))), ((ad 14), .inl ((ca 14), 1501, .inl (fun _ => 0))), ((ad 9), .inl ((ca 9), 1500, .inl (fun _ => 0))), ((ad 15), .inl ((ca 15), 8, .inr (.inr (.inr (.inr (fun _ => none))))))]) ⟨hx, hb, hml, hown, hts⟩ (c_X9_demand l dC dI sa hlt _ 0 ) (va_cwS 1 hts gX9_recipe_X9_demand rfl rfl rfl (by decide +kernel) ⟨Nat.le_of_ble_eq_true rfl, Nat.le_of_ble_eq_true rfl⟩) hP hD hK hS hA hev [] [0, 1, 2, 3, 4, 5, 6, 7] [] rfl rfl rfl rfl (by decide) rfl rfl hl.1 rfl (Nat.le_of_ble_eq_true rfl) dX9_recipe_30 ⟨Nat.le_of_ble_eq_true rfl, Nat.le_of_ble_eq_true rfl⟩ (fun E ce q9 H locs hpx hP hD hS hce hcv hcl => ?_) (fun r u H locs hw hP hD hK hS => ?_)
          · have hpx_11 : E = IAE ∧ (0 : Int32) = 0 := hpx
            obtain ⟨rfl, hpx_11⟩ := hpx_11
            exact go_out hno hlocks ⟨rfl, by simp [E_recipe, c_1, c_4, c_7, c_10, hpx_11]⟩ hP hD hK hS hce hcv hcl [0, 1, 2, 3, 4, 5, 6, 7] rfl rfl (Nat.le_of_ble_eq_true rfl) (Nat.le_of_ble_eq_true rfl)
          have hw : r = none ∧ (¬ (0 : Int32) = 0) := hw
          obtain ⟨rfl, hw_12⟩ := hw
          exact absurd rfl hw_12
        · refine lv_iconst (v := 1) hx hb dX9_recipe_25 (by decide) ?_
          refine lv_goto (tgt := 30) hx hb dX9_recipe_26 (by decide) ?_
          refine go_SX (wr := [(h0, .inr (9, [.ref (ad 0), .ref (ad 8), .int 0, .int 0, .ref (ad 9), .int 0, .ref (ad 10), .ref (ad 15), .int 0, .ref (ad 16), .ref (ad 17)])), ((ad 10), .inr (2, [.ref (ad 11), .int 0, .int 0, .int 0, .int (-1), .int 0])), ((ad 11), .inr (6, [.ref (ad 9), .int 0, .int 0, .int 0, .ref (ad 12), .ref (ad 13), .ref (ad 14)])), ((ad 12), .inl ((ca 12), 1501, .inl (fun _ => 0))), ((ad 13), .inl ((ca 13), 1501, .inl (fun _ => 0))), ((ad 14), .inl ((ca 14), 1501, .inl (fun _ => 0))), ((ad 9), .inl ((ca 9), 1500, .inl (fun _ => 0))), ((ad 15), .inl ((ca 15), 8, .inr (.inr (.inr (.inr (fun _ => none))))))]) ⟨hx, hb, hml, hown, hts⟩ (c_X9_demand l dC dI sa hlt _ 1 ) (va_cwS 1 hts gX9_recipe_X9_demand rfl rfl rfl (by decide +kernel) ⟨Nat.le_of_ble_eq_true rfl, Nat.le_of_ble_eq_true rfl⟩) hP hD hK hS hA hev [] [0, 1, 2, 3, 4, 5, 6, 7] [] rfl rfl rfl rfl (by decide) rfl rfl hl.1 rfl (Nat.le_of_ble_eq_true rfl) dX9_recipe_30 ⟨Nat.le_of_ble_eq_true rfl, Nat.le_of_ble_eq_true rfl⟩ (fun E ce q9 H locs hpx hP hD hS hce hcv hcl => ?_) (fun r u H locs hw hP hD hK hS => ?_)
          · have hpx_13 : E = IAE ∧ (1 : Int32) = 0 := hpx
            exact absurd hpx_13.2 (by decide)
          have hw : r = none ∧ (¬ (1 : Int32) = 0) := hw
          obtain ⟨rfl, hw_14⟩ := hw
          have hP : va_P (dC, dI) vwCl [(h0, .inr (9, [.ref (ad 0), .ref (ad 8), .int 0, .int 0, .ref (ad 9), .int 0, .ref (ad 10), .ref (ad 15), .int 0, .ref (ad 16), .ref (ad 17)])), ((ad 10), .inr (2, [.ref (ad 11), .int 0, .int 0, .int 0, .int (-1), .int 0])), ((ad 11), .inr (6, [.ref (ad 9), .int 0, .int 0, .int 0, .ref (ad 12), .ref (ad 13), .ref (ad 14)])), ((ad 12), .inl ((ca 12), 1501, .inl (fun _ => 0))), ((ad 13), .inl ((ca 13), 1501, .inl (fun _ => 0))), ((ad 14), .inl ((ca 14), 1501, .inl (fun _ => 0))), ((ad 9), .inl ((ca 9), 1500, .inl (fun _ => 0))), ((ad 15), .inl ((ca 15), 8, .inr (.inr (.inr (.inr (fun _ => none))))))] _ := hP
          have hD : va_D _ [(h0, .inr (9, [.ref (ad 0), .ref (ad 8), .int 0, .int 0, .ref (ad 9), .int 0, .ref (ad 10), .ref (ad 15), .int 0, .ref (ad 16), .ref (ad 17)])), ((ad 10), .inr (2, [.ref (ad 11), .int 0, .int 0, .int 0, .int (-1), .int 0])), ((ad 11), .inr (6, [.ref (ad 9), .int 0, .int 0, .int 0, .ref (ad 12), .ref (ad 13), .ref (ad 14)])), ((ad 12), .inl ((ca 12), 1501, .inl (fun _ => 0))), ((ad 13), .inl ((ca 13), 1501, .inl (fun _ => 0))), ((ad 14), .inl ((ca 14), 1501, .inl (fun _ => 0))), ((ad 9), .inl ((ca 9), 1500, .inl (fun _ => 0))), ((ad 15), .inl ((ca 15), 8, .inr (.inr (.inr (.inr (fun _ => none))))))] := hD
          have hK : va_K (dC, dI) vwCl [((ca 12), .int), ((ca 13), .int), ((ca 14), .int), ((ca 9), .byte), ((ca 15), .object "VatHouse$Recipe")] s := hK
          refine W.eq (g2 := F0 m 33 ls []) rfl ?_
          refine lv_aload_n hx hb dX9_recipe_33 rfl (lv_at hl 0 rfl) ?_
          refine va_get (D := (dC, dI)) (ci := 9) (v := .ref (ad 10)) (C := RX9) (T := TX9) (N := 11) hx hb hts inw_X9_recipe_9 hown hK hP 0 rfl rfl 6 (by decide) (hts (.fieldLink RX9 31 "VatHouse" "reader" "LVatHouse$Reader;") (by decide +kernel)) (fun _ h9 => h9) rfl dX9_recipe_34 ?_
          refine lv_iload_n hx hb dX9_recipe_37 rfl (lv_at hl 2 rfl) ?_
          obtain rfl : p1 = 0 := eq0 c_7 c_10
          refine go_V (wr := [(h0, .inr (9, [.ref (ad 0), .ref (ad 8), .int 0, .int 0, .ref (ad 9), .int 0, .ref (ad 10), .ref (ad 15), .int 0, .ref (ad 16), .ref (ad 17)])), ((ad 15), .inl ((ca 15), 8, .inr (.inr (.inr (.inr (fun _ => none))))))]) ⟨hx, hb, hml, hown, hts⟩ (c_X2_readRecipe l dC dI sa hlt _ ad ca ) (cwV 1 hts gX9_recipe_X2_readRecipe rfl rfl rfl (by decide +kernel) ⟨Nat.le_of_ble_eq_true rfl, Nat.le_of_ble_eq_true rfl⟩) hP hD hK hS hA hev [1, 2, 3, 4, 5, 6] [0, 7] [0, 1, 2, 3] rfl rfl rfl rfl (by decide) rfl 1 2 rfl rfl rfl rfl hl.1 rfl (Nat.le_of_ble_eq_true rfl) dX9_recipe_38 ⟨Nat.le_of_ble_eq_true rfl, Nat.le_of_ble_eq_true rfl⟩ (fun r u H locs hw hP hD hK hS => ?_)
          obtain ⟨g1_15, g2_16, g3_17⟩ := u
          have hw : r = some (.null) ∧ (True) := hw
          obtain ⟨rfl, hw_18⟩ := hw
          have hP : va_P (dC, dI) vwCl [(h0, .inr (9, [.ref (ad 0), .ref (ad 8), .int 0, .int 0, .ref (ad 9), .int 0, .ref (ad 10), .ref (ad 15), .int 0, .ref (ad 16), .ref (ad 17)])), ((ad 15), .inl ((ca 15), 8, .inr (.inr (.inr (.inr (fun _ => none)))))), ((ad 10), .inr (2, [.ref (ad 11), .int 1, .int 0, .int 0, .int (-1), .int 0])), ((ad 11), .inr (6, [.ref (ad 9), .int 0, .int 0, .int 1, .ref (ad 12), .ref (ad 13), .ref (ad 14)])), ((ad 12), .inl ((ca 12), 1501, .inl g1_15)), ((ad 13), .inl ((ca 13), 1501, .inl g2_16)), ((ad 14), .inl ((ca 14), 1501, .inl g3_17)), ((ad 9), .inl ((ca 9), 1500, .inl (fun _ => 0)))] _ := hP
          have hD : va_D _ [(h0, .inr (9, [.ref (ad 0), .ref (ad 8), .int 0, .int 0, .ref (ad 9), .int 0, .ref (ad 10), .ref (ad 15), .int 0, .ref (ad 16), .ref (ad 17)])), ((ad 15), .inl ((ca 15), 8, .inr (.inr (.inr (.inr (fun _ => none)))))), ((ad 10), .inr (2, [.ref (ad 11), .int 1, .int 0, .int 0, .int (-1), .int 0])), ((ad 11), .inr (6, [.ref (ad 9), .int 0, .int 0, .int 1, .ref (ad 12), .ref (ad 13), .ref (ad 14)])), ((ad 12), .inl ((ca 12), 1501, .inl g1_15)), ((ad 13), .inl ((ca 13), 1501, .inl g2_16)), ((ad 14), .inl ((ca 14), 1501, .inl g3_17)), ((ad 9), .inl ((ca 9), 1500, .inl (fun _ => 0)))] := hD
          have hK : va_K (dC, dI) vwCl [((ca 12), .int), ((ca 13), .int), ((ca 14), .int), ((ca 9), .byte), ((ca 15), .object "VatHouse$Recipe")] s := hK
          refine W.eq (g2 := F0 m 41 ls [.null]) rfl ?_
          refine lv_astore_nN (lv' := [(3, .null), (0, .ref h0), (1, .int p0), (2, .int 0)]) hx hb dX9_recipe_41 rfl hl (by decide) rfl (fun ls hl => ?_)
          refine lv_aload_n hx hb dX9_recipe_42 rfl (lv_at hl 1 rfl) ?_
          refine lv_iconst (v := 0) hx hb dX9_recipe_43 (by decide) ?_
          refine va_put (D := (dC, dI)) (ci := 9) (v := .int 0) (ty := .int) (C := RX9) (T := TX9) (N := 11) hx hb hts inw_X9_recipe_9 tyX9 tyX9_ok nmX9 hown hK hP hD hS 0 rfl rfl 5 (by decide) (hts (.fieldLink RX9 124 "VatHouse" "tapeLength" "I") (by decide +kernel)) (fun _ h9 => h9) rfl (by decide +kernel) rfl rfl (Nat.le_of_ble_eq_true rfl) dX9_recipe_44 (fun H locs hP hD hS => ?_)
          have hP : va_P (dC, dI) vwCl [(h0, .inr (9, [.ref (ad 0), .ref (ad 8), .int 0, .int 0, .ref (ad 9), .int 0, .ref (ad 10), .ref (ad 15), .int 0, .ref (ad 16), .ref (ad 17)])), ((ad 15), .inl ((ca 15), 8, .inr (.inr (.inr (.inr (fun _ => none)))))), ((ad 10), .inr (2, [.ref (ad 11), .int 1, .int 0, .int 0, .int (-1), .int 0])), ((ad 11), .inr (6, [.ref (ad 9), .int 0, .int 0, .int 1, .ref (ad 12), .ref (ad 13), .ref (ad 14)])), ((ad 12), .inl ((ca 12), 1501, .inl g1_15)), ((ad 13), .inl ((ca 13), 1501, .inl g2_16)), ((ad 14), .inl ((ca 14), 1501, .inl g3_17)), ((ad 9), .inl ((ca 9), 1500, .inl (fun _ => 0)))] _ := hP
          have hD : va_D _ [(h0, .inr (9, [.ref (ad 0), .ref (ad 8), .int 0, .int 0, .ref (ad 9), .int 0, .ref (ad 10), .ref (ad 15), .int 0, .ref (ad 16), .ref (ad 17)])), ((ad 15), .inl ((ca 15), 8, .inr (.inr (.inr (.inr (fun _ => none)))))), ((ad 10), .inr (2, [.ref (ad 11), .int 1, .int 0, .int 0, .int (-1), .int 0])), ((ad 11), .inr (6, [.ref (ad 9), .int 0, .int 0, .int 1, .ref (ad 12), .ref (ad 13), .ref (ad 14)])), ((ad 12), .inl ((ca 12), 1501, .inl g1_15)), ((ad 13), .inl ((ca 13), 1501, .inl g2_16)), ((ad 14), .inl ((ca 14), 1501, .inl g3_17)), ((ad 9), .inl ((ca 9), 1500, .inl (fun _ => 0)))] := hD
          refine lv_aload_n hx hb dX9_recipe_47 rfl (lv_at hl 1 rfl) ?_
          refine va_get (D := (dC, dI)) (ci := 9) (v := .ref (ad 10)) (C := RX9) (T := TX9) (N := 11) hx hb hts inw_X9_recipe_9 hown hK hP 0 rfl rfl 6 (by decide) (hts (.fieldLink RX9 31 "VatHouse" "reader" "LVatHouse$Reader;") (by decide +kernel)) (fun _ h9 => h9) rfl dX9_recipe_48 ?_
          refine va_get (D := (dC, dI)) (ci := 2) (v := .int 0) (C := RX2) (T := TX2) (N := 6) hx hb hts inw_X9_recipe_2 hown hK hP 2 rfl rfl 3 (by decide) (hts (.fieldLink RX9 134 "VatHouse$Reader" "fault" "I") (by decide +kernel)) (fun _ h9 => h9) rfl dX9_recipe_51 ?_
          refine lv_if_ne (tgt := 82) hx hb dX9_recipe_54 (by decide) (fun c_19 => ?_) (fun c_19 => ?_)
          · exact absurd c_19 (by decide)
          refine lv_aload_n hx hb dX9_recipe_57 rfl (lv_at hl 1 rfl) ?_
          refine va_get (D := (dC, dI)) (ci := 9) (v := .ref (ad 15)) (C := RX9) (T := TX9) (N := 11) hx hb hts inw_X9_recipe_9 hown hK hP 0 rfl rfl 7 (by decide) (hts (.fieldLink RX9 37 "VatHouse" "recipes" "[LVatHouse$Recipe;") (by decide +kernel)) (fun _ h9 => h9) rfl dX9_recipe_58 ?_
          refine lv_iload_n hx hb dX9_recipe_61 rfl (lv_at hl 2 rfl) ?_
          refine va_new (ci := 3) (fs := [.null]) (C := RX3) (T := TX3) (N := 1) hx hb hts inw_X9_recipe_3 tyX3 tyX3_ok hown (hts (.classLink RX9 35 RX3) (by decide +kernel)) (hts (.instantiable RX3 1) (by decide +kernel)) (hts (.initialized RX3) (by decide +kernel)) hK hP hD hS hA rfl nfX3 (Nat.le_of_ble_eq_true rfl) (Nat.le_of_ble_eq_true rfl) dX9_recipe_62 (fun q_20 H hP hD hS => ?_)
          have hP : va_P (dC, dI) vwCl [(h0, .inr (9, [.ref (ad 0), .ref (ad 8), .int 0, .int 0, .ref (ad 9), .int 0, .ref (ad 10), .ref (ad 15), .int 0, .ref (ad 16), .ref (ad 17)])), ((ad 15), .inl ((ca 15), 8, .inr (.inr (.inr (.inr (fun _ => none)))))), ((ad 10), .inr (2, [.ref (ad 11), .int 1, .int 0, .int 0, .int (-1), .int 0])), ((ad 11), .inr (6, [.ref (ad 9), .int 0, .int 0, .int 1, .ref (ad 12), .ref (ad 13), .ref (ad 14)])), ((ad 12), .inl ((ca 12), 1501, .inl g1_15)), ((ad 13), .inl ((ca 13), 1501, .inl g2_16)), ((ad 14), .inl ((ca 14), 1501, .inl g3_17)), ((ad 9), .inl ((ca 9), 1500, .inl (fun _ => 0))), (q_20, .inr (3, [.null]))] _ := hP
          have hD : va_D _ [(h0, .inr (9, [.ref (ad 0), .ref (ad 8), .int 0, .int 0, .ref (ad 9), .int 0, .ref (ad 10), .ref (ad 15), .int 0, .ref (ad 16), .ref (ad 17)])), ((ad 15), .inl ((ca 15), 8, .inr (.inr (.inr (.inr (fun _ => none)))))), ((ad 10), .inr (2, [.ref (ad 11), .int 1, .int 0, .int 0, .int (-1), .int 0])), ((ad 11), .inr (6, [.ref (ad 9), .int 0, .int 0, .int 1, .ref (ad 12), .ref (ad 13), .ref (ad 14)])), ((ad 12), .inl ((ca 12), 1501, .inl g1_15)), ((ad 13), .inl ((ca 13), 1501, .inl g2_16)), ((ad 14), .inl ((ca 14), 1501, .inl g3_17)), ((ad 9), .inl ((ca 9), 1500, .inl (fun _ => 0))), (q_20, .inr (3, [.null]))] := hD
          refine lv_dup hx hb dX9_recipe_65 rfl ?_
          refine lv_aload_nN hx hb dX9_recipe_66 rfl (lv_at hl 0 rfl) ?_
          refine go_I (wr := [(h0, .inr (9, [.ref (ad 0), .ref (ad 8), .int 0, .int 0, .ref (ad 9), .int 0, .ref (ad 10), .ref (ad 15), .int 0, .ref (ad 16), .ref (ad 17)])), ((ad 15), .inl ((ca 15), 8, .inr (.inr (.inr (.inr (fun _ => none)))))), ((ad 10), .inr (2, [.ref (ad 11), .int 1, .int 0, .int 0, .int (-1), .int 0])), ((ad 11), .inr (6, [.ref (ad 9), .int 0, .int 0, .int 1, .ref (ad 12), .ref (ad 13), .ref (ad 14)])), ((ad 12), .inl ((ca 12), 1501, .inl g1_15)), ((ad 13), .inl ((ca 13), 1501, .inl g2_16)), ((ad 14), .inl ((ca 14), 1501, .inl g3_17)), ((ad 9), .inl ((ca 9), 1500, .inl (fun _ => 0)))]) ⟨hx, hb, hml, hown, hts⟩ (c_X3_init l dC dI sa hlt _ q_20 ) (cwI 1 hts gX9_recipe_X3_init rfl rfl rfl (hts (.initialized RX3) (by decide +kernel)) (hts (.methodLink RX9 137 yX3_init) (by decide +kernel)) (hts (.instanceMethod yX3_init) (by decide +kernel)) rfl (by decide +kernel) ⟨Nat.le_of_ble_eq_true rfl, Nat.le_of_ble_eq_true rfl⟩) hP hD hK hS hA hev [8] [0, 1, 2, 3, 4, 5, 6, 7] [] rfl rfl rfl rfl (by decide) rfl rfl hl.1 rfl (Nat.le_of_ble_eq_true rfl) dX9_recipe_67 ⟨Nat.le_of_ble_eq_true rfl, Nat.le_of_ble_eq_true rfl⟩ (fun r u H locs hw hP hD hK hS => ?_)
          have hw : r = none ∧ (True) := hw
          obtain ⟨rfl, hw_21⟩ := hw
          have hP : va_P (dC, dI) vwCl [(h0, .inr (9, [.ref (ad 0), .ref (ad 8), .int 0, .int 0, .ref (ad 9), .int 0, .ref (ad 10), .ref (ad 15), .int 0, .ref (ad 16), .ref (ad 17)])), ((ad 15), .inl ((ca 15), 8, .inr (.inr (.inr (.inr (fun _ => none)))))), ((ad 10), .inr (2, [.ref (ad 11), .int 1, .int 0, .int 0, .int (-1), .int 0])), ((ad 11), .inr (6, [.ref (ad 9), .int 0, .int 0, .int 1, .ref (ad 12), .ref (ad 13), .ref (ad 14)])), ((ad 12), .inl ((ca 12), 1501, .inl g1_15)), ((ad 13), .inl ((ca 13), 1501, .inl g2_16)), ((ad 14), .inl ((ca 14), 1501, .inl g3_17)), ((ad 9), .inl ((ca 9), 1500, .inl (fun _ => 0))), (q_20, .inr (3, [.null]))] _ := hP
          have hD : va_D _ [(h0, .inr (9, [.ref (ad 0), .ref (ad 8), .int 0, .int 0, .ref (ad 9), .int 0, .ref (ad 10), .ref (ad 15), .int 0, .ref (ad 16), .ref (ad 17)])), ((ad 15), .inl ((ca 15), 8, .inr (.inr (.inr (.inr (fun _ => none)))))), ((ad 10), .inr (2, [.ref (ad 11), .int 1, .int 0, .int 0, .int (-1), .int 0])), ((ad 11), .inr (6, [.ref (ad 9), .int 0, .int 0, .int 1, .ref (ad 12), .ref (ad 13), .ref (ad 14)])), ((ad 12), .inl ((ca 12), 1501, .inl g1_15)), ((ad 13), .inl ((ca 13), 1501, .inl g2_16)), ((ad 14), .inl ((ca 14), 1501, .inl g3_17)), ((ad 9), .inl ((ca 9), 1500, .inl (fun _ => 0))), (q_20, .inr (3, [.null]))] := hD
          have hK : va_K (dC, dI) vwCl [((ca 12), .int), ((ca 13), .int), ((ca 14), .int), ((ca 9), .byte), ((ca 15), .object "VatHouse$Recipe")] s := hK
          refine W.eq (g2 := F0 m 70 ls [.ref q_20, .int p0, .ref (ad 15)]) rfl ?_
          refine va_astq hx hb hK hP hD hS 1 4 8 3 rfl rfl rfl rfl (vin 8 (by decide) rfl c_1 c_4) dX9_recipe_70 (fun H locs hP hD hS => ?_)
          have hP : va_P (dC, dI) vwCl [(h0, .inr (9, [.ref (ad 0), .ref (ad 8), .int 0, .int 0, .ref (ad 9), .int 0, .ref (ad 10), .ref (ad 15), .int 0, .ref (ad 16), .ref (ad 17)])), ((ad 15), .inl ((ca 15), 8, .inr (.inr (.inr (.inr (va_up (fun _ => none) p0.toNatClampNeg (some q_20))))))), ((ad 10), .inr (2, [.ref (ad 11), .int 1, .int 0, .int 0, .int (-1), .int 0])), ((ad 11), .inr (6, [.ref (ad 9), .int 0, .int 0, .int 1, .ref (ad 12), .ref (ad 13), .ref (ad 14)])), ((ad 12), .inl ((ca 12), 1501, .inl g1_15)), ((ad 13), .inl ((ca 13), 1501, .inl g2_16)), ((ad 14), .inl ((ca 14), 1501, .inl g3_17)), ((ad 9), .inl ((ca 9), 1500, .inl (fun _ => 0))), (q_20, .inr (3, [.null]))] _ := hP
          have hD : va_D _ [(h0, .inr (9, [.ref (ad 0), .ref (ad 8), .int 0, .int 0, .ref (ad 9), .int 0, .ref (ad 10), .ref (ad 15), .int 0, .ref (ad 16), .ref (ad 17)])), ((ad 15), .inl ((ca 15), 8, .inr (.inr (.inr (.inr (va_up (fun _ => none) p0.toNatClampNeg (some q_20))))))), ((ad 10), .inr (2, [.ref (ad 11), .int 1, .int 0, .int 0, .int (-1), .int 0])), ((ad 11), .inr (6, [.ref (ad 9), .int 0, .int 0, .int 1, .ref (ad 12), .ref (ad 13), .ref (ad 14)])), ((ad 12), .inl ((ca 12), 1501, .inl g1_15)), ((ad 13), .inl ((ca 13), 1501, .inl g2_16)), ((ad 14), .inl ((ca 14), 1501, .inl g3_17)), ((ad 9), .inl ((ca 9), 1500, .inl (fun _ => 0))), (q_20, .inr (3, [.null]))] := hD
          obtain ⟨f_22, ef_22⟩ : ∃ z, z = (va_up (fun _ => none) p0.toNatClampNeg (some q_20)) := ⟨_, rfl⟩
          rw [← ef_22] at hP hD
          refine lv_aload_n hx hb dX9_recipe_71 rfl (lv_at hl 1 rfl) ?_
          refine lv_aload_n hx hb dX9_recipe_72 rfl (lv_at hl 1 rfl) ?_
          refine va_get (D := (dC, dI)) (ci := 9) (v := .ref (ad 10)) (C := RX9) (T := TX9) (N := 11) hx hb hts inw_X9_recipe_9 hown hK hP 0 rfl rfl 6 (by decide) (hts (.fieldLink RX9 31 "VatHouse" "reader" "LVatHouse$Reader;") (by decide +kernel)) (fun _ h9 => h9) rfl dX9_recipe_73 ?_
          refine va_get (D := (dC, dI)) (ci := 2) (v := .int 0) (C := RX2) (T := TX2) (N := 6) hx hb hts inw_X9_recipe_2 hown hK hP 2 rfl rfl 5 (by decide) (hts (.fieldLink RX9 140 "VatHouse$Reader" "steps" "I") (by decide +kernel)) (fun _ h9 => h9) rfl dX9_recipe_76 ?_
          refine va_put (D := (dC, dI)) (ci := 9) (v := .int 0) (ty := .int) (C := RX9) (T := TX9) (N := 11) hx hb hts inw_X9_recipe_9 tyX9 tyX9_ok nmX9 hown hK hP hD hS 0 rfl rfl 8 (by decide) (hts (.fieldLink RX9 143 "VatHouse" "stepsRead" "I") (by decide +kernel)) (fun _ h9 => h9) rfl (by decide +kernel) rfl rfl (Nat.le_of_ble_eq_true rfl) dX9_recipe_79 (fun H locs hP hD hS => ?_)
          have hP : va_P (dC, dI) vwCl [(h0, .inr (9, [.ref (ad 0), .ref (ad 8), .int 0, .int 0, .ref (ad 9), .int 0, .ref (ad 10), .ref (ad 15), .int 0, .ref (ad 16), .ref (ad 17)])), ((ad 15), .inl ((ca 15), 8, .inr (.inr (.inr (.inr f_22))))), ((ad 10), .inr (2, [.ref (ad 11), .int 1, .int 0, .int 0, .int (-1), .int 0])), ((ad 11), .inr (6, [.ref (ad 9), .int 0, .int 0, .int 1, .ref (ad 12), .ref (ad 13), .ref (ad 14)])), ((ad 12), .inl ((ca 12), 1501, .inl g1_15)), ((ad 13), .inl ((ca 13), 1501, .inl g2_16)), ((ad 14), .inl ((ca 14), 1501, .inl g3_17)), ((ad 9), .inl ((ca 9), 1500, .inl (fun _ => 0))), (q_20, .inr (3, [.null]))] _ := hP
          have hD : va_D _ [(h0, .inr (9, [.ref (ad 0), .ref (ad 8), .int 0, .int 0, .ref (ad 9), .int 0, .ref (ad 10), .ref (ad 15), .int 0, .ref (ad 16), .ref (ad 17)])), ((ad 15), .inl ((ca 15), 8, .inr (.inr (.inr (.inr f_22))))), ((ad 10), .inr (2, [.ref (ad 11), .int 1, .int 0, .int 0, .int (-1), .int 0])), ((ad 11), .inr (6, [.ref (ad 9), .int 0, .int 0, .int 1, .ref (ad 12), .ref (ad 13), .ref (ad 14)])), ((ad 12), .inl ((ca 12), 1501, .inl g1_15)), ((ad 13), .inl ((ca 13), 1501, .inl g2_16)), ((ad 14), .inl ((ca 14), 1501, .inl g3_17)), ((ad 9), .inl ((ca 9), 1500, .inl (fun _ => 0))), (q_20, .inr (3, [.null]))] := hD
          refine lv_aload_n hx hb dX9_recipe_82 rfl (lv_at hl 1 rfl) ?_
          refine va_get (D := (dC, dI)) (ci := 9) (v := .ref (ad 10)) (C := RX9) (T := TX9) (N := 11) hx hb hts inw_X9_recipe_9 hown hK hP 0 rfl rfl 6 (by decide) (hts (.fieldLink RX9 31 "VatHouse" "reader" "LVatHouse$Reader;") (by decide +kernel)) (fun _ h9 => h9) rfl dX9_recipe_83 ?_
          refine va_get (D := (dC, dI)) (ci := 2) (v := .int 0) (C := RX2) (T := TX2) (N := 6) hx hb hts inw_X9_recipe_2 hown hK hP 2 rfl rfl 3 (by decide) (hts (.fieldLink RX9 134 "VatHouse$Reader" "fault" "I") (by decide +kernel)) (fun _ h9 => h9) rfl dX9_recipe_86 ?_
          refine vx_ret ?_
          exact en_i hx hb hr hlocks hP hD hK hS 0 ⟨rfl, by simp [E_recipe, c_1, c_4]⟩ [] [] rfl rfl rfl (Nat.le_of_ble_eq_true rfl) (Nat.le_of_ble_eq_true rfl) dX9_recipe_89

abbrev rm_X7_liveThrough : Room := { frames := 1, cells := 0, slots := 0, locals := 14 }
theorem inw_X7_liveThrough_7 : ∀ w ∈ wsX70, w ∈ wsX7_liveThrough := by decide +kernel
set_option maxHeartbeats 800000 in
set_option maxRecDepth 100000 in
theorem c_X7_liveThrough (l : Launch) (dC : Nat → ClassId) (dI : Nat → Nat → Nat) (sa : Nat → Nat) (hlt : l.stackTraces = false) (sz : Nat) (h0 : Nat) (nu : Int32) (gr : Int32) (fo : Int32) (mi : Int32) (st : Int32) (di : Int32) (cb : Int32) (la : Int32) (hz : Int32) : CT l dC dI sa yX7_liveThrough wsX7_liveThrough rm_X7_liveThrough [.ref h0, .int hz] [(h0, .inr (7, [.int nu, .int gr, .int fo, .int mi, .int st, .int di, .int cb, .int la]))] [] sz (fun (r : Option Value) (u : Int32 × Int32 × Int32) => match u with | (fo2, mi2, st2) => r = none ∧ (True)) (fun (u : Int32 × Int32 × Int32) => match u with | (fo2, mi2, st2) => [(h0, .inr (7, [.int nu, .int gr, .int fo2, .int mi2, .int st2, .int di, .int cb, .int la]))]) (fun (u : Int32 × Int32 × Int32) => match u with | (fo2, mi2, st2) => []) 0 0 := by
  refine CT.start (cc := cX7_liveThrough) (maxL := 2) (ret := none) (by decide) rfl (Nat.le_of_ble_eq_true rfl) ?_
  intro p e s m below meth c ls hst hP hK hD hev hS hl
  obtain ⟨hx, hb, hr, hml, hts, hown, hlocks, hin⟩ := hst
  have hown : s.vm.findClass RX7 = some m.cls := hown
  have hin : meth.name = yX7_liveThrough.name := hin
  have hA : ∀ q : Nat, s.heap.size ≤ q → va_A [(h0, .inr (7, [.int nu, .int gr, .int fo, .int mi, .int st, .int di, .int cb, .int la]))] s.heap.size q := fun _ h => Or.inr h
  have hl : lv_has ls 2 [(0, .ref h0), (1, .int hz)] := hl
  refine lv_aload_n hx hb dX7_liveThrough_0 rfl (lv_at hl 0 rfl) ?_
  refine lv_iconst (v := 0) hx hb dX7_liveThrough_1 (by decide) ?_
  refine lv_aload_n hx hb dX7_liveThrough_2 rfl (lv_at hl 0 rfl) ?_
  refine va_get (D := (dC, dI)) (ci := 7) (v := .int fo) (C := RX7) (T := TX7) (N := 8) hx hb hts inw_X7_liveThrough_7 hown hK hP 0 rfl rfl 2 (by decide) (hts (.fieldLink RX7 45 "VatHouse$Vat" "food" "I") (by decide +kernel)) (fun _ h9 => h9) rfl dX7_liveThrough_3 ?_
  refine lv_iconst (v := 5) hx hb dX7_liveThrough_6 (by decide) ?_
  refine lv_isub hx hb dX7_liveThrough_7 ?_
  refine lv_topi (fun z_1 ez_1 => ?_)
  refine va_mmax hx hb (hml.trans hl.1.symm) hown (hts (.methodLink RX7 48 Lib.Math.max.name) (by decide +kernel)) (hts (.static Lib.Math.max.name) (by decide +kernel)) (hts (.initialized "java/lang/Math") (by decide +kernel)) (hts (.code Lib.Math.max.name Lib.Math.max.code 2 (some .int)) (by decide +kernel)) (Nat.le_of_ble_eq_true rfl) (Nat.le_of_ble_eq_true rfl) (Nat.le_of_ble_eq_true rfl) (Nat.le_of_ble_eq_true rfl) dX7_liveThrough_8 ?_
  refine lv_topi (fun z_2 ez_2 => ?_)
  refine va_put (D := (dC, dI)) (ci := 7) (v := .int z_2) (ty := .int) (C := RX7) (T := TX7) (N := 8) hx hb hts inw_X7_liveThrough_7 tyX7 tyX7_ok nmX7 hown hK hP hD hS 0 rfl rfl 2 (by decide) (hts (.fieldLink RX7 45 "VatHouse$Vat" "food" "I") (by decide +kernel)) (fun _ h9 => h9) rfl (by decide +kernel) rfl rfl (Nat.le_of_ble_eq_true rfl) dX7_liveThrough_11 (fun H locs hP hD hS => ?_)
  have hP : va_P (dC, dI) vwCl [(h0, .inr (7, [.int nu, .int gr, .int z_2, .int mi, .int st, .int di, .int cb, .int la]))] _ := hP
  have hD : va_D _ [(h0, .inr (7, [.int nu, .int gr, .int z_2, .int mi, .int st, .int di, .int cb, .int la]))] := hD
  refine lv_aload_n hx hb dX7_liveThrough_14 rfl (lv_at hl 0 rfl) ?_
  refine va_get (D := (dC, dI)) (ci := 7) (v := .int z_2) (C := RX7) (T := TX7) (N := 8) hx hb hts inw_X7_liveThrough_7 hown hK hP 0 rfl rfl 2 (by decide) (hts (.fieldLink RX7 45 "VatHouse$Vat" "food" "I") (by decide +kernel)) (fun _ h9 => h9) rfl dX7_liveThrough_15 ?_
  refine lv_if_ne (tgt := 29) hx hb dX7_liveThrough_18 (by decide) (fun c_3 => ?_) (fun c_3 => ?_)
  · refine lv_aload_n hx hb dX7_liveThrough_29 rfl (lv_at hl 0 rfl) ?_
    refine va_get (D := (dC, dI)) (ci := 7) (v := .int st) (C := RX7) (T := TX7) (N := 8) hx hb hts inw_X7_liveThrough_7 hown hK hP 0 rfl rfl 4 (by decide) (hts (.fieldLink RX7 9 "VatHouse$Vat" "state" "I") (by decide +kernel)) (fun _ h9 => h9) rfl dX7_liveThrough_30 ?_
    refine lv_iconst (v := 2) hx hb dX7_liveThrough_33 (by decide) ?_
    refine lv_icmp_eq (tgt := 57) hx hb dX7_liveThrough_34 (by decide) (fun c_4 => ?_) (fun c_4 => ?_)
    · exact en_v hx hb hr hlocks hP hD hK hS (z_2, mi, st) ⟨rfl, trivial⟩ [0] [] rfl rfl rfl (Nat.le_of_ble_eq_true rfl) (Nat.le_of_ble_eq_true rfl) dX7_liveThrough_57
    · refine lv_aload_n hx hb dX7_liveThrough_37 rfl (lv_at hl 0 rfl) ?_
      refine va_get (D := (dC, dI)) (ci := 7) (v := .int la) (C := RX7) (T := TX7) (N := 8) hx hb hts inw_X7_liveThrough_7 hown hK hP 0 rfl rfl 7 (by decide) (hts (.fieldLink RX7 15 "VatHouse$Vat" "lastDipped" "I") (by decide +kernel)) (fun _ h9 => h9) rfl dX7_liveThrough_38 ?_
      refine lv_iload_n hx hb dX7_liveThrough_41 rfl (lv_at hl 1 rfl) ?_
      refine lv_iconst (v := 1) hx hb dX7_liveThrough_42 (by decide) ?_
      refine lv_isub hx hb dX7_liveThrough_43 ?_
      refine lv_topi (fun z_5 ez_5 => ?_)
      refine lv_icmp_ge (tgt := 57) hx hb dX7_liveThrough_44 (by decide) (fun c_6 => ?_) (fun c_6 => ?_)
      · exact en_v hx hb hr hlocks hP hD hK hS (z_2, mi, st) ⟨rfl, trivial⟩ [0] [] rfl rfl rfl (Nat.le_of_ble_eq_true rfl) (Nat.le_of_ble_eq_true rfl) dX7_liveThrough_57
      · refine lv_aload_n hx hb dX7_liveThrough_47 rfl (lv_at hl 0 rfl) ?_
        refine lv_iconst (v := 0) hx hb dX7_liveThrough_48 (by decide) ?_
        refine va_put (D := (dC, dI)) (ci := 7) (v := .int 0) (ty := .int) (C := RX7) (T := TX7) (N := 8) hx hb hts inw_X7_liveThrough_7 tyX7 tyX7_ok nmX7 hown hK hP hD hS 0 rfl rfl 4 (by decide) (hts (.fieldLink RX7 9 "VatHouse$Vat" "state" "I") (by decide +kernel)) (fun _ h9 => h9) rfl (by decide +kernel) rfl rfl (Nat.le_of_ble_eq_true rfl) dX7_liveThrough_49 (fun H locs hP hD hS => ?_)
        have hP : va_P (dC, dI) vwCl [(h0, .inr (7, [.int nu, .int gr, .int z_2, .int mi, .int 0, .int di, .int cb, .int la]))] _ := hP
        have hD : va_D _ [(h0, .inr (7, [.int nu, .int gr, .int z_2, .int mi, .int 0, .int di, .int cb, .int la]))] := hD
        refine lv_aload_n hx hb dX7_liveThrough_52 rfl (lv_at hl 0 rfl) ?_
        refine lv_iconst (v := 0) hx hb dX7_liveThrough_53 (by decide) ?_
        refine va_put (D := (dC, dI)) (ci := 7) (v := .int 0) (ty := .int) (C := RX7) (T := TX7) (N := 8) hx hb hts inw_X7_liveThrough_7 tyX7 tyX7_ok nmX7 hown hK hP hD hS 0 rfl rfl 3 (by decide) (hts (.fieldLink RX7 42 "VatHouse$Vat" "minutes" "I") (by decide +kernel)) (fun _ h9 => h9) rfl (by decide +kernel) rfl rfl (Nat.le_of_ble_eq_true rfl) dX7_liveThrough_54 (fun H locs hP hD hS => ?_)
        have hP : va_P (dC, dI) vwCl [(h0, .inr (7, [.int nu, .int gr, .int z_2, .int 0, .int 0, .int di, .int cb, .int la]))] _ := hP
        have hD : va_D _ [(h0, .inr (7, [.int nu, .int gr, .int z_2, .int 0, .int 0, .int di, .int cb, .int la]))] := hD
        exact en_v hx hb hr hlocks hP hD hK hS (z_2, 0, 0) ⟨rfl, trivial⟩ [0] [] rfl rfl rfl (Nat.le_of_ble_eq_true rfl) (Nat.le_of_ble_eq_true rfl) dX7_liveThrough_57
  · refine lv_aload_n hx hb dX7_liveThrough_21 rfl (lv_at hl 0 rfl) ?_
    refine lv_iconst (v := 2) hx hb dX7_liveThrough_22 (by decide) ?_
    refine va_put (D := (dC, dI)) (ci := 7) (v := .int 2) (ty := .int) (C := RX7) (T := TX7) (N := 8) hx hb hts inw_X7_liveThrough_7 tyX7 tyX7_ok nmX7 hown hK hP hD hS 0 rfl rfl 4 (by decide) (hts (.fieldLink RX7 9 "VatHouse$Vat" "state" "I") (by decide +kernel)) (fun _ h9 => h9) rfl (by decide +kernel) rfl rfl (Nat.le_of_ble_eq_true rfl) dX7_liveThrough_23 (fun H locs hP hD hS => ?_)
    have hP : va_P (dC, dI) vwCl [(h0, .inr (7, [.int nu, .int gr, .int z_2, .int mi, .int 2, .int di, .int cb, .int la]))] _ := hP
    have hD : va_D _ [(h0, .inr (7, [.int nu, .int gr, .int z_2, .int mi, .int 2, .int di, .int cb, .int la]))] := hD
    refine lv_goto (tgt := 57) hx hb dX7_liveThrough_26 (by decide) ?_
    exact en_v hx hb hr hlocks hP hD hK hS (z_2, mi, 2) ⟨rfl, trivial⟩ [0] [] rfl rfl rfl (Nat.le_of_ble_eq_true rfl) (Nat.le_of_ble_eq_true rfl) dX7_liveThrough_57

abbrev rm_X8_passHour : Room := { frames := 2, cells := 0, slots := 0, locals := 35 }
theorem inw_X8_passHour_8 : ∀ w ∈ wsX80, w ∈ wsX8_passHour := by decide +kernel
set_option maxHeartbeats 800000 in
set_option maxRecDepth 100000 in
theorem c_X8_passHour (l : Launch) (dC : Nat → ClassId) (dI : Nat → Nat → Nat) (sa : Nat → Nat) (hlt : l.stackTraces = false) (sz : Nat) (ad : Nat → Nat) (ca : Nat → ClassId) (fv : Nat → Option Nat) (hh : Int32) (F : Nat → Nat → Int32) (hfv : ∀ k, k < 6 → fv k = some (ad (2 + k))) : CT l dC dI sa yX8_passHour wsX8_passHour rm_X8_passHour [.ref (ad 0)] [((ad 0), .inr (8, [.ref (ad 1), .int hh, .int 0])), ((ad 1), .inl ((ca 1), 6, .inr (.inr (.inr (.inr fv))))), ((ad 2), .inr (7, [.int (F 0 0), .int (F 0 1), .int (F 0 2), .int (F 0 3), .int (F 0 4), .int (F 0 5), .int (F 0 6), .int (F 0 7)])), ((ad 3), .inr (7, [.int (F 1 0), .int (F 1 1), .int (F 1 2), .int (F 1 3), .int (F 1 4), .int (F 1 5), .int (F 1 6), .int (F 1 7)])), ((ad 4), .inr (7, [.int (F 2 0), .int (F 2 1), .int (F 2 2), .int (F 2 3), .int (F 2 4), .int (F 2 5), .int (F 2 6), .int (F 2 7)])), ((ad 5), .inr (7, [.int (F 3 0), .int (F 3 1), .int (F 3 2), .int (F 3 3), .int (F 3 4), .int (F 3 5), .int (F 3 6), .int (F 3 7)])), ((ad 6), .inr (7, [.int (F 4 0), .int (F 4 1), .int (F 4 2), .int (F 4 3), .int (F 4 4), .int (F 4 5), .int (F 4 6), .int (F 4 7)])), ((ad 7), .inr (7, [.int (F 5 0), .int (F 5 1), .int (F 5 2), .int (F 5 3), .int (F 5 4), .int (F 5 5), .int (F 5 6), .int (F 5 7)]))] [((ca 1), .object "VatHouse$Vat")] sz (fun (r : Option Value) (u : Int32 × (Nat → Nat → Int32)) => match u with | (h2, F2) => r = none ∧ (h2 = hh + 1)) (fun (u : Int32 × (Nat → Nat → Int32)) => match u with | (h2, F2) => [((ad 0), .inr (8, [.ref (ad 1), .int h2, .int 0])), ((ad 1), .inl ((ca 1), 6, .inr (.inr (.inr (.inr fv))))), ((ad 2), .inr (7, [.int (F2 0 0), .int (F2 0 1), .int (F2 0 2), .int (F2 0 3), .int (F2 0 4), .int (F2 0 5), .int (F2 0 6), .int (F2 0 7)])), ((ad 3), .inr (7, [.int (F2 1 0), .int (F2 1 1), .int (F2 1 2), .int (F2 1 3), .int (F2 1 4), .int (F2 1 5), .int (F2 1 6), .int (F2 1 7)])), ((ad 4), .inr (7, [.int (F2 2 0), .int (F2 2 1), .int (F2 2 2), .int (F2 2 3), .int (F2 2 4), .int (F2 2 5), .int (F2 2 6), .int (F2 2 7)])), ((ad 5), .inr (7, [.int (F2 3 0), .int (F2 3 1), .int (F2 3 2), .int (F2 3 3), .int (F2 3 4), .int (F2 3 5), .int (F2 3 6), .int (F2 3 7)])), ((ad 6), .inr (7, [.int (F2 4 0), .int (F2 4 1), .int (F2 4 2), .int (F2 4 3), .int (F2 4 4), .int (F2 4 5), .int (F2 4 6), .int (F2 4 7)])), ((ad 7), .inr (7, [.int (F2 5 0), .int (F2 5 1), .int (F2 5 2), .int (F2 5 3), .int (F2 5 4), .int (F2 5 5), .int (F2 5 6), .int (F2 5 7)]))]) (fun (u : Int32 × (Nat → Nat → Int32)) => match u with | (h2, F2) => []) 0 0 := by
  refine CT.start (cc := cX8_passHour) (maxL := 2) (ret := none) (by decide) rfl (Nat.le_of_ble_eq_true rfl) ?_
  intro p e s m below meth c ls hst hP hK hD hev hS hl
  obtain ⟨hx, hb, hr, hml, hts, hown, hlocks, hin⟩ := hst
  have hown : s.vm.findClass RX8 = some m.cls := hown
  have hin : meth.name = yX8_passHour.name := hin
  have hA : ∀ q : Nat, s.heap.size ≤ q → va_A [((ad 0), .inr (8, [.ref (ad 1), .int hh, .int 0])), ((ad 1), .inl ((ca 1), 6, .inr (.inr (.inr (.inr fv))))), ((ad 2), .inr (7, [.int (F 0 0), .int (F 0 1), .int (F 0 2), .int (F 0 3), .int (F 0 4), .int (F 0 5), .int (F 0 6), .int (F 0 7)])), ((ad 3), .inr (7, [.int (F 1 0), .int (F 1 1), .int (F 1 2), .int (F 1 3), .int (F 1 4), .int (F 1 5), .int (F 1 6), .int (F 1 7)])), ((ad 4), .inr (7, [.int (F 2 0), .int (F 2 1), .int (F 2 2), .int (F 2 3), .int (F 2 4), .int (F 2 5), .int (F 2 6), .int (F 2 7)])), ((ad 5), .inr (7, [.int (F 3 0), .int (F 3 1), .int (F 3 2), .int (F 3 3), .int (F 3 4), .int (F 3 5), .int (F 3 6), .int (F 3 7)])), ((ad 6), .inr (7, [.int (F 4 0), .int (F 4 1), .int (F 4 2), .int (F 4 3), .int (F 4 4), .int (F 4 5), .int (F 4 6), .int (F 4 7)])), ((ad 7), .inr (7, [.int (F 5 0), .int (F 5 1), .int (F 5 2), .int (F 5 3), .int (F 5 4), .int (F 5 5), .int (F 5 6), .int (F 5 7)]))] s.heap.size q := fun _ h => Or.inr h
  have hl : lv_has ls 2 [(0, .ref (ad 0))] := hl
  refine lv_iconst (v := 0) hx hb dX8_passHour_0 (by decide) ?_
  refine lv_istore_n (lv' := [(1, .int 0), (0, .ref (ad 0))]) hx hb dX8_passHour_1 rfl hl (by decide) rfl (fun ls hl => ?_)
  refine lv_iload_n hx hb dX8_passHour_2 rfl (lv_at hl 0 rfl) ?_
  refine lv_aload_n hx hb dX8_passHour_3 rfl (lv_at hl 1 rfl) ?_
  refine va_get (D := (dC, dI)) (ci := 8) (v := .ref (ad 1)) (C := RX8) (T := TX8) (N := 3) hx hb hts inw_X8_passHour_8 hown hK hP 0 rfl rfl 0 (by decide) (hts (.fieldLink RX8 11 "VatHouse$Works" "vats" "[LVatHouse$Vat;") (by decide +kernel)) (fun _ h9 => h9) rfl dX8_passHour_4 ?_
  refine va_alen hx hb hK hP 1 0 rfl rfl (v := 6) rfl dX8_passHour_7 ?_
  refine lv_icmp_ge (tgt := 30) hx hb dX8_passHour_8 (by decide) (fun c_1 => ?_) (fun c_1 => ?_)
  · exact absurd c_1 (by decide)
  refine lv_aload_n hx hb dX8_passHour_11 rfl (lv_at hl 1 rfl) ?_
  refine va_get (D := (dC, dI)) (ci := 8) (v := .ref (ad 1)) (C := RX8) (T := TX8) (N := 3) hx hb hts inw_X8_passHour_8 hown hK hP 0 rfl rfl 0 (by decide) (hts (.fieldLink RX8 11 "VatHouse$Works" "vats" "[LVatHouse$Vat;") (by decide +kernel)) (fun _ h9 => h9) rfl dX8_passHour_12 ?_
  refine lv_iload_n hx hb dX8_passHour_15 rfl (lv_at hl 0 rfl) ?_
  refine va_aldq hx hb hK hP 1 0 rfl rfl (by unfold vp_in; decide) dX8_passHour_16 ?_
  rw [show fv (0 : Int32).toNatClampNeg = some (ad 2) from hfv 0 (by decide)]
  refine W.eq (g2 := F0 m 17 ls [.ref (ad 2)]) rfl ?_
  refine lv_aload_n hx hb dX8_passHour_17 rfl (lv_at hl 1 rfl) ?_
  refine va_get (D := (dC, dI)) (ci := 8) (v := .int hh) (C := RX8) (T := TX8) (N := 3) hx hb hts inw_X8_passHour_8 hown hK hP 0 rfl rfl 1 (by decide) (hts (.fieldLink RX8 31 "VatHouse$Works" "hours" "I") (by decide +kernel)) (fun _ h9 => h9) rfl dX8_passHour_18 ?_
  refine go_V (wr := [((ad 0), .inr (8, [.ref (ad 1), .int hh, .int 0])), ((ad 1), .inl ((ca 1), 6, .inr (.inr (.inr (.inr fv))))), ((ad 3), .inr (7, [.int (F 1 0), .int (F 1 1), .int (F 1 2), .int (F 1 3), .int (F 1 4), .int (F 1 5), .int (F 1 6), .int (F 1 7)])), ((ad 4), .inr (7, [.int (F 2 0), .int (F 2 1), .int (F 2 2), .int (F 2 3), .int (F 2 4), .int (F 2 5), .int (F 2 6), .int (F 2 7)])), ((ad 5), .inr (7, [.int (F 3 0), .int (F 3 1), .int (F 3 2), .int (F 3 3), .int (F 3 4), .int (F 3 5), .int (F 3 6), .int (F 3 7)])), ((ad 6), .inr (7, [.int (F 4 0), .int (F 4 1), .int (F 4 2), .int (F 4 3), .int (F 4 4), .int (F 4 5), .int (F 4 6), .int (F 4 7)])), ((ad 7), .inr (7, [.int (F 5 0), .int (F 5 1), .int (F 5 2), .int (F 5 3), .int (F 5 4), .int (F 5 5), .int (F 5 6), .int (F 5 7)]))]) ⟨hx, hb, hml, hown, hts⟩ (c_X7_liveThrough l dC dI sa hlt _ (ad 2) (F 0 0) (F 0 1) (F 0 2) (F 0 3) (F 0 4) (F 0 5) (F 0 6) (F 0 7) hh ) (cwV 1 hts gX8_passHour_X7_liveThrough rfl rfl rfl (by decide +kernel) ⟨Nat.le_of_ble_eq_true rfl, Nat.le_of_ble_eq_true rfl⟩) hP hD hK hS hA hev [2] [0, 1, 3, 4, 5, 6, 7] [] rfl rfl rfl rfl (by decide) rfl 2 7 rfl rfl rfl rfl hl.1 rfl (Nat.le_of_ble_eq_true rfl) dX8_passHour_21 ⟨Nat.le_of_ble_eq_true rfl, Nat.le_of_ble_eq_true rfl⟩ (fun r u H locs hw hP hD hK hS => ?_)
  obtain ⟨fo2_2, mi2_3, st2_4⟩ := u
  have hw : r = none ∧ (True) := hw
  obtain ⟨rfl, hw_5⟩ := hw
  have hP : va_P (dC, dI) vwCl [((ad 0), .inr (8, [.ref (ad 1), .int hh, .int 0])), ((ad 1), .inl ((ca 1), 6, .inr (.inr (.inr (.inr fv))))), ((ad 3), .inr (7, [.int (F 1 0), .int (F 1 1), .int (F 1 2), .int (F 1 3), .int (F 1 4), .int (F 1 5), .int (F 1 6), .int (F 1 7)])), ((ad 4), .inr (7, [.int (F 2 0), .int (F 2 1), .int (F 2 2), .int (F 2 3), .int (F 2 4), .int (F 2 5), .int (F 2 6), .int (F 2 7)])), ((ad 5), .inr (7, [.int (F 3 0), .int (F 3 1), .int (F 3 2), .int (F 3 3), .int (F 3 4), .int (F 3 5), .int (F 3 6), .int (F 3 7)])), ((ad 6), .inr (7, [.int (F 4 0), .int (F 4 1), .int (F 4 2), .int (F 4 3), .int (F 4 4), .int (F 4 5), .int (F 4 6), .int (F 4 7)])), ((ad 7), .inr (7, [.int (F 5 0), .int (F 5 1), .int (F 5 2), .int (F 5 3), .int (F 5 4), .int (F 5 5), .int (F 5 6), .int (F 5 7)])), ((ad 2), .inr (7, [.int (F 0 0), .int (F 0 1), .int fo2_2, .int mi2_3, .int st2_4, .int (F 0 5), .int (F 0 6), .int (F 0 7)]))] _ := hP
  have hD : va_D _ [((ad 0), .inr (8, [.ref (ad 1), .int hh, .int 0])), ((ad 1), .inl ((ca 1), 6, .inr (.inr (.inr (.inr fv))))), ((ad 3), .inr (7, [.int (F 1 0), .int (F 1 1), .int (F 1 2), .int (F 1 3), .int (F 1 4), .int (F 1 5), .int (F 1 6), .int (F 1 7)])), ((ad 4), .inr (7, [.int (F 2 0), .int (F 2 1), .int (F 2 2), .int (F 2 3), .int (F 2 4), .int (F 2 5), .int (F 2 6), .int (F 2 7)])), ((ad 5), .inr (7, [.int (F 3 0), .int (F 3 1), .int (F 3 2), .int (F 3 3), .int (F 3 4), .int (F 3 5), .int (F 3 6), .int (F 3 7)])), ((ad 6), .inr (7, [.int (F 4 0), .int (F 4 1), .int (F 4 2), .int (F 4 3), .int (F 4 4), .int (F 4 5), .int (F 4 6), .int (F 4 7)])), ((ad 7), .inr (7, [.int (F 5 0), .int (F 5 1), .int (F 5 2), .int (F 5 3), .int (F 5 4), .int (F 5 5), .int (F 5 6), .int (F 5 7)])), ((ad 2), .inr (7, [.int (F 0 0), .int (F 0 1), .int fo2_2, .int mi2_3, .int st2_4, .int (F 0 5), .int (F 0 6), .int (F 0 7)]))] := hD
  have hK : va_K (dC, dI) vwCl [((ca 1), .object "VatHouse$Vat")] s := hK
  refine W.eq (g2 := F0 m 24 ls []) rfl ?_
  refine lv_iinc (v := 1) (lv' := [(1, .int 1), (0, .ref (ad 0))]) hx hb dX8_passHour_24 hl (k := 0) rfl (by decide) (by decide) rfl (fun ls hl => ?_)
  refine lv_goto (tgt := 2) hx hb dX8_passHour_27 (by decide) ?_
  refine lv_iload_n hx hb dX8_passHour_2 rfl (lv_at hl 0 rfl) ?_
  refine lv_aload_n hx hb dX8_passHour_3 rfl (lv_at hl 1 rfl) ?_
  refine va_get (D := (dC, dI)) (ci := 8) (v := .ref (ad 1)) (C := RX8) (T := TX8) (N := 3) hx hb hts inw_X8_passHour_8 hown hK hP 0 rfl rfl 0 (by decide) (hts (.fieldLink RX8 11 "VatHouse$Works" "vats" "[LVatHouse$Vat;") (by decide +kernel)) (fun _ h9 => h9) rfl dX8_passHour_4 ?_
  refine va_alen hx hb hK hP 1 0 rfl rfl (v := 6) rfl dX8_passHour_7 ?_
  refine lv_icmp_ge (tgt := 30) hx hb dX8_passHour_8 (by decide) (fun c_6 => ?_) (fun c_6 => ?_)
  · exact absurd c_6 (by decide)
  refine lv_aload_n hx hb dX8_passHour_11 rfl (lv_at hl 1 rfl) ?_
  refine va_get (D := (dC, dI)) (ci := 8) (v := .ref (ad 1)) (C := RX8) (T := TX8) (N := 3) hx hb hts inw_X8_passHour_8 hown hK hP 0 rfl rfl 0 (by decide) (hts (.fieldLink RX8 11 "VatHouse$Works" "vats" "[LVatHouse$Vat;") (by decide +kernel)) (fun _ h9 => h9) rfl dX8_passHour_12 ?_
  refine lv_iload_n hx hb dX8_passHour_15 rfl (lv_at hl 0 rfl) ?_
  refine va_aldq hx hb hK hP 1 0 rfl rfl (by unfold vp_in; decide) dX8_passHour_16 ?_
  rw [show fv (1 : Int32).toNatClampNeg = some (ad 3) from hfv 1 (by decide)]
  refine W.eq (g2 := F0 m 17 ls [.ref (ad 3)]) rfl ?_
  refine lv_aload_n hx hb dX8_passHour_17 rfl (lv_at hl 1 rfl) ?_
  refine va_get (D := (dC, dI)) (ci := 8) (v := .int hh) (C := RX8) (T := TX8) (N := 3) hx hb hts inw_X8_passHour_8 hown hK hP 0 rfl rfl 1 (by decide) (hts (.fieldLink RX8 31 "VatHouse$Works" "hours" "I") (by decide +kernel)) (fun _ h9 => h9) rfl dX8_passHour_18 ?_
  refine go_V (wr := [((ad 0), .inr (8, [.ref (ad 1), .int hh, .int 0])), ((ad 1), .inl ((ca 1), 6, .inr (.inr (.inr (.inr fv))))), ((ad 4), .inr (7, [.int (F 2 0), .int (F 2 1), .int (F 2 2), .int (F 2 3), .int (F 2 4), .int (F 2 5), .int (F 2 6), .int (F 2 7)])), ((ad 5), .inr (7, [.int (F 3 0), .int (F 3 1), .int (F 3 2), .int (F 3 3), .int (F 3 4), .int (F 3 5), .int (F 3 6), .int (F 3 7)])), ((ad 6), .inr (7, [.int (F 4 0), .int (F 4 1), .int (F 4 2), .int (F 4 3), .int (F 4 4), .int (F 4 5), .int (F 4 6), .int (F 4 7)])), ((ad 7), .inr (7, [.int (F 5 0), .int (F 5 1), .int (F 5 2), .int (F 5 3), .int (F 5 4), .int (F 5 5), .int (F 5 6), .int (F 5 7)])), ((ad 2), .inr (7, [.int (F 0 0), .int (F 0 1), .int fo2_2, .int mi2_3, .int st2_4, .int (F 0 5), .int (F 0 6), .int (F 0 7)]))]) ⟨hx, hb, hml, hown, hts⟩ (c_X7_liveThrough l dC dI sa hlt _ (ad 3) (F 1 0) (F 1 1) (F 1 2) (F 1 3) (F 1 4) (F 1 5) (F 1 6) (F 1 7) hh ) (cwV 1 hts gX8_passHour_X7_liveThrough rfl rfl rfl (by decide +kernel) ⟨Nat.le_of_ble_eq_true rfl, Nat.le_of_ble_eq_true rfl⟩) hP hD hK hS hA hev [2] [0, 1, 3, 4, 5, 6, 7] [] rfl rfl rfl rfl (by decide) rfl 2 7 rfl rfl rfl rfl hl.1 rfl (Nat.le_of_ble_eq_true rfl) dX8_passHour_21 ⟨Nat.le_of_ble_eq_true rfl, Nat.le_of_ble_eq_true rfl⟩ (fun r u H locs hw hP hD hK hS => ?_)
  obtain ⟨fo2_7, mi2_8, st2_9⟩ := u
  have hw : r = none ∧ (True) := hw
  obtain ⟨rfl, hw_10⟩ := hw
  have hP : va_P (dC, dI) vwCl [((ad 0), .inr (8, [.ref (ad 1), .int hh, .int 0])), ((ad 1), .inl ((ca 1), 6, .inr (.inr (.inr (.inr fv))))), ((ad 4), .inr (7, [.int (F 2 0), .int (F 2 1), .int (F 2 2), .int (F 2 3), .int (F 2 4), .int (F 2 5), .int (F 2 6), .int (F 2 7)])), ((ad 5), .inr (7, [.int (F 3 0), .int (F 3 1), .int (F 3 2), .int (F 3 3), .int (F 3 4), .int (F 3 5), .int (F 3 6), .int (F 3 7)])), ((ad 6), .inr (7, [.int (F 4 0), .int (F 4 1), .int (F 4 2), .int (F 4 3), .int (F 4 4), .int (F 4 5), .int (F 4 6), .int (F 4 7)])), ((ad 7), .inr (7, [.int (F 5 0), .int (F 5 1), .int (F 5 2), .int (F 5 3), .int (F 5 4), .int (F 5 5), .int (F 5 6), .int (F 5 7)])), ((ad 2), .inr (7, [.int (F 0 0), .int (F 0 1), .int fo2_2, .int mi2_3, .int st2_4, .int (F 0 5), .int (F 0 6), .int (F 0 7)])), ((ad 3), .inr (7, [.int (F 1 0), .int (F 1 1), .int fo2_7, .int mi2_8, .int st2_9, .int (F 1 5), .int (F 1 6), .int (F 1 7)]))] _ := hP
  have hD : va_D _ [((ad 0), .inr (8, [.ref (ad 1), .int hh, .int 0])), ((ad 1), .inl ((ca 1), 6, .inr (.inr (.inr (.inr fv))))), ((ad 4), .inr (7, [.int (F 2 0), .int (F 2 1), .int (F 2 2), .int (F 2 3), .int (F 2 4), .int (F 2 5), .int (F 2 6), .int (F 2 7)])), ((ad 5), .inr (7, [.int (F 3 0), .int (F 3 1), .int (F 3 2), .int (F 3 3), .int (F 3 4), .int (F 3 5), .int (F 3 6), .int (F 3 7)])), ((ad 6), .inr (7, [.int (F 4 0), .int (F 4 1), .int (F 4 2), .int (F 4 3), .int (F 4 4), .int (F 4 5), .int (F 4 6), .int (F 4 7)])), ((ad 7), .inr (7, [.int (F 5 0), .int (F 5 1), .int (F 5 2), .int (F 5 3), .int (F 5 4), .int (F 5 5), .int (F 5 6), .int (F 5 7)])), ((ad 2), .inr (7, [.int (F 0 0), .int (F 0 1), .int fo2_2, .int mi2_3, .int st2_4, .int (F 0 5), .int (F 0 6), .int (F 0 7)])), ((ad 3), .inr (7, [.int (F 1 0), .int (F 1 1), .int fo2_7, .int mi2_8, .int st2_9, .int (F 1 5), .int (F 1 6), .int (F 1 7)]))] := hD
  have hK : va_K (dC, dI) vwCl [((ca 1), .object "VatHouse$Vat")] s := hK
  refine W.eq (g2 := F0 m 24 ls []) rfl ?_
  refine lv_iinc (v := 2) (lv' := [(1, .int 2), (0, .ref (ad 0))]) hx hb dX8_passHour_24 hl (k := 0) rfl (by decide) (by decide) rfl (fun ls hl => ?_)
  refine lv_goto (tgt := 2) hx hb dX8_passHour_27 (by decide) ?_
  refine lv_iload_n hx hb dX8_passHour_2 rfl (lv_at hl 0 rfl) ?_
  refine lv_aload_n hx hb dX8_passHour_3 rfl (lv_at hl 1 rfl) ?_
  refine va_get (D := (dC, dI)) (ci := 8) (v := .ref (ad 1)) (C := RX8) (T := TX8) (N := 3) hx hb hts inw_X8_passHour_8 hown hK hP 0 rfl rfl 0 (by decide) (hts (.fieldLink RX8 11 "VatHouse$Works" "vats" "[LVatHouse$Vat;") (by decide +kernel)) (fun _ h9 => h9) rfl dX8_passHour_4 ?_
  refine va_alen hx hb hK hP 1 0 rfl rfl (v := 6) rfl dX8_passHour_7 ?_
  refine lv_icmp_ge (tgt := 30) hx hb dX8_passHour_8 (by decide) (fun c_11 => ?_) (fun c_11 => ?_)
  · exact absurd c_11 (by decide)
  refine lv_aload_n hx hb dX8_passHour_11 rfl (lv_at hl 1 rfl) ?_
  refine va_get (D := (dC, dI)) (ci := 8) (v := .ref (ad 1)) (C := RX8) (T := TX8) (N := 3) hx hb hts inw_X8_passHour_8 hown hK hP 0 rfl rfl 0 (by decide) (hts (.fieldLink RX8 11 "VatHouse$Works" "vats" "[LVatHouse$Vat;") (by decide +kernel)) (fun _ h9 => h9) rfl dX8_passHour_12 ?_
  refine lv_iload_n hx hb dX8_passHour_15 rfl (lv_at hl 0 rfl) ?_
  refine va_aldq hx hb hK hP 1 0 rfl rfl (by unfold vp_in; decide) dX8_passHour_16 ?_
  rw [show fv (2 : Int32).toNatClampNeg = some (ad 4) from hfv 2 (by decide)]
  refine W.eq (g2 := F0 m 17 ls [.ref (ad 4)]) rfl ?_
  refine lv_aload_n hx hb dX8_passHour_17 rfl (lv_at hl 1 rfl) ?_
  refine va_get (D := (dC, dI)) (ci := 8) (v := .int hh) (C := RX8) (T := TX8) (N := 3) hx hb hts inw_X8_passHour_8 hown hK hP 0 rfl rfl 1 (by decide) (hts (.fieldLink RX8 31 "VatHouse$Works" "hours" "I") (by decide +kernel)) (fun _ h9 => h9) rfl dX8_passHour_18 ?_
  refine go_V (wr := [((ad 0), .inr (8, [.ref (ad 1), .int hh, .int 0])), ((ad 1), .inl ((ca 1), 6, .inr (.inr (.inr (.inr fv))))), ((ad 5), .inr (7, [.int (F 3 0), .int (F 3 1), .int (F 3 2), .int (F 3 3), .int (F 3 4), .int (F 3 5), .int (F 3 6), .int (F 3 7)])), ((ad 6), .inr (7, [.int (F 4 0), .int (F 4 1), .int (F 4 2), .int (F 4 3), .int (F 4 4), .int (F 4 5), .int (F 4 6), .int (F 4 7)])), ((ad 7), .inr (7, [.int (F 5 0), .int (F 5 1), .int (F 5 2), .int (F 5 3), .int (F 5 4), .int (F 5 5), .int (F 5 6), .int (F 5 7)])), ((ad 2), .inr (7, [.int (F 0 0), .int (F 0 1), .int fo2_2, .int mi2_3, .int st2_4, .int (F 0 5), .int (F 0 6), .int (F 0 7)])), ((ad 3), .inr (7, [.int (F 1 0), .int (F 1 1), .int fo2_7, .int mi2_8, .int st2_9, .int (F 1 5), .int (F 1 6), .int (F 1 7)]))]) ⟨hx, hb, hml, hown, hts⟩ (c_X7_liveThrough l dC dI sa hlt _ (ad 4) (F 2 0) (F 2 1) (F 2 2) (F 2 3) (F 2 4) (F 2 5) (F 2 6) (F 2 7) hh ) (cwV 1 hts gX8_passHour_X7_liveThrough rfl rfl rfl (by decide +kernel) ⟨Nat.le_of_ble_eq_true rfl, Nat.le_of_ble_eq_true rfl⟩) hP hD hK hS hA hev [2] [0, 1, 3, 4, 5, 6, 7] [] rfl rfl rfl rfl (by decide) rfl 2 7 rfl rfl rfl rfl hl.1 rfl (Nat.le_of_ble_eq_true rfl) dX8_passHour_21 ⟨Nat.le_of_ble_eq_true rfl, Nat.le_of_ble_eq_true rfl⟩ (fun r u H locs hw hP hD hK hS => ?_)
  obtain ⟨fo2_12, mi2_13, st2_14⟩ := u
  have hw : r = none ∧ (True) := hw
  obtain ⟨rfl, hw_15⟩ := hw
  have hP : va_P (dC, dI) vwCl [((ad 0), .inr (8, [.ref (ad 1), .int hh, .int 0])), ((ad 1), .inl ((ca 1), 6, .inr (.inr (.inr (.inr fv))))), ((ad 5), .inr (7, [.int (F 3 0), .int (F 3 1), .int (F 3 2), .int (F 3 3), .int (F 3 4), .int (F 3 5), .int (F 3 6), .int (F 3 7)])), ((ad 6), .inr (7, [.int (F 4 0), .int (F 4 1), .int (F 4 2), .int (F 4 3), .int (F 4 4), .int (F 4 5), .int (F 4 6), .int (F 4 7)])), ((ad 7), .inr (7, [.int (F 5 0), .int (F 5 1), .int (F 5 2), .int (F 5 3), .int (F 5 4), .int (F 5 5), .int (F 5 6), .int (F 5 7)])), ((ad 2), .inr (7, [.int (F 0 0), .int (F 0 1), .int fo2_2, .int mi2_3, .int st2_4, .int (F 0 5), .int (F 0 6), .int (F 0 7)])), ((ad 3), .inr (7, [.int (F 1 0), .int (F 1 1), .int fo2_7, .int mi2_8, .int st2_9, .int (F 1 5), .int (F 1 6), .int (F 1 7)])), ((ad 4), .inr (7, [.int (F 2 0), .int (F 2 1), .int fo2_12, .int mi2_13, .int st2_14, .int (F 2 5), .int (F 2 6), .int (F 2 7)]))] _ := hP
  have hD : va_D _ [((ad 0), .inr (8, [.ref (ad 1), .int hh, .int 0])), ((ad 1), .inl ((ca 1), 6, .inr (.inr (.inr (.inr fv))))), ((ad 5), .inr (7, [.int (F 3 0), .int (F 3 1), .int (F 3 2), .int (F 3 3), .int (F 3 4), .int (F 3 5), .int (F 3 6), .int (F 3 7)])), ((ad 6), .inr (7, [.int (F 4 0), .int (F 4 1), .int (F 4 2), .int (F 4 3), .int (F 4 4), .int (F 4 5), .int (F 4 6), .int (F 4 7)])), ((ad 7), .inr (7, [.int (F 5 0), .int (F 5 1), .int (F 5 2), .int (F 5 3), .int (F 5 4), .int (F 5 5), .int (F 5 6), .int (F 5 7)])), ((ad 2), .inr (7, [.int (F 0 0), .int (F 0 1), .int fo2_2, .int mi2_3, .int st2_4, .int (F 0 5), .int (F 0 6), .int (F 0 7)])), ((ad 3), .inr (7, [.int (F 1 0), .int (F 1 1), .int fo2_7, .int mi2_8, .int st2_9, .int (F 1 5), .int (F 1 6), .int (F 1 7)])), ((ad 4), .inr (7, [.int (F 2 0), .int (F 2 1), .int fo2_12, .int mi2_13, .int st2_14, .int (F 2 5), .int (F 2 6), .int (F 2 7)]))] := hD
  have hK : va_K (dC, dI) vwCl [((ca 1), .object "VatHouse$Vat")] s := hK
  refine W.eq (g2 := F0 m 24 ls []) rfl ?_
  refine lv_iinc (v := 3) (lv' := [(1, .int 3), (0, .ref (ad 0))]) hx hb dX8_passHour_24 hl (k := 0) rfl (by decide) (by decide) rfl (fun ls hl => ?_)
  refine lv_goto (tgt := 2) hx hb dX8_passHour_27 (by decide) ?_
  refine lv_iload_n hx hb dX8_passHour_2 rfl (lv_at hl 0 rfl) ?_
  refine lv_aload_n hx hb dX8_passHour_3 rfl (lv_at hl 1 rfl) ?_
  refine va_get (D := (dC, dI)) (ci := 8) (v := .ref (ad 1)) (C := RX8) (T := TX8) (N := 3) hx hb hts inw_X8_passHour_8 hown hK hP 0 rfl rfl 0 (by decide) (hts (.fieldLink RX8 11 "VatHouse$Works" "vats" "[LVatHouse$Vat;") (by decide +kernel)) (fun _ h9 => h9) rfl dX8_passHour_4 ?_
  refine va_alen hx hb hK hP 1 0 rfl rfl (v := 6) rfl dX8_passHour_7 ?_
  refine lv_icmp_ge (tgt := 30) hx hb dX8_passHour_8 (by decide) (fun c_16 => ?_) (fun c_16 => ?_)
  · exact absurd c_16 (by decide)
  refine lv_aload_n hx hb dX8_passHour_11 rfl (lv_at hl 1 rfl) ?_
  refine va_get (D := (dC, dI)) (ci := 8) (v := .ref (ad 1)) (C := RX8) (T := TX8) (N := 3) hx hb hts inw_X8_passHour_8 hown hK hP 0 rfl rfl 0 (by decide) (hts (.fieldLink RX8 11 "VatHouse$Works" "vats" "[LVatHouse$Vat;") (by decide +kernel)) (fun _ h9 => h9) rfl dX8_passHour_12 ?_
  refine lv_iload_n hx hb dX8_passHour_15 rfl (lv_at hl 0 rfl) ?_
  refine va_aldq hx hb hK hP 1 0 rfl rfl (by unfold vp_in; decide) dX8_passHour_16 ?_
  rw [show fv (3 : Int32).toNatClampNeg = some (ad 5) from hfv 3 (by decide)]
  refine W.eq (g2 := F0 m 17 ls [.ref (ad 5)]) rfl ?_
  refine lv_aload_n hx hb dX8_passHour_17 rfl (lv_at hl 1 rfl) ?_
  refine va_get (D := (dC, dI)) (ci := 8) (v := .int hh) (C := RX8) (T := TX8) (N := 3) hx hb hts inw_X8_passHour_8 hown hK hP 0 rfl rfl 1 (by decide) (hts (.fieldLink RX8 31 "VatHouse$Works" "hours" "I") (by decide +kernel)) (fun _ h9 => h9) rfl dX8_passHour_18 ?_
  refine go_V (wr := [((ad 0), .inr (8, [.ref (ad 1), .int hh, .int 0])), ((ad 1), .inl ((ca 1), 6, .inr (.inr (.inr (.inr fv))))), ((ad 6), .inr (7, [.int (F 4 0), .int (F 4 1), .int (F 4 2), .int (F 4 3), .int (F 4 4), .int (F 4 5), .int (F 4 6), .int (F 4 7)])), ((ad 7), .inr (7, [.int (F 5 0), .int (F 5 1), .int (F 5 2), .int (F 5 3), .int (F 5 4), .int (F 5 5), .int (F 5 6), .int (F 5 7)])), ((ad 2), .inr (7, [.int (F 0 0), .int (F 0 1), .int fo2_2, .int mi2_3, .int st2_4, .int (F 0 5), .int (F 0 6), .int (F 0 7)])), ((ad 3), .inr (7, [.int (F 1 0), .int (F 1 1), .int fo2_7, .int mi2_8, .int st2_9, .int (F 1 5), .int (F 1 6), .int (F 1 7)])), ((ad 4), .inr (7, [.int (F 2 0), .int (F 2 1), .int fo2_12, .int mi2_13, .int st2_14, .int (F 2 5), .int (F 2 6), .int (F 2 7)]))]) ⟨hx, hb, hml, hown, hts⟩ (c_X7_liveThrough l dC dI sa hlt _ (ad 5) (F 3 0) (F 3 1) (F 3 2) (F 3 3) (F 3 4) (F 3 5) (F 3 6) (F 3 7) hh ) (cwV 1 hts gX8_passHour_X7_liveThrough rfl rfl rfl (by decide +kernel) ⟨Nat.le_of_ble_eq_true rfl, Nat.le_of_ble_eq_true rfl⟩) hP hD hK hS hA hev [2] [0, 1, 3, 4, 5, 6, 7] [] rfl rfl rfl rfl (by decide) rfl 2 7 rfl rfl rfl rfl hl.1 rfl (Nat.le_of_ble_eq_true rfl) dX8_passHour_21 ⟨Nat.le_of_ble_eq_true rfl, Nat.le_of_ble_eq_true rfl⟩ (fun r u H locs hw hP hD hK hS => ?_)
  obtain ⟨fo2_17, mi2_18, st2_19⟩ := u
  have hw : r = none ∧ (True) := hw
  obtain ⟨rfl, hw_20⟩ := hw
  have hP : va_P (dC, dI) vwCl [((ad 0), .inr (8, [.ref (ad 1), .int hh, .int 0])), ((ad 1), .inl ((ca 1), 6, .inr (.inr (.inr (.inr fv))))), ((ad 6), .inr (7, [.int (F 4 0), .int (F 4 1), .int (F 4 2), .int (F 4 3), .int (F 4 4), .int (F 4 5), .int (F 4 6), .int (F 4 7)])), ((ad 7), .inr (7, [.int (F 5 0), .int (F 5 1), .int (F 5 2), .int (F 5 3), .int (F 5 4), .int (F 5 5), .int (F 5 6), .int (F 5 7)])), ((ad 2), .inr (7, [.int (F 0 0), .int (F 0 1), .int fo2_2, .int mi2_3, .int st2_4, .int (F 0 5), .int (F 0 6), .int (F 0 7)])), ((ad 3), .inr (7, [.int (F 1 0), .int (F 1 1), .int fo2_7, .int mi2_8, .int st2_9, .int (F 1 5), .int (F 1 6), .int (F 1 7)])), ((ad 4), .inr (7, [.int (F 2 0), .int (F 2 1), .int fo2_12, .int mi2_13, .int st2_14, .int (F 2 5), .int (F 2 6), .int (F 2 7)])), ((ad 5), .inr (7, [.int (F 3 0), .int (F 3 1), .int fo2_17, .int mi2_18, .int st2_19, .int (F 3 5), .int (F 3 6), .int (F 3 7)]))] _ := hP
  have hD : va_D _ [((ad 0), .inr (8, [.ref (ad 1), .int hh, .int 0])), ((ad 1), .inl ((ca 1), 6, .inr (.inr (.inr (.inr fv))))), ((ad 6), .inr (7, [.int (F 4 0), .int (F 4 1), .int (F 4 2), .int (F 4 3), .int (F 4 4), .int (F 4 5), .int (F 4 6), .int (F 4 7)])), ((ad 7), .inr (7, [.int (F 5 0), .int (F 5 1), .int (F 5 2), .int (F 5 3), .int (F 5 4), .int (F 5 5), .int (F 5 6), .int (F 5 7)])), ((ad 2), .inr (7, [.int (F 0 0), .int (F 0 1), .int fo2_2, .int mi2_3, .int st2_4, .int (F 0 5), .int (F 0 6), .int (F 0 7)])), ((ad 3), .inr (7, [.int (F 1 0), .int (F 1 1), .int fo2_7, .int mi2_8, .int st2_9, .int (F 1 5), .int (F 1 6), .int (F 1 7)])), ((ad 4), .inr (7, [.int (F 2 0), .int (F 2 1), .int fo2_12, .int mi2_13, .int st2_14, .int (F 2 5), .int (F 2 6), .int (F 2 7)])), ((ad 5), .inr (7, [.int (F 3 0), .int (F 3 1), .int fo2_17, .int mi2_18, .int st2_19, .int (F 3 5), .int (F 3 6), .int (F 3 7)]))] := hD
  have hK : va_K (dC, dI) vwCl [((ca 1), .object "VatHouse$Vat")] s := hK
  refine W.eq (g2 := F0 m 24 ls []) rfl ?_
  refine lv_iinc (v := 4) (lv' := [(1, .int 4), (0, .ref (ad 0))]) hx hb dX8_passHour_24 hl (k := 0) rfl (by decide) (by decide) rfl (fun ls hl => ?_)
  refine lv_goto (tgt := 2) hx hb dX8_passHour_27 (by decide) ?_
  refine lv_iload_n hx hb dX8_passHour_2 rfl (lv_at hl 0 rfl) ?_
  refine lv_aload_n hx hb dX8_passHour_3 rfl (lv_at hl 1 rfl) ?_
  refine va_get (D := (dC, dI)) (ci := 8) (v := .ref (ad 1)) (C := RX8) (T := TX8) (N := 3) hx hb hts inw_X8_passHour_8 hown hK hP 0 rfl rfl 0 (by decide) (hts (.fieldLink RX8 11 "VatHouse$Works" "vats" "[LVatHouse$Vat;") (by decide +kernel)) (fun _ h9 => h9) rfl dX8_passHour_4 ?_
  refine va_alen hx hb hK hP 1 0 rfl rfl (v := 6) rfl dX8_passHour_7 ?_
  refine lv_icmp_ge (tgt := 30) hx hb dX8_passHour_8 (by decide) (fun c_21 => ?_) (fun c_21 => ?_)
  · exact absurd c_21 (by decide)
  refine lv_aload_n hx hb dX8_passHour_11 rfl (lv_at hl 1 rfl) ?_
  refine va_get (D := (dC, dI)) (ci := 8) (v := .ref (ad 1)) (C := RX8) (T := TX8) (N := 3) hx hb hts inw_X8_passHour_8 hown hK hP 0 rfl rfl 0 (by decide) (hts (.fieldLink RX8 11 "VatHouse$Works" "vats" "[LVatHouse$Vat;") (by decide +kernel)) (fun _ h9 => h9) rfl dX8_passHour_12 ?_
  refine lv_iload_n hx hb dX8_passHour_15 rfl (lv_at hl 0 rfl) ?_
  refine va_aldq hx hb hK hP 1 0 rfl rfl (by unfold vp_in; decide) dX8_passHour_16 ?_
  rw [show fv (4 : Int32).toNatClampNeg = some (ad 6) from hfv 4 (by decide)]
  refine W.eq (g2 := F0 m 17 ls [.ref (ad 6)]) rfl ?_
  refine lv_aload_n hx hb dX8_passHour_17 rfl (lv_at hl 1 rfl) ?_
  refine va_get (D := (dC, dI)) (ci := 8) (v := .int hh) (C := RX8) (T := TX8) (N := 3) hx hb hts inw_X8_passHour_8 hown hK hP 0 rfl rfl 1 (by decide) (hts (.fieldLink RX8 31 "VatHouse$Works" "hours" "I") (by decide +kernel)) (fun _ h9 => h9) rfl dX8_passHour_18 ?_
  refine go_V (wr := [((ad 0), .inr (8, [.ref (ad 1), .int hh, .int 0])), ((ad 1), .inl ((ca 1), 6, .inr (.inr (.inr (.inr fv))))), ((ad 7), .inr (7, [.int (F 5 0), .int (F 5 1), .int (F 5 2), .int (F 5 3), .int (F 5 4), .int (F 5 5), .int (F 5 6), .int (F 5 7)])), ((ad 2), .inr (7, [.int (F 0 0), .int (F 0 1), .int fo2_2, .int mi2_3, .int st2_4, .int (F 0 5), .int (F 0 6), .int (F 0 7)])), ((ad 3), .inr (7, [.int (F 1 0), .int (F 1 1), .int fo2_7, .int mi2_8, .int st2_9, .int (F 1 5), .int (F 1 6), .int (F 1 7)])), ((ad 4), .inr (7, [.int (F 2 0), .int (F 2 1), .int fo2_12, .int mi2_13, .int st2_14, .int (F 2 5), .int (F 2 6), .int (F 2 7)])), ((ad 5), .inr (7, [.int (F 3 0), .int (F 3 1), .int fo2_17, .int mi2_18, .int st2_19, .int (F 3 5), .int (F 3 6), .int (F 3 7)]))]) ⟨hx, hb, hml, hown, hts⟩ (c_X7_liveThrough l dC dI sa hlt _ (ad 6) (F 4 0) (F 4 1) (F 4 2) (F 4 3) (F 4 4) (F 4 5) (F 4 6) (F 4 7) hh ) (cwV 1 hts gX8_passHour_X7_liveThrough rfl rfl rfl (by decide +kernel) ⟨Nat.le_of_ble_eq_true rfl, Nat.le_of_ble_eq_true rfl⟩) hP hD hK hS hA hev [2] [0, 1, 3, 4, 5, 6, 7] [] rfl rfl rfl rfl (by decide) rfl 2 7 rfl rfl rfl rfl hl.1 rfl (Nat.le_of_ble_eq_true rfl) dX8_passHour_21 ⟨Nat.le_of_ble_eq_true rfl, Nat.le_of_ble_eq_true rfl⟩ (fun r u H locs hw hP hD hK hS => ?_)
  obtain ⟨fo2_22, mi2_23, st2_24⟩ := u
  have hw : r = none ∧ (True) := hw
  obtain ⟨rfl, hw_25⟩ := hw
  have hP : va_P (dC, dI) vwCl [((ad 0), .inr (8, [.ref (ad 1), .int hh, .int 0])), ((ad 1), .inl ((ca 1), 6, .inr (.inr (.inr (.inr fv))))), ((ad 7), .inr (7, [.int (F 5 0), .int (F 5 1), .int (F 5 2), .int (F 5 3), .int (F 5 4), .int (F 5 5), .int (F 5 6), .int (F 5 7)])), ((ad 2), .inr (7, [.int (F 0 0), .int (F 0 1), .int fo2_2, .int mi2_3, .int st2_4, .int (F 0 5), .int (F 0 6), .int (F 0 7)])), ((ad 3), .inr (7, [.int (F 1 0), .int (F 1 1), .int fo2_7, .int mi2_8, .int st2_9, .int (F 1 5), .int (F 1 6), .int (F 1 7)])), ((ad 4), .inr (7, [.int (F 2 0), .int (F 2 1), .int fo2_12, .int mi2_13, .int st2_14, .int (F 2 5), .int (F 2 6), .int (F 2 7)])), ((ad 5), .inr (7, [.int (F 3 0), .int (F 3 1), .int fo2_17, .int mi2_18, .int st2_19, .int (F 3 5), .int (F 3 6), .int (F 3 7)])), ((ad 6), .inr (7, [.int (F 4 0), .int (F 4 1), .int fo2_22, .int mi2_23, .int st2_24, .int (F 4 5), .int (F 4 6), .int (F 4 7)]))] _ := hP
  have hD : va_D _ [((ad 0), .inr (8, [.ref (ad 1), .int hh, .int 0])), ((ad 1), .inl ((ca 1), 6, .inr (.inr (.inr (.inr fv))))), ((ad 7), .inr (7, [.int (F 5 0), .int (F 5 1), .int (F 5 2), .int (F 5 3), .int (F 5 4), .int (F 5 5), .int (F 5 6), .int (F 5 7)])), ((ad 2), .inr (7, [.int (F 0 0), .int (F 0 1), .int fo2_2, .int mi2_3, .int st2_4, .int (F 0 5), .int (F 0 6), .int (F 0 7)])), ((ad 3), .inr (7, [.int (F 1 0), .int (F 1 1), .int fo2_7, .int mi2_8, .int st2_9, .int (F 1 5), .int (F 1 6), .int (F 1 7)])), ((ad 4), .inr (7, [.int (F 2 0), .int (F 2 1), .int fo2_12, .int mi2_13, .int st2_14, .int (F 2 5), .int (F 2 6), .int (F 2 7)])), ((ad 5), .inr (7, [.int (F 3 0), .int (F 3 1), .int fo2_17, .int mi2_18, .int st2_19, .int (F 3 5), .int (F 3 6), .int (F 3 7)])), ((ad 6), .inr (7, [.int (F 4 0), .int (F 4 1), .int fo2_22, .int mi2_23, .int st2_24, .int (F 4 5), .int (F 4 6), .int (F 4 7)]))] := hD
  have hK : va_K (dC, dI) vwCl [((ca 1), .object "VatHouse$Vat")] s := hK
  refine W.eq (g2 := F0 m 24 ls []) rfl ?_
  refine lv_iinc (v := 5) (lv' := [(1, .int 5), (0, .ref (ad 0))]) hx hb dX8_passHour_24 hl (k := 0) rfl (by decide) (by decide) rfl (fun ls hl => ?_)
  refine lv_goto (tgt := 2) hx hb dX8_passHour_27 (by decide) ?_
  refine lv_iload_n hx hb dX8_passHour_2 rfl (lv_at hl 0 rfl) ?_
  refine lv_aload_n hx hb dX8_passHour_3 rfl (lv_at hl 1 rfl) ?_
  refine va_get (D := (dC, dI)) (ci := 8) (v := .ref (ad 1)) (C := RX8) (T := TX8) (N := 3) hx hb hts inw_X8_passHour_8 hown hK hP 0 rfl rfl 0 (by decide) (hts (.fieldLink RX8 11 "VatHouse$Works" "vats" "[LVatHouse$Vat;") (by decide +kernel)) (fun _ h9 => h9) rfl dX8_passHour_4 ?_
  refine va_alen hx hb hK hP 1 0 rfl rfl (v := 6) rfl dX8_passHour_7 ?_
  refine lv_icmp_ge (tgt := 30) hx hb dX8_passHour_8 (by decide) (fun c_26 => ?_) (fun c_26 => ?_)
  · exact absurd c_26 (by decide)
  refine lv_aload_n hx hb dX8_passHour_11 rfl (lv_at hl 1 rfl) ?_
  refine va_get (D := (dC, dI)) (ci := 8) (v := .ref (ad 1)) (C := RX8) (T := TX8) (N := 3) hx hb hts inw_X8_passHour_8 hown hK hP 0 rfl rfl 0 (by decide) (hts (.fieldLink RX8 11 "VatHouse$Works" "vats" "[LVatHouse$Vat;") (by decide +kernel)) (fun _ h9 => h9) rfl dX8_passHour_12 ?_
  refine lv_iload_n hx hb dX8_passHour_15 rfl (lv_at hl 0 rfl) ?_
  refine va_aldq hx hb hK hP 1 0 rfl rfl (by unfold vp_in; decide) dX8_passHour_16 ?_
  rw [show fv (5 : Int32).toNatClampNeg = some (ad 7) from hfv 5 (by decide)]
  refine W.eq (g2 := F0 m 17 ls [.ref (ad 7)]) rfl ?_
  refine lv_aload_n hx hb dX8_passHour_17 rfl (lv_at hl 1 rfl) ?_
  refine va_get (D := (dC, dI)) (ci := 8) (v := .int hh) (C := RX8) (T := TX8) (N := 3) hx hb hts inw_X8_passHour_8 hown hK hP 0 rfl rfl 1 (by decide) (hts (.fieldLink RX8 31 "VatHouse$Works" "hours" "I") (by decide +kernel)) (fun _ h9 => h9) rfl dX8_passHour_18 ?_
  refine go_V (wr := [((ad 0), .inr (8, [.ref (ad 1), .int hh, .int 0])), ((ad 1), .inl ((ca 1), 6, .inr (.inr (.inr (.inr fv))))), ((ad 2), .inr (7, [.int (F 0 0), .int (F 0 1), .int fo2_2, .int mi2_3, .int st2_4, .int (F 0 5), .int (F 0 6), .int (F 0 7)])), ((ad 3), .inr (7, [.int (F 1 0), .int (F 1 1), .int fo2_7, .int mi2_8, .int st2_9, .int (F 1 5), .int (F 1 6), .int (F 1 7)])), ((ad 4), .inr (7, [.int (F 2 0), .int (F 2 1), .int fo2_12, .int mi2_13, .int st2_14, .int (F 2 5), .int (F 2 6), .int (F 2 7)])), ((ad 5), .inr (7, [.int (F 3 0), .int (F 3 1), .int fo2_17, .int mi2_18, .int st2_19, .int (F 3 5), .int (F 3 6), .int (F 3 7)])), ((ad 6), .inr (7, [.int (F 4 0), .int (F 4 1), .int fo2_22, .int mi2_23, .int st2_24, .int (F 4 5), .int (F 4 6), .int (F 4 7)]))]) ⟨hx, hb, hml, hown, hts⟩ (c_X7_liveThrough l dC dI sa hlt _ (ad 7) (F 5 0) (F 5 1) (F 5 2) (F 5 3) (F 5 4) (F 5 5) (F 5 6) (F 5 7) hh ) (cwV 1 hts gX8_passHour_X7_liveThrough rfl rfl rfl (by decide +kernel) ⟨Nat.le_of_ble_eq_true rfl, Nat.le_of_ble_eq_true rfl⟩) hP hD hK hS hA hev [2] [0, 1, 3, 4, 5, 6, 7] [] rfl rfl rfl rfl (by decide) rfl 2 7 rfl rfl rfl rfl hl.1 rfl (Nat.le_of_ble_eq_true rfl) dX8_passHour_21 ⟨Nat.le_of_ble_eq_true rfl, Nat.le_of_ble_eq_true rfl⟩ (fun r u H locs hw hP hD hK hS => ?_)
  obtain ⟨fo2_27, mi2_28, st2_29⟩ := u
  have hw : r = none ∧ (True) := hw
  obtain ⟨rfl, hw_30⟩ := hw
  have hP : va_P (dC, dI) vwCl [((ad 0), .inr (8, [.ref (ad 1), .int hh, .int 0])), ((ad 1), .inl ((ca 1), 6, .inr (.inr (.inr (.inr fv))))), ((ad 2), .inr (7, [.int (F 0 0), .int (F 0 1), .int fo2_2, .int mi2_3, .int st2_4, .int (F 0 5), .int (F 0 6), .int (F 0 7)])), ((ad 3), .inr (7, [.int (F 1 0), .int (F 1 1), .int fo2_7, .int mi2_8, .int st2_9, .int (F 1 5), .int (F 1 6), .int (F 1 7)])), ((ad 4), .inr (7, [.int (F 2 0), .int (F 2 1), .int fo2_12, .int mi2_13, .int st2_14, .int (F 2 5), .int (F 2 6), .int (F 2 7)])), ((ad 5), .inr (7, [.int (F 3 0), .int (F 3 1), .int fo2_17, .int mi2_18, .int st2_19, .int (F 3 5), .int (F 3 6), .int (F 3 7)])), ((ad 6), .inr (7, [.int (F 4 0), .int (F 4 1), .int fo2_22, .int mi2_23, .int st2_24, .int (F 4 5), .int (F 4 6), .int (F 4 7)])), ((ad 7), .inr (7, [.int (F 5 0), .int (F 5 1), .int fo2_27, .int mi2_28, .int st2_29, .int (F 5 5), .int (F 5 6), .int (F 5 7)]))] _ := hP
  have hD : va_D _ [((ad 0), .inr (8, [.ref (ad 1), .int hh, .int 0])), ((ad 1), .inl ((ca 1), 6, .inr (.inr (.inr (.inr fv))))), ((ad 2), .inr (7, [.int (F 0 0), .int (F 0 1), .int fo2_2, .int mi2_3, .int st2_4, .int (F 0 5), .int (F 0 6), .int (F 0 7)])), ((ad 3), .inr (7, [.int (F 1 0), .int (F 1 1), .int fo2_7, .int mi2_8, .int st2_9, .int (F 1 5), .int (F 1 6), .int (F 1 7)])), ((ad 4), .inr (7, [.int (F 2 0), .int (F 2 1), .int fo2_12, .int mi2_13, .int st2_14, .int (F 2 5), .int (F 2 6), .int (F 2 7)])), ((ad 5), .inr (7, [.int (F 3 0), .int (F 3 1), .int fo2_17, .int mi2_18, .int st2_19, .int (F 3 5), .int (F 3 6), .int (F 3 7)])), ((ad 6), .inr (7, [.int (F 4 0), .int (F 4 1), .int fo2_22, .int mi2_23, .int st2_24, .int (F 4 5), .int (F 4 6), .int (F 4 7)])), ((ad 7), .inr (7, [.int (F 5 0), .int (F 5 1), .int fo2_27, .int mi2_28, .int st2_29, .int (F 5 5), .int (F 5 6), .int (F 5 7)]))] := hD
  have hK : va_K (dC, dI) vwCl [((ca 1), .object "VatHouse$Vat")] s := hK
  refine W.eq (g2 := F0 m 24 ls []) rfl ?_
  refine lv_iinc (v := 6) (lv' := [(1, .int 6), (0, .ref (ad 0))]) hx hb dX8_passHour_24 hl (k := 0) rfl (by decide) (by decide) rfl (fun ls hl => ?_)
  refine lv_goto (tgt := 2) hx hb dX8_passHour_27 (by decide) ?_
  refine lv_iload_n hx hb dX8_passHour_2 rfl (lv_at hl 0 rfl) ?_
  refine lv_aload_n hx hb dX8_passHour_3 rfl (lv_at hl 1 rfl) ?_
  refine va_get (D := (dC, dI)) (ci := 8) (v := .ref (ad 1)) (C := RX8) (T := TX8) (N := 3) hx hb hts inw_X8_passHour_8 hown hK hP 0 rfl rfl 0 (by decide) (hts (.fieldLink RX8 11 "VatHouse$Works" "vats" "[LVatHouse$Vat;") (by decide +kernel)) (fun _ h9 => h9) rfl dX8_passHour_4 ?_
  refine va_alen hx hb hK hP 1 0 rfl rfl (v := 6) rfl dX8_passHour_7 ?_
  refine lv_icmp_ge (tgt := 30) hx hb dX8_passHour_8 (by decide) (fun c_31 => ?_) (fun c_31 => ?_)
  rotate_left
  · exact absurd c_31 (by decide)
  refine lv_aload_n hx hb dX8_passHour_30 rfl (lv_at hl 1 rfl) ?_
  refine lv_dup hx hb dX8_passHour_31 rfl ?_
  refine va_get (D := (dC, dI)) (ci := 8) (v := .int hh) (C := RX8) (T := TX8) (N := 3) hx hb hts inw_X8_passHour_8 hown hK hP 0 rfl rfl 1 (by decide) (hts (.fieldLink RX8 31 "VatHouse$Works" "hours" "I") (by decide +kernel)) (fun _ h9 => h9) rfl dX8_passHour_32 ?_
  refine lv_iconst (v := 1) hx hb dX8_passHour_35 (by decide) ?_
  refine lv_iadd hx hb dX8_passHour_36 ?_
  refine lv_topi (fun z_32 ez_32 => ?_)
  refine va_put (D := (dC, dI)) (ci := 8) (v := .int z_32) (ty := .int) (C := RX8) (T := TX8) (N := 3) hx hb hts inw_X8_passHour_8 tyX8 tyX8_ok nmX8 hown hK hP hD hS 0 rfl rfl 1 (by decide) (hts (.fieldLink RX8 31 "VatHouse$Works" "hours" "I") (by decide +kernel)) (fun _ h9 => h9) rfl (by decide +kernel) rfl rfl (Nat.le_of_ble_eq_true rfl) dX8_passHour_37 (fun H locs hP hD hS => ?_)
  have hP : va_P (dC, dI) vwCl [((ad 0), .inr (8, [.ref (ad 1), .int z_32, .int 0])), ((ad 1), .inl ((ca 1), 6, .inr (.inr (.inr (.inr fv))))), ((ad 2), .inr (7, [.int (F 0 0), .int (F 0 1), .int fo2_2, .int mi2_3, .int st2_4, .int (F 0 5), .int (F 0 6), .int (F 0 7)])), ((ad 3), .inr (7, [.int (F 1 0), .int (F 1 1), .int fo2_7, .int mi2_8, .int st2_9, .int (F 1 5), .int (F 1 6), .int (F 1 7)])), ((ad 4), .inr (7, [.int (F 2 0), .int (F 2 1), .int fo2_12, .int mi2_13, .int st2_14, .int (F 2 5), .int (F 2 6), .int (F 2 7)])), ((ad 5), .inr (7, [.int (F 3 0), .int (F 3 1), .int fo2_17, .int mi2_18, .int st2_19, .int (F 3 5), .int (F 3 6), .int (F 3 7)])), ((ad 6), .inr (7, [.int (F 4 0), .int (F 4 1), .int fo2_22, .int mi2_23, .int st2_24, .int (F 4 5), .int (F 4 6), .int (F 4 7)])), ((ad 7), .inr (7, [.int (F 5 0), .int (F 5 1), .int fo2_27, .int mi2_28, .int st2_29, .int (F 5 5), .int (F 5 6), .int (F 5 7)]))] _ := hP
  have hD : va_D _ [((ad 0), .inr (8, [.ref (ad 1), .int z_32, .int 0])), ((ad 1), .inl ((ca 1), 6, .inr (.inr (.inr (.inr fv))))), ((ad 2), .inr (7, [.int (F 0 0), .int (F 0 1), .int fo2_2, .int mi2_3, .int st2_4, .int (F 0 5), .int (F 0 6), .int (F 0 7)])), ((ad 3), .inr (7, [.int (F 1 0), .int (F 1 1), .int fo2_7, .int mi2_8, .int st2_9, .int (F 1 5), .int (F 1 6), .int (F 1 7)])), ((ad 4), .inr (7, [.int (F 2 0), .int (F 2 1), .int fo2_12, .int mi2_13, .int st2_14, .int (F 2 5), .int (F 2 6), .int (F 2 7)])), ((ad 5), .inr (7, [.int (F 3 0), .int (F 3 1), .int fo2_17, .int mi2_18, .int st2_19, .int (F 3 5), .int (F 3 6), .int (F 3 7)])), ((ad 6), .inr (7, [.int (F 4 0), .int (F 4 1), .int fo2_22, .int mi2_23, .int st2_24, .int (F 4 5), .int (F 4 6), .int (F 4 7)])), ((ad 7), .inr (7, [.int (F 5 0), .int (F 5 1), .int fo2_27, .int mi2_28, .int st2_29, .int (F 5 5), .int (F 5 6), .int (F 5 7)]))] := hD
  exact en_v hx hb hr hlocks hP hD hK hS (z_32, (fun k j : Nat => match k, j with | 0, 0 => (F 0 0) | 0, 1 => (F 0 1) | 0, 2 => fo2_2 | 0, 3 => mi2_3 | 0, 4 => st2_4 | 0, 5 => (F 0 5) | 0, 6 => (F 0 6) | 0, 7 => (F 0 7) | 1, 0 => (F 1 0) | 1, 1 => (F 1 1) | 1, 2 => fo2_7 | 1, 3 => mi2_8 | 1, 4 => st2_9 | 1, 5 => (F 1 5) | 1, 6 => (F 1 6) | 1, 7 => (F 1 7) | 2, 0 => (F 2 0) | 2, 1 => (F 2 1) | 2, 2 => fo2_12 | 2, 3 => mi2_13 | 2, 4 => st2_14 | 2, 5 => (F 2 5) | 2, 6 => (F 2 6) | 2, 7 => (F 2 7) | 3, 0 => (F 3 0) | 3, 1 => (F 3 1) | 3, 2 => fo2_17 | 3, 3 => mi2_18 | 3, 4 => st2_19 | 3, 5 => (F 3 5) | 3, 6 => (F 3 6) | 3, 7 => (F 3 7) | 4, 0 => (F 4 0) | 4, 1 => (F 4 1) | 4, 2 => fo2_22 | 4, 3 => mi2_23 | 4, 4 => st2_24 | 4, 5 => (F 4 5) | 4, 6 => (F 4 6) | 4, 7 => (F 4 7) | 5, 0 => (F 5 0) | 5, 1 => (F 5 1) | 5, 2 => fo2_27 | 5, 3 => mi2_28 | 5, 4 => st2_29 | 5, 5 => (F 5 5) | 5, 6 => (F 5 6) | 5, 7 => (F 5 7) | _, _ => 0)) ⟨rfl, ez_32⟩ [0, 1, 2, 3, 4, 5, 6, 7] [] rfl rfl rfl (Nat.le_of_ble_eq_true rfl) (Nat.le_of_ble_eq_true rfl) dX8_passHour_40
