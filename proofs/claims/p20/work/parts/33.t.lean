theorem up_ge {ii : Int32} {a k : Nat} (hii : ii = nI a) (ha : a ≤ k) (hk : k < 2 ^ 31) (h : nI k ≤ ii) : a = k := by
  subst hii
  rcases Nat.lt_or_ge a k with h1 | h1
  · exact absurd (nI_lt h1 (by omega)) (fun g => by rw [Int32.lt_iff_toInt_lt] at g; rw [Int32.le_iff_toInt_le] at h; omega)
  · omega
theorem nI_cl {x : Int32} (h : 0 ≤ x.toInt) : x = nI x.toNatClampNeg := by
  have := clamp_i h
  refine Int32.toInt_inj.mp ?_
  rw [nI_toInt (by have := Int32.toInt_lt x; omega)]
  omega
theorem ge_eq {a b : Int32} (h : a.toInt ≤ b.toInt) (ck : ¬ a < b) : a = b := by
  rw [Int32.lt_iff_toInt_lt] at ck
  exact Int32.toInt_inj.mp (by omega)
theorem lt_nee {a b : Int32} (ck : a < b) : ¬ a = b := fun e => by
  rw [Int32.lt_iff_toInt_lt, e] at ck
  omega
theorem lt1_0 {a : Int32} (h : 0 ≤ a.toInt) (ck : ¬ 1 ≤ a) : a = 0 := by
  rw [Int32.le_iff_toInt_le] at ck
  have c1 : (1 : Int32).toInt = 1 := by decide
  exact Int32.toInt_inj.mp (by show a.toInt = 0; omega)
theorem ge1_n {a : Int32} (ck : 1 ≤ a) : ¬ a = 0 := fun e => by
  subst e
  exact absurd ck (by decide)

noncomputable abbrev rm_X8_vatAtE : Room := { frames := 0, cells := 0, slots := 0, locals := 0 }
set_option maxHeartbeats 800000 in
set_option maxRecDepth 100000 in
theorem t_X8_vatAtE (l : Launch) (dC : Nat → ClassId) (dI : Nat → Nat → Nat) (sa : Nat → Nat) (hlt : l.stackTraces = false) (g : Nat → Nat) (L : List Nat) (f : Nat → va_E) (k : Nat) (b : Nat) (h0 : Nat) (num : Int32) (vs : Nat) (sz : Nat) (hT : TP g L f [(h0, (0, 8, 0)), (vs, (2, g 2, 6))]) (h_vs : rd f h0 0 = .ref vs) (hnum : num = nI k) (hk : k < 6) (hra0 : ra f vs k = some b) : KC l dC dI sa g yX8_vatAt wsX8_vatAt rm_X8_vatAtE [.ref h0, .int num] L f sz (fun r L' f' => (∃ v : Value, r = some v ∧ okv L' f' (1, 0, 7, 0) v) ∧ Fr [] L f f' ∧ (r = some (.ref b))) 0 0 := by
  refine CT.start (cc := cX8_vatAt) (maxL := 2) (ret := (some (.object "VatHouse$Vat"))) (by decide) rfl (Nat.le_of_ble_eq_true rfl) ?_
  intro p e s m below meth c ls hst hP hK hD hev hS hl
  obtain ⟨hx, hb, hr, hml, hts, hown, hlocks, hin⟩ := hst
  have hown : s.vm.findClass RX8 = some m.cls := hown
  have hin : meth.name = yX8_vatAt.name := hin
  have hA : ∀ q : Nat, s.heap.size ≤ q → va_A (va_pl L f) s.heap.size q := fun _ h => Or.inr h
  have hE : Ext L f L f := Ext.rf
  have hF : Fr [] L f f := Fr.rf
  have hl : lv_has ls 2 [(0, .ref h0), (1, .int num)] := hl
  have hT0 := hT
  refine lv_iload_n hx hb dX8_vatAt_0 rfl (lv_at hl 1 rfl) ?_
  refine lv_if_lt (tgt := 13) hx hb dX8_vatAt_1 (by decide) (fun c_1 => ?_) (fun c_1 => ?_)
  · exact absurd c_1 (by rw [hnum]; exact nI_pos (by omega))
  refine lv_iload_n hx hb dX8_vatAt_4 rfl (lv_at hl 1 rfl) ?_
  refine lv_aload_n hx hb dX8_vatAt_5 rfl (lv_at hl 0 rfl) ?_
  refine T_get (ci := 8) (C := RX8) (T := TX8) (N := 3) (t := (1, 2, g 2, 6)) hx hb hts inw_X8_vatAt_8 hown hK hP hT 0 rfl rfl 0 (by decide) (hts (.fieldLink RX8 11 "VatHouse$Works" "vats" "[LVatHouse$Vat;") (List.mem_of_getElem? (i := 3) (by exact rfl))) (fun _ h9 => h9) rfl dX8_vatAt_6 (fun v_4 hv_2 hr_3 => ?_)
  obtain rfl : v_4 = .ref vs := hr_3.symm.trans ((hF.1 h0 (hT0.at 0 rfl).1 8 (hT0.at 0 rfl).2 0 (by decide)).trans h_vs)
  refine T_alen hx hb hK hP hT 1 2 rfl rfl (v := 6) rfl dX8_vatAt_9 ?_
  refine lv_icmp_lt (tgt := 23) hx hb dX8_vatAt_10 (by decide) (fun c_5 => ?_) (fun c_5 => ?_)
  rotate_left
  · exact absurd c_5 (fun h9 => h9 (by rw [hnum]; exact nI_lt hk (by decide)))
  refine lv_aload_n hx hb dX8_vatAt_23 rfl (lv_at hl 0 rfl) ?_
  refine T_get (ci := 8) (C := RX8) (T := TX8) (N := 3) (t := (1, 2, g 2, 6)) hx hb hts inw_X8_vatAt_8 hown hK hP hT 0 rfl rfl 0 (by decide) (hts (.fieldLink RX8 11 "VatHouse$Works" "vats" "[LVatHouse$Vat;") (List.mem_of_getElem? (i := 3) (by exact rfl))) (fun _ h9 => h9) rfl dX8_vatAt_24 (fun v_8 hv_6 hr_7 => ?_)
  obtain rfl : v_8 = .ref vs := hr_7.symm.trans ((hF.1 h0 (hT0.at 0 rfl).1 8 (hT0.at 0 rfl).2 0 (by decide)).trans h_vs)
  refine lv_iload_n hx hb dX8_vatAt_27 rfl (lv_at hl 1 rfl) ?_
  refine T_vald hx hb hK hP hT 1 2 (Or.inl rfl) rfl rfl (by rw [hnum]; exact vp_in_nI hk (by decide)) dX8_vatAt_28 (fun b_9 hb9 hra => ?_)
  have hT := hT.add hb9
  exact K_a hx hb hr (Or.inl ⟨_, rfl⟩) (Or.inr ⟨_, rfl⟩) hlocks hP hD hK hS hT hE ⟨⟨_, rfl, _, rfl, hT.at 0 rfl⟩, hF, (by rw [hnum, nI_clamp (by omega)] at hra; rw [Option.some.inj (hra.symm.trans hra0)])⟩ (Nat.le_of_ble_eq_true rfl) (Nat.le_of_ble_eq_true rfl) dX8_vatAt_29

noncomputable abbrev rm_X8_passHourS : Room := { frames := 2, cells := 0, slots := 0, locals := 35 }
set_option maxHeartbeats 800000 in
set_option maxRecDepth 100000 in
theorem t_X8_passHourS (l : Launch) (dC : Nat → ClassId) (dI : Nat → Nat → Nat) (sa : Nat → Nat) (hlt : l.stackTraces = false) (g : Nat → Nat) (L : List Nat) (f : Nat → va_E) (x0 : Nat) (cl : Nat) (ru : Nat) (va : Nat → Nat) (sA : AS) (h0 : Nat) (vs : Nat) (sz : Nat) (hT : TP g L f [(h0, (0, 8, 0)), (vs, (2, g 2, 6))]) (h_vs : rd f h0 0 = .ref vs) (hSR : SR g L f (x0, h0, vs, cl, ru, va) sA) (hRV : RV sA) (hh : 0 ≤ (sA.1 1).toInt ∧ (sA.1 1).toInt ≤ 2000000000) : KC l dC dI sa g yX8_passHour wsX8_passHour rm_X8_passHourS [.ref h0] L f sz (fun r L' f' => (r = none) ∧ Fr [(7, 2), (7, 3), (7, 4), (8, 1)] L f f' ∧ (SR g L' f' (x0, h0, vs, cl, ru, va) (hoA sA))) 0 0 := by
  refine CT.start (cc := cX8_passHour) (maxL := 2) (ret := none) (by decide) rfl (Nat.le_of_ble_eq_true rfl) ?_
  intro p e s m below meth c ls hst hP hK hD hev hS hl
  obtain ⟨hx, hb, hr, hml, hts, hown, hlocks, hin⟩ := hst
  have hown : s.vm.findClass RX8 = some m.cls := hown
  have hin : meth.name = yX8_passHour.name := hin
  have hA : ∀ q : Nat, s.heap.size ≤ q → va_A (va_pl L f) s.heap.size q := fun _ h => Or.inr h
  have hE : Ext L f L f := Ext.rf
  have hF : Fr [(7, 2), (7, 3), (7, 4), (8, 1)] L f f := Fr.rf
  have hl : lv_has ls 2 [(0, .ref h0)] := hl
  have hT0 := hT
  have hho : rd f h0 1 = .int (sA.1 1) := hSR.2.2.2.1.1
  refine lv_iconst (v := 0) hx hb dX8_passHour_0 (by decide) ?_
  refine lv_istore_n (lv' := [(1, .int 0), (0, .ref h0)]) hx hb dX8_passHour_1 rfl hl (by decide) rfl (fun ls hl => ?_)
  have lp : ∀ (n : Nat) (ii : Int32) (L1 : List Nat) (f1 : Nat → va_E) (H : Heap) (locs : List Loc) (ls : Array Slot), (∃ a : Nat, ii = nI a ∧ a ≤ 6 ∧ 6 < a + n) → rd f1 h0 1 = .int (sA.1 1) → (∃ a : Nat, ii = nI a ∧ a ≤ 6 ∧ LV va sA (laF f va) f1 a) → va_P (dC, dI) vwCl (va_pl L1 f1) H → va_D (va_A (va_pl L f) s.heap.size) (va_pl L1 f1) → va_S (va_A (va_pl L f) s.heap.size) s.heap H locs → TP g L1 f1 [(h0, (0, 8, 0)), (vs, (2, g 2, 6))] → Ext L f L1 f1 → Fr [(7, 2), (7, 3), (7, 4), (8, 1)] L f f1 → lv_has ls 2 [(1, .int ii), (0, .ref h0)] → W p l e rm_X8_passHourS s m [.ref h0].toArray below meth c H locs 0 0 (MQ below (Qg (kpost g L f (fun r L' f' => (r = none) ∧ Fr [(7, 2), (7, 3), (7, 4), (8, 1)] L f f' ∧ (SR g L' f' (x0, h0, vs, cl, ru, va) (hoA sA)))) (fun (u : PL) t => QW dC dI (va_A (va_pl L f) s.heap.size) (va_pl u.1 u.2) [] t) (va_A (va_pl L f) s.heap.size)) [.ref h0].toArray s (0) (0) (va_A (va_pl L f) s.heap.size)) (F0 m 2 ls []) := by
    intro n
    induction n with
    | zero => intro ii L1 f1 H locs ls hm hk_h0_1 hLV hP hD hS hT hE hF hl; exact absurd hm (by rintro ⟨a, -, h1, h2⟩; omega)
    | succ n ih =>
      intro ii L1 f1 H locs ls hm hk_h0_1 hLV hP hD hS hT hE hF hl
      refine lv_iload_n hx hb dX8_passHour_2 rfl (lv_at hl 0 rfl) ?_
      refine lv_aload_n hx hb dX8_passHour_3 rfl (lv_at hl 1 rfl) ?_
      refine T_get (ci := 8) (C := RX8) (T := TX8) (N := 3) (t := (1, 2, g 2, 6)) hx hb hts inw_X8_passHour_8 hown hK hP hT 0 rfl rfl 0 (by decide) (hts (.fieldLink RX8 11 "VatHouse$Works" "vats" "[LVatHouse$Vat;") (List.mem_of_getElem? (i := 1) (by exact rfl))) (fun _ h9 => h9) rfl dX8_passHour_4 (fun v_3 hv_1 hr_2 => ?_)
      obtain rfl : v_3 = .ref vs := hr_2.symm.trans ((hF.1 h0 (hT0.at 0 rfl).1 8 (hT0.at 0 rfl).2 0 (by decide)).trans h_vs)
      refine T_alen hx hb hK hP hT 1 2 rfl rfl (v := 6) rfl dX8_passHour_7 ?_
      refine lv_icmp_ge (tgt := 30) hx hb dX8_passHour_8 (by decide) (fun c_4 => ?_) (fun c_4 => ?_)
      · obtain ⟨a, ha, ha6, hLa⟩ := hLV
        obtain rfl : a = 6 := up_ge ha ha6 (by decide) c_4
        have hEb := hE
        refine lv_aload_n hx hb dX8_passHour_30 rfl (lv_at hl 1 rfl) ?_
        refine lv_dup hx hb dX8_passHour_31 rfl ?_
        refine T_get (ci := 8) (C := RX8) (T := TX8) (N := 3) (t := tI) hx hb hts inw_X8_passHour_8 hown hK hP hT 0 rfl rfl 1 (by decide) (hts (.fieldLink RX8 31 "VatHouse$Works" "hours" "I") (List.mem_of_getElem? (i := 2) (by exact rfl))) (fun _ h9 => h9) rfl dX8_passHour_32 (fun v_7 hv_5 hr_6 => ?_)
        obtain rfl : v_7 = .int (sA.1 1) := hr_6.symm.trans hk_h0_1
        refine lv_iconst (v := 1) hx hb dX8_passHour_35 (by decide) ?_
        refine lv_iadd hx hb dX8_passHour_36 ?_
        refine lv_topi (fun z_8 ez_8 => ?_)
        have hTo := hT
        refine T_put (ci := 8) (v := .int z_8) (ty := .int) (t := tI) (C := RX8) (T := TX8) (N := 3) hx hb hts inw_X8_passHour_8 tyX8 tyX8_ok nmX8 hown hK hP hD hS hT 0 rfl rfl 1 (by decide) (hts (.fieldLink RX8 31 "VatHouse$Works" "hours" "I") (List.mem_of_getElem? (i := 2) (by exact rfl))) (fun _ h9 => h9) rfl (tyX8_ok 1 (by decide)) rfl rfl rfl ⟨_, rfl⟩ dX8_passHour_37 (fun f_9 H locs hP hD hS hT hE1 hrd_10 hup_11 => ?_)
        have hF := Fr.put (a := h0) (ci := 8) hF hE ((hE1 h0 (hT.at 0 rfl).1).2.symm.trans (hT.at 0 rfl).2) (by decide) hrd_10 hup_11
        have hE := hE.tr hE1
        have hk_12 : rd f_9 h0 1 = .int z_8 := (hrd_10 h0 1).trans (if_pos ⟨rfl, rfl⟩)
        exact K_v hx hb hr hlocks hP hD hK hS hT hE ⟨rfl, hF, hSR.ho hE hF hLa hEb hup_11 hk_12 ez_8 hRV hh⟩ (Nat.le_of_ble_eq_true rfl) (Nat.le_of_ble_eq_true rfl) dX8_passHour_40
      · refine lv_aload_n hx hb dX8_passHour_11 rfl (lv_at hl 1 rfl) ?_
        refine T_get (ci := 8) (C := RX8) (T := TX8) (N := 3) (t := (1, 2, g 2, 6)) hx hb hts inw_X8_passHour_8 hown hK hP hT 0 rfl rfl 0 (by decide) (hts (.fieldLink RX8 11 "VatHouse$Works" "vats" "[LVatHouse$Vat;") (List.mem_of_getElem? (i := 1) (by exact rfl))) (fun _ h9 => h9) rfl dX8_passHour_12 (fun v_15 hv_13 hr_14 => ?_)
        obtain rfl : v_15 = .ref vs := hr_14.symm.trans ((hF.1 h0 (hT0.at 0 rfl).1 8 (hT0.at 0 rfl).2 0 (by decide)).trans h_vs)
        refine lv_iload_n hx hb dX8_passHour_15 rfl (lv_at hl 0 rfl) ?_
        refine T_vald hx hb hK hP hT 1 2 (Or.inl rfl) rfl rfl (up_in (by decide) hm (by decide) c_4 (by decide) (by decide)) dX8_passHour_16 (fun b_16 hb9 hra => ?_)
        have hT := hT.add hb9
        refine lv_aload_n hx hb dX8_passHour_17 rfl (lv_at hl 1 rfl) ?_
        refine T_get (ci := 8) (C := RX8) (T := TX8) (N := 3) (t := tI) hx hb hts inw_X8_passHour_8 hown hK hP hT 1 rfl rfl 1 (by decide) (hts (.fieldLink RX8 31 "VatHouse$Works" "hours" "I") (List.mem_of_getElem? (i := 2) (by exact rfl))) (fun _ h9 => h9) rfl dX8_passHour_18 (fun v_19 hv_17 hr_18 => ?_)
        obtain rfl : v_19 = .int (sA.1 1) := hr_18.symm.trans hk_h0_1
        obtain ⟨a, ha, ha6, hLa⟩ := hLV
        have ha5 : a < 6 := up_lt (by decide) ha ha6 (by decide) c_4
        have hEb := hE
        have hb8 : b_16 = va a := by rw [ha, nI_clamp (by omega), ra_eq (hF.2 vs (hT0.at 1 rfl).1 1 _ _ (hT0.at 1 rfl).2 (by decide)), (hSR.2.1 a ha5).1] at hra; exact (Option.some.inj hra).symm
        have hq2 : rd f1 b_16 2 = .int (sA.2 5 a) := by rw [hb8, (hLa a ha5).1, if_neg (Nat.lt_irrefl a)]
        have hq3 : rd f1 b_16 3 = .int (sA.2 6 a) := by rw [hb8, (hLa a ha5).2.1, if_neg (Nat.lt_irrefl a)]
        have hq4 : rd f1 b_16 4 = .int (sA.2 7 a) := by rw [hb8, (hLa a ha5).2.2, if_neg (Nat.lt_irrefl a)]
        have hq7 : rd f1 b_16 7 = .int (laF f va a) := by rw [hb8, hF.1 _ (hSR.2.1 a ha5).2.1.1 7 (hSR.2.1 a ha5).2.1.2 7 (by decide)]; exact (hSR.lad a ha5).1
        have hTo := hT
        refine K_V ⟨hx, hb, hml, hown, hts⟩ (t_X7_liveThroughE l dC dI sa hlt g _ _ b_16 (sA.1 1) (sA.2 5 a) (sA.2 6 a) (sA.2 7 a) (laF f va a) _ (hT.sub [0] rfl)  hq2 hq3 hq4 hq7 ) (cwV 1 hts gX8_passHour_X7_liveThrough rfl rfl rfl (by decide +kernel) ⟨Nat.le_of_ble_eq_true rfl, Nat.le_of_ble_eq_true rfl⟩) hP hD hK hS hA hev hT 0 7 rfl rfl rfl rfl hl.1 rfl (Nat.le_of_ble_eq_true rfl) dX8_passHour_21 ⟨Nat.le_of_ble_eq_true rfl, Nat.le_of_ble_eq_true rfl⟩ (fun r L_20 f_21 H locs hw_22 hP hD hS hT hE1 => ?_)
        have hF := Fr.call hF hE hw_22.2.1 (by decide)
        have hE := hE.tr hE1
        obtain ⟨rfl, hw_22⟩ := hw_22
        obtain ⟨hfr_23, fo_24, mi_25, sta_26, hk_27, hk_28, hk_29, hrel_30, hrel_31, hrel_32, hex_33⟩ := hw_22
        have hk_36 : rd f_21 h0 1 = .int (sA.1 1) := (hfr_23.1 h0 (hTo.at 1 rfl).1 8 (hTo.at 1 rfl).2 1 (by decide)).trans hk_h0_1
        have hk_37 : rd f_21 b_16 7 = .int (laF f va a) := (hfr_23.1 b_16 (hTo.at 0 rfl).1 7 (hTo.at 0 rfl).2 7 (by decide)).trans hq7
        refine W.eq (g2 := F0 m 24 ls []) rfl ?_
        refine lv_iinc (v := (ii + 1)) (lv' := [(1, .int (ii + 1)), (0, .ref h0)]) hx hb dX8_passHour_24 hl (k := 0) rfl rfl (by decide) rfl (fun ls hl => ?_)
        refine lv_goto (tgt := 2) hx hb dX8_passHour_27 (by decide) ?_
        exact ih (ii + 1) _ _ _ _ _ (up_nx (by decide) hm (by decide) c_4) hk_36 (⟨a + 1, by rw [ha]; exact nI_1 a, by omega, hLa.nx hSR hEb ha5 hb8 hex_33 hk_27 hk_28 hk_29 hrel_30 hrel_31 hrel_32⟩) hP hD hS (hT.sub [1, 2] rfl) hE hF (lv_sub hl [0, 1] rfl)
  exact lp 7 0 _ _ _ _ _ (⟨0, nI_0.symm, by omega, by omega⟩) hho (⟨0, nI_0.symm, by omega, LV.st hSR⟩) hP hD hS (hT.sub [0, 1] rfl) hE hF (lv_sub hl [0, 1] rfl)

section CFS
variable {g : Nat → Nat} {L : List Nat} {f : Nat → va_E} {x0 wk vs cl ru b ck : Nat} {va : Nat → Nat} {sA : AS}
theorem SR.cf0 (h : SR g L f (x0, wk, vs, cl, ru, va) sA) (hc : (ck : Int) < (sA.1 12).toInt) (hb : ra f cl ck = some b) : rd f b 0 = .int (nI ck) := by
  obtain ⟨b2, e2, h2⟩ := h.2.2.1 ck hc
  cases e2.symm.trans hb
  exact h2.2.1
theorem SR.cf1 (h : SR g L f (x0, wk, vs, cl, ru, va) sA) (hc : (ck : Int) < (sA.1 12).toInt) (hb : ra f cl ck = some b) : rd f b 1 = .int (sA.2 13 ck) := by
  obtain ⟨b2, e2, h2⟩ := h.2.2.1 ck hc
  cases e2.symm.trans hb
  exact h2.2.2.1
theorem SR.cf2 (h : SR g L f (x0, wk, vs, cl, ru, va) sA) (hc : (ck : Int) < (sA.1 12).toInt) (hb : ra f cl ck = some b) : rd f b 2 = .int (sA.2 14 ck) := by
  obtain ⟨b2, e2, h2⟩ := h.2.2.1 ck hc
  cases e2.symm.trans hb
  exact h2.2.2.2.1
theorem SR.cf3 (h : SR g L f (x0, wk, vs, cl, ru, va) sA) (hc : (ck : Int) < (sA.1 12).toInt) (hb : ra f cl ck = some b) : rd f b 3 = .int (sA.2 15 ck) := by
  obtain ⟨b2, e2, h2⟩ := h.2.2.1 ck hc
  cases e2.symm.trans hb
  exact h2.2.2.2.2.1
theorem SR.cf4 (h : SR g L f (x0, wk, vs, cl, ru, va) sA) (hc : (ck : Int) < (sA.1 12).toInt) (hb : ra f cl ck = some b) : rd f b 4 = .int (dyA (sA.2 16 ck)) := by
  obtain ⟨b2, e2, h2⟩ := h.2.2.1 ck hc
  cases e2.symm.trans hb
  exact h2.2.2.2.2.2.1
theorem SR.cf5 (h : SR g L f (x0, wk, vs, cl, ru, va) sA) (hc : (ck : Int) < (sA.1 12).toInt) (hb : ra f cl ck = some b) : rd f b 5 = .int (sA.2 16 ck) := by
  obtain ⟨b2, e2, h2⟩ := h.2.2.1 ck hc
  cases e2.symm.trans hb
  exact h2.2.2.2.2.2.2.1
theorem SR.cf6 (h : SR g L f (x0, wk, vs, cl, ru, va) sA) (hc : (ck : Int) < (sA.1 12).toInt) (hb : ra f cl ck = some b) : rd f b 6 = .int (sA.2 17 ck) := by
  obtain ⟨b2, e2, h2⟩ := h.2.2.1 ck hc
  cases e2.symm.trans hb
  exact h2.2.2.2.2.2.2.2.1
theorem SR.cf7 (h : SR g L f (x0, wk, vs, cl, ru, va) sA) (hc : (ck : Int) < (sA.1 12).toInt) (hb : ra f cl ck = some b) : rd f b 7 = .int (sA.2 18 ck) := by
  obtain ⟨b2, e2, h2⟩ := h.2.2.1 ck hc
  cases e2.symm.trans hb
  exact h2.2.2.2.2.2.2.2.2
end CFS

noncomputable abbrev rm_X7_takeFoodS : Room := rm_X7_takeFoodE
theorem t_X7_takeFoodS (l : Launch) (dC : Nat → ClassId) (dI : Nat → Nat → Nat) (sa : Nat → Nat) (hlt : l.stackTraces = false) (g : Nat → Nat) (L : List Nat) (f : Nat → va_E) (x0 : Nat) (wk : Nat) (vs : Nat) (cl : Nat) (ru : Nat) (va : Nat → Nat) (sA : AS) (k : Nat) (h0 : Nat) (n : Int32) (sz : Nat) (hT : TP g L f [(h0, (0, 7, 0))]) (hSR : SR g L f (x0, wk, vs, cl, ru, va) sA) (hk : k < 6) (hb : h0 = va k) : KC l dC dI sa g yX7_takeFood wsX7_takeFood rm_X7_takeFoodS [.ref h0, .int n] L f sz (fun r L' f' => ((r = some (.int 0) ∧ (1000 < sA.2 5 k + n)) ∨ (r = some (.int 1) ∧ (¬ 1000 < sA.2 5 k + n))) ∧ Fr [(7, 2), (7, 4)] L f f' ∧ (SR g L' f' (x0, wk, vs, cl, ru, va) (feA sA k n))) 0 0 := by
  refine (t_X7_takeFoodE l dC dI sa hlt g L f h0 n (sA.2 5 k) (sA.2 7 k) sz hT (by rw [hb]; exact (hSR.2.1 k hk).2.2.2.2.1) (by rw [hb]; exact (hSR.2.1 k hk).2.2.2.2.2.2.1)).mono (fun r L' f' hE h => ?_)
  obtain ⟨hr, hF, fo2, st2, k1, k2, rfl, rfl, hO⟩ := h
  exact ⟨hr, hF, hSR.fe hk hb hE hF k1 k2 hO⟩

noncomputable abbrev rm_X7_takeLimeS : Room := rm_X7_takeLimeE
theorem t_X7_takeLimeS (l : Launch) (dC : Nat → ClassId) (dI : Nat → Nat → Nat) (sa : Nat → Nat) (hlt : l.stackTraces = false) (g : Nat → Nat) (L : List Nat) (f : Nat → va_E) (x0 : Nat) (wk : Nat) (vs : Nat) (cl : Nat) (ru : Nat) (va : Nat → Nat) (sA : AS) (k : Nat) (h0 : Nat) (sz : Nat) (hT : TP g L f [(h0, (0, 7, 0))]) (hSR : SR g L f (x0, wk, vs, cl, ru, va) sA) (hk : k < 6) (hb : h0 = va k) : KC l dC dI sa g yX7_takeLime wsX7_takeLime rm_X7_takeLimeS [.ref h0] L f sz (fun r L' f' => (r = none) ∧ Fr [(7, 2), (7, 3), (7, 4)] L f f' ∧ (SR g L' f' (x0, wk, vs, cl, ru, va) (lmA sA k))) 0 0 := by
  refine (t_X7_takeLimeE l dC dI sa hlt g L f h0 (sA.2 5 k) (sA.2 6 k) (sA.2 7 k) sz hT (by rw [hb]; exact (hSR.2.1 k hk).2.2.2.2.1) (by rw [hb]; exact (hSR.2.1 k hk).2.2.2.2.2.1) (by rw [hb]; exact (hSR.2.1 k hk).2.2.2.2.2.2.1)).mono (fun r L' f' hE h => ?_)
  obtain ⟨hr, hF, fo2, mi2, st2, k1, k2, k3, rfl, rfl, rfl, hO⟩ := h
  exact ⟨hr, hF, hSR.lm hk hb hE hF k1 k2 k3 hO⟩

noncomputable abbrev rm_X8_airOutS : Room := rm_X8_airOutE
theorem t_X8_airOutS (l : Launch) (dC : Nat → ClassId) (dI : Nat → Nat → Nat) (sa : Nat → Nat) (hlt : l.stackTraces = false) (g : Nat → Nat) (L : List Nat) (f : Nat → va_E) (x0 : Nat) (vs : Nat) (cl : Nat) (ru : Nat) (va : Nat → Nat) (sA : AS) (ck : Nat) (h0 : Nat) (o : Nat) (sz : Nat) (hT : TP g L f [(h0, (0, 8, 0)), (o, (0, 0, 0))]) (hSR : SR g L f (x0, h0, vs, cl, ru, va) sA) (hn : (sA.1 12).toInt ≤ 30) (hc : (ck : Int) < (sA.1 12).toInt) (hcl : ra f cl ck = some o) : KC l dC dI sa g yX8_airOut wsX8_airOut rm_X8_airOutS [.ref h0, .ref o] L f sz (fun r L' f' => (∃ z : Int32, r = some (.int z)) ∧ Fr [(0, 2), (0, 3), (8, 2)] L f f' ∧ (r = some (.int (sA.2 14 ck / 8)) ∧ SR g L' f' (x0, h0, vs, cl, ru, va) (aiA sA ck))) 0 0 := by
  refine (t_X8_airOutE l dC dI sa hlt g L f h0 o (sA.2 14 ck) (sA.2 15 ck) (sA.1 2) sz hT (SR.cf2 hSR hc hcl) (SR.cf3 hSR hc hcl) hSR.2.2.2.1.2).mono (fun r L' f' hE h => ?_)
  obtain ⟨hr, hF, lo2, fa2, dr2, k1, k2, k3, rfl, rfl, rfl, hO, -, hx⟩ := h
  exact ⟨hr, hF, hx, hSR.ai hn hc hcl hE hF k1 k2 k3 hO⟩

noncomputable abbrev rm_X8_washOutS : Room := rm_X8_washOutE
theorem t_X8_washOutS (l : Launch) (dC : Nat → ClassId) (dI : Nat → Nat → Nat) (sa : Nat → Nat) (hlt : l.stackTraces = false) (g : Nat → Nat) (L : List Nat) (f : Nat → va_E) (x0 : Nat) (vs : Nat) (cl : Nat) (ru : Nat) (va : Nat → Nat) (sA : AS) (ck : Nat) (h0 : Nat) (o : Nat) (sz : Nat) (hT : TP g L f [(h0, (0, 8, 0)), (o, (0, 0, 0))]) (hSR : SR g L f (x0, h0, vs, cl, ru, va) sA) (hn : (sA.1 12).toInt ≤ 30) (hc : (ck : Int) < (sA.1 12).toInt) (hcl : ra f cl ck = some o) : KC l dC dI sa g yX8_washOut wsX8_washOut rm_X8_washOutS [.ref h0, .ref o] L f sz (fun r L' f' => (∃ z : Int32, r = some (.int z)) ∧ Fr [(0, 2), (0, 3), (8, 2)] L f f' ∧ (r = some (.int (sA.2 14 ck + sA.2 15 ck / 20)) ∧ SR g L' f' (x0, h0, vs, cl, ru, va) (waA sA ck))) 0 0 := by
  refine (t_X8_washOutE l dC dI sa hlt g L f h0 o (sA.2 14 ck) (sA.2 15 ck) (sA.1 2) sz hT (SR.cf2 hSR hc hcl) (SR.cf3 hSR hc hcl) hSR.2.2.2.1.2).mono (fun r L' f' hE h => ?_)
  obtain ⟨hr, hF, lo2, fa2, dr2, k1, k2, k3, rfl, rfl, rfl, hO, -, hx⟩ := h
  exact ⟨hr, hF, hx, hSR.wa hn hc hcl hE hF k1 k2 k3 hO⟩

noncomputable abbrev rm_X8_dryOutS : Room := rm_X8_dryOutE
theorem t_X8_dryOutS (l : Launch) (dC : Nat → ClassId) (dI : Nat → Nat → Nat) (sa : Nat → Nat) (hlt : l.stackTraces = false) (g : Nat → Nat) (L : List Nat) (f : Nat → va_E) (x0 : Nat) (vs : Nat) (cl : Nat) (ru : Nat) (va : Nat → Nat) (sA : AS) (ck : Nat) (h0 : Nat) (o : Nat) (sz : Nat) (hT : TP g L f [(h0, (0, 8, 0)), (o, (0, 0, 0))]) (hSR : SR g L f (x0, h0, vs, cl, ru, va) sA) (hn : (sA.1 12).toInt ≤ 30) (hc : (ck : Int) < (sA.1 12).toInt) (hcl : ra f cl ck = some o) (h24 : ¬ sA.1 1 / 24 = -1) : KC l dC dI sa g yX8_dryOut wsX8_dryOut rm_X8_dryOutS [.ref h0, .ref o] L f sz (fun r L' f' => (∃ z : Int32, r = some (.int z)) ∧ Fr [(0, 2), (0, 3), (0, 4), (0, 5), (8, 2)] L f f' ∧ (r = some (.int (sA.2 14 ck / 8)) ∧ SR g L' f' (x0, h0, vs, cl, ru, va) (dyS sA ck))) 0 0 := by
  refine (t_X8_dryOutE l dC dI sa hlt g L f h0 o (sA.2 14 ck) (sA.2 15 ck) (sA.1 2) (dyA (sA.2 16 ck)) (sA.2 16 ck) (sA.1 1) sz hT (SR.cf2 hSR hc hcl) (SR.cf3 hSR hc hcl) hSR.2.2.2.1.2 (SR.cf4 hSR hc hcl) (SR.cf5 hSR hc hcl) hSR.2.2.2.1.1).mono (fun r L' f' hE h => ?_)
  obtain ⟨hr, hF, lo2, fa2, dr2, dy2, da2, k1, k2, k3, k4, k5, rfl, rfl, rfl, rfl, rfl, hO, -, hx⟩ := h
  exact ⟨hr, hF, hx, hSR.dy hn hc hcl hE hF k1 k2 k4 k5 h24 k3 hO⟩

noncomputable abbrev rm_X8_dipIntoS : Room := rm_X8_dipIntoE
theorem t_X8_dipIntoS (l : Launch) (dC : Nat → ClassId) (dI : Nat → Nat → Nat) (sa : Nat → Nat) (hlt : l.stackTraces = false) (g : Nat → Nat) (L : List Nat) (f : Nat → va_E) (x0 : Nat) (vs : Nat) (cl : Nat) (ru : Nat) (va : Nat → Nat) (sA : AS) (k : Nat) (ck : Nat) (h0 : Nat) (va9 : Nat) (o : Nat) (mm : Int32) (mv : Int32) (sz : Nat) (hT : TP g L f [(h0, (0, 8, 0)), (va9, (0, 7, 0)), (o, (0, 0, 0))]) (hSR : SR g L f (x0, h0, vs, cl, ru, va) sA) (hn : (sA.1 12).toInt ≤ 30) (hk : k < 6) (hc : (ck : Int) < (sA.1 12).toInt) (hcl : ra f cl ck = some o) (hb : va9 = va k) : KC l dC dI sa g yX8_dipInto wsX8_dipInto rm_X8_dipIntoS [.ref h0, .ref va9, .ref o, .int mm, .int mv] L f sz (fun r L' f' => (r = none) ∧ Fr [(7, 1), (7, 2), (7, 3), (7, 4), (7, 5), (7, 6), (7, 7), (0, 2), (0, 6), (0, 7)] L f f' ∧ (SR g L' f' (x0, h0, vs, cl, ru, va) (diA sA ck k mm mv))) 0 0 := by
  refine (t_X8_dipIntoE l dC dI sa hlt g L f h0 va9 o mm mv (sA.2 4 k) (sA.2 5 k) (sA.2 6 k) (sA.2 7 k) (sA.2 14 ck) (laF f va k) (sA.2 8 k) (sA.2 9 k) (sA.2 18 ck) (sA.2 17 ck) (sA.1 1) (nI ck) (nI k) sz hT (by rw [hb]; exact (hSR.2.1 k hk).2.2.2.1) (by rw [hb]; exact (hSR.2.1 k hk).2.2.2.2.1) (by rw [hb]; exact (hSR.2.1 k hk).2.2.2.2.2.1) (by rw [hb]; exact (hSR.2.1 k hk).2.2.2.2.2.2.1) (SR.cf2 hSR hc hcl) (by rw [hb]; exact (hSR.lad k hk).1) (by rw [hb]; exact (hSR.2.1 k hk).2.2.2.2.2.2.2.1) (by rw [hb]; exact (hSR.2.1 k hk).2.2.2.2.2.2.2.2.1) (SR.cf7 hSR hc hcl) (SR.cf6 hSR hc hcl) hSR.2.2.2.1.1 (SR.cf0 hSR hc hcl) (by rw [hb]; exact (hSR.2.1 k hk).2.2.1)).mono (fun r L' f' hE h => ?_)
  obtain ⟨hr, hF, gr2, fo2, mi2, st2, lo2, la2, dp2, cb2, dq2, vb2, k1, k2, k3, k4, k5, k6, k7, k8, k9, k10, rfl, rfl, rfl, rfl, rfl, rfl, rfl, rfl, rfl, rfl, hO, hO7⟩ := h
  exact ⟨hr, hF, hSR.di hn hk hc hcl hb hE hF k1 k2 k3 k4 k7 k8 k6 k5 k10 k9 hO hO7⟩

noncomputable abbrev rm_X0_shadeS : Room := rm_X0_shadeE
theorem t_X0_shadeS (l : Launch) (dC : Nat → ClassId) (dI : Nat → Nat → Nat) (sa : Nat → Nat) (hlt : l.stackTraces = false) (g : Nat → Nat) (L : List Nat) (f : Nat → va_E) (x0 : Nat) (wk : Nat) (vs : Nat) (cl : Nat) (ru : Nat) (va : Nat → Nat) (sA : AS) (ck : Nat) (h0 : Nat) (sz : Nat) (hT : TP g L f [(h0, (0, 0, 0))]) (hSR : SR g L f (x0, wk, vs, cl, ru, va) sA) (hc : (ck : Int) < (sA.1 12).toInt) (hcl : ra f cl ck = some h0) (hw1 : 1 ≤ sA.2 13 ck) : KC l dC dI sa g yX0_shade wsX0_shade rm_X0_shadeS [.ref h0] L f sz (fun r L' f' => (∃ z : Int32, r = some (.int z)) ∧ Fr [] L f f' ∧ (r = some (.int (shA sA ck)) ∧ SR g L' f' (x0, wk, vs, cl, ru, va) sA)) 0 0 := by
  refine (t_X0_shadeE l dC dI sa hlt g L f h0 (sA.2 13 ck) (sA.2 15 ck) sz hT (SR.cf1 hSR hc hcl) (SR.cf3 hSR hc hcl)).mono (fun r L' f' hE h => ?_)
  obtain ⟨hr, hF, hx⟩ := h
  exact ⟨hr, hF, by rw [hx]; unfold shC shA; rw [if_pos hw1], hSR.still hE hF (by decide)⟩

noncomputable abbrev rm_X7_givesToS : Room := rm_X7_givesToE
theorem t_X7_givesToS (l : Launch) (dC : Nat → ClassId) (dI : Nat → Nat → Nat) (sa : Nat → Nat) (hlt : l.stackTraces = false) (g : Nat → Nat) (L : List Nat) (f : Nat → va_E) (x0 : Nat) (wk : Nat) (vs : Nat) (cl : Nat) (ru : Nat) (va : Nat → Nat) (sA : AS) (k : Nat) (ck : Nat) (h0 : Nat) (o : Nat) (mm : Int32) (sz : Nat) (hT : TP g L f [(h0, (0, 7, 0)), (o, (0, 0, 0))]) (hSR : SR g L f (x0, wk, vs, cl, ru, va) sA) (hk : k < 6) (hc : (ck : Int) < (sA.1 12).toInt) (hcl : ra f cl ck = some o) (hb : h0 = va k) (hwe : 1 ≤ 100 + sA.2 13 ck) (hns : ¬ sA.2 7 k = 2) : KC l dC dI sa g yX7_givesTo wsX7_givesTo rm_X7_givesToS [.ref h0, .ref o, .int mm] L f sz (fun r L' f' => (∃ z : Int32, r = some (.int z)) ∧ Fr [] L f f' ∧ (r = some (.int (mvA sA ck k mm)) ∧ SR g L' f' (x0, wk, vs, cl, ru, va) sA)) 0 0 := by
  refine (t_X7_givesToE l dC dI sa hlt g L f h0 o mm (sA.2 4 k) (sA.2 7 k) (sA.2 13 ck) (sA.2 14 ck) (sA.2 15 ck) sz hT (by rw [hb]; exact (hSR.2.1 k hk).2.2.2.1) (by rw [hb]; exact (hSR.2.1 k hk).2.2.2.2.2.2.1) (SR.cf1 hSR hc hcl) (SR.cf2 hSR hc hcl) (SR.cf3 hSR hc hcl) hwe).mono (fun r L' f' hE h => ?_)
  obtain ⟨hr, hF, hx⟩ := h
  exact ⟨hr, hF, by rw [hx, if_neg hns]; rfl, hSR.still hE hF (by decide)⟩
