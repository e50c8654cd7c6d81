theorem X4_doStepsS_all (l : Launch) (dC : Nat → ClassId) (dI : Nat → Nat → Nat) (sa : Nat → Nat) (hlt : l.stackTraces = false) (g : Nat → Nat) : ∀ (j d : Nat), d + j = 9 → ∀ (L : List Nat) (f : Nat → va_E) (x0 : Nat) (cl : Nat) (va : Nat → Nat) (B : Int) (ck : Nat) (V : Nat → Prop) (ad : Nat → Nat) (dp : Nat → Nat) (sA : AS) (x : Int32) (h0 : Nat) (fs : Value) (w : Nat) (dep : Int32) (wk : Nat) (vs : Nat) (sz : Nat) (hT : TP g L f [(h0, (0, 4, 0)), (w, (0, 0, 0)), (wk, (0, 8, 0)), (vs, (2, g 2, 6))]) (hn_fs : okv L f (2, 0, 5, 0) fs) (h_wk : rd f h0 0 = .ref wk) (h_vs : rd f wk 0 = .ref vs) (hd : dep = nI d) (hSR : SR g L f (x0, wk, vs, cl, h0, va) sA) (hIV : IV B sA) (hB : B ≤ 10000000) (hc : (ck : Int) < (sA.1 12).toInt) (hcl : ra f cl ck = some w) (hTR : TRS V ad L f sA) (hLV : LVS V dp sA) (hNVs : NV V sA) (hfs : fs = lkr ad x) (hlk : lk V dp d x) (hd8 : d ≤ 8), KC l dC dI sa g yX4_doSteps wsX4_doSteps (rm_X4_doStepsS j d x0 cl va B ck V ad dp sA x) [.ref h0, fs, .ref w, .int dep] L f sz (fun r L' f' => (∃ z : Int32, r = some (.int z)) ∧ Fr [(0, 2), (0, 3), (0, 6), (0, 7), (7, 1), (7, 2), (7, 3), (7, 4), (7, 5), (7, 6), (7, 7), (8, 1), (8, 2), (4, 4), (4, 5), (4, 6), (4, 7)] L f f' ∧ (∃ u : Int32 × AS, EvR 0 x 0 ck sA u ∧ r = some (.int (cO u.1)) ∧ SR g L' f' (x0, wk, vs, cl, h0, va) u.2)) 0 0 := by
  intro j
  induction j with
  | zero => exact fun d hdj L f x0 cl va B ck V ad dp sA x h0 fs w dep wk vs sz hT hn h1 h2 hd hSR hIV hB hc hcl hTR hLV hNVs hfs hlk hd8 => t_X4_doStepsS l dC dI sa hlt g L f 0 d x0 cl va B ck V ad dp sA x h0 fs w dep wk vs sz hT hn h1 h2 hd hdj hSR hIV hB hc hcl hTR hLV hNVs hfs hlk hd8 (fun j' d' _ h => absurd h (by omega))
  | succ j ih =>
    exact fun d hdj L f x0 cl va B ck V ad dp sA x h0 fs w dep wk vs sz hT hn h1 h2 hd hSR hIV hB hc hcl hTR hLV hNVs hfs hlk hd8 => t_X4_doStepsS l dC dI sa hlt g L f (j + 1) d x0 cl va B ck V ad dp sA x h0 fs w dep wk vs sz hT hn h1 h2 hd hdj hSR hIV hB hc hcl hTR hLV hNVs hfs hlk hd8 (fun j' d' hdj' hj => by
      obtain rfl : j = j' := by omega
      exact fun L f x0 cl va B ck V ad dp sA k h0 o w dep wk vs sz hT h1 h2 hd hSR hIV hB hc hcl hTR hLV hNVs hk ho hkl h7 => t_X4_doBuiltS l dC dI sa hlt g L f j d' x0 cl va B ck V ad dp sA k h0 o w dep wk vs sz hT h1 h2 hd hdj' hSR hIV hB hc hcl hTR hLV hNVs hk ho hkl h7 (ih d' hdj'))

theorem IV.rs {B : Int} {s : AS} {l : Int32} (h : RV s ∧ RC s ∧ 0 ≤ (s.1 1).toInt ∧ (s.1 1).toInt ≤ B) (hl : 1 ≤ l.toInt ∧ l.toInt ≤ 5000) : IV B (rs0 l s) := by
  have c0 : (0 : Int32).toInt = 0 := by decide
  refine ⟨h.1, h.2.1, h.2.2.1, ?_, ?_, ?_, hl.2⟩
  · show (s.1 1).toInt ≤ B + (0 : Int32).toInt
    omega
  · show 0 ≤ (0 : Int32).toInt
    decide
  · show (0 : Int32).toInt ≤ l.toInt
    omega
theorem rs_nt {s : AS} {l : Int32} : ∀ j : Nat, 19 ≤ j → (rs0 l s).2 j = s.2 j := fun _ _ => rfl
theorem cO_mx {e z z2 : Int32} (h : 0 ≤ e.toInt ∧ e.toInt ≤ 1000) (hz : z = cO e) (h2 : z2 = if 0 < z then z else 0) : z2 = rfl_ e := by
  rw [h2, hz]
  unfold cO rfl_
  by_cases g : e = 1000
  · rw [if_pos g, if_pos g]; decide
  · rw [if_neg g, if_neg g]
    by_cases g2 : 0 < e
    · rw [if_pos g2]
    · rw [if_neg g2]
      rw [Int32.lt_iff_toInt_lt] at g2
      have c0 : (0 : Int32).toInt = 0 := by decide
      exact Int32.toInt_inj.mp (by omega)
theorem lim_i {l : Int32} (h1 : ¬ l < 1) (h2 : l ≤ 5000) : 1 ≤ l.toInt ∧ l.toInt ≤ 5000 := by
  rw [Int32.lt_iff_toInt_lt] at h1
  rw [Int32.le_iff_toInt_le] at h2
  have c1 : (1 : Int32).toInt = 1 := by decide
  have c5 : (5000 : Int32).toInt = 5000 := by decide
  omega

noncomputable abbrev rm_X4_followS : Room := { frames := 58, cells := 0, slots := 0, locals := 1425 }
set_option maxHeartbeats 800000 in
set_option maxRecDepth 100000 in
theorem t_X4_followS (l : Launch) (dC : Nat → ClassId) (dI : Nat → Nat → Nat) (sa : Nat → Nat) (hlt : l.stackTraces = false) (g : Nat → Nat) (L : List Nat) (f : Nat → va_E) (x0 : Nat) (cl : Nat) (va : Nat → Nat) (B : Int) (ck : Nat) (V : Nat → Prop) (ad : Nat → Nat) (dp : Nat → Nat) (sA : AS) (x : Int32) (h0 : Nat) (fs : Value) (w : Nat) (lim : Int32) (wk : Nat) (vs : Nat) (sz : Nat) (hT : TP g L f [(h0, (0, 4, 0)), (w, (0, 0, 0)), (wk, (0, 8, 0)), (vs, (2, g 2, 6))]) (hn_fs : okv L f (2, 0, 5, 0) fs) (h_wk : rd f h0 0 = .ref wk) (h_vs : rd f wk 0 = .ref vs) (hSR : SR g L f (x0, wk, vs, cl, h0, va) sA) (hRG : RV sA ∧ RC sA ∧ 0 ≤ (sA.1 1).toInt ∧ (sA.1 1).toInt ≤ B) (hB : B ≤ 10000000) (hc : (ck : Int) < (sA.1 12).toInt) (hcl : ra f cl ck = some w) (hlim : 1 ≤ lim.toInt ∧ lim.toInt ≤ 5000) (hTR : TRS V ad L f sA) (hLV : LVS V dp sA) (hNVs : NV V sA) (hfs : fs = lkr ad x) (hlk : lk V dp 0 x) : KC l dC dI sa g yX4_follow wsX4_follow rm_X4_followS [.ref h0, fs, .ref w, .int lim] L f sz (fun r L' f' => (∃ z : Int32, r = some (.int z)) ∧ Fr [(0, 2), (0, 3), (0, 6), (0, 7), (7, 1), (7, 2), (7, 3), (7, 4), (7, 5), (7, 6), (7, 7), (8, 1), (8, 2), (4, 4), (4, 5), (4, 6), (4, 7), (4, 1), (4, 2), (4, 3)] L f f' ∧ (∃ u : Int32 × AS, EvR 0 x 0 ck (rs0 lim sA) u ∧ r = some (.int (rsl u.1)) ∧ SR g L' f' (x0, wk, vs, cl, h0, va) (rfi u))) 0 0 := by
  have hT0 := hT
  rcases hn_fs with rfl | ⟨b_1, rfl, hb9⟩
  · refine CT.start (cc := cX4_follow) (maxL := 5) (ret := (some .int)) (by decide) rfl (Nat.le_of_ble_eq_true rfl) ?_
    intro p e s m below meth c ls hst hP hK hD hev hS hl
    obtain ⟨hx, hb, hr, hml, hts, hown, hlocks, hin⟩ := hst
    have hown : s.vm.findClass RX4 = some m.cls := hown
    have hin : meth.name = yX4_follow.name := hin
    have hA : ∀ q : Nat, s.heap.size ≤ q → va_A (va_pl L f) s.heap.size q := fun _ h => Or.inr h
    have hE : Ext L f L f := Ext.rf
    have hF : Fr [(0, 2), (0, 3), (0, 6), (0, 7), (7, 1), (7, 2), (7, 3), (7, 4), (7, 5), (7, 6), (7, 7), (8, 1), (8, 2), (4, 4), (4, 5), (4, 6), (4, 7), (4, 1), (4, 2), (4, 3)] L f f := Fr.rf
    have hl : lv_has ls 5 [(0, .ref h0), (1, .null), (2, .ref w), (3, .int lim)] := hl
    refine lv_aload_n hx hb dX4_follow_0 rfl (lv_at hl 0 rfl) ?_
    refine lv_iload_n hx hb dX4_follow_1 rfl (lv_at hl 3 rfl) ?_
    refine T_put (ci := 4) (v := .int lim) (ty := .int) (t := tI) (C := RX4) (T := TX4) (N := 8) hx hb hts inw_X4_follow_4 tyX4 tyX4_ok nmX4 hown hK hP hD hS hT 0 rfl rfl 1 (by decide) (hts (.fieldLink RX4 19 "VatHouse$Runner" "limit" "I") (List.mem_of_getElem? (i := 1) (by exact rfl))) (fun _ h9 => h9) rfl (tyX4_ok 1 (by decide)) rfl rfl rfl ⟨_, rfl⟩ dX4_follow_2 (fun f_2 H locs hP hD hS hT hE1 hrd_3 hup_4 => ?_)
    have hF := Fr.put (a := h0) (ci := 4) hF hE ((hE1 h0 (hT.at 0 rfl).1).2.symm.trans (hT.at 0 rfl).2) (by decide) hrd_3 hup_4
    have hE := hE.tr hE1
    have hs_5 := SR.pr (k := 1) (i := 39) hSR (by decide) hE1 hrd_3 hup_4
    refine lv_aload_n hx hb dX4_follow_5 rfl (lv_at hl 0 rfl) ?_
    refine lv_iconst (v := 0) hx hb dX4_follow_6 (by decide) ?_
    refine T_put (ci := 4) (v := .int 0) (ty := .int) (t := tI) (C := RX4) (T := TX4) (N := 8) hx hb hts inw_X4_follow_4 tyX4 tyX4_ok nmX4 hown hK hP hD hS hT 0 rfl rfl 4 (by decide) (hts (.fieldLink RX4 22 "VatHouse$Runner" "counted" "I") (List.mem_of_getElem? (i := 2) (by exact rfl))) (fun _ h9 => h9) rfl (tyX4_ok 4 (by decide)) rfl rfl rfl ⟨_, rfl⟩ dX4_follow_7 (fun f_6 H locs hP hD hS hT hE1 hrd_7 hup_8 => ?_)
    have hF := Fr.put (a := h0) (ci := 4) hF hE ((hE1 h0 (hT.at 0 rfl).1).2.symm.trans (hT.at 0 rfl).2) (by decide) hrd_7 hup_8
    have hE := hE.tr hE1
    have hs_9 := SR.pr (k := 4) (i := 40) hs_5 (by decide) hE1 hrd_7 hup_8
    refine lv_aload_n hx hb dX4_follow_10 rfl (lv_at hl 0 rfl) ?_
    refine lv_iconst (v := 0) hx hb dX4_follow_11 (by decide) ?_
    refine T_put (ci := 4) (v := .int 0) (ty := .int) (t := tI) (C := RX4) (T := TX4) (N := 8) hx hb hts inw_X4_follow_4 tyX4 tyX4_ok nmX4 hown hK hP hD hS hT 0 rfl rfl 5 (by decide) (hts (.fieldLink RX4 25 "VatHouse$Runner" "dipsDone" "I") (List.mem_of_getElem? (i := 3) (by exact rfl))) (fun _ h9 => h9) rfl (tyX4_ok 5 (by decide)) rfl rfl rfl ⟨_, rfl⟩ dX4_follow_12 (fun f_10 H locs hP hD hS hT hE1 hrd_11 hup_12 => ?_)
    have hF := Fr.put (a := h0) (ci := 4) hF hE ((hE1 h0 (hT.at 0 rfl).1).2.symm.trans (hT.at 0 rfl).2) (by decide) hrd_11 hup_12
    have hE := hE.tr hE1
    have hs_13 := SR.pr (k := 5) (i := 41) hs_9 (by decide) hE1 hrd_11 hup_12
    refine lv_aload_n hx hb dX4_follow_15 rfl (lv_at hl 0 rfl) ?_
    refine lv_iconst (v := 0) hx hb dX4_follow_16 (by decide) ?_
    refine T_put (ci := 4) (v := .int 0) (ty := .int) (t := tI) (C := RX4) (T := TX4) (N := 8) hx hb hts inw_X4_follow_4 tyX4 tyX4_ok nmX4 hown hK hP hD hS hT 0 rfl rfl 6 (by decide) (hts (.fieldLink RX4 28 "VatHouse$Runner" "grainsMoved" "I") (List.mem_of_getElem? (i := 4) (by exact rfl))) (fun _ h9 => h9) rfl (tyX4_ok 6 (by decide)) rfl rfl rfl ⟨_, rfl⟩ dX4_follow_17 (fun f_14 H locs hP hD hS hT hE1 hrd_15 hup_16 => ?_)
    have hF := Fr.put (a := h0) (ci := 4) hF hE ((hE1 h0 (hT.at 0 rfl).1).2.symm.trans (hT.at 0 rfl).2) (by decide) hrd_15 hup_16
    have hE := hE.tr hE1
    have hs_17 := SR.pr (k := 6) (i := 42) hs_13 (by decide) hE1 hrd_15 hup_16
    refine lv_aload_n hx hb dX4_follow_20 rfl (lv_at hl 0 rfl) ?_
    refine lv_iconst (v := 0) hx hb dX4_follow_21 (by decide) ?_
    refine T_put (ci := 4) (v := .int 0) (ty := .int) (t := tI) (C := RX4) (T := TX4) (N := 8) hx hb hts inw_X4_follow_4 tyX4 tyX4_ok nmX4 hown hK hP hD hS hT 0 rfl rfl 7 (by decide) (hts (.fieldLink RX4 31 "VatHouse$Runner" "hoursRested" "I") (List.mem_of_getElem? (i := 5) (by exact rfl))) (fun _ h9 => h9) rfl (tyX4_ok 7 (by decide)) rfl rfl rfl ⟨_, rfl⟩ dX4_follow_22 (fun f_18 H locs hP hD hS hT hE1 hrd_19 hup_20 => ?_)
    have hF := Fr.put (a := h0) (ci := 4) hF hE ((hE1 h0 (hT.at 0 rfl).1).2.symm.trans (hT.at 0 rfl).2) (by decide) hrd_19 hup_20
    have hE := hE.tr hE1
    have hs_21 := SR.pr (k := 7) (i := 43) hs_17 (by decide) hE1 hrd_19 hup_20
    refine lv_aload_n hx hb dX4_follow_25 rfl (lv_at hl 0 rfl) ?_
    refine lv_aload_nN hx hb dX4_follow_26 rfl (lv_at hl 1 rfl) ?_
    refine lv_aload_n hx hb dX4_follow_27 rfl (lv_at hl 2 rfl) ?_
    refine lv_iconst (v := 0) hx hb dX4_follow_28 (by decide) ?_
    have hI0 := IV.rs hRG hlim
    have hs0 : SR g L f_18 (x0, wk, vs, cl, h0, va) (rs0 lim sA) := hs_21
    refine K_V ⟨hx, hb, hml, hown, hts⟩ (X4_doStepsS_all l dC dI sa hlt g 9 0 rfl _ _ x0 cl va B ck V ad dp (rs0 lim sA) x h0 .null w 0 wk vs _ (hT.sub [0, 1, 2, 3] rfl) (Or.inl rfl) ((hF.1 h0 (hT0.at 0 rfl).1 4 (hT0.at 0 rfl).2 0 (by decide)).trans h_wk) ((hF.1 wk (hT0.at 2 rfl).1 8 (hT0.at 2 rfl).2 0 (by decide)).trans h_vs) nI_0.symm hs0 hI0 hB hc (by rw [ra_eq (hF.2 cl hSR.1.1.2.2.2.1.1 1 _ _ hSR.1.1.2.2.2.1.2 (by decide))]; exact hcl) (hTR.go hE hF (by decide) rs_nt) (hLV.go rs_nt) (hNVs.go rs_nt) hfs hlk (Nat.zero_le _)) (cwV 3 hts gX4_follow_X4_doSteps rfl rfl rfl (by decide +kernel) ⟨Nat.le_of_ble_eq_true rfl, Nat.le_of_ble_eq_true rfl⟩) hP hD hK hS hA hev hT 0 4 rfl rfl rfl rfl hl.1 rfl (Nat.le_of_ble_eq_true rfl) dX4_follow_29 ⟨Nat.le_of_ble_eq_true rfl, Nat.le_of_ble_eq_true rfl⟩ (fun r L_22 f_23 H locs hw_24 hP hD hS hT hE1 => ?_)
    have hF := Fr.call hF hE hw_24.2.1 (by decide)
    have hE := hE.tr hE1
    obtain ⟨⟨z_25, rfl⟩, hw_24⟩ := hw_24
    obtain ⟨hfr_26, hex_27⟩ := hw_24
    obtain ⟨u_28, hev_29, hrr_30, hs_31⟩ := hex_27
    have hok_32 := EvR.inv (B := B) (V := V) hev_29 hB hI0 (hNVs.go rs_nt) hc (fun _ => lk.V hLV hlk) (fun e9 => absurd rfl e9)
    have hz_25 : z_25 = cO u_28.1 := sv hrr_30
    refine W.eq (g2 := F0 m 32 ls [.int z_25]) rfl ?_
    refine lv_istore (lv' := [(4, .int z_25), (0, .ref h0), (1, .null), (2, .ref w), (3, .int lim)]) hx hb dX4_follow_32 hl (by decide) rfl (fun ls hl => ?_)
    refine lv_aload_n hx hb dX4_follow_34 rfl (lv_at hl 1 rfl) ?_
    refine lv_iconst (v := 0) hx hb dX4_follow_35 (by decide) ?_
    refine lv_iload hx hb dX4_follow_36 (lv_at hl 0 rfl) ?_
    refine va_mmax hx hb (hml.trans hl.1.symm) hown (hts (.methodLink RX4 38 Lib.Math.max.name) (List.mem_of_getElem? (i := 6) (by exact rfl))) (hts (.static Lib.Math.max.name) (List.mem_of_getElem? (i := 7) (by exact rfl))) (hts (.initialized "java/lang/Math") (List.mem_of_getElem? (i := 8) (by exact rfl))) (hts (.code Lib.Math.max.name Lib.Math.max.code 2 (some .int)) (List.mem_of_getElem? (i := 9) (by exact rfl))) (Nat.le_of_ble_eq_true rfl) (Nat.le_of_ble_eq_true rfl) (Nat.le_of_ble_eq_true rfl) (Nat.le_of_ble_eq_true rfl) dX4_follow_38 ?_
    refine lv_topi (fun z_33 ez_33 => ?_)
    refine T_put (ci := 4) (v := .int z_33) (ty := .int) (t := tI) (C := RX4) (T := TX4) (N := 8) hx hb hts inw_X4_follow_4 tyX4 tyX4_ok nmX4 hown hK hP hD hS hT 0 rfl rfl 3 (by decide) (hts (.fieldLink RX4 44 "VatHouse$Runner" "failure" "I") (List.mem_of_getElem? (i := 10) (by exact rfl))) (fun _ h9 => h9) rfl (tyX4_ok 3 (by decide)) rfl rfl rfl ⟨_, rfl⟩ dX4_follow_41 (fun f_34 H locs hP hD hS hT hE1 hrd_35 hup_36 => ?_)
    have hF := Fr.put (a := h0) (ci := 4) hF hE ((hE1 h0 (hT.at 0 rfl).1).2.symm.trans (hT.at 0 rfl).2) (by decide) hrd_35 hup_36
    have hE := hE.tr hE1
    have hs_37 := SR.pr (k := 3) (i := 45) hs_31 (by decide) hE1 hrd_35 hup_36
    refine lv_iload hx hb dX4_follow_44 (lv_at hl 0 rfl) ?_
    refine lv_iconst (v := (-1)) hx hb dX4_follow_46 (by decide) ?_
    refine lv_icmp_ne (tgt := 58) hx hb dX4_follow_47 (by decide) (fun c_38 => ?_) (fun c_38 => ?_)
    · refine lv_aload_n hx hb dX4_follow_58 rfl (lv_at hl 1 rfl) ?_
      refine lv_iload hx hb dX4_follow_59 (lv_at hl 0 rfl) ?_
      refine lv_if_ne (tgt := 68) hx hb dX4_follow_61 (by decide) (fun c_39 => ?_) (fun c_39 => ?_)
      · refine lv_iconst (v := 1) hx hb dX4_follow_68 (by decide) ?_
        refine T_put (ci := 4) (v := .int 1) (ty := .int) (t := tI) (C := RX4) (T := TX4) (N := 8) hx hb hts inw_X4_follow_4 tyX4 tyX4_ok nmX4 hown hK hP hD hS hT 0 rfl rfl 2 (by decide) (hts (.fieldLink RX4 9 "VatHouse$Runner" "result" "I") (List.mem_of_getElem? (i := 11) (by exact rfl))) (fun _ h9 => h9) rfl (tyX4_ok 2 (by decide)) rfl rfl rfl ⟨_, rfl⟩ dX4_follow_69 (fun f_40 H locs hP hD hS hT hE1 hrd_41 hup_42 => ?_)
        have hF := Fr.put (a := h0) (ci := 4) hF hE ((hE1 h0 (hT.at 0 rfl).1).2.symm.trans (hT.at 0 rfl).2) (by decide) hrd_41 hup_42
        have hE := hE.tr hE1
        have hs_43 := SR.pr (k := 2) (i := 44) hs_37 (by decide) hE1 hrd_41 hup_42
        refine lv_aload_n hx hb dX4_follow_72 rfl (lv_at hl 1 rfl) ?_
        refine T_get (ci := 4) (C := RX4) (T := TX4) (N := 8) (t := tI) hx hb hts inw_X4_follow_4 hown hK hP hT 0 rfl rfl 2 (by decide) (hts (.fieldLink RX4 9 "VatHouse$Runner" "result" "I") (List.mem_of_getElem? (i := 11) (by exact rfl))) (fun _ h9 => h9) rfl dX4_follow_73 (fun v_46 hv_44 hr_45 => ?_)
        obtain rfl : v_46 = .int ((va_up (va_up u_28.2.1 45 z_33, u_28.2.2).1 44 (1 : Int32), (va_up u_28.2.1 45 z_33, u_28.2.2).2).1 44) := hr_45.symm.trans hs_43.2.2.2.2.2.2.1
        exact K_i hx hb hr hlocks hP hD hK hS hT hE ⟨⟨_, rfl⟩, hF, ⟨u_28, hev_29, by rw [show rsl u_28.1 = 1 from (if_neg (fun e9 => c_39 (by rw [hz_25]; exact (cO_z hok_32.2.2.1).1.mpr e9))).trans (if_neg (fun e9 => c_38 (by rw [hz_25]; exact (cO_z hok_32.2.2.1).2.mpr e9)))]; rfl, by have h9 := hs_43; rw [cO_mx hok_32.2.2.1 hz_25 ez_33, ← show rsl u_28.1 = 1 from (if_neg (fun e9 => c_39 (by rw [hz_25]; exact (cO_z hok_32.2.2.1).1.mpr e9))).trans (if_neg (fun e9 => c_38 (by rw [hz_25]; exact (cO_z hok_32.2.2.1).2.mpr e9))), va_sw (by decide)] at h9; exact h9⟩⟩ (Nat.le_of_ble_eq_true rfl) (Nat.le_of_ble_eq_true rfl) dX4_follow_76
      · refine lv_iconst (v := 0) hx hb dX4_follow_64 (by decide) ?_
        refine lv_goto (tgt := 69) hx hb dX4_follow_65 (by decide) ?_
        refine T_put (ci := 4) (v := .int 0) (ty := .int) (t := tI) (C := RX4) (T := TX4) (N := 8) hx hb hts inw_X4_follow_4 tyX4 tyX4_ok nmX4 hown hK hP hD hS hT 0 rfl rfl 2 (by decide) (hts (.fieldLink RX4 9 "VatHouse$Runner" "result" "I") (List.mem_of_getElem? (i := 11) (by exact rfl))) (fun _ h9 => h9) rfl (tyX4_ok 2 (by decide)) rfl rfl rfl ⟨_, rfl⟩ dX4_follow_69 (fun f_47 H locs hP hD hS hT hE1 hrd_48 hup_49 => ?_)
        have hF := Fr.put (a := h0) (ci := 4) hF hE ((hE1 h0 (hT.at 0 rfl).1).2.symm.trans (hT.at 0 rfl).2) (by decide) hrd_48 hup_49
        have hE := hE.tr hE1
        have hs_50 := SR.pr (k := 2) (i := 44) hs_37 (by decide) hE1 hrd_48 hup_49
        refine lv_aload_n hx hb dX4_follow_72 rfl (lv_at hl 1 rfl) ?_
        refine T_get (ci := 4) (C := RX4) (T := TX4) (N := 8) (t := tI) hx hb hts inw_X4_follow_4 hown hK hP hT 0 rfl rfl 2 (by decide) (hts (.fieldLink RX4 9 "VatHouse$Runner" "result" "I") (List.mem_of_getElem? (i := 11) (by exact rfl))) (fun _ h9 => h9) rfl dX4_follow_73 (fun v_53 hv_51 hr_52 => ?_)
        obtain rfl : v_53 = .int ((va_up (va_up u_28.2.1 45 z_33, u_28.2.2).1 44 (0 : Int32), (va_up u_28.2.1 45 z_33, u_28.2.2).2).1 44) := hr_52.symm.trans hs_50.2.2.2.2.2.2.1
        exact K_i hx hb hr hlocks hP hD hK hS hT hE ⟨⟨_, rfl⟩, hF, ⟨u_28, hev_29, by rw [show rsl u_28.1 = 0 from if_pos ((cO_z hok_32.2.2.1).1.mp (hz_25 ▸ c_39))]; rfl, by have h9 := hs_50; rw [cO_mx hok_32.2.2.1 hz_25 ez_33, ← show rsl u_28.1 = 0 from if_pos ((cO_z hok_32.2.2.1).1.mp (hz_25 ▸ c_39)), va_sw (by decide)] at h9; exact h9⟩⟩ (Nat.le_of_ble_eq_true rfl) (Nat.le_of_ble_eq_true rfl) dX4_follow_76
    · refine lv_aload_n hx hb dX4_follow_50 rfl (lv_at hl 1 rfl) ?_
      refine lv_iconst (v := 2) hx hb dX4_follow_51 (by decide) ?_
      refine T_put (ci := 4) (v := .int 2) (ty := .int) (t := tI) (C := RX4) (T := TX4) (N := 8) hx hb hts inw_X4_follow_4 tyX4 tyX4_ok nmX4 hown hK hP hD hS hT 0 rfl rfl 2 (by decide) (hts (.fieldLink RX4 9 "VatHouse$Runner" "result" "I") (List.mem_of_getElem? (i := 11) (by exact rfl))) (fun _ h9 => h9) rfl (tyX4_ok 2 (by decide)) rfl rfl rfl ⟨_, rfl⟩ dX4_follow_52 (fun f_54 H locs hP hD hS hT hE1 hrd_55 hup_56 => ?_)
      have hF := Fr.put (a := h0) (ci := 4) hF hE ((hE1 h0 (hT.at 0 rfl).1).2.symm.trans (hT.at 0 rfl).2) (by decide) hrd_55 hup_56
      have hE := hE.tr hE1
      have hs_57 := SR.pr (k := 2) (i := 44) hs_37 (by decide) hE1 hrd_55 hup_56
      refine lv_goto (tgt := 72) hx hb dX4_follow_55 (by decide) ?_
      refine lv_aload_n hx hb dX4_follow_72 rfl (lv_at hl 1 rfl) ?_
      refine T_get (ci := 4) (C := RX4) (T := TX4) (N := 8) (t := tI) hx hb hts inw_X4_follow_4 hown hK hP hT 0 rfl rfl 2 (by decide) (hts (.fieldLink RX4 9 "VatHouse$Runner" "result" "I") (List.mem_of_getElem? (i := 11) (by exact rfl))) (fun _ h9 => h9) rfl dX4_follow_73 (fun v_60 hv_58 hr_59 => ?_)
      obtain rfl : v_60 = .int ((va_up (va_up u_28.2.1 45 z_33, u_28.2.2).1 44 (2 : Int32), (va_up u_28.2.1 45 z_33, u_28.2.2).2).1 44) := hr_59.symm.trans hs_57.2.2.2.2.2.2.1
      exact K_i hx hb hr hlocks hP hD hK hS hT hE ⟨⟨_, rfl⟩, hF, ⟨u_28, hev_29, by rw [show rsl u_28.1 = 2 from (if_neg (by rw [(cO_z hok_32.2.2.1).2.mp (hz_25 ▸ c_38)]; decide)).trans (if_pos ((cO_z hok_32.2.2.1).2.mp (hz_25 ▸ c_38)))]; rfl, by have h9 := hs_57; rw [cO_mx hok_32.2.2.1 hz_25 ez_33, ← show rsl u_28.1 = 2 from (if_neg (by rw [(cO_z hok_32.2.2.1).2.mp (hz_25 ▸ c_38)]; decide)).trans (if_pos ((cO_z hok_32.2.2.1).2.mp (hz_25 ▸ c_38))), va_sw (by decide)] at h9; exact h9⟩⟩ (Nat.le_of_ble_eq_true rfl) (Nat.le_of_ble_eq_true rfl) dX4_follow_76
  · have hT := hT.add hb9
    refine CT.start (cc := cX4_follow) (maxL := 5) (ret := (some .int)) (by decide) rfl (Nat.le_of_ble_eq_true rfl) ?_
    intro p e s m below meth c ls hst hP hK hD hev hS hl
    obtain ⟨hx, hb, hr, hml, hts, hown, hlocks, hin⟩ := hst
    have hown : s.vm.findClass RX4 = some m.cls := hown
    have hin : meth.name = yX4_follow.name := hin
    have hA : ∀ q : Nat, s.heap.size ≤ q → va_A (va_pl L f) s.heap.size q := fun _ h => Or.inr h
    have hE : Ext L f L f := Ext.rf
    have hF : Fr [(0, 2), (0, 3), (0, 6), (0, 7), (7, 1), (7, 2), (7, 3), (7, 4), (7, 5), (7, 6), (7, 7), (8, 1), (8, 2), (4, 4), (4, 5), (4, 6), (4, 7), (4, 1), (4, 2), (4, 3)] L f f := Fr.rf
    have hl : lv_has ls 5 [(0, .ref h0), (1, .ref b_1), (2, .ref w), (3, .int lim)] := hl
    refine lv_aload_n hx hb dX4_follow_0 rfl (lv_at hl 0 rfl) ?_
    refine lv_iload_n hx hb dX4_follow_1 rfl (lv_at hl 3 rfl) ?_
    refine T_put (ci := 4) (v := .int lim) (ty := .int) (t := tI) (C := RX4) (T := TX4) (N := 8) hx hb hts inw_X4_follow_4 tyX4 tyX4_ok nmX4 hown hK hP hD hS hT 1 rfl rfl 1 (by decide) (hts (.fieldLink RX4 19 "VatHouse$Runner" "limit" "I") (List.mem_of_getElem? (i := 1) (by exact rfl))) (fun _ h9 => h9) rfl (tyX4_ok 1 (by decide)) rfl rfl rfl ⟨_, rfl⟩ dX4_follow_2 (fun f_61 H locs hP hD hS hT hE1 hrd_62 hup_63 => ?_)
    have hF := Fr.put (a := h0) (ci := 4) hF hE ((hE1 h0 (hT.at 1 rfl).1).2.symm.trans (hT.at 1 rfl).2) (by decide) hrd_62 hup_63
    have hE := hE.tr hE1
    have hs_64 := SR.pr (k := 1) (i := 39) hSR (by decide) hE1 hrd_62 hup_63
    refine lv_aload_n hx hb dX4_follow_5 rfl (lv_at hl 0 rfl) ?_
    refine lv_iconst (v := 0) hx hb dX4_follow_6 (by decide) ?_
    refine T_put (ci := 4) (v := .int 0) (ty := .int) (t := tI) (C := RX4) (T := TX4) (N := 8) hx hb hts inw_X4_follow_4 tyX4 tyX4_ok nmX4 hown hK hP hD hS hT 1 rfl rfl 4 (by decide) (hts (.fieldLink RX4 22 "VatHouse$Runner" "counted" "I") (List.mem_of_getElem? (i := 2) (by exact rfl))) (fun _ h9 => h9) rfl (tyX4_ok 4 (by decide)) rfl rfl rfl ⟨_, rfl⟩ dX4_follow_7 (fun f_65 H locs hP hD hS hT hE1 hrd_66 hup_67 => ?_)
    have hF := Fr.put (a := h0) (ci := 4) hF hE ((hE1 h0 (hT.at 1 rfl).1).2.symm.trans (hT.at 1 rfl).2) (by decide) hrd_66 hup_67
    have hE := hE.tr hE1
    have hs_68 := SR.pr (k := 4) (i := 40) hs_64 (by decide) hE1 hrd_66 hup_67
    refine lv_aload_n hx hb dX4_follow_10 rfl (lv_at hl 0 rfl) ?_
    refine lv_iconst (v := 0) hx hb dX4_follow_11 (by decide) ?_
    refine T_put (ci := 4) (v := .int 0) (ty := .int) (t := tI) (C := RX4) (T := TX4) (N := 8) hx hb hts inw_X4_follow_4 tyX4 tyX4_ok nmX4 hown hK hP hD hS hT 1 rfl rfl 5 (by decide) (hts (.fieldLink RX4 25 "VatHouse$Runner" "dipsDone" "I") (List.mem_of_getElem? (i := 3) (by exact rfl))) (fun _ h9 => h9) rfl (tyX4_ok 5 (by decide)) rfl rfl rfl ⟨_, rfl⟩ dX4_follow_12 (fun f_69 H locs hP hD hS hT hE1 hrd_70 hup_71 => ?_)
    have hF := Fr.put (a := h0) (ci := 4) hF hE ((hE1 h0 (hT.at 1 rfl).1).2.symm.trans (hT.at 1 rfl).2) (by decide) hrd_70 hup_71
    have hE := hE.tr hE1
    have hs_72 := SR.pr (k := 5) (i := 41) hs_68 (by decide) hE1 hrd_70 hup_71
    refine lv_aload_n hx hb dX4_follow_15 rfl (lv_at hl 0 rfl) ?_
    refine lv_iconst (v := 0) hx hb dX4_follow_16 (by decide) ?_
    refine T_put (ci := 4) (v := .int 0) (ty := .int) (t := tI) (C := RX4) (T := TX4) (N := 8) hx hb hts inw_X4_follow_4 tyX4 tyX4_ok nmX4 hown hK hP hD hS hT 1 rfl rfl 6 (by decide) (hts (.fieldLink RX4 28 "VatHouse$Runner" "grainsMoved" "I") (List.mem_of_getElem? (i := 4) (by exact rfl))) (fun _ h9 => h9) rfl (tyX4_ok 6 (by decide)) rfl rfl rfl ⟨_, rfl⟩ dX4_follow_17 (fun f_73 H locs hP hD hS hT hE1 hrd_74 hup_75 => ?_)
    have hF := Fr.put (a := h0) (ci := 4) hF hE ((hE1 h0 (hT.at 1 rfl).1).2.symm.trans (hT.at 1 rfl).2) (by decide) hrd_74 hup_75
    have hE := hE.tr hE1
    have hs_76 := SR.pr (k := 6) (i := 42) hs_72 (by decide) hE1 hrd_74 hup_75
    refine lv_aload_n hx hb dX4_follow_20 rfl (lv_at hl 0 rfl) ?_
    refine lv_iconst (v := 0) hx hb dX4_follow_21 (by decide) ?_
    refine T_put (ci := 4) (v := .int 0) (ty := .int) (t := tI) (C := RX4) (T := TX4) (N := 8) hx hb hts inw_X4_follow_4 tyX4 tyX4_ok nmX4 hown hK hP hD hS hT 1 rfl rfl 7 (by decide) (hts (.fieldLink RX4 31 "VatHouse$Runner" "hoursRested" "I") (List.mem_of_getElem? (i := 5) (by exact rfl))) (fun _ h9 => h9) rfl (tyX4_ok 7 (by decide)) rfl rfl rfl ⟨_, rfl⟩ dX4_follow_22 (fun f_77 H locs hP hD hS hT hE1 hrd_78 hup_79 => ?_)
    have hF := Fr.put (a := h0) (ci := 4) hF hE ((hE1 h0 (hT.at 1 rfl).1).2.symm.trans (hT.at 1 rfl).2) (by decide) hrd_78 hup_79
    have hE := hE.tr hE1
    have hs_80 := SR.pr (k := 7) (i := 43) hs_76 (by decide) hE1 hrd_78 hup_79
    refine lv_aload_n hx hb dX4_follow_25 rfl (lv_at hl 0 rfl) ?_
    refine lv_aload_n hx hb dX4_follow_26 rfl (lv_at hl 1 rfl) ?_
    refine lv_aload_n hx hb dX4_follow_27 rfl (lv_at hl 2 rfl) ?_
    refine lv_iconst (v := 0) hx hb dX4_follow_28 (by decide) ?_
    have hI0 := IV.rs hRG hlim
    have hs0 : SR g L f_77 (x0, wk, vs, cl, h0, va) (rs0 lim sA) := hs_80
    refine K_V ⟨hx, hb, hml, hown, hts⟩ (X4_doStepsS_all l dC dI sa hlt g 9 0 rfl _ _ x0 cl va B ck V ad dp (rs0 lim sA) x h0 (.ref b_1) w 0 wk vs _ (hT.sub [1, 2, 3, 4] rfl) (Or.inr ⟨_, rfl, hT.at 0 rfl⟩) ((hF.1 h0 (hT0.at 0 rfl).1 4 (hT0.at 0 rfl).2 0 (by decide)).trans h_wk) ((hF.1 wk (hT0.at 2 rfl).1 8 (hT0.at 2 rfl).2 0 (by decide)).trans h_vs) nI_0.symm hs0 hI0 hB hc (by rw [ra_eq (hF.2 cl hSR.1.1.2.2.2.1.1 1 _ _ hSR.1.1.2.2.2.1.2 (by decide))]; exact hcl) (hTR.go hE hF (by decide) rs_nt) (hLV.go rs_nt) (hNVs.go rs_nt) hfs hlk (Nat.zero_le _)) (cwV 3 hts gX4_follow_X4_doSteps rfl rfl rfl (by decide +kernel) ⟨Nat.le_of_ble_eq_true rfl, Nat.le_of_ble_eq_true rfl⟩) hP hD hK hS hA hev hT 1 4 rfl rfl rfl rfl hl.1 rfl (Nat.le_of_ble_eq_true rfl) dX4_follow_29 ⟨Nat.le_of_ble_eq_true rfl, Nat.le_of_ble_eq_true rfl⟩ (fun r L_81 f_82 H locs hw_83 hP hD hS hT hE1 => ?_)
    have hF := Fr.call hF hE hw_83.2.1 (by decide)
    have hE := hE.tr hE1
    obtain ⟨⟨z_84, rfl⟩, hw_83⟩ := hw_83
    obtain ⟨hfr_85, hex_86⟩ := hw_83
    obtain ⟨u_87, hev_88, hrr_89, hs_90⟩ := hex_86
    have hok_91 := EvR.inv (B := B) (V := V) hev_88 hB hI0 (hNVs.go rs_nt) hc (fun _ => lk.V hLV hlk) (fun e9 => absurd rfl e9)
    have hz_84 : z_84 = cO u_87.1 := sv hrr_89
    refine W.eq (g2 := F0 m 32 ls [.int z_84]) rfl ?_
    refine lv_istore (lv' := [(4, .int z_84), (0, .ref h0), (1, .ref b_1), (2, .ref w), (3, .int lim)]) hx hb dX4_follow_32 hl (by decide) rfl (fun ls hl => ?_)
    refine lv_aload_n hx hb dX4_follow_34 rfl (lv_at hl 1 rfl) ?_
    refine lv_iconst (v := 0) hx hb dX4_follow_35 (by decide) ?_
    refine lv_iload hx hb dX4_follow_36 (lv_at hl 0 rfl) ?_
    refine va_mmax hx hb (hml.trans hl.1.symm) hown (hts (.methodLink RX4 38 Lib.Math.max.name) (List.mem_of_getElem? (i := 6) (by exact rfl))) (hts (.static Lib.Math.max.name) (List.mem_of_getElem? (i := 7) (by exact rfl))) (hts (.initialized "java/lang/Math") (List.mem_of_getElem? (i := 8) (by exact rfl))) (hts (.code Lib.Math.max.name Lib.Math.max.code 2 (some .int)) (List.mem_of_getElem? (i := 9) (by exact rfl))) (Nat.le_of_ble_eq_true rfl) (Nat.le_of_ble_eq_true rfl) (Nat.le_of_ble_eq_true rfl) (Nat.le_of_ble_eq_true rfl) dX4_follow_38 ?_
    refine lv_topi (fun z_92 ez_92 => ?_)
    refine T_put (ci := 4) (v := .int z_92) (ty := .int) (t := tI) (C := RX4) (T := TX4) (N := 8) hx hb hts inw_X4_follow_4 tyX4 tyX4_ok nmX4 hown hK hP hD hS hT 1 rfl rfl 3 (by decide) (hts (.fieldLink RX4 44 "VatHouse$Runner" "failure" "I") (List.mem_of_getElem? (i := 10) (by exact rfl))) (fun _ h9 => h9) rfl (tyX4_ok 3 (by decide)) rfl rfl rfl ⟨_, rfl⟩ dX4_follow_41 (fun f_93 H locs hP hD hS hT hE1 hrd_94 hup_95 => ?_)
    have hF := Fr.put (a := h0) (ci := 4) hF hE ((hE1 h0 (hT.at 1 rfl).1).2.symm.trans (hT.at 1 rfl).2) (by decide) hrd_94 hup_95
    have hE := hE.tr hE1
    have hs_96 := SR.pr (k := 3) (i := 45) hs_90 (by decide) hE1 hrd_94 hup_95
    refine lv_iload hx hb dX4_follow_44 (lv_at hl 0 rfl) ?_
    refine lv_iconst (v := (-1)) hx hb dX4_follow_46 (by decide) ?_
    refine lv_icmp_ne (tgt := 58) hx hb dX4_follow_47 (by decide) (fun c_97 => ?_) (fun c_97 => ?_)
    · refine lv_aload_n hx hb dX4_follow_58 rfl (lv_at hl 1 rfl) ?_
      refine lv_iload hx hb dX4_follow_59 (lv_at hl 0 rfl) ?_
      refine lv_if_ne (tgt := 68) hx hb dX4_follow_61 (by decide) (fun c_98 => ?_) (fun c_98 => ?_)
      · refine lv_iconst (v := 1) hx hb dX4_follow_68 (by decide) ?_
        refine T_put (ci := 4) (v := .int 1) (ty := .int) (t := tI) (C := RX4) (T := TX4) (N := 8) hx hb hts inw_X4_follow_4 tyX4 tyX4_ok nmX4 hown hK hP hD hS hT 1 rfl rfl 2 (by decide) (hts (.fieldLink RX4 9 "VatHouse$Runner" "result" "I") (List.mem_of_getElem? (i := 11) (by exact rfl))) (fun _ h9 => h9) rfl (tyX4_ok 2 (by decide)) rfl rfl rfl ⟨_, rfl⟩ dX4_follow_69 (fun f_99 H locs hP hD hS hT hE1 hrd_100 hup_101 => ?_)
        have hF := Fr.put (a := h0) (ci := 4) hF hE ((hE1 h0 (hT.at 1 rfl).1).2.symm.trans (hT.at 1 rfl).2) (by decide) hrd_100 hup_101
        have hE := hE.tr hE1
        have hs_102 := SR.pr (k := 2) (i := 44) hs_96 (by decide) hE1 hrd_100 hup_101
        refine lv_aload_n hx hb dX4_follow_72 rfl (lv_at hl 1 rfl) ?_
        refine T_get (ci := 4) (C := RX4) (T := TX4) (N := 8) (t := tI) hx hb hts inw_X4_follow_4 hown hK hP hT 1 rfl rfl 2 (by decide) (hts (.fieldLink RX4 9 "VatHouse$Runner" "result" "I") (List.mem_of_getElem? (i := 11) (by exact rfl))) (fun _ h9 => h9) rfl dX4_follow_73 (fun v_105 hv_103 hr_104 => ?_)
        obtain rfl : v_105 = .int ((va_up (va_up u_87.2.1 45 z_92, u_87.2.2).1 44 (1 : Int32), (va_up u_87.2.1 45 z_92, u_87.2.2).2).1 44) := hr_104.symm.trans hs_102.2.2.2.2.2.2.1
        exact K_i hx hb hr hlocks hP hD hK hS hT hE ⟨⟨_, rfl⟩, hF, ⟨u_87, hev_88, by rw [show rsl u_87.1 = 1 from (if_neg (fun e9 => c_98 (by rw [hz_84]; exact (cO_z hok_91.2.2.1).1.mpr e9))).trans (if_neg (fun e9 => c_97 (by rw [hz_84]; exact (cO_z hok_91.2.2.1).2.mpr e9)))]; rfl, by have h9 := hs_102; rw [cO_mx hok_91.2.2.1 hz_84 ez_92, ← show rsl u_87.1 = 1 from (if_neg (fun e9 => c_98 (by rw [hz_84]; exact (cO_z hok_91.2.2.1).1.mpr e9))).trans (if_neg (fun e9 => c_97 (by rw [hz_84]; exact (cO_z hok_91.2.2.1).2.mpr e9))), va_sw (by decide)] at h9; exact h9⟩⟩ (Nat.le_of_ble_eq_true rfl) (Nat.le_of_ble_eq_true rfl) dX4_follow_76
      · refine lv_iconst (v := 0) hx hb dX4_follow_64 (by decide) ?_
        refine lv_goto (tgt := 69) hx hb dX4_follow_65 (by decide) ?_
        refine T_put (ci := 4) (v := .int 0) (ty := .int) (t := tI) (C := RX4) (T := TX4) (N := 8) hx hb hts inw_X4_follow_4 tyX4 tyX4_ok nmX4 hown hK hP hD hS hT 1 rfl rfl 2 (by decide) (hts (.fieldLink RX4 9 "VatHouse$Runner" "result" "I") (List.mem_of_getElem? (i := 11) (by exact rfl))) (fun _ h9 => h9) rfl (tyX4_ok 2 (by decide)) rfl rfl rfl ⟨_, rfl⟩ dX4_follow_69 (fun f_106 H locs hP hD hS hT hE1 hrd_107 hup_108 => ?_)
        have hF := Fr.put (a := h0) (ci := 4) hF hE ((hE1 h0 (hT.at 1 rfl).1).2.symm.trans (hT.at 1 rfl).2) (by decide) hrd_107 hup_108
        have hE := hE.tr hE1
        have hs_109 := SR.pr (k := 2) (i := 44) hs_96 (by decide) hE1 hrd_107 hup_108
        refine lv_aload_n hx hb dX4_follow_72 rfl (lv_at hl 1 rfl) ?_
        refine T_get (ci := 4) (C := RX4) (T := TX4) (N := 8) (t := tI) hx hb hts inw_X4_follow_4 hown hK hP hT 1 rfl rfl 2 (by decide) (hts (.fieldLink RX4 9 "VatHouse$Runner" "result" "I") (List.mem_of_getElem? (i := 11) (by exact rfl))) (fun _ h9 => h9) rfl dX4_follow_73 (fun v_112 hv_110 hr_111 => ?_)
        obtain rfl : v_112 = .int ((va_up (va_up u_87.2.1 45 z_92, u_87.2.2).1 44 (0 : Int32), (va_up u_87.2.1 45 z_92, u_87.2.2).2).1 44) := hr_111.symm.trans hs_109.2.2.2.2.2.2.1
        exact K_i hx hb hr hlocks hP hD hK hS hT hE ⟨⟨_, rfl⟩, hF, ⟨u_87, hev_88, by rw [show rsl u_87.1 = 0 from if_pos ((cO_z hok_91.2.2.1).1.mp (hz_84 ▸ c_98))]; rfl, by have h9 := hs_109; rw [cO_mx hok_91.2.2.1 hz_84 ez_92, ← show rsl u_87.1 = 0 from if_pos ((cO_z hok_91.2.2.1).1.mp (hz_84 ▸ c_98)), va_sw (by decide)] at h9; exact h9⟩⟩ (Nat.le_of_ble_eq_true rfl) (Nat.le_of_ble_eq_true rfl) dX4_follow_76
    · refine lv_aload_n hx hb dX4_follow_50 rfl (lv_at hl 1 rfl) ?_
      refine lv_iconst (v := 2) hx hb dX4_follow_51 (by decide) ?_
      refine T_put (ci := 4) (v := .int 2) (ty := .int) (t := tI) (C := RX4) (T := TX4) (N := 8) hx hb hts inw_X4_follow_4 tyX4 tyX4_ok nmX4 hown hK hP hD hS hT 1 rfl rfl 2 (by decide) (hts (.fieldLink RX4 9 "VatHouse$Runner" "result" "I") (List.mem_of_getElem? (i := 11) (by exact rfl))) (fun _ h9 => h9) rfl (tyX4_ok 2 (by decide)) rfl rfl rfl ⟨_, rfl⟩ dX4_follow_52 (fun f_113 H locs hP hD hS hT hE1 hrd_114 hup_115 => ?_)
      have hF := Fr.put (a := h0) (ci := 4) hF hE ((hE1 h0 (hT.at 1 rfl).1).2.symm.trans (hT.at 1 rfl).2) (by decide) hrd_114 hup_115
      have hE := hE.tr hE1
      have hs_116 := SR.pr (k := 2) (i := 44) hs_96 (by decide) hE1 hrd_114 hup_115
      refine lv_goto (tgt := 72) hx hb dX4_follow_55 (by decide) ?_
      refine lv_aload_n hx hb dX4_follow_72 rfl (lv_at hl 1 rfl) ?_
      refine T_get (ci := 4) (C := RX4) (T := TX4) (N := 8) (t := tI) hx hb hts inw_X4_follow_4 hown hK hP hT 1 rfl rfl 2 (by decide) (hts (.fieldLink RX4 9 "VatHouse$Runner" "result" "I") (List.mem_of_getElem? (i := 11) (by exact rfl))) (fun _ h9 => h9) rfl dX4_follow_73 (fun v_119 hv_117 hr_118 => ?_)
      obtain rfl : v_119 = .int ((va_up (va_up u_87.2.1 45 z_92, u_87.2.2).1 44 (2 : Int32), (va_up u_87.2.1 45 z_92, u_87.2.2).2).1 44) := hr_118.symm.trans hs_116.2.2.2.2.2.2.1
      exact K_i hx hb hr hlocks hP hD hK hS hT hE ⟨⟨_, rfl⟩, hF, ⟨u_87, hev_88, by rw [show rsl u_87.1 = 2 from (if_neg (by rw [(cO_z hok_91.2.2.1).2.mp (hz_84 ▸ c_97)]; decide)).trans (if_pos ((cO_z hok_91.2.2.1).2.mp (hz_84 ▸ c_97)))]; rfl, by have h9 := hs_116; rw [cO_mx hok_91.2.2.1 hz_84 ez_92, ← show rsl u_87.1 = 2 from (if_neg (by rw [(cO_z hok_91.2.2.1).2.mp (hz_84 ▸ c_97)]; decide)).trans (if_pos ((cO_z hok_91.2.2.1).2.mp (hz_84 ▸ c_97))), va_sw (by decide)] at h9; exact h9⟩⟩ (Nat.le_of_ble_eq_true rfl) (Nat.le_of_ble_eq_true rfl) dX4_follow_76
