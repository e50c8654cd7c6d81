theorem up_lt {ii z : Int32} {a k : Nat} (hk : k < 2 ^ 31) (hii : ii = nI a) (ha : a ≤ k) (hz : z ≤ nI k) (h : ¬ z ≤ ii) : a < k := by
  subst hii
  rcases Nat.lt_or_ge a k with h1 | h1
  · exact h1
  · have : a = k := by omega
    subst this
    exact absurd hz h
theorem up_in {ii z : Int32} {n N k : Nat} (hk : k < 2 ^ 31) (hm : ∃ a : Nat, ii = nI a ∧ a ≤ k ∧ k < a + n) (hz : z ≤ nI k) (h : ¬ z ≤ ii) (hN : k ≤ N) (hN2 : N < 2 ^ 31) : vp_in ii N := by
  obtain ⟨a, hii, h1, h2⟩ := hm
  have h4 := up_lt hk hii h1 hz h
  rw [hii]
  exact vp_in_nI (by omega) hN2
theorem up_nx {ii z : Int32} {n k : Nat} (hk : k < 2 ^ 31) (hm : ∃ a : Nat, ii = nI a ∧ a ≤ k ∧ k < a + (n + 1)) (hz : z ≤ nI k) (h : ¬ z ≤ ii) : ∃ a : Nat, ii + 1 = nI a ∧ a ≤ k ∧ k < a + n := by
  obtain ⟨a, hii, h1, h2⟩ := hm
  have h4 := up_lt hk hii h1 hz h
  exact ⟨a + 1, by rw [hii]; exact nI_1 a, by omega, by omega⟩

abbrev rm_X8_passHour : Room := { frames := 2, cells := 0, slots := 0, locals := 35 }
theorem inw_X8_passHour_8 : ∀ w ∈ wsX80, w ∈ wsX8_passHour := by decide +kernel
set_option maxHeartbeats 800000 in
set_option maxRecDepth 100000 in
theorem t_X8_passHour (l : Launch) (dC : Nat → ClassId) (dI : Nat → Nat → Nat) (sa : Nat → Nat) (hlt : l.stackTraces = false) (g : Nat → Nat) (L : List Nat) (f : Nat → va_E) (h0 : Nat) (sz : Nat) (hT : TP g L f [(h0, (0, 8, 0))]) : KC l dC dI sa g yX8_passHour wsX8_passHour rm_X8_passHour [.ref h0] L f sz (fun r L' f' => (r = none) ∧ Fr [(7, 0), (7, 1), (7, 2), (7, 3), (7, 4), (7, 5), (7, 6), (7, 7), (8, 0), (8, 1), (8, 2)] L f f') 0 0 := by
  refine CT.start (cc := cX8_passHour) (maxL := 2) (ret := none) (by decide) rfl (Nat.le_of_ble_eq_true rfl) ?_
  intro p e s m below meth c ls hst hP hK hD hev hS hl
  obtain ⟨hx, hb, hr, hml, hts, hown, hlocks, hin⟩ := hst
  have hown : s.vm.findClass RX8 = some m.cls := hown
  have hin : meth.name = yX8_passHour.name := hin
  have hA : ∀ q : Nat, s.heap.size ≤ q → va_A (va_pl L f) s.heap.size q := fun _ h => Or.inr h
  have hE : Ext L f L f := Ext.rf
  have hF : Fr [(7, 0), (7, 1), (7, 2), (7, 3), (7, 4), (7, 5), (7, 6), (7, 7), (8, 0), (8, 1), (8, 2)] L f f := Fr.rf
  have hl : lv_has ls 2 [(0, .ref h0)] := hl
  refine lv_iconst (v := 0) hx hb dX8_passHour_0 (by decide) ?_
  refine lv_istore_n (lv' := [(1, .int 0), (0, .ref h0)]) hx hb dX8_passHour_1 rfl hl (by decide) rfl (fun ls hl => ?_)
  have lp : ∀ (n : Nat) (ii : Int32) (L1 : List Nat) (f1 : Nat → va_E) (H : Heap) (locs : List Loc) (ls : Array Slot), (∃ a : Nat, ii = nI a ∧ a ≤ 6 ∧ 6 < a + n) → va_P (dC, dI) vwCl (va_pl L1 f1) H → va_D (va_A (va_pl L f) s.heap.size) (va_pl L1 f1) → va_S (va_A (va_pl L f) s.heap.size) s.heap H locs → TP g L1 f1 [(h0, (0, 8, 0))] → Ext L f L1 f1 → Fr [(7, 0), (7, 1), (7, 2), (7, 3), (7, 4), (7, 5), (7, 6), (7, 7), (8, 0), (8, 1), (8, 2)] L f f1 → lv_has ls 2 [(1, .int ii), (0, .ref h0)] → W p l e rm_X8_passHour s m [.ref h0].toArray below meth c H locs 0 0 (MQ below (Qg (kpost g L f (fun r L' f' => (r = none) ∧ Fr [(7, 0), (7, 1), (7, 2), (7, 3), (7, 4), (7, 5), (7, 6), (7, 7), (8, 0), (8, 1), (8, 2)] L f f')) (fun (u : PL) t => QW dC dI (va_A (va_pl L f) s.heap.size) (va_pl u.1 u.2) [] t) (va_A (va_pl L f) s.heap.size)) [.ref h0].toArray s (0) (0) (va_A (va_pl L f) s.heap.size)) (F0 m 2 ls []) := by
    intro n
    induction n with
    | zero => intro ii L1 f1 H locs ls hm  hP hD hS hT hE hF hl; exact absurd hm (by rintro ⟨a, -, h1, h2⟩; omega)
    | succ n ih =>
      intro ii L1 f1 H locs ls hm  hP hD hS hT hE hF hl
      refine lv_iload_n hx hb dX8_passHour_2 rfl (lv_at hl 0 rfl) ?_
      refine lv_aload_n hx hb dX8_passHour_3 rfl (lv_at hl 1 rfl) ?_
      refine T_get (ci := 8) (C := RX8) (T := TX8) (N := 3) (t := (1, 2, g 2, 6)) hx hb hts inw_X8_passHour_8 hown hK hP hT 0 rfl rfl 0 (by decide) (hts (.fieldLink RX8 11 "VatHouse$Works" "vats" "[LVatHouse$Vat;") (by decide +kernel)) (fun _ h9 => h9) rfl dX8_passHour_4 (fun v_3 hv_1 hr_2 => ?_)
      obtain ⟨b_4, rfl, hb9⟩ := hv_1
      have hT := hT.add hb9
      refine T_alen hx hb hK hP hT 0 2 rfl rfl (v := 6) rfl dX8_passHour_7 ?_
      refine lv_icmp_ge (tgt := 30) hx hb dX8_passHour_8 (by decide) (fun c_5 => ?_) (fun c_5 => ?_)
      · refine lv_aload_n hx hb dX8_passHour_30 rfl (lv_at hl 1 rfl) ?_
        refine lv_dup hx hb dX8_passHour_31 rfl ?_
        refine T_get (ci := 8) (C := RX8) (T := TX8) (N := 3) (t := tI) hx hb hts inw_X8_passHour_8 hown hK hP hT 1 rfl rfl 1 (by decide) (hts (.fieldLink RX8 31 "VatHouse$Works" "hours" "I") (by decide +kernel)) (fun _ h9 => h9) rfl dX8_passHour_32 (fun v_8 hv_6 hr_7 => ?_)
        obtain ⟨z_9, rfl⟩ := hv_6
        refine lv_iconst (v := 1) hx hb dX8_passHour_35 (by decide) ?_
        refine lv_iadd hx hb dX8_passHour_36 ?_
        refine lv_topi (fun z_10 ez_10 => ?_)
        refine T_put (ci := 8) (v := .int z_10) (ty := .int) (t := tI) (C := RX8) (T := TX8) (N := 3) hx hb hts inw_X8_passHour_8 tyX8 tyX8_ok nmX8 hown hK hP hD hS hT 1 rfl rfl 1 (by decide) (hts (.fieldLink RX8 31 "VatHouse$Works" "hours" "I") (by decide +kernel)) (fun _ h9 => h9) rfl (by decide +kernel) rfl rfl rfl ⟨_, rfl⟩ dX8_passHour_37 (fun f_11 H locs hP hD hS hT hE1 hrd_12 hup_13 => ?_)
        have hF := Fr.put (a := h0) (ci := 8) hF hE ((hE1 h0 (hT.at 1 rfl).1).2.symm.trans (hT.at 1 rfl).2) (by decide) hrd_12 hup_13
        have hE := hE.tr hE1
        exact K_v hx hb hr hlocks hP hD hK hS hT hE ⟨rfl, hF⟩ (Nat.le_of_ble_eq_true rfl) (Nat.le_of_ble_eq_true rfl) dX8_passHour_40
      · refine lv_aload_n hx hb dX8_passHour_11 rfl (lv_at hl 1 rfl) ?_
        refine T_get (ci := 8) (C := RX8) (T := TX8) (N := 3) (t := (1, 2, g 2, 6)) hx hb hts inw_X8_passHour_8 hown hK hP hT 1 rfl rfl 0 (by decide) (hts (.fieldLink RX8 11 "VatHouse$Works" "vats" "[LVatHouse$Vat;") (by decide +kernel)) (fun _ h9 => h9) rfl dX8_passHour_12 (fun v_16 hv_14 hr_15 => ?_)
        obtain rfl : v_16 = .ref b_4 := hr_15.symm.trans hr_2
        refine lv_iload_n hx hb dX8_passHour_15 rfl (lv_at hl 0 rfl) ?_
        refine T_vald hx hb hK hP hT 0 2 (Or.inl rfl) rfl rfl (up_in (by decide) hm (by decide) c_5 (by decide) (by decide)) dX8_passHour_16 (fun b_17 hb9 hra => ?_)
        have hT := hT.add hb9
        refine lv_aload_n hx hb dX8_passHour_17 rfl (lv_at hl 1 rfl) ?_
        refine T_get (ci := 8) (C := RX8) (T := TX8) (N := 3) (t := tI) hx hb hts inw_X8_passHour_8 hown hK hP hT 2 rfl rfl 1 (by decide) (hts (.fieldLink RX8 31 "VatHouse$Works" "hours" "I") (by decide +kernel)) (fun _ h9 => h9) rfl dX8_passHour_18 (fun v_20 hv_18 hr_19 => ?_)
        obtain ⟨z_21, rfl⟩ := hv_18
        refine K_V ⟨hx, hb, hml, hown, hts⟩ (t_X7_liveThrough l dC dI sa hlt g _ _ b_17 z_21 _ (hT.sub [0] rfl)  ) (cwV 1 hts gX8_passHour_X7_liveThrough rfl rfl rfl (by decide +kernel) ⟨Nat.le_of_ble_eq_true rfl, Nat.le_of_ble_eq_true rfl⟩) hP hD hK hS hA hev hT 0 7 rfl rfl rfl rfl hl.1 rfl (Nat.le_of_ble_eq_true rfl) dX8_passHour_21 ⟨Nat.le_of_ble_eq_true rfl, Nat.le_of_ble_eq_true rfl⟩ (fun r L_22 f_23 H locs hw_24 hP hD hS hT hE1 => ?_)
        have hF := Fr.call hF hE hw_24.2 (by decide)
        have hE := hE.tr hE1
        obtain ⟨rfl, hw_24⟩ := hw_24
        refine W.eq (g2 := F0 m 24 ls []) rfl ?_
        refine lv_iinc (v := (ii + 1)) (lv' := [(1, .int (ii + 1)), (0, .ref h0)]) hx hb dX8_passHour_24 hl (k := 0) rfl rfl (by decide) rfl (fun ls hl => ?_)
        refine lv_goto (tgt := 2) hx hb dX8_passHour_27 (by decide) ?_
        exact ih (ii + 1) _ _ _ _ _ (up_nx (by decide) hm (by decide) c_5)  hP hD hS (hT.sub [2] rfl) hE hF (lv_sub hl [0, 1] rfl)
  exact lp 7 0 _ _ _ _ _ (⟨0, nI_0.symm, by omega, by omega⟩)  hP hD hS (hT.sub [0] rfl) hE hF (lv_sub hl [0, 1] rfl)
