theorem pu_charAtX (l : Launch) (dC : Nat → ClassId) (dI : Nat → Nat → Nat) (sa : Nat → Nat) (i k : Nat) (x : Int32) (sz : Nat) (hx : x = nI k) (hi : i < 20) (hk : k < lenS.getD i 0) : PU l dC dI sa yJ0_charAt_5068e wsJ0_charAt_5068e (rmJ 3) [.ref (sa (5 + i)), .int x] sz (some (.int (chS i k))) := by
  subst hx
  exact pu_charAt l dC dI sa i k sz hi hk
theorem at_nx {k le z : Int32} {n : Nat} (hm : (le.toInt - k.toInt).toNat < n + 1) (h : ¬ le ≤ k) (hz : z = k + 1) : (le.toInt - z.toInt).toNat < n := by
  have h1 : k < le := by
    rw [Int32.lt_iff_toInt_lt]
    rw [Int32.le_iff_toInt_le] at h
    omega
  have h2 := inc_toInt h1
  rw [Int32.lt_iff_toInt_lt] at h1
  rw [hz, h2]
  omega

abbrev rm_X6_byteAt : Room := { frames := 0, cells := 0, slots := 0, locals := 0 }
theorem inw_X6_byteAt_6 : ∀ w ∈ wsX60, w ∈ wsX6_byteAt := by decide +kernel
set_option maxHeartbeats 800000 in
set_option maxRecDepth 100000 in
theorem t_X6_byteAt (l : Launch) (dC : Nat → ClassId) (dI : Nat → Nat → Nat) (sa : Nat → Nat) (hlt : l.stackTraces = false) (g : Nat → Nat) (L : List Nat) (f : Nat → va_E) (h0 : Nat) (ix : Int32) (sz : Nat) (hT : TP g L f [(h0, (0, 6, 0))]) : KC l dC dI sa g yX6_byteAt wsX6_byteAt rm_X6_byteAt [.ref h0, .int ix] L f sz (fun r L' f' => (∃ z : Int32, r = some (.int z)) ∧ Fr [] L f f') 0 0 := by
  refine CT.start (cc := cX6_byteAt) (maxL := 2) (ret := (some .int)) (by decide) rfl (Nat.le_of_ble_eq_true rfl) ?_
  intro p e s m below meth c ls hst hP hK hD hev hS hl
  obtain ⟨hx, hb, hr, hml, hts, hown, hlocks, hin⟩ := hst
  have hown : s.vm.findClass RX6 = some m.cls := hown
  have hin : meth.name = yX6_byteAt.name := hin
  have hA : ∀ q : Nat, s.heap.size ≤ q → va_A (va_pl L f) s.heap.size q := fun _ h => Or.inr h
  have hE : Ext L f L f := Ext.rf
  have hF : Fr [] L f f := Fr.rf
  have hl : lv_has ls 2 [(0, .ref h0), (1, .int ix)] := hl
  refine lv_iload_n hx hb dX6_byteAt_0 rfl (lv_at hl 1 rfl) ?_
  refine lv_if_lt (tgt := 21) hx hb dX6_byteAt_1 (by decide) (fun c_1 => ?_) (fun c_1 => ?_)
  · refine lv_sipush (v := 256) hx hb dX6_byteAt_21 (by decide) ?_
    refine lv_goto (tgt := 33) hx hb dX6_byteAt_24 (by decide) ?_
    exact K_i hx hb hr hlocks hP hD hK hS hT hE ⟨⟨_, rfl⟩, hF⟩ (Nat.le_of_ble_eq_true rfl) (Nat.le_of_ble_eq_true rfl) dX6_byteAt_33
  · refine lv_iload_n hx hb dX6_byteAt_4 rfl (lv_at hl 1 rfl) ?_
    refine lv_aload_n hx hb dX6_byteAt_5 rfl (lv_at hl 0 rfl) ?_
    refine T_get (ci := 6) (C := RX6) (T := TX6) (N := 7) (t := tI) hx hb hts inw_X6_byteAt_6 hown hK hP hT 0 rfl rfl 1 (by decide) (hts (.fieldLink RX6 34 "VatHouse$Tokens" "length" "I") (by decide +kernel)) (fun _ h9 => h9) rfl dX6_byteAt_6 (fun v_4 hv_2 hr_3 => ?_)
    obtain ⟨z_5, rfl⟩ := hv_2
    refine lv_icmp_ge (tgt := 21) hx hb dX6_byteAt_9 (by decide) (fun c_6 => ?_) (fun c_6 => ?_)
    · refine lv_sipush (v := 256) hx hb dX6_byteAt_21 (by decide) ?_
      refine lv_goto (tgt := 33) hx hb dX6_byteAt_24 (by decide) ?_
      exact K_i hx hb hr hlocks hP hD hK hS hT hE ⟨⟨_, rfl⟩, hF⟩ (Nat.le_of_ble_eq_true rfl) (Nat.le_of_ble_eq_true rfl) dX6_byteAt_33
    · refine lv_iload_n hx hb dX6_byteAt_12 rfl (lv_at hl 1 rfl) ?_
      refine lv_aload_n hx hb dX6_byteAt_13 rfl (lv_at hl 0 rfl) ?_
      refine T_get (ci := 6) (C := RX6) (T := TX6) (N := 7) (t := (1, 1, g 1, 1500)) hx hb hts inw_X6_byteAt_6 hown hK hP hT 0 rfl rfl 0 (by decide) (hts (.fieldLink RX6 21 "VatHouse$Tokens" "text" "[B") (by decide +kernel)) (fun _ h9 => h9) rfl dX6_byteAt_14 (fun v_9 hv_7 hr_8 => ?_)
      obtain ⟨b_10, rfl, hb9⟩ := hv_7
      have hT := hT.add hb9
      refine T_alen hx hb hK hP hT 0 1 rfl rfl (v := 1500) rfl dX6_byteAt_17 ?_
      refine lv_icmp_lt (tgt := 27) hx hb dX6_byteAt_18 (by decide) (fun c_11 => ?_) (fun c_11 => ?_)
      · refine lv_aload_n hx hb dX6_byteAt_27 rfl (lv_at hl 0 rfl) ?_
        refine T_get (ci := 6) (C := RX6) (T := TX6) (N := 7) (t := (1, 1, g 1, 1500)) hx hb hts inw_X6_byteAt_6 hown hK hP hT 1 rfl rfl 0 (by decide) (hts (.fieldLink RX6 21 "VatHouse$Tokens" "text" "[B") (by decide +kernel)) (fun _ h9 => h9) rfl dX6_byteAt_28 (fun v_14 hv_12 hr_13 => ?_)
        obtain rfl : v_14 = .ref b_10 := hr_13.symm.trans hr_8
        refine lv_iload_n hx hb dX6_byteAt_31 rfl (lv_at hl 1 rfl) ?_
        refine T_bald hx hb hK hP hT 0 1 rfl rfl (vin 1500 (by decide) rfl (by assumption) (lt_nle (by assumption))) dX6_byteAt_32 (fun z_15 => ?_)
        exact K_i hx hb hr hlocks hP hD hK hS hT hE ⟨⟨_, rfl⟩, hF⟩ (Nat.le_of_ble_eq_true rfl) (Nat.le_of_ble_eq_true rfl) dX6_byteAt_33
      · refine lv_sipush (v := 256) hx hb dX6_byteAt_21 (by decide) ?_
        refine lv_goto (tgt := 33) hx hb dX6_byteAt_24 (by decide) ?_
        exact K_i hx hb hr hlocks hP hD hK hS hT hE ⟨⟨_, rfl⟩, hF⟩ (Nat.le_of_ble_eq_true rfl) (Nat.le_of_ble_eq_true rfl) dX6_byteAt_33

abbrev rm_X6_isBlank : Room := { frames := 0, cells := 0, slots := 0, locals := 0 }
set_option maxHeartbeats 800000 in
set_option maxRecDepth 100000 in
theorem t_X6_isBlank (l : Launch) (dC : Nat → ClassId) (dI : Nat → Nat → Nat) (sa : Nat → Nat) (hlt : l.stackTraces = false) (g : Nat → Nat) (L : List Nat) (f : Nat → va_E) (sg : Int32) (sz : Nat) (hT : TP g L f []) : KC l dC dI sa g yX6_isBlank wsX6_isBlank rm_X6_isBlank [.int sg] L f sz (fun r L' f' => (∃ z : Int32, r = some (.int z) ∧ (z = 0 ∨ z = 1)) ∧ Fr [] L f f') 0 0 := by
  refine CT.start (cc := cX6_isBlank) (maxL := 1) (ret := (some .boolean)) (by decide) rfl (Nat.le_of_ble_eq_true rfl) ?_
  intro p e s m below meth c ls hst hP hK hD hev hS hl
  obtain ⟨hx, hb, hr, hml, hts, hown, hlocks, hin⟩ := hst
  have hown : s.vm.findClass RX6 = some m.cls := hown
  have hin : meth.name = yX6_isBlank.name := hin
  have hA : ∀ q : Nat, s.heap.size ≤ q → va_A (va_pl L f) s.heap.size q := fun _ h => Or.inr h
  have hE : Ext L f L f := Ext.rf
  have hF : Fr [] L f f := Fr.rf
  have hl : lv_has ls 1 [(0, .int sg)] := hl
  refine lv_iload_n hx hb dX6_isBlank_0 rfl (lv_at hl 0 rfl) ?_
  refine lv_bipush (v := 32) hx hb dX6_isBlank_1 (by decide) ?_
  refine lv_icmp_eq (tgt := 12) hx hb dX6_isBlank_3 (by decide) (fun c_1 => ?_) (fun c_1 => ?_)
  · refine lv_iconst (v := 1) hx hb dX6_isBlank_12 (by decide) ?_
    refine lv_goto (tgt := 17) hx hb dX6_isBlank_13 (by decide) ?_
    exact K_z hx hb hr rfl hlocks hP hD hK hS hT hE ⟨⟨_, rfl, Or.inr rfl⟩, hF⟩ (Nat.le_of_ble_eq_true rfl) (Nat.le_of_ble_eq_true rfl) dX6_isBlank_17
  · refine lv_iload_n hx hb dX6_isBlank_6 rfl (lv_at hl 0 rfl) ?_
    refine lv_bipush (v := 10) hx hb dX6_isBlank_7 (by decide) ?_
    refine lv_icmp_ne (tgt := 16) hx hb dX6_isBlank_9 (by decide) (fun c_2 => ?_) (fun c_2 => ?_)
    · refine lv_iconst (v := 0) hx hb dX6_isBlank_16 (by decide) ?_
      exact K_z hx hb hr rfl hlocks hP hD hK hS hT hE ⟨⟨_, rfl, Or.inl rfl⟩, hF⟩ (Nat.le_of_ble_eq_true rfl) (Nat.le_of_ble_eq_true rfl) dX6_isBlank_17
    · refine lv_iconst (v := 1) hx hb dX6_isBlank_12 (by decide) ?_
      refine lv_goto (tgt := 17) hx hb dX6_isBlank_13 (by decide) ?_
      exact K_z hx hb hr rfl hlocks hP hD hK hS hT hE ⟨⟨_, rfl, Or.inr rfl⟩, hF⟩ (Nat.le_of_ble_eq_true rfl) (Nat.le_of_ble_eq_true rfl) dX6_isBlank_17

abbrev rm_X6_isLetter : Room := { frames := 0, cells := 0, slots := 0, locals := 0 }
set_option maxHeartbeats 800000 in
set_option maxRecDepth 100000 in
theorem t_X6_isLetter (l : Launch) (dC : Nat → ClassId) (dI : Nat → Nat → Nat) (sa : Nat → Nat) (hlt : l.stackTraces = false) (g : Nat → Nat) (L : List Nat) (f : Nat → va_E) (sg : Int32) (sz : Nat) (hT : TP g L f []) : KC l dC dI sa g yX6_isLetter wsX6_isLetter rm_X6_isLetter [.int sg] L f sz (fun r L' f' => (∃ z : Int32, r = some (.int z) ∧ (z = 0 ∨ z = 1)) ∧ Fr [] L f f') 0 0 := by
  refine CT.start (cc := cX6_isLetter) (maxL := 1) (ret := (some .boolean)) (by decide) rfl (Nat.le_of_ble_eq_true rfl) ?_
  intro p e s m below meth c ls hst hP hK hD hev hS hl
  obtain ⟨hx, hb, hr, hml, hts, hown, hlocks, hin⟩ := hst
  have hown : s.vm.findClass RX6 = some m.cls := hown
  have hin : meth.name = yX6_isLetter.name := hin
  have hA : ∀ q : Nat, s.heap.size ≤ q → va_A (va_pl L f) s.heap.size q := fun _ h => Or.inr h
  have hE : Ext L f L f := Ext.rf
  have hF : Fr [] L f f := Fr.rf
  have hl : lv_has ls 1 [(0, .int sg)] := hl
  refine lv_iload_n hx hb dX6_isLetter_0 rfl (lv_at hl 0 rfl) ?_
  refine lv_bipush (v := 97) hx hb dX6_isLetter_1 (by decide) ?_
  refine lv_icmp_lt (tgt := 16) hx hb dX6_isLetter_3 (by decide) (fun c_1 => ?_) (fun c_1 => ?_)
  · refine lv_iconst (v := 0) hx hb dX6_isLetter_16 (by decide) ?_
    exact K_z hx hb hr rfl hlocks hP hD hK hS hT hE ⟨⟨_, rfl, Or.inl rfl⟩, hF⟩ (Nat.le_of_ble_eq_true rfl) (Nat.le_of_ble_eq_true rfl) dX6_isLetter_17
  · refine lv_iload_n hx hb dX6_isLetter_6 rfl (lv_at hl 0 rfl) ?_
    refine lv_bipush (v := 122) hx hb dX6_isLetter_7 (by decide) ?_
    refine lv_icmp_gt (tgt := 16) hx hb dX6_isLetter_9 (by decide) (fun c_2 => ?_) (fun c_2 => ?_)
    · refine lv_iconst (v := 0) hx hb dX6_isLetter_16 (by decide) ?_
      exact K_z hx hb hr rfl hlocks hP hD hK hS hT hE ⟨⟨_, rfl, Or.inl rfl⟩, hF⟩ (Nat.le_of_ble_eq_true rfl) (Nat.le_of_ble_eq_true rfl) dX6_isLetter_17
    · refine lv_iconst (v := 1) hx hb dX6_isLetter_12 (by decide) ?_
      refine lv_goto (tgt := 17) hx hb dX6_isLetter_13 (by decide) ?_
      exact K_z hx hb hr rfl hlocks hP hD hK hS hT hE ⟨⟨_, rfl, Or.inr rfl⟩, hF⟩ (Nat.le_of_ble_eq_true rfl) (Nat.le_of_ble_eq_true rfl) dX6_isLetter_17

abbrev rm_X6_isDigit : Room := { frames := 0, cells := 0, slots := 0, locals := 0 }
set_option maxHeartbeats 800000 in
set_option maxRecDepth 100000 in
theorem t_X6_isDigit (l : Launch) (dC : Nat → ClassId) (dI : Nat → Nat → Nat) (sa : Nat → Nat) (hlt : l.stackTraces = false) (g : Nat → Nat) (L : List Nat) (f : Nat → va_E) (sg : Int32) (sz : Nat) (hT : TP g L f []) : KC l dC dI sa g yX6_isDigit wsX6_isDigit rm_X6_isDigit [.int sg] L f sz (fun r L' f' => (∃ z : Int32, r = some (.int z) ∧ (z = 0 ∨ z = 1)) ∧ Fr [] L f f') 0 0 := by
  refine CT.start (cc := cX6_isDigit) (maxL := 1) (ret := (some .boolean)) (by decide) rfl (Nat.le_of_ble_eq_true rfl) ?_
  intro p e s m below meth c ls hst hP hK hD hev hS hl
  obtain ⟨hx, hb, hr, hml, hts, hown, hlocks, hin⟩ := hst
  have hown : s.vm.findClass RX6 = some m.cls := hown
  have hin : meth.name = yX6_isDigit.name := hin
  have hA : ∀ q : Nat, s.heap.size ≤ q → va_A (va_pl L f) s.heap.size q := fun _ h => Or.inr h
  have hE : Ext L f L f := Ext.rf
  have hF : Fr [] L f f := Fr.rf
  have hl : lv_has ls 1 [(0, .int sg)] := hl
  refine lv_iload_n hx hb dX6_isDigit_0 rfl (lv_at hl 0 rfl) ?_
  refine lv_bipush (v := 48) hx hb dX6_isDigit_1 (by decide) ?_
  refine lv_icmp_lt (tgt := 16) hx hb dX6_isDigit_3 (by decide) (fun c_1 => ?_) (fun c_1 => ?_)
  · refine lv_iconst (v := 0) hx hb dX6_isDigit_16 (by decide) ?_
    exact K_z hx hb hr rfl hlocks hP hD hK hS hT hE ⟨⟨_, rfl, Or.inl rfl⟩, hF⟩ (Nat.le_of_ble_eq_true rfl) (Nat.le_of_ble_eq_true rfl) dX6_isDigit_17
  · refine lv_iload_n hx hb dX6_isDigit_6 rfl (lv_at hl 0 rfl) ?_
    refine lv_bipush (v := 57) hx hb dX6_isDigit_7 (by decide) ?_
    refine lv_icmp_gt (tgt := 16) hx hb dX6_isDigit_9 (by decide) (fun c_2 => ?_) (fun c_2 => ?_)
    · refine lv_iconst (v := 0) hx hb dX6_isDigit_16 (by decide) ?_
      exact K_z hx hb hr rfl hlocks hP hD hK hS hT hE ⟨⟨_, rfl, Or.inl rfl⟩, hF⟩ (Nat.le_of_ble_eq_true rfl) (Nat.le_of_ble_eq_true rfl) dX6_isDigit_17
    · refine lv_iconst (v := 1) hx hb dX6_isDigit_12 (by decide) ?_
      refine lv_goto (tgt := 17) hx hb dX6_isDigit_13 (by decide) ?_
      exact K_z hx hb hr rfl hlocks hP hD hK hS hT hE ⟨⟨_, rfl, Or.inr rfl⟩, hF⟩ (Nat.le_of_ble_eq_true rfl) (Nat.le_of_ble_eq_true rfl) dX6_isDigit_17

abbrev rm_X6_isSign : Room := { frames := 0, cells := 0, slots := 0, locals := 0 }
set_option maxHeartbeats 800000 in
set_option maxRecDepth 100000 in
theorem t_X6_isSign (l : Launch) (dC : Nat → ClassId) (dI : Nat → Nat → Nat) (sa : Nat → Nat) (hlt : l.stackTraces = false) (g : Nat → Nat) (L : List Nat) (f : Nat → va_E) (sg : Int32) (sz : Nat) (hT : TP g L f []) : KC l dC dI sa g yX6_isSign wsX6_isSign rm_X6_isSign [.int sg] L f sz (fun r L' f' => (∃ z : Int32, r = some (.int z) ∧ (z = 0 ∨ z = 1)) ∧ Fr [] L f f') 0 0 := by
  refine CT.start (cc := cX6_isSign) (maxL := 1) (ret := (some .boolean)) (by decide) rfl (Nat.le_of_ble_eq_true rfl) ?_
  intro p e s m below meth c ls hst hP hK hD hev hS hl
  obtain ⟨hx, hb, hr, hml, hts, hown, hlocks, hin⟩ := hst
  have hown : s.vm.findClass RX6 = some m.cls := hown
  have hin : meth.name = yX6_isSign.name := hin
  have hA : ∀ q : Nat, s.heap.size ≤ q → va_A (va_pl L f) s.heap.size q := fun _ h => Or.inr h
  have hE : Ext L f L f := Ext.rf
  have hF : Fr [] L f f := Fr.rf
  have hl : lv_has ls 1 [(0, .int sg)] := hl
  refine lv_iload_n hx hb dX6_isSign_0 rfl (lv_at hl 0 rfl) ?_
  refine lv_bipush (v := 59) hx hb dX6_isSign_1 (by decide) ?_
  refine lv_icmp_eq (tgt := 30) hx hb dX6_isSign_3 (by decide) (fun c_1 => ?_) (fun c_1 => ?_)
  · refine lv_iconst (v := 1) hx hb dX6_isSign_30 (by decide) ?_
    refine lv_goto (tgt := 35) hx hb dX6_isSign_31 (by decide) ?_
    exact K_z hx hb hr rfl hlocks hP hD hK hS hT hE ⟨⟨_, rfl, Or.inr rfl⟩, hF⟩ (Nat.le_of_ble_eq_true rfl) (Nat.le_of_ble_eq_true rfl) dX6_isSign_35
  · refine lv_iload_n hx hb dX6_isSign_6 rfl (lv_at hl 0 rfl) ?_
    refine lv_bipush (v := 123) hx hb dX6_isSign_7 (by decide) ?_
    refine lv_icmp_eq (tgt := 30) hx hb dX6_isSign_9 (by decide) (fun c_2 => ?_) (fun c_2 => ?_)
    · refine lv_iconst (v := 1) hx hb dX6_isSign_30 (by decide) ?_
      refine lv_goto (tgt := 35) hx hb dX6_isSign_31 (by decide) ?_
      exact K_z hx hb hr rfl hlocks hP hD hK hS hT hE ⟨⟨_, rfl, Or.inr rfl⟩, hF⟩ (Nat.le_of_ble_eq_true rfl) (Nat.le_of_ble_eq_true rfl) dX6_isSign_35
    · refine lv_iload_n hx hb dX6_isSign_12 rfl (lv_at hl 0 rfl) ?_
      refine lv_bipush (v := 125) hx hb dX6_isSign_13 (by decide) ?_
      refine lv_icmp_eq (tgt := 30) hx hb dX6_isSign_15 (by decide) (fun c_3 => ?_) (fun c_3 => ?_)
      · refine lv_iconst (v := 1) hx hb dX6_isSign_30 (by decide) ?_
        refine lv_goto (tgt := 35) hx hb dX6_isSign_31 (by decide) ?_
        exact K_z hx hb hr rfl hlocks hP hD hK hS hT hE ⟨⟨_, rfl, Or.inr rfl⟩, hF⟩ (Nat.le_of_ble_eq_true rfl) (Nat.le_of_ble_eq_true rfl) dX6_isSign_35
      · refine lv_iload_n hx hb dX6_isSign_18 rfl (lv_at hl 0 rfl) ?_
        refine lv_bipush (v := 60) hx hb dX6_isSign_19 (by decide) ?_
        refine lv_icmp_eq (tgt := 30) hx hb dX6_isSign_21 (by decide) (fun c_4 => ?_) (fun c_4 => ?_)
        · refine lv_iconst (v := 1) hx hb dX6_isSign_30 (by decide) ?_
          refine lv_goto (tgt := 35) hx hb dX6_isSign_31 (by decide) ?_
          exact K_z hx hb hr rfl hlocks hP hD hK hS hT hE ⟨⟨_, rfl, Or.inr rfl⟩, hF⟩ (Nat.le_of_ble_eq_true rfl) (Nat.le_of_ble_eq_true rfl) dX6_isSign_35
        · refine lv_iload_n hx hb dX6_isSign_24 rfl (lv_at hl 0 rfl) ?_
          refine lv_bipush (v := 61) hx hb dX6_isSign_25 (by decide) ?_
          refine lv_icmp_ne (tgt := 34) hx hb dX6_isSign_27 (by decide) (fun c_5 => ?_) (fun c_5 => ?_)
          · refine lv_iconst (v := 0) hx hb dX6_isSign_34 (by decide) ?_
            exact K_z hx hb hr rfl hlocks hP hD hK hS hT hE ⟨⟨_, rfl, Or.inl rfl⟩, hF⟩ (Nat.le_of_ble_eq_true rfl) (Nat.le_of_ble_eq_true rfl) dX6_isSign_35
          · refine lv_iconst (v := 1) hx hb dX6_isSign_30 (by decide) ?_
            refine lv_goto (tgt := 35) hx hb dX6_isSign_31 (by decide) ?_
            exact K_z hx hb hr rfl hlocks hP hD hK hS hT hE ⟨⟨_, rfl, Or.inr rfl⟩, hF⟩ (Nat.le_of_ble_eq_true rfl) (Nat.le_of_ble_eq_true rfl) dX6_isSign_35

abbrev rm_X6_keep : Room := { frames := 0, cells := 0, slots := 0, locals := 0 }
theorem inw_X6_keep_6 : ∀ w ∈ wsX60, w ∈ wsX6_keep := by decide +kernel
set_option maxHeartbeats 800000 in
set_option maxRecDepth 100000 in
theorem t_X6_keep (l : Launch) (dC : Nat → ClassId) (dI : Nat → Nat → Nat) (sa : Nat → Nat) (hlt : l.stackTraces = false) (g : Nat → Nat) (L : List Nat) (f : Nat → va_E) (h0 : Nat) (kd : Int32) (sr : Int32) (va : Int32) (sz : Nat) (hT : TP g L f [(h0, (0, 6, 0))]) : KC l dC dI sa g yX6_keep wsX6_keep rm_X6_keep [.ref h0, .int kd, .int sr, .int va] L f sz (fun r L' f' => (r = none) ∧ Fr [(6, 3)] L f f') 0 0 := by
  refine CT.start (cc := cX6_keep) (maxL := 4) (ret := none) (by decide) rfl (Nat.le_of_ble_eq_true rfl) ?_
  intro p e s m below meth c ls hst hP hK hD hev hS hl
  obtain ⟨hx, hb, hr, hml, hts, hown, hlocks, hin⟩ := hst
  have hown : s.vm.findClass RX6 = some m.cls := hown
  have hin : meth.name = yX6_keep.name := hin
  have hA : ∀ q : Nat, s.heap.size ≤ q → va_A (va_pl L f) s.heap.size q := fun _ h => Or.inr h
  have hE : Ext L f L f := Ext.rf
  have hF : Fr [(6, 3)] L f f := Fr.rf
  have hl : lv_has ls 4 [(0, .ref h0), (1, .int kd), (2, .int sr), (3, .int va)] := hl
  refine lv_aload_n hx hb dX6_keep_0 rfl (lv_at hl 0 rfl) ?_
  refine T_get (ci := 6) (C := RX6) (T := TX6) (N := 7) (t := tI) hx hb hts inw_X6_keep_6 hown hK hP hT 0 rfl rfl 3 (by decide) (hts (.fieldLink RX6 41 "VatHouse$Tokens" "size" "I") (by decide +kernel)) (fun _ h9 => h9) rfl dX6_keep_1 (fun v_3 hv_1 hr_2 => ?_)
  obtain ⟨z_4, rfl⟩ := hv_1
  refine lv_if_lt (tgt := 59) hx hb dX6_keep_4 (by decide) (fun c_5 => ?_) (fun c_5 => ?_)
  · exact K_v hx hb hr hlocks hP hD hK hS hT hE ⟨rfl, hF⟩ (Nat.le_of_ble_eq_true rfl) (Nat.le_of_ble_eq_true rfl) dX6_keep_59
  · refine lv_aload_n hx hb dX6_keep_7 rfl (lv_at hl 0 rfl) ?_
    refine T_get (ci := 6) (C := RX6) (T := TX6) (N := 7) (t := tI) hx hb hts inw_X6_keep_6 hown hK hP hT 0 rfl rfl 3 (by decide) (hts (.fieldLink RX6 41 "VatHouse$Tokens" "size" "I") (by decide +kernel)) (fun _ h9 => h9) rfl dX6_keep_8 (fun v_8 hv_6 hr_7 => ?_)
    obtain rfl : v_8 = .int z_4 := hr_7.symm.trans hr_2
    refine lv_aload_n hx hb dX6_keep_11 rfl (lv_at hl 0 rfl) ?_
    refine T_get (ci := 6) (C := RX6) (T := TX6) (N := 7) (t := (1, 1, g 0, 1501)) hx hb hts inw_X6_keep_6 hown hK hP hT 0 rfl rfl 4 (by decide) (hts (.fieldLink RX6 9 "VatHouse$Tokens" "kinds" "[I") (by decide +kernel)) (fun _ h9 => h9) rfl dX6_keep_12 (fun v_11 hv_9 hr_10 => ?_)
    obtain ⟨b_12, rfl, hb9⟩ := hv_9
    have hT := hT.add hb9
    refine T_alen hx hb hK hP hT 0 0 rfl rfl (v := 1501) rfl dX6_keep_15 ?_
    refine lv_icmp_ge (tgt := 59) hx hb dX6_keep_16 (by decide) (fun c_13 => ?_) (fun c_13 => ?_)
    · exact K_v hx hb hr hlocks hP hD hK hS hT hE ⟨rfl, hF⟩ (Nat.le_of_ble_eq_true rfl) (Nat.le_of_ble_eq_true rfl) dX6_keep_59
    · refine lv_aload_n hx hb dX6_keep_19 rfl (lv_at hl 0 rfl) ?_
      refine T_get (ci := 6) (C := RX6) (T := TX6) (N := 7) (t := (1, 1, g 0, 1501)) hx hb hts inw_X6_keep_6 hown hK hP hT 1 rfl rfl 4 (by decide) (hts (.fieldLink RX6 9 "VatHouse$Tokens" "kinds" "[I") (by decide +kernel)) (fun _ h9 => h9) rfl dX6_keep_20 (fun v_16 hv_14 hr_15 => ?_)
      obtain rfl : v_16 = .ref b_12 := hr_15.symm.trans hr_10
      refine lv_aload_n hx hb dX6_keep_23 rfl (lv_at hl 0 rfl) ?_
      refine T_get (ci := 6) (C := RX6) (T := TX6) (N := 7) (t := tI) hx hb hts inw_X6_keep_6 hown hK hP hT 1 rfl rfl 3 (by decide) (hts (.fieldLink RX6 41 "VatHouse$Tokens" "size" "I") (by decide +kernel)) (fun _ h9 => h9) rfl dX6_keep_24 (fun v_19 hv_17 hr_18 => ?_)
      obtain rfl : v_19 = .int z_4 := hr_18.symm.trans hr_2
      refine lv_iload_n hx hb dX6_keep_27 rfl (lv_at hl 1 rfl) ?_
      have hTo := hT
      refine T_iast hx hb hK hP hD hS hT 0 0 rfl rfl (vin 1501 (by decide) rfl (by assumption) (by assumption)) dX6_keep_28 (fun f_20 H locs hP hD hS hT hE1 hrd_21 => ?_)
      have hF := hF.arr hrd_21
      have hE := hE.tr hE1
      have hk_22 : rd f_20 h0 3 = .int z_4 := (hrd_21 h0 3).trans hr_2
      refine lv_aload_n hx hb dX6_keep_29 rfl (lv_at hl 0 rfl) ?_
      refine T_get (ci := 6) (C := RX6) (T := TX6) (N := 7) (t := (1, 1, g 5, 1501)) hx hb hts inw_X6_keep_6 hown hK hP hT 1 rfl rfl 5 (by decide) (hts (.fieldLink RX6 15 "VatHouse$Tokens" "starts" "[I") (by decide +kernel)) (fun _ h9 => h9) rfl dX6_keep_30 (fun v_25 hv_23 hr_24 => ?_)
      obtain ⟨b_26, rfl, hb9⟩ := hv_23
      have hT := hT.add hb9
      refine lv_aload_n hx hb dX6_keep_33 rfl (lv_at hl 0 rfl) ?_
      refine T_get (ci := 6) (C := RX6) (T := TX6) (N := 7) (t := tI) hx hb hts inw_X6_keep_6 hown hK hP hT 2 rfl rfl 3 (by decide) (hts (.fieldLink RX6 41 "VatHouse$Tokens" "size" "I") (by decide +kernel)) (fun _ h9 => h9) rfl dX6_keep_34 (fun v_29 hv_27 hr_28 => ?_)
      obtain rfl : v_29 = .int z_4 := hr_28.symm.trans hk_22
      refine lv_iload_n hx hb dX6_keep_37 rfl (lv_at hl 2 rfl) ?_
      have hTo := hT
      refine T_iast hx hb hK hP hD hS hT 0 5 rfl rfl (vin 1501 (by decide) rfl (by assumption) (by assumption)) dX6_keep_38 (fun f_30 H locs hP hD hS hT hE1 hrd_31 => ?_)
      have hF := hF.arr hrd_31
      have hE := hE.tr hE1
      have hk_32 : rd f_30 h0 3 = .int z_4 := (hrd_31 h0 3).trans hk_22
      refine lv_aload_n hx hb dX6_keep_39 rfl (lv_at hl 0 rfl) ?_
      refine T_get (ci := 6) (C := RX6) (T := TX6) (N := 7) (t := (1, 1, g 6, 1501)) hx hb hts inw_X6_keep_6 hown hK hP hT 2 rfl rfl 6 (by decide) (hts (.fieldLink RX6 18 "VatHouse$Tokens" "values" "[I") (by decide +kernel)) (fun _ h9 => h9) rfl dX6_keep_40 (fun v_35 hv_33 hr_34 => ?_)
      obtain ⟨b_36, rfl, hb9⟩ := hv_33
      have hT := hT.add hb9
      refine lv_aload_n hx hb dX6_keep_43 rfl (lv_at hl 0 rfl) ?_
      refine T_get (ci := 6) (C := RX6) (T := TX6) (N := 7) (t := tI) hx hb hts inw_X6_keep_6 hown hK hP hT 3 rfl rfl 3 (by decide) (hts (.fieldLink RX6 41 "VatHouse$Tokens" "size" "I") (by decide +kernel)) (fun _ h9 => h9) rfl dX6_keep_44 (fun v_39 hv_37 hr_38 => ?_)
      obtain rfl : v_39 = .int z_4 := hr_38.symm.trans hk_32
      refine lv_iload_n hx hb dX6_keep_47 rfl (lv_at hl 3 rfl) ?_
      have hTo := hT
      refine T_iast hx hb hK hP hD hS hT 0 6 rfl rfl (vin 1501 (by decide) rfl (by assumption) (by assumption)) dX6_keep_48 (fun f_40 H locs hP hD hS hT hE1 hrd_41 => ?_)
      have hF := hF.arr hrd_41
      have hE := hE.tr hE1
      have hk_42 : rd f_40 h0 3 = .int z_4 := (hrd_41 h0 3).trans hk_32
      refine lv_aload_n hx hb dX6_keep_49 rfl (lv_at hl 0 rfl) ?_
      refine lv_dup hx hb dX6_keep_50 rfl ?_
      refine T_get (ci := 6) (C := RX6) (T := TX6) (N := 7) (t := tI) hx hb hts inw_X6_keep_6 hown hK hP hT 3 rfl rfl 3 (by decide) (hts (.fieldLink RX6 41 "VatHouse$Tokens" "size" "I") (by decide +kernel)) (fun _ h9 => h9) rfl dX6_keep_51 (fun v_45 hv_43 hr_44 => ?_)
      obtain rfl : v_45 = .int z_4 := hr_44.symm.trans hk_42
      refine lv_iconst (v := 1) hx hb dX6_keep_54 (by decide) ?_
      refine lv_iadd hx hb dX6_keep_55 ?_
      refine lv_topi (fun z_46 ez_46 => ?_)
      have hTo := hT
      refine T_put (ci := 6) (v := .int z_46) (ty := .int) (t := tI) (C := RX6) (T := TX6) (N := 7) hx hb hts inw_X6_keep_6 tyX6 tyX6_ok nmX6 hown hK hP hD hS hT 3 rfl rfl 3 (by decide) (hts (.fieldLink RX6 41 "VatHouse$Tokens" "size" "I") (by decide +kernel)) (fun _ h9 => h9) rfl (by decide +kernel) rfl rfl rfl ⟨_, rfl⟩ dX6_keep_56 (fun f_47 H locs hP hD hS hT hE1 hrd_48 => ?_)
      have hF := Fr.put (a := h0) (ci := 6) hF hE ((hE1 h0 (hT.at 3 rfl).1).2.symm.trans (hT.at 3 rfl).2) (by decide) hrd_48
      have hE := hE.tr hE1
      have hk_49 : rd f_47 h0 3 = .int z_46 := (hrd_48 h0 3).trans (if_pos ⟨rfl, rfl⟩)
      exact K_v hx hb hr hlocks hP hD hK hS hT hE ⟨rfl, hF⟩ (Nat.le_of_ble_eq_true rfl) (Nat.le_of_ble_eq_true rfl) dX6_keep_59

abbrev rm_X6_isWord : Room := { frames := 4, cells := 0, slots := 0, locals := 141 }
theorem inw_X6_isWord_6 : ∀ w ∈ wsX60, w ∈ wsX6_isWord := by decide +kernel
set_option maxHeartbeats 800000 in
set_option maxRecDepth 100000 in
theorem t_X6_isWord (l : Launch) (dC : Nat → ClassId) (dI : Nat → Nat → Nat) (sa : Nat → Nat) (hlt : l.stackTraces = false) (g : Nat → Nat) (L : List Nat) (f : Nat → va_E) (h0 : Nat) (wq : Int32) (we : Int32) (sr : Int32) (sz : Nat) (hT : TP g L f [(h0, (0, 6, 0))]) (hw : ∃ a : Nat, wq = nI a ∧ a ≤ 94) (he : ∃ b : Nat, we = nI b ∧ b ≤ 94) : KC l dC dI sa g yX6_isWord wsX6_isWord rm_X6_isWord [.ref h0, .int wq, .int we, .int sr] L f sz (fun r L' f' => (∃ z : Int32, r = some (.int z) ∧ (z = 0 ∨ z = 1)) ∧ Fr [] L f f') 0 0 := by
  refine CT.start (cc := cX6_isWord) (maxL := 5) (ret := (some .boolean)) (by decide) rfl (Nat.le_of_ble_eq_true rfl) ?_
  intro p e s m below meth c ls hst hP hK hD hev hS hl
  obtain ⟨hx, hb, hr, hml, hts, hown, hlocks, hin⟩ := hst
  have hown : s.vm.findClass RX6 = some m.cls := hown
  have hin : meth.name = yX6_isWord.name := hin
  have hA : ∀ q : Nat, s.heap.size ≤ q → va_A (va_pl L f) s.heap.size q := fun _ h => Or.inr h
  have hE : Ext L f L f := Ext.rf
  have hF : Fr [] L f f := Fr.rf
  have hl : lv_has ls 5 [(0, .ref h0), (1, .int wq), (2, .int we), (3, .int sr)] := hl
  refine lv_iload_n hx hb dX6_isWord_0 rfl (lv_at hl 2 rfl) ?_
  refine lv_iload_n hx hb dX6_isWord_1 rfl (lv_at hl 1 rfl) ?_
  refine lv_isub hx hb dX6_isWord_2 ?_
  refine lv_topi (fun z_1 ez_1 => ?_)
  refine lv_aload_n hx hb dX6_isWord_3 rfl (lv_at hl 0 rfl) ?_
  refine T_get (ci := 6) (C := RX6) (T := TX6) (N := 7) (t := tI) hx hb hts inw_X6_isWord_6 hown hK hP hT 0 rfl rfl 2 (by decide) (hts (.fieldLink RX6 38 "VatHouse$Tokens" "at" "I") (by decide +kernel)) (fun _ h9 => h9) rfl dX6_isWord_4 (fun v_4 hv_2 hr_3 => ?_)
  obtain ⟨z_5, rfl⟩ := hv_2
  refine lv_iload_n hx hb dX6_isWord_7 rfl (lv_at hl 3 rfl) ?_
  refine lv_isub hx hb dX6_isWord_8 ?_
  refine lv_topi (fun z_6 ez_6 => ?_)
  refine lv_icmp_eq (tgt := 14) hx hb dX6_isWord_9 (by decide) (fun c_7 => ?_) (fun c_7 => ?_)
  · refine lv_iload_n hx hb dX6_isWord_14 rfl (lv_at hl 1 rfl) ?_
    refine lv_istore (lv' := [(4, .int wq), (0, .ref h0), (1, .int wq), (2, .int we), (3, .int sr)]) hx hb dX6_isWord_15 hl (by decide) rfl (fun ls hl => ?_)
    have lp : ∀ (n : Nat) (ii : Int32) (L1 : List Nat) (f1 : Nat → va_E) (H : Heap) (locs : List Loc) (ls : Array Slot), (∃ a : Nat, ii = nI a ∧ a ≤ 94 ∧ 94 < a + n) → va_P (dC, dI) vwCl (va_pl L1 f1) H → va_D (va_A (va_pl L f) s.heap.size) (va_pl L1 f1) → va_S (va_A (va_pl L f) s.heap.size) s.heap H locs → TP g L1 f1 [(h0, (0, 6, 0))] → Ext L f L1 f1 → Fr [] L f f1 → lv_has ls 5 [(4, .int ii), (0, .ref h0), (1, .int wq), (2, .int we), (3, .int sr)] → W p l e rm_X6_isWord s m [.ref h0, .int wq, .int we, .int sr].toArray below meth c H locs 0 0 (MQ below (Qg (kpost g L f (fun r L' f' => (∃ z : Int32, r = some (.int z) ∧ (z = 0 ∨ z = 1)) ∧ Fr [] L f f')) (fun (u : PL) t => QW dC dI (va_A (va_pl L f) s.heap.size) (va_pl u.1 u.2) [] t) (va_A (va_pl L f) s.heap.size)) [.ref h0, .int wq, .int we, .int sr].toArray s (0) (0) (va_A (va_pl L f) s.heap.size)) (F0 m 17 ls []) := by
      intro n
      induction n with
      | zero => intro ii L1 f1 H locs ls hm  hP hD hS hT hE hF hl; exact absurd hm (by rintro ⟨a, -, h1, h2⟩; omega)
      | succ n ih =>
        intro ii L1 f1 H locs ls hm  hP hD hS hT hE hF hl
        refine lv_iload hx hb dX6_isWord_17 (lv_at hl 0 rfl) ?_
        refine lv_iload_n hx hb dX6_isWord_19 rfl (lv_at hl 3 rfl) ?_
        refine lv_icmp_ge (tgt := 51) hx hb dX6_isWord_20 (by decide) (fun c_8 => ?_) (fun c_8 => ?_)
        · refine lv_iconst (v := 1) hx hb dX6_isWord_51 (by decide) ?_
          exact K_z hx hb hr rfl hlocks hP hD hK hS hT hE ⟨⟨_, rfl, Or.inr rfl⟩, hF⟩ (Nat.le_of_ble_eq_true rfl) (Nat.le_of_ble_eq_true rfl) dX6_isWord_52
        · refine va_ldcS (own := RX6) (tx := "dip air wash rest feed lime fail times until if try do else last shade loose grains food hour ") (index := 77) (q := sa (5 + 19)) hx hb hown (hev.2.2.2.2.2.2.2.2 19 (RX6, 77, "dip air wash rest feed lime fail times until if try do else last shade loose grains food hour ") rfl) dX6_isWord_23 ?_
          refine lv_iload hx hb dX6_isWord_25 (lv_at hl 0 rfl) ?_
          obtain ⟨ks_9, hks_10, hks_11⟩ : ∃ k : Nat, ii = nI k ∧ k < lenS.getD 19 0 := by obtain ⟨a, h1, h2, h3⟩ := hm; exact ⟨a, h1, up_lt (by decide) h1 h2 (by obtain ⟨b, g1, g2⟩ := he; rw [g1]; exact nI_le g2 (by decide)) c_8⟩
          refine pu_V (i := 19) (v := some (.int (chS 19 ks_9))) ⟨hx, hb, hml, hown, hts⟩ (pu_charAtX l dC dI sa 19 ks_9 ii _ hks_10 (by decide) hks_11) (cwV 1 hts gX6_isWord_J0_charAt_5068e rfl rfl rfl (by decide +kernel) ⟨Nat.le_of_ble_eq_true rfl, Nat.le_of_ble_eq_true rfl⟩) hP hK hS hA hev (by decide) rfl hl.1 rfl (Nat.le_of_ble_eq_true rfl) dX6_isWord_27 ⟨Nat.le_of_ble_eq_true rfl, Nat.le_of_ble_eq_true rfl⟩ (fun H locs hP hS => ?_)
          refine W.eq (g2 := F0 m 30 ls [.int (chS 19 ks_9)]) rfl ?_
          refine lv_topi (fun z_12 ez_12 => ?_)
          refine lv_aload_n hx hb dX6_isWord_30 rfl (lv_at hl 1 rfl) ?_
          refine lv_iload_n hx hb dX6_isWord_31 rfl (lv_at hl 4 rfl) ?_
          refine lv_iload hx hb dX6_isWord_32 (lv_at hl 0 rfl) ?_
          refine lv_iadd hx hb dX6_isWord_34 ?_
          refine lv_topi (fun z_13 ez_13 => ?_)
          refine lv_iload_n hx hb dX6_isWord_35 rfl (lv_at hl 2 rfl) ?_
          refine lv_isub hx hb dX6_isWord_36 ?_
          refine lv_topi (fun z_14 ez_14 => ?_)
          refine K_V ⟨hx, hb, hml, hown, hts⟩ (t_X6_byteAt l dC dI sa hlt g _ _ h0 z_14 _ (hT.sub [0] rfl)  ) (cwV 1 hts gX6_isWord_X6_byteAt rfl rfl rfl (by decide +kernel) ⟨Nat.le_of_ble_eq_true rfl, Nat.le_of_ble_eq_true rfl⟩) hP hD hK hS hA hev hT 0 6 rfl rfl rfl rfl hl.1 rfl (Nat.le_of_ble_eq_true rfl) dX6_isWord_37 ⟨Nat.le_of_ble_eq_true rfl, Nat.le_of_ble_eq_true rfl⟩ (fun r L_15 f_16 H locs hw_17 hP hD hS hT hE1 => ?_)
          have hF := Fr.call hF hE hw_17.2 (by decide)
          have hE := hE.tr hE1
          obtain ⟨⟨z_18, rfl⟩, hw_17⟩ := hw_17
          refine W.eq (g2 := F0 m 40 ls [.int z_18, .int z_12]) rfl ?_
          refine lv_icmp_eq (tgt := 45) hx hb dX6_isWord_40 (by decide) (fun c_19 => ?_) (fun c_19 => ?_)
          · refine lv_iinc (v := (ii + 1)) (lv' := [(4, .int (ii + 1)), (0, .ref h0), (1, .int wq), (2, .int we), (3, .int sr)]) hx hb dX6_isWord_45 hl (k := 0) rfl rfl (by decide) rfl (fun ls hl => ?_)
            refine lv_goto (tgt := 17) hx hb dX6_isWord_48 (by decide) ?_
            exact ih (ii + 1) _ _ _ _ _ (up_nx (by decide) hm (by obtain ⟨b, h1, h2⟩ := he; rw [h1]; exact nI_le h2 (by decide)) c_8)  hP hD hS (hT.sub [0] rfl) hE hF (lv_sub hl [0, 1, 2, 3, 4] rfl)
          · refine lv_iconst (v := 0) hx hb dX6_isWord_43 (by decide) ?_
            exact K_z hx hb hr rfl hlocks hP hD hK hS hT hE ⟨⟨_, rfl, Or.inl rfl⟩, hF⟩ (Nat.le_of_ble_eq_true rfl) (Nat.le_of_ble_eq_true rfl) dX6_isWord_44
    exact lp 95 wq _ _ _ _ _ (by obtain ⟨a, h1, h2⟩ := hw; exact ⟨a, h1, h2, by omega⟩)  hP hD hS (hT.sub [0] rfl) hE hF (lv_sub hl [0, 1, 2, 3, 4] rfl)
  · refine lv_iconst (v := 0) hx hb dX6_isWord_12 (by decide) ?_
    exact K_z hx hb hr rfl hlocks hP hD hK hS hT hE ⟨⟨_, rfl, Or.inl rfl⟩, hF⟩ (Nat.le_of_ble_eq_true rfl) (Nat.le_of_ble_eq_true rfl) dX6_isWord_13

abbrev rm_X6_wordNumber : Room := { frames := 5, cells := 0, slots := 0, locals := 165 }
set_option maxHeartbeats 800000 in
set_option maxRecDepth 100000 in
theorem t_X6_wordNumber (l : Launch) (dC : Nat → ClassId) (dI : Nat → Nat → Nat) (sa : Nat → Nat) (hlt : l.stackTraces = false) (g : Nat → Nat) (L : List Nat) (f : Nat → va_E) (h0 : Nat) (sr : Int32) (sz : Nat) (hT : TP g L f [(h0, (0, 6, 0))]) : KC l dC dI sa g yX6_wordNumber wsX6_wordNumber rm_X6_wordNumber [.ref h0, .int sr] L f sz (fun r L' f' => (∃ z : Int32, r = some (.int z)) ∧ Fr [] L f f') 0 0 := by
  refine CT.start (cc := cX6_wordNumber) (maxL := 5) (ret := (some .int)) (by decide) rfl (Nat.le_of_ble_eq_true rfl) ?_
  intro p e s m below meth c ls hst hP hK hD hev hS hl
  obtain ⟨hx, hb, hr, hml, hts, hown, hlocks, hin⟩ := hst
  have hown : s.vm.findClass RX6 = some m.cls := hown
  have hin : meth.name = yX6_wordNumber.name := hin
  have hA : ∀ q : Nat, s.heap.size ≤ q → va_A (va_pl L f) s.heap.size q := fun _ h => Or.inr h
  have hE : Ext L f L f := Ext.rf
  have hF : Fr [] L f f := Fr.rf
  have hl : lv_has ls 5 [(0, .ref h0), (1, .int sr)] := hl
  refine lv_iconst (v := 1) hx hb dX6_wordNumber_0 (by decide) ?_
  refine lv_istore_n (lv' := [(2, .int 1), (0, .ref h0), (1, .int sr)]) hx hb dX6_wordNumber_1 rfl hl (by decide) rfl (fun ls hl => ?_)
  refine lv_iconst (v := 0) hx hb dX6_wordNumber_2 (by decide) ?_
  refine lv_istore_n (lv' := [(3, .int 0), (2, .int 1), (0, .ref h0), (1, .int sr)]) hx hb dX6_wordNumber_3 rfl hl (by decide) rfl (fun ls hl => ?_)
  refine lv_iconst (v := 0) hx hb dX6_wordNumber_4 (by decide) ?_
  refine lv_istore (lv' := [(4, .int 0), (3, .int 0), (2, .int 1), (0, .ref h0), (1, .int sr)]) hx hb dX6_wordNumber_5 hl (by decide) rfl (fun ls hl => ?_)
  have lp : ∀ (n : Nat) (nu : Int32) (wx : Int32) (ii : Int32) (L1 : List Nat) (f1 : Nat → va_E) (H : Heap) (locs : List Loc) (ls : Array Slot), (∃ a : Nat, ii = nI a ∧ a ≤ 94 ∧ 94 < a + n) → (∃ b : Nat, wx = nI b ∧ b ≤ 94) → va_P (dC, dI) vwCl (va_pl L1 f1) H → va_D (va_A (va_pl L f) s.heap.size) (va_pl L1 f1) → va_S (va_A (va_pl L f) s.heap.size) s.heap H locs → TP g L1 f1 [(h0, (0, 6, 0))] → Ext L f L1 f1 → Fr [] L f f1 → lv_has ls 5 [(2, .int nu), (3, .int wx), (4, .int ii), (0, .ref h0), (1, .int sr)] → W p l e rm_X6_wordNumber s m [.ref h0, .int sr].toArray below meth c H locs 0 0 (MQ below (Qg (kpost g L f (fun r L' f' => (∃ z : Int32, r = some (.int z)) ∧ Fr [] L f f')) (fun (u : PL) t => QW dC dI (va_A (va_pl L f) s.heap.size) (va_pl u.1 u.2) [] t) (va_A (va_pl L f) s.heap.size)) [.ref h0, .int sr].toArray s (0) (0) (va_A (va_pl L f) s.heap.size)) (F0 m 7 ls []) := by
    intro n
    induction n with
    | zero => intro nu wx ii L1 f1 H locs ls hm hws hP hD hS hT hE hF hl; exact absurd hm (by rintro ⟨a, -, h1, h2⟩; omega)
    | succ n ih =>
      intro nu wx ii L1 f1 H locs ls hm hws hP hD hS hT hE hF hl
      refine lv_iload hx hb dX6_wordNumber_7 (lv_at hl 2 rfl) ?_
      refine va_ldcS (own := RX6) (tx := "dip air wash rest feed lime fail times until if try do else last shade loose grains food hour ") (index := 77) (q := sa (5 + 19)) hx hb hown (hev.2.2.2.2.2.2.2.2 19 (RX6, 77, "dip air wash rest feed lime fail times until if try do else last shade loose grains food hour ") rfl) dX6_wordNumber_9 ?_
      refine pu_V (i := 19) (v := some (.int (nI (lenS.getD 19 0)))) ⟨hx, hb, hml, hown, hts⟩ (pu_length l dC dI sa 19 _ (by decide)) (cwV 0 hts gX6_wordNumber_J0_length_8abf5 rfl rfl rfl (by decide +kernel) ⟨Nat.le_of_ble_eq_true rfl, Nat.le_of_ble_eq_true rfl⟩) hP hK hS hA hev (by decide) rfl hl.1 rfl (Nat.le_of_ble_eq_true rfl) dX6_wordNumber_11 ⟨Nat.le_of_ble_eq_true rfl, Nat.le_of_ble_eq_true rfl⟩ (fun H locs hP hS => ?_)
      refine W.eq (g2 := F0 m 14 ls [.int (nI (lenS.getD 19 0)), .int ii]) rfl ?_
      refine lv_topi (fun z_1 ez_1 => ?_)
      obtain rfl : z_1 = 94 := ez_1.trans (by decide)
      refine lv_icmp_ge (tgt := 56) hx hb dX6_wordNumber_14 (by decide) (fun c_2 => ?_) (fun c_2 => ?_)
      · refine lv_bipush (v := (-3)) hx hb dX6_wordNumber_56 (by decide) ?_
        exact K_i hx hb hr hlocks hP hD hK hS hT hE ⟨⟨_, rfl⟩, hF⟩ (Nat.le_of_ble_eq_true rfl) (Nat.le_of_ble_eq_true rfl) dX6_wordNumber_58
      · refine va_ldcS (own := RX6) (tx := "dip air wash rest feed lime fail times until if try do else last shade loose grains food hour ") (index := 77) (q := sa (5 + 19)) hx hb hown (hev.2.2.2.2.2.2.2.2 19 (RX6, 77, "dip air wash rest feed lime fail times until if try do else last shade loose grains food hour ") rfl) dX6_wordNumber_17 ?_
        refine lv_iload hx hb dX6_wordNumber_19 (lv_at hl 2 rfl) ?_
        obtain ⟨ks_3, hks_4, hks_5⟩ : ∃ k : Nat, ii = nI k ∧ k < lenS.getD 19 0 := by obtain ⟨a, h1, h2, h3⟩ := hm; exact ⟨a, h1, up_lt (by decide) h1 h2 (by decide) c_2⟩
        refine pu_V (i := 19) (v := some (.int (chS 19 ks_3))) ⟨hx, hb, hml, hown, hts⟩ (pu_charAtX l dC dI sa 19 ks_3 ii _ hks_4 (by decide) hks_5) (cwV 1 hts gX6_wordNumber_J0_charAt_5068e rfl rfl rfl (by decide +kernel) ⟨Nat.le_of_ble_eq_true rfl, Nat.le_of_ble_eq_true rfl⟩) hP hK hS hA hev (by decide) rfl hl.1 rfl (Nat.le_of_ble_eq_true rfl) dX6_wordNumber_21 ⟨Nat.le_of_ble_eq_true rfl, Nat.le_of_ble_eq_true rfl⟩ (fun H locs hP hS => ?_)
        refine W.eq (g2 := F0 m 24 ls [.int (chS 19 ks_3)]) rfl ?_
        refine lv_topi (fun z_6 ez_6 => ?_)
        refine lv_bipush (v := 32) hx hb dX6_wordNumber_24 (by decide) ?_
        refine lv_icmp_ne (tgt := 50) hx hb dX6_wordNumber_26 (by decide) (fun c_7 => ?_) (fun c_7 => ?_)
        · refine lv_iinc (v := (ii + 1)) (lv' := [(4, .int (ii + 1)), (2, .int nu), (3, .int wx), (0, .ref h0), (1, .int sr)]) hx hb dX6_wordNumber_50 hl (k := 2) rfl rfl (by decide) rfl (fun ls hl => ?_)
          refine lv_goto (tgt := 7) hx hb dX6_wordNumber_53 (by decide) ?_
          exact ih nu wx (ii + 1) _ _ _ _ _ (up_nx (by decide) hm (by decide) c_2) (hws) hP hD hS (hT.sub [0] rfl) hE hF (lv_sub hl [1, 2, 0, 3, 4] rfl)
        · refine lv_aload_n hx hb dX6_wordNumber_29 rfl (lv_at hl 3 rfl) ?_
          refine lv_iload_n hx hb dX6_wordNumber_30 rfl (lv_at hl 1 rfl) ?_
          refine lv_iload hx hb dX6_wordNumber_31 (lv_at hl 2 rfl) ?_
          refine lv_iload_n hx hb dX6_wordNumber_33 rfl (lv_at hl 4 rfl) ?_
          refine K_V ⟨hx, hb, hml, hown, hts⟩ (t_X6_isWord l dC dI sa hlt g _ _ h0 wx ii sr _ (hT.sub [0] rfl)  hws (by obtain ⟨a, h1, h2, h3⟩ := hm; exact ⟨a, h1, h2⟩)) (cwV 3 hts gX6_wordNumber_X6_isWord rfl rfl rfl (by decide +kernel) ⟨Nat.le_of_ble_eq_true rfl, Nat.le_of_ble_eq_true rfl⟩) hP hD hK hS hA hev hT 0 6 rfl rfl rfl rfl hl.1 rfl (Nat.le_of_ble_eq_true rfl) dX6_wordNumber_34 ⟨Nat.le_of_ble_eq_true rfl, Nat.le_of_ble_eq_true rfl⟩ (fun r L_8 f_9 H locs hw_10 hP hD hS hT hE1 => ?_)
          have hF := Fr.call hF hE hw_10.2 (by decide)
          have hE := hE.tr hE1
          obtain ⟨⟨z_11, rfl, hz_z_11⟩, hw_10⟩ := hw_10
          refine W.eq (g2 := F0 m 37 ls [.int z_11]) rfl ?_
          refine lv_if_eq (tgt := 42) hx hb dX6_wordNumber_37 (by decide) (fun c_12 => ?_) (fun c_12 => ?_)
          · refine lv_iinc (v := (nu + 1)) (lv' := [(2, .int (nu + 1)), (3, .int wx), (4, .int ii), (0, .ref h0), (1, .int sr)]) hx hb dX6_wordNumber_42 hl (k := 0) rfl rfl (by decide) rfl (fun ls hl => ?_)
            refine lv_iload hx hb dX6_wordNumber_45 (lv_at hl 2 rfl) ?_
            refine lv_iconst (v := 1) hx hb dX6_wordNumber_47 (by decide) ?_
            refine lv_iadd hx hb dX6_wordNumber_48 ?_
            refine lv_topi (fun z_13 ez_13 => ?_)
            refine lv_istore_n (lv' := [(3, .int z_13), (2, .int (nu + 1)), (4, .int ii), (0, .ref h0), (1, .int sr)]) hx hb dX6_wordNumber_49 rfl hl (by decide) rfl (fun ls hl => ?_)
            refine lv_iinc (v := (ii + 1)) (lv' := [(4, .int (ii + 1)), (3, .int z_13), (2, .int (nu + 1)), (0, .ref h0), (1, .int sr)]) hx hb dX6_wordNumber_50 hl (k := 2) rfl rfl (by decide) rfl (fun ls hl => ?_)
            refine lv_goto (tgt := 7) hx hb dX6_wordNumber_53 (by decide) ?_
            exact ih (nu + 1) z_13 (ii + 1) _ _ _ _ _ (up_nx (by decide) hm (by decide) c_2) (by obtain ⟨a, h1, h2, h3⟩ := hm; have h4 := up_lt (by decide) h1 h2 (by decide) c_2; exact ⟨a + 1, by rw [ez_13, h1]; exact nI_1 a, by omega⟩) hP hD hS (hT.sub [0] rfl) hE hF (lv_sub hl [2, 1, 0, 3, 4] rfl)
          · refine lv_iload_n hx hb dX6_wordNumber_40 rfl (lv_at hl 0 rfl) ?_
            exact K_i hx hb hr hlocks hP hD hK hS hT hE ⟨⟨_, rfl⟩, hF⟩ (Nat.le_of_ble_eq_true rfl) (Nat.le_of_ble_eq_true rfl) dX6_wordNumber_41
  exact lp 95 1 0 0 _ _ _ _ _ (⟨0, nI_0.symm, by omega, by omega⟩) (⟨0, nI_0.symm, by omega⟩) hP hD hS (hT.sub [0] rfl) hE hF (lv_sub hl [2, 1, 0, 3, 4] rfl)

abbrev rm_X6_addLetters : Room := { frames := 6, cells := 0, slots := 0, locals := 189 }
theorem inw_X6_addLetters_6 : ∀ w ∈ wsX60, w ∈ wsX6_addLetters := by decide +kernel
set_option maxHeartbeats 800000 in
set_option maxRecDepth 100000 in
theorem t_X6_addLetters (l : Launch) (dC : Nat → ClassId) (dI : Nat → Nat → Nat) (sa : Nat → Nat) (hlt : l.stackTraces = false) (g : Nat → Nat) (L : List Nat) (f : Nat → va_E) (h0 : Nat) (le : Int32) (a0 : Int32) (sz : Nat) (hT : TP g L f [(h0, (0, 6, 0))]) (hm_le : rd f h0 1 = .int le) (hm_a0 : rd f h0 2 = .int a0) : KC l dC dI sa g yX6_addLetters wsX6_addLetters rm_X6_addLetters [.ref h0] L f sz (fun r L' f' => (r = none) ∧ Fr [(6, 2), (6, 3)] L f f') 0 0 := by
  refine CT.start (cc := cX6_addLetters) (maxL := 2) (ret := none) (by decide) rfl (Nat.le_of_ble_eq_true rfl) ?_
  intro p e s m below meth c ls hst hP hK hD hev hS hl
  obtain ⟨hx, hb, hr, hml, hts, hown, hlocks, hin⟩ := hst
  have hown : s.vm.findClass RX6 = some m.cls := hown
  have hin : meth.name = yX6_addLetters.name := hin
  have hA : ∀ q : Nat, s.heap.size ≤ q → va_A (va_pl L f) s.heap.size q := fun _ h => Or.inr h
  have hE : Ext L f L f := Ext.rf
  have hF : Fr [(6, 2), (6, 3)] L f f := Fr.rf
  have hl : lv_has ls 2 [(0, .ref h0)] := hl
  refine lv_aload_n hx hb dX6_addLetters_0 rfl (lv_at hl 0 rfl) ?_
  refine T_get (ci := 6) (C := RX6) (T := TX6) (N := 7) (t := tI) hx hb hts inw_X6_addLetters_6 hown hK hP hT 0 rfl rfl 2 (by decide) (hts (.fieldLink RX6 38 "VatHouse$Tokens" "at" "I") (by decide +kernel)) (fun _ h9 => h9) rfl dX6_addLetters_1 (fun v_3 hv_1 hr_2 => ?_)
  obtain rfl : v_3 = .int a0 := hr_2.symm.trans hm_a0
  refine lv_istore_n (lv' := [(1, .int a0), (0, .ref h0)]) hx hb dX6_addLetters_4 rfl hl (by decide) rfl (fun ls hl => ?_)
  have lp : ∀ (n : Nat) (k1 : Int32) (L1 : List Nat) (f1 : Nat → va_E) (H : Heap) (locs : List Loc) (ls : Array Slot), ((le.toInt - k1.toInt).toNat < n) → rd f1 h0 1 = .int le → rd f1 h0 2 = .int k1 → va_P (dC, dI) vwCl (va_pl L1 f1) H → va_D (va_A (va_pl L f) s.heap.size) (va_pl L1 f1) → va_S (va_A (va_pl L f) s.heap.size) s.heap H locs → TP g L1 f1 [(h0, (0, 6, 0))] → Ext L f L1 f1 → Fr [(6, 2), (6, 3)] L f f1 → lv_has ls 2 [(1, .int a0), (0, .ref h0)] → W p l e rm_X6_addLetters s m [.ref h0].toArray below meth c H locs 0 0 (MQ below (Qg (kpost g L f (fun r L' f' => (r = none) ∧ Fr [(6, 2), (6, 3)] L f f')) (fun (u : PL) t => QW dC dI (va_A (va_pl L f) s.heap.size) (va_pl u.1 u.2) [] t) (va_A (va_pl L f) s.heap.size)) [.ref h0].toArray s (0) (0) (va_A (va_pl L f) s.heap.size)) (F0 m 5 ls []) := by
    intro n
    induction n with
    | zero => intro k1 L1 f1 H locs ls hm hk_h0_1 hk_h0_2 hP hD hS hT hE hF hl; exact absurd hm (by omega)
    | succ n ih =>
      intro k1 L1 f1 H locs ls hm hk_h0_1 hk_h0_2 hP hD hS hT hE hF hl
      refine lv_aload_n hx hb dX6_addLetters_5 rfl (lv_at hl 1 rfl) ?_
      refine T_get (ci := 6) (C := RX6) (T := TX6) (N := 7) (t := tI) hx hb hts inw_X6_addLetters_6 hown hK hP hT 0 rfl rfl 2 (by decide) (hts (.fieldLink RX6 38 "VatHouse$Tokens" "at" "I") (by decide +kernel)) (fun _ h9 => h9) rfl dX6_addLetters_6 (fun v_6 hv_4 hr_5 => ?_)
      obtain rfl : v_6 = .int k1 := hr_5.symm.trans hk_h0_2
      refine lv_aload_n hx hb dX6_addLetters_9 rfl (lv_at hl 1 rfl) ?_
      refine T_get (ci := 6) (C := RX6) (T := TX6) (N := 7) (t := tI) hx hb hts inw_X6_addLetters_6 hown hK hP hT 0 rfl rfl 1 (by decide) (hts (.fieldLink RX6 34 "VatHouse$Tokens" "length" "I") (by decide +kernel)) (fun _ h9 => h9) rfl dX6_addLetters_10 (fun v_9 hv_7 hr_8 => ?_)
      obtain rfl : v_9 = .int le := hr_8.symm.trans hk_h0_1
      refine lv_icmp_ge (tgt := 43) hx hb dX6_addLetters_13 (by decide) (fun c_10 => ?_) (fun c_10 => ?_)
      · refine lv_aload_n hx hb dX6_addLetters_43 rfl (lv_at hl 1 rfl) ?_
        refine lv_aload_n hx hb dX6_addLetters_44 rfl (lv_at hl 1 rfl) ?_
        refine lv_iload_n hx hb dX6_addLetters_45 rfl (lv_at hl 0 rfl) ?_
        have hTo := hT
        refine K_V ⟨hx, hb, hml, hown, hts⟩ (t_X6_wordNumber l dC dI sa hlt g _ _ h0 a0 _ (hT.sub [0] rfl)  ) (cwV 1 hts gX6_addLetters_X6_wordNumber rfl rfl rfl (by decide +kernel) ⟨Nat.le_of_ble_eq_true rfl, Nat.le_of_ble_eq_true rfl⟩) hP hD hK hS hA hev hT 0 6 rfl rfl rfl rfl hl.1 rfl (Nat.le_of_ble_eq_true rfl) dX6_addLetters_46 ⟨Nat.le_of_ble_eq_true rfl, Nat.le_of_ble_eq_true rfl⟩ (fun r L_11 f_12 H locs hw_13 hP hD hS hT hE1 => ?_)
        have hF := Fr.call hF hE hw_13.2 (by decide)
        have hE := hE.tr hE1
        obtain ⟨⟨z_14, rfl⟩, hw_13⟩ := hw_13
        have hk_15 : rd f_12 h0 1 = .int le := (hw_13 h0 (hTo.at 0 rfl).1 6 (hTo.at 0 rfl).2 1 (by decide)).trans hk_h0_1
        have hk_16 : rd f_12 h0 2 = .int k1 := (hw_13 h0 (hTo.at 0 rfl).1 6 (hTo.at 0 rfl).2 2 (by decide)).trans hk_h0_2
        refine W.eq (g2 := F0 m 49 ls [.int z_14, .ref h0]) rfl ?_
        refine lv_iload_n hx hb dX6_addLetters_49 rfl (lv_at hl 0 rfl) ?_
        refine lv_iconst (v := 0) hx hb dX6_addLetters_50 (by decide) ?_
        have hTo := hT
        refine K_V ⟨hx, hb, hml, hown, hts⟩ (t_X6_keep l dC dI sa hlt g _ _ h0 z_14 a0 0 _ (hT.sub [0] rfl)  ) (cwV 3 hts gX6_addLetters_X6_keep rfl rfl rfl (by decide +kernel) ⟨Nat.le_of_ble_eq_true rfl, Nat.le_of_ble_eq_true rfl⟩) hP hD hK hS hA hev hT 0 6 rfl rfl rfl rfl hl.1 rfl (Nat.le_of_ble_eq_true rfl) dX6_addLetters_51 ⟨Nat.le_of_ble_eq_true rfl, Nat.le_of_ble_eq_true rfl⟩ (fun r L_17 f_18 H locs hw_19 hP hD hS hT hE1 => ?_)
        have hF := Fr.call hF hE hw_19.2 (by decide)
        have hE := hE.tr hE1
        obtain ⟨rfl, hw_19⟩ := hw_19
        have hk_20 : rd f_18 h0 1 = .int le := (hw_19 h0 (hTo.at 0 rfl).1 6 (hTo.at 0 rfl).2 1 (by decide)).trans hk_15
        have hk_21 : rd f_18 h0 2 = .int k1 := (hw_19 h0 (hTo.at 0 rfl).1 6 (hTo.at 0 rfl).2 2 (by decide)).trans hk_16
        refine W.eq (g2 := F0 m 54 ls []) rfl ?_
        exact K_v hx hb hr hlocks hP hD hK hS hT hE ⟨rfl, hF⟩ (Nat.le_of_ble_eq_true rfl) (Nat.le_of_ble_eq_true rfl) dX6_addLetters_54
      · refine lv_aload_n hx hb dX6_addLetters_16 rfl (lv_at hl 1 rfl) ?_
        refine lv_aload_n hx hb dX6_addLetters_17 rfl (lv_at hl 1 rfl) ?_
        refine T_get (ci := 6) (C := RX6) (T := TX6) (N := 7) (t := tI) hx hb hts inw_X6_addLetters_6 hown hK hP hT 0 rfl rfl 2 (by decide) (hts (.fieldLink RX6 38 "VatHouse$Tokens" "at" "I") (by decide +kernel)) (fun _ h9 => h9) rfl dX6_addLetters_18 (fun v_24 hv_22 hr_23 => ?_)
        obtain rfl : v_24 = .int k1 := hr_23.symm.trans hk_h0_2
        have hTo := hT
        refine K_V ⟨hx, hb, hml, hown, hts⟩ (t_X6_byteAt l dC dI sa hlt g _ _ h0 k1 _ (hT.sub [0] rfl)  ) (cwV 1 hts gX6_addLetters_X6_byteAt rfl rfl rfl (by decide +kernel) ⟨Nat.le_of_ble_eq_true rfl, Nat.le_of_ble_eq_true rfl⟩) hP hD hK hS hA hev hT 0 6 rfl rfl rfl rfl hl.1 rfl (Nat.le_of_ble_eq_true rfl) dX6_addLetters_21 ⟨Nat.le_of_ble_eq_true rfl, Nat.le_of_ble_eq_true rfl⟩ (fun r L_25 f_26 H locs hw_27 hP hD hS hT hE1 => ?_)
        have hF := Fr.call hF hE hw_27.2 (by decide)
        have hE := hE.tr hE1
        obtain ⟨⟨z_28, rfl⟩, hw_27⟩ := hw_27
        have hk_29 : rd f_26 h0 1 = .int le := (hw_27 h0 (hTo.at 0 rfl).1 6 (hTo.at 0 rfl).2 1 (by decide)).trans hk_h0_1
        have hk_30 : rd f_26 h0 2 = .int k1 := (hw_27 h0 (hTo.at 0 rfl).1 6 (hTo.at 0 rfl).2 2 (by decide)).trans hk_h0_2
        refine W.eq (g2 := F0 m 24 ls [.int z_28]) rfl ?_
        have hTo := hT
        refine K_S ⟨hx, hb, hml, hown, hts⟩ (t_X6_isLetter l dC dI sa hlt g _ _ z_28 _ (hT.sub [] rfl)  ) (va_cwS 1 hts gX6_addLetters_X6_isLetter rfl rfl rfl (by decide +kernel) ⟨Nat.le_of_ble_eq_true rfl, Nat.le_of_ble_eq_true rfl⟩) hP hD hK hS hA hev hT rfl hl.1 rfl (Nat.le_of_ble_eq_true rfl) dX6_addLetters_24 ⟨Nat.le_of_ble_eq_true rfl, Nat.le_of_ble_eq_true rfl⟩ (fun r L_31 f_32 H locs hw_33 hP hD hS hT hE1 => ?_)
        have hF := Fr.call hF hE hw_33.2 (by decide)
        have hE := hE.tr hE1
        obtain ⟨⟨z_34, rfl, hz_z_34⟩, hw_33⟩ := hw_33
        have hk_35 : rd f_32 h0 1 = .int le := (hw_33 h0 (hTo.at 0 rfl).1 6 (hTo.at 0 rfl).2 1 (by decide)).trans hk_29
        have hk_36 : rd f_32 h0 2 = .int k1 := (hw_33 h0 (hTo.at 0 rfl).1 6 (hTo.at 0 rfl).2 2 (by decide)).trans hk_30
        refine W.eq (g2 := F0 m 27 ls [.int z_34]) rfl ?_
        refine lv_if_eq (tgt := 43) hx hb dX6_addLetters_27 (by decide) (fun c_37 => ?_) (fun c_37 => ?_)
        · refine lv_aload_n hx hb dX6_addLetters_43 rfl (lv_at hl 1 rfl) ?_
          refine lv_aload_n hx hb dX6_addLetters_44 rfl (lv_at hl 1 rfl) ?_
          refine lv_iload_n hx hb dX6_addLetters_45 rfl (lv_at hl 0 rfl) ?_
          have hTo := hT
          refine K_V ⟨hx, hb, hml, hown, hts⟩ (t_X6_wordNumber l dC dI sa hlt g _ _ h0 a0 _ (hT.sub [0] rfl)  ) (cwV 1 hts gX6_addLetters_X6_wordNumber rfl rfl rfl (by decide +kernel) ⟨Nat.le_of_ble_eq_true rfl, Nat.le_of_ble_eq_true rfl⟩) hP hD hK hS hA hev hT 0 6 rfl rfl rfl rfl hl.1 rfl (Nat.le_of_ble_eq_true rfl) dX6_addLetters_46 ⟨Nat.le_of_ble_eq_true rfl, Nat.le_of_ble_eq_true rfl⟩ (fun r L_38 f_39 H locs hw_40 hP hD hS hT hE1 => ?_)
          have hF := Fr.call hF hE hw_40.2 (by decide)
          have hE := hE.tr hE1
          obtain ⟨⟨z_41, rfl⟩, hw_40⟩ := hw_40
          have hk_42 : rd f_39 h0 1 = .int le := (hw_40 h0 (hTo.at 0 rfl).1 6 (hTo.at 0 rfl).2 1 (by decide)).trans hk_35
          have hk_43 : rd f_39 h0 2 = .int k1 := (hw_40 h0 (hTo.at 0 rfl).1 6 (hTo.at 0 rfl).2 2 (by decide)).trans hk_36
          refine W.eq (g2 := F0 m 49 ls [.int z_41, .ref h0]) rfl ?_
          refine lv_iload_n hx hb dX6_addLetters_49 rfl (lv_at hl 0 rfl) ?_
          refine lv_iconst (v := 0) hx hb dX6_addLetters_50 (by decide) ?_
          have hTo := hT
          refine K_V ⟨hx, hb, hml, hown, hts⟩ (t_X6_keep l dC dI sa hlt g _ _ h0 z_41 a0 0 _ (hT.sub [0] rfl)  ) (cwV 3 hts gX6_addLetters_X6_keep rfl rfl rfl (by decide +kernel) ⟨Nat.le_of_ble_eq_true rfl, Nat.le_of_ble_eq_true rfl⟩) hP hD hK hS hA hev hT 0 6 rfl rfl rfl rfl hl.1 rfl (Nat.le_of_ble_eq_true rfl) dX6_addLetters_51 ⟨Nat.le_of_ble_eq_true rfl, Nat.le_of_ble_eq_true rfl⟩ (fun r L_44 f_45 H locs hw_46 hP hD hS hT hE1 => ?_)
          have hF := Fr.call hF hE hw_46.2 (by decide)
          have hE := hE.tr hE1
          obtain ⟨rfl, hw_46⟩ := hw_46
          have hk_47 : rd f_45 h0 1 = .int le := (hw_46 h0 (hTo.at 0 rfl).1 6 (hTo.at 0 rfl).2 1 (by decide)).trans hk_42
          have hk_48 : rd f_45 h0 2 = .int k1 := (hw_46 h0 (hTo.at 0 rfl).1 6 (hTo.at 0 rfl).2 2 (by decide)).trans hk_43
          refine W.eq (g2 := F0 m 54 ls []) rfl ?_
          exact K_v hx hb hr hlocks hP hD hK hS hT hE ⟨rfl, hF⟩ (Nat.le_of_ble_eq_true rfl) (Nat.le_of_ble_eq_true rfl) dX6_addLetters_54
        · refine lv_aload_n hx hb dX6_addLetters_30 rfl (lv_at hl 1 rfl) ?_
          refine lv_dup hx hb dX6_addLetters_31 rfl ?_
          refine T_get (ci := 6) (C := RX6) (T := TX6) (N := 7) (t := tI) hx hb hts inw_X6_addLetters_6 hown hK hP hT 0 rfl rfl 2 (by decide) (hts (.fieldLink RX6 38 "VatHouse$Tokens" "at" "I") (by decide +kernel)) (fun _ h9 => h9) rfl dX6_addLetters_32 (fun v_51 hv_49 hr_50 => ?_)
          obtain rfl : v_51 = .int k1 := hr_50.symm.trans hk_36
          refine lv_iconst (v := 1) hx hb dX6_addLetters_35 (by decide) ?_
          refine lv_iadd hx hb dX6_addLetters_36 ?_
          refine lv_topi (fun z_52 ez_52 => ?_)
          have hTo := hT
          refine T_put (ci := 6) (v := .int z_52) (ty := .int) (t := tI) (C := RX6) (T := TX6) (N := 7) hx hb hts inw_X6_addLetters_6 tyX6 tyX6_ok nmX6 hown hK hP hD hS hT 0 rfl rfl 2 (by decide) (hts (.fieldLink RX6 38 "VatHouse$Tokens" "at" "I") (by decide +kernel)) (fun _ h9 => h9) rfl (by decide +kernel) rfl rfl rfl ⟨_, rfl⟩ dX6_addLetters_37 (fun f_53 H locs hP hD hS hT hE1 hrd_54 => ?_)
          have hF := Fr.put (a := h0) (ci := 6) hF hE ((hE1 h0 (hT.at 0 rfl).1).2.symm.trans (hT.at 0 rfl).2) (by decide) hrd_54
          have hE := hE.tr hE1
          have hk_55 : rd f_53 h0 1 = .int le := ((Fr.put (cs := [(6, 2)]) (a := h0) (ci := 6) Fr.rf Ext.rf (hTo.at 0 rfl).2 (by decide) hrd_54) h0 (hTo.at 0 rfl).1 6 (hTo.at 0 rfl).2 1 (by decide)).trans hk_35
          have hk_56 : rd f_53 h0 2 = .int z_52 := (hrd_54 h0 2).trans (if_pos ⟨rfl, rfl⟩)
          refine lv_goto (tgt := 5) hx hb dX6_addLetters_40 (by decide) ?_
          exact ih z_52 _ _ _ _ _ (at_nx hm c_10 ez_52) hk_55 hk_56 hP hD hS (hT.sub [0] rfl) hE hF (lv_sub hl [0, 1] rfl)
  exact lp ((le.toInt - a0.toInt).toNat + 1) a0 _ _ _ _ _ (by omega) hm_le hm_a0 hP hD hS (hT.sub [0] rfl) hE hF (lv_sub hl [0, 1] rfl)

abbrev rm_X6_addDigits : Room := { frames := 1, cells := 0, slots := 0, locals := 23 }
theorem inw_X6_addDigits_6 : ∀ w ∈ wsX60, w ∈ wsX6_addDigits := by decide +kernel
set_option maxHeartbeats 800000 in
set_option maxRecDepth 100000 in
theorem t_X6_addDigits (l : Launch) (dC : Nat → ClassId) (dI : Nat → Nat → Nat) (sa : Nat → Nat) (hlt : l.stackTraces = false) (g : Nat → Nat) (L : List Nat) (f : Nat → va_E) (h0 : Nat) (le : Int32) (a0 : Int32) (sz : Nat) (hT : TP g L f [(h0, (0, 6, 0))]) (hm_le : rd f h0 1 = .int le) (hm_a0 : rd f h0 2 = .int a0) : KC l dC dI sa g yX6_addDigits wsX6_addDigits rm_X6_addDigits [.ref h0] L f sz (fun r L' f' => (r = none) ∧ Fr [(6, 2), (6, 3)] L f f') 0 0 := by
  refine CT.start (cc := cX6_addDigits) (maxL := 3) (ret := none) (by decide) rfl (Nat.le_of_ble_eq_true rfl) ?_
  intro p e s m below meth c ls hst hP hK hD hev hS hl
  obtain ⟨hx, hb, hr, hml, hts, hown, hlocks, hin⟩ := hst
  have hown : s.vm.findClass RX6 = some m.cls := hown
  have hin : meth.name = yX6_addDigits.name := hin
  have hA : ∀ q : Nat, s.heap.size ≤ q → va_A (va_pl L f) s.heap.size q := fun _ h => Or.inr h
  have hE : Ext L f L f := Ext.rf
  have hF : Fr [(6, 2), (6, 3)] L f f := Fr.rf
  have hl : lv_has ls 3 [(0, .ref h0)] := hl
  refine lv_aload_n hx hb dX6_addDigits_0 rfl (lv_at hl 0 rfl) ?_
  refine T_get (ci := 6) (C := RX6) (T := TX6) (N := 7) (t := tI) hx hb hts inw_X6_addDigits_6 hown hK hP hT 0 rfl rfl 2 (by decide) (hts (.fieldLink RX6 38 "VatHouse$Tokens" "at" "I") (by decide +kernel)) (fun _ h9 => h9) rfl dX6_addDigits_1 (fun v_3 hv_1 hr_2 => ?_)
  obtain rfl : v_3 = .int a0 := hr_2.symm.trans hm_a0
  refine lv_istore_n (lv' := [(1, .int a0), (0, .ref h0)]) hx hb dX6_addDigits_4 rfl hl (by decide) rfl (fun ls hl => ?_)
  refine lv_iconst (v := 0) hx hb dX6_addDigits_5 (by decide) ?_
  refine lv_istore_n (lv' := [(2, .int 0), (1, .int a0), (0, .ref h0)]) hx hb dX6_addDigits_6 rfl hl (by decide) rfl (fun ls hl => ?_)
  have lp : ∀ (n : Nat) (va : Int32) (k1 : Int32) (L1 : List Nat) (f1 : Nat → va_E) (H : Heap) (locs : List Loc) (ls : Array Slot), ((le.toInt - k1.toInt).toNat < n) → rd f1 h0 1 = .int le → rd f1 h0 2 = .int k1 → va_P (dC, dI) vwCl (va_pl L1 f1) H → va_D (va_A (va_pl L f) s.heap.size) (va_pl L1 f1) → va_S (va_A (va_pl L f) s.heap.size) s.heap H locs → TP g L1 f1 [(h0, (0, 6, 0))] → Ext L f L1 f1 → Fr [(6, 2), (6, 3)] L f f1 → lv_has ls 3 [(2, .int va), (1, .int a0), (0, .ref h0)] → W p l e rm_X6_addDigits s m [.ref h0].toArray below meth c H locs 0 0 (MQ below (Qg (kpost g L f (fun r L' f' => (r = none) ∧ Fr [(6, 2), (6, 3)] L f f')) (fun (u : PL) t => QW dC dI (va_A (va_pl L f) s.heap.size) (va_pl u.1 u.2) [] t) (va_A (va_pl L f) s.heap.size)) [.ref h0].toArray s (0) (0) (va_A (va_pl L f) s.heap.size)) (F0 m 7 ls []) := by
    intro n
    induction n with
    | zero => intro va k1 L1 f1 H locs ls hm hk_h0_1 hk_h0_2 hP hD hS hT hE hF hl; exact absurd hm (by omega)
    | succ n ih =>
      intro va k1 L1 f1 H locs ls hm hk_h0_1 hk_h0_2 hP hD hS hT hE hF hl
      refine lv_aload_n hx hb dX6_addDigits_7 rfl (lv_at hl 2 rfl) ?_
      refine T_get (ci := 6) (C := RX6) (T := TX6) (N := 7) (t := tI) hx hb hts inw_X6_addDigits_6 hown hK hP hT 0 rfl rfl 2 (by decide) (hts (.fieldLink RX6 38 "VatHouse$Tokens" "at" "I") (by decide +kernel)) (fun _ h9 => h9) rfl dX6_addDigits_8 (fun v_6 hv_4 hr_5 => ?_)
      obtain rfl : v_6 = .int k1 := hr_5.symm.trans hk_h0_2
      refine lv_aload_n hx hb dX6_addDigits_11 rfl (lv_at hl 2 rfl) ?_
      refine T_get (ci := 6) (C := RX6) (T := TX6) (N := 7) (t := tI) hx hb hts inw_X6_addDigits_6 hown hK hP hT 0 rfl rfl 1 (by decide) (hts (.fieldLink RX6 34 "VatHouse$Tokens" "length" "I") (by decide +kernel)) (fun _ h9 => h9) rfl dX6_addDigits_12 (fun v_9 hv_7 hr_8 => ?_)
      obtain rfl : v_9 = .int le := hr_8.symm.trans hk_h0_1
      refine lv_icmp_ge (tgt := 72) hx hb dX6_addDigits_15 (by decide) (fun c_10 => ?_) (fun c_10 => ?_)
      · refine lv_aload_n hx hb dX6_addDigits_72 rfl (lv_at hl 2 rfl) ?_
        refine lv_aload_n hx hb dX6_addDigits_73 rfl (lv_at hl 2 rfl) ?_
        refine T_get (ci := 6) (C := RX6) (T := TX6) (N := 7) (t := tI) hx hb hts inw_X6_addDigits_6 hown hK hP hT 0 rfl rfl 2 (by decide) (hts (.fieldLink RX6 38 "VatHouse$Tokens" "at" "I") (by decide +kernel)) (fun _ h9 => h9) rfl dX6_addDigits_74 (fun v_13 hv_11 hr_12 => ?_)
        obtain rfl : v_13 = .int k1 := hr_12.symm.trans hk_h0_2
        refine lv_iload_n hx hb dX6_addDigits_77 rfl (lv_at hl 1 rfl) ?_
        refine lv_isub hx hb dX6_addDigits_78 ?_
        refine lv_topi (fun z_14 ez_14 => ?_)
        refine lv_iconst (v := 4) hx hb dX6_addDigits_79 (by decide) ?_
        refine lv_icmp_le (tgt := 88) hx hb dX6_addDigits_80 (by decide) (fun c_15 => ?_) (fun c_15 => ?_)
        · refine lv_iconst (v := (-1)) hx hb dX6_addDigits_88 (by decide) ?_
          refine lv_iload_n hx hb dX6_addDigits_89 rfl (lv_at hl 1 rfl) ?_
          refine lv_iload_n hx hb dX6_addDigits_90 rfl (lv_at hl 0 rfl) ?_
          have hTo := hT
          refine K_V ⟨hx, hb, hml, hown, hts⟩ (t_X6_keep l dC dI sa hlt g _ _ h0 (-1) a0 va _ (hT.sub [0] rfl)  ) (cwV 3 hts gX6_addDigits_X6_keep rfl rfl rfl (by decide +kernel) ⟨Nat.le_of_ble_eq_true rfl, Nat.le_of_ble_eq_true rfl⟩) hP hD hK hS hA hev hT 0 6 rfl rfl rfl rfl hl.1 rfl (Nat.le_of_ble_eq_true rfl) dX6_addDigits_91 ⟨Nat.le_of_ble_eq_true rfl, Nat.le_of_ble_eq_true rfl⟩ (fun r L_16 f_17 H locs hw_18 hP hD hS hT hE1 => ?_)
          have hF := Fr.call hF hE hw_18.2 (by decide)
          have hE := hE.tr hE1
          obtain ⟨rfl, hw_18⟩ := hw_18
          have hk_19 : rd f_17 h0 1 = .int le := (hw_18 h0 (hTo.at 0 rfl).1 6 (hTo.at 0 rfl).2 1 (by decide)).trans hk_h0_1
          have hk_20 : rd f_17 h0 2 = .int k1 := (hw_18 h0 (hTo.at 0 rfl).1 6 (hTo.at 0 rfl).2 2 (by decide)).trans hk_h0_2
          refine W.eq (g2 := F0 m 94 ls []) rfl ?_
          exact K_v hx hb hr hlocks hP hD hK hS hT hE ⟨rfl, hF⟩ (Nat.le_of_ble_eq_true rfl) (Nat.le_of_ble_eq_true rfl) dX6_addDigits_94
        · refine lv_bipush (v := (-2)) hx hb dX6_addDigits_83 (by decide) ?_
          refine lv_goto (tgt := 89) hx hb dX6_addDigits_85 (by decide) ?_
          refine lv_iload_n hx hb dX6_addDigits_89 rfl (lv_at hl 1 rfl) ?_
          refine lv_iload_n hx hb dX6_addDigits_90 rfl (lv_at hl 0 rfl) ?_
          have hTo := hT
          refine K_V ⟨hx, hb, hml, hown, hts⟩ (t_X6_keep l dC dI sa hlt g _ _ h0 (-2) a0 va _ (hT.sub [0] rfl)  ) (cwV 3 hts gX6_addDigits_X6_keep rfl rfl rfl (by decide +kernel) ⟨Nat.le_of_ble_eq_true rfl, Nat.le_of_ble_eq_true rfl⟩) hP hD hK hS hA hev hT 0 6 rfl rfl rfl rfl hl.1 rfl (Nat.le_of_ble_eq_true rfl) dX6_addDigits_91 ⟨Nat.le_of_ble_eq_true rfl, Nat.le_of_ble_eq_true rfl⟩ (fun r L_21 f_22 H locs hw_23 hP hD hS hT hE1 => ?_)
          have hF := Fr.call hF hE hw_23.2 (by decide)
          have hE := hE.tr hE1
          obtain ⟨rfl, hw_23⟩ := hw_23
          have hk_24 : rd f_22 h0 1 = .int le := (hw_23 h0 (hTo.at 0 rfl).1 6 (hTo.at 0 rfl).2 1 (by decide)).trans hk_h0_1
          have hk_25 : rd f_22 h0 2 = .int k1 := (hw_23 h0 (hTo.at 0 rfl).1 6 (hTo.at 0 rfl).2 2 (by decide)).trans hk_h0_2
          refine W.eq (g2 := F0 m 94 ls []) rfl ?_
          exact K_v hx hb hr hlocks hP hD hK hS hT hE ⟨rfl, hF⟩ (Nat.le_of_ble_eq_true rfl) (Nat.le_of_ble_eq_true rfl) dX6_addDigits_94
      · refine lv_aload_n hx hb dX6_addDigits_18 rfl (lv_at hl 2 rfl) ?_
        refine lv_aload_n hx hb dX6_addDigits_19 rfl (lv_at hl 2 rfl) ?_
        refine T_get (ci := 6) (C := RX6) (T := TX6) (N := 7) (t := tI) hx hb hts inw_X6_addDigits_6 hown hK hP hT 0 rfl rfl 2 (by decide) (hts (.fieldLink RX6 38 "VatHouse$Tokens" "at" "I") (by decide +kernel)) (fun _ h9 => h9) rfl dX6_addDigits_20 (fun v_28 hv_26 hr_27 => ?_)
        obtain rfl : v_28 = .int k1 := hr_27.symm.trans hk_h0_2
        have hTo := hT
        refine K_V ⟨hx, hb, hml, hown, hts⟩ (t_X6_byteAt l dC dI sa hlt g _ _ h0 k1 _ (hT.sub [0] rfl)  ) (cwV 1 hts gX6_addDigits_X6_byteAt rfl rfl rfl (by decide +kernel) ⟨Nat.le_of_ble_eq_true rfl, Nat.le_of_ble_eq_true rfl⟩) hP hD hK hS hA hev hT 0 6 rfl rfl rfl rfl hl.1 rfl (Nat.le_of_ble_eq_true rfl) dX6_addDigits_23 ⟨Nat.le_of_ble_eq_true rfl, Nat.le_of_ble_eq_true rfl⟩ (fun r L_29 f_30 H locs hw_31 hP hD hS hT hE1 => ?_)
        have hF := Fr.call hF hE hw_31.2 (by decide)
        have hE := hE.tr hE1
        obtain ⟨⟨z_32, rfl⟩, hw_31⟩ := hw_31
        have hk_33 : rd f_30 h0 1 = .int le := (hw_31 h0 (hTo.at 0 rfl).1 6 (hTo.at 0 rfl).2 1 (by decide)).trans hk_h0_1
        have hk_34 : rd f_30 h0 2 = .int k1 := (hw_31 h0 (hTo.at 0 rfl).1 6 (hTo.at 0 rfl).2 2 (by decide)).trans hk_h0_2
        refine W.eq (g2 := F0 m 26 ls [.int z_32]) rfl ?_
        have hTo := hT
        refine K_S ⟨hx, hb, hml, hown, hts⟩ (t_X6_isDigit l dC dI sa hlt g _ _ z_32 _ (hT.sub [] rfl)  ) (va_cwS 1 hts gX6_addDigits_X6_isDigit rfl rfl rfl (by decide +kernel) ⟨Nat.le_of_ble_eq_true rfl, Nat.le_of_ble_eq_true rfl⟩) hP hD hK hS hA hev hT rfl hl.1 rfl (Nat.le_of_ble_eq_true rfl) dX6_addDigits_26 ⟨Nat.le_of_ble_eq_true rfl, Nat.le_of_ble_eq_true rfl⟩ (fun r L_35 f_36 H locs hw_37 hP hD hS hT hE1 => ?_)
        have hF := Fr.call hF hE hw_37.2 (by decide)
        have hE := hE.tr hE1
        obtain ⟨⟨z_38, rfl, hz_z_38⟩, hw_37⟩ := hw_37
        have hk_39 : rd f_36 h0 1 = .int le := (hw_37 h0 (hTo.at 0 rfl).1 6 (hTo.at 0 rfl).2 1 (by decide)).trans hk_33
        have hk_40 : rd f_36 h0 2 = .int k1 := (hw_37 h0 (hTo.at 0 rfl).1 6 (hTo.at 0 rfl).2 2 (by decide)).trans hk_34
        refine W.eq (g2 := F0 m 29 ls [.int z_38]) rfl ?_
        refine lv_if_eq (tgt := 72) hx hb dX6_addDigits_29 (by decide) (fun c_41 => ?_) (fun c_41 => ?_)
        · refine lv_aload_n hx hb dX6_addDigits_72 rfl (lv_at hl 2 rfl) ?_
          refine lv_aload_n hx hb dX6_addDigits_73 rfl (lv_at hl 2 rfl) ?_
          refine T_get (ci := 6) (C := RX6) (T := TX6) (N := 7) (t := tI) hx hb hts inw_X6_addDigits_6 hown hK hP hT 0 rfl rfl 2 (by decide) (hts (.fieldLink RX6 38 "VatHouse$Tokens" "at" "I") (by decide +kernel)) (fun _ h9 => h9) rfl dX6_addDigits_74 (fun v_44 hv_42 hr_43 => ?_)
          obtain rfl : v_44 = .int k1 := hr_43.symm.trans hk_40
          refine lv_iload_n hx hb dX6_addDigits_77 rfl (lv_at hl 1 rfl) ?_
          refine lv_isub hx hb dX6_addDigits_78 ?_
          refine lv_topi (fun z_45 ez_45 => ?_)
          refine lv_iconst (v := 4) hx hb dX6_addDigits_79 (by decide) ?_
          refine lv_icmp_le (tgt := 88) hx hb dX6_addDigits_80 (by decide) (fun c_46 => ?_) (fun c_46 => ?_)
          · refine lv_iconst (v := (-1)) hx hb dX6_addDigits_88 (by decide) ?_
            refine lv_iload_n hx hb dX6_addDigits_89 rfl (lv_at hl 1 rfl) ?_
            refine lv_iload_n hx hb dX6_addDigits_90 rfl (lv_at hl 0 rfl) ?_
            have hTo := hT
            refine K_V ⟨hx, hb, hml, hown, hts⟩ (t_X6_keep l dC dI sa hlt g _ _ h0 (-1) a0 va _ (hT.sub [0] rfl)  ) (cwV 3 hts gX6_addDigits_X6_keep rfl rfl rfl (by decide +kernel) ⟨Nat.le_of_ble_eq_true rfl, Nat.le_of_ble_eq_true rfl⟩) hP hD hK hS hA hev hT 0 6 rfl rfl rfl rfl hl.1 rfl (Nat.le_of_ble_eq_true rfl) dX6_addDigits_91 ⟨Nat.le_of_ble_eq_true rfl, Nat.le_of_ble_eq_true rfl⟩ (fun r L_47 f_48 H locs hw_49 hP hD hS hT hE1 => ?_)
            have hF := Fr.call hF hE hw_49.2 (by decide)
            have hE := hE.tr hE1
            obtain ⟨rfl, hw_49⟩ := hw_49
            have hk_50 : rd f_48 h0 1 = .int le := (hw_49 h0 (hTo.at 0 rfl).1 6 (hTo.at 0 rfl).2 1 (by decide)).trans hk_39
            have hk_51 : rd f_48 h0 2 = .int k1 := (hw_49 h0 (hTo.at 0 rfl).1 6 (hTo.at 0 rfl).2 2 (by decide)).trans hk_40
            refine W.eq (g2 := F0 m 94 ls []) rfl ?_
            exact K_v hx hb hr hlocks hP hD hK hS hT hE ⟨rfl, hF⟩ (Nat.le_of_ble_eq_true rfl) (Nat.le_of_ble_eq_true rfl) dX6_addDigits_94
          · refine lv_bipush (v := (-2)) hx hb dX6_addDigits_83 (by decide) ?_
            refine lv_goto (tgt := 89) hx hb dX6_addDigits_85 (by decide) ?_
            refine lv_iload_n hx hb dX6_addDigits_89 rfl (lv_at hl 1 rfl) ?_
            refine lv_iload_n hx hb dX6_addDigits_90 rfl (lv_at hl 0 rfl) ?_
            have hTo := hT
            refine K_V ⟨hx, hb, hml, hown, hts⟩ (t_X6_keep l dC dI sa hlt g _ _ h0 (-2) a0 va _ (hT.sub [0] rfl)  ) (cwV 3 hts gX6_addDigits_X6_keep rfl rfl rfl (by decide +kernel) ⟨Nat.le_of_ble_eq_true rfl, Nat.le_of_ble_eq_true rfl⟩) hP hD hK hS hA hev hT 0 6 rfl rfl rfl rfl hl.1 rfl (Nat.le_of_ble_eq_true rfl) dX6_addDigits_91 ⟨Nat.le_of_ble_eq_true rfl, Nat.le_of_ble_eq_true rfl⟩ (fun r L_52 f_53 H locs hw_54 hP hD hS hT hE1 => ?_)
            have hF := Fr.call hF hE hw_54.2 (by decide)
            have hE := hE.tr hE1
            obtain ⟨rfl, hw_54⟩ := hw_54
            have hk_55 : rd f_53 h0 1 = .int le := (hw_54 h0 (hTo.at 0 rfl).1 6 (hTo.at 0 rfl).2 1 (by decide)).trans hk_39
            have hk_56 : rd f_53 h0 2 = .int k1 := (hw_54 h0 (hTo.at 0 rfl).1 6 (hTo.at 0 rfl).2 2 (by decide)).trans hk_40
            refine W.eq (g2 := F0 m 94 ls []) rfl ?_
            exact K_v hx hb hr hlocks hP hD hK hS hT hE ⟨rfl, hF⟩ (Nat.le_of_ble_eq_true rfl) (Nat.le_of_ble_eq_true rfl) dX6_addDigits_94
        · refine lv_aload_n hx hb dX6_addDigits_32 rfl (lv_at hl 2 rfl) ?_
          refine T_get (ci := 6) (C := RX6) (T := TX6) (N := 7) (t := tI) hx hb hts inw_X6_addDigits_6 hown hK hP hT 0 rfl rfl 2 (by decide) (hts (.fieldLink RX6 38 "VatHouse$Tokens" "at" "I") (by decide +kernel)) (fun _ h9 => h9) rfl dX6_addDigits_33 (fun v_59 hv_57 hr_58 => ?_)
          obtain rfl : v_59 = .int k1 := hr_58.symm.trans hk_40
          refine lv_iload_n hx hb dX6_addDigits_36 rfl (lv_at hl 1 rfl) ?_
          refine lv_isub hx hb dX6_addDigits_37 ?_
          refine lv_topi (fun z_60 ez_60 => ?_)
          refine lv_iconst (v := 4) hx hb dX6_addDigits_38 (by decide) ?_
          refine lv_icmp_ge (tgt := 59) hx hb dX6_addDigits_39 (by decide) (fun c_61 => ?_) (fun c_61 => ?_)
          · refine lv_aload_n hx hb dX6_addDigits_59 rfl (lv_at hl 2 rfl) ?_
            refine lv_dup hx hb dX6_addDigits_60 rfl ?_
            refine T_get (ci := 6) (C := RX6) (T := TX6) (N := 7) (t := tI) hx hb hts inw_X6_addDigits_6 hown hK hP hT 0 rfl rfl 2 (by decide) (hts (.fieldLink RX6 38 "VatHouse$Tokens" "at" "I") (by decide +kernel)) (fun _ h9 => h9) rfl dX6_addDigits_61 (fun v_64 hv_62 hr_63 => ?_)
            obtain rfl : v_64 = .int k1 := hr_63.symm.trans hk_40
            refine lv_iconst (v := 1) hx hb dX6_addDigits_64 (by decide) ?_
            refine lv_iadd hx hb dX6_addDigits_65 ?_
            refine lv_topi (fun z_65 ez_65 => ?_)
            have hTo := hT
            refine T_put (ci := 6) (v := .int z_65) (ty := .int) (t := tI) (C := RX6) (T := TX6) (N := 7) hx hb hts inw_X6_addDigits_6 tyX6 tyX6_ok nmX6 hown hK hP hD hS hT 0 rfl rfl 2 (by decide) (hts (.fieldLink RX6 38 "VatHouse$Tokens" "at" "I") (by decide +kernel)) (fun _ h9 => h9) rfl (by decide +kernel) rfl rfl rfl ⟨_, rfl⟩ dX6_addDigits_66 (fun f_66 H locs hP hD hS hT hE1 hrd_67 => ?_)
            have hF := Fr.put (a := h0) (ci := 6) hF hE ((hE1 h0 (hT.at 0 rfl).1).2.symm.trans (hT.at 0 rfl).2) (by decide) hrd_67
            have hE := hE.tr hE1
            have hk_68 : rd f_66 h0 1 = .int le := ((Fr.put (cs := [(6, 2)]) (a := h0) (ci := 6) Fr.rf Ext.rf (hTo.at 0 rfl).2 (by decide) hrd_67) h0 (hTo.at 0 rfl).1 6 (hTo.at 0 rfl).2 1 (by decide)).trans hk_39
            have hk_69 : rd f_66 h0 2 = .int z_65 := (hrd_67 h0 2).trans (if_pos ⟨rfl, rfl⟩)
            refine lv_goto (tgt := 7) hx hb dX6_addDigits_69 (by decide) ?_
            exact ih va z_65 _ _ _ _ _ (at_nx hm c_10 ez_65) hk_68 hk_69 hP hD hS (hT.sub [0] rfl) hE hF (lv_sub hl [0, 1, 2] rfl)
          · refine lv_iload_n hx hb dX6_addDigits_42 rfl (lv_at hl 0 rfl) ?_
            refine lv_bipush (v := 10) hx hb dX6_addDigits_43 (by decide) ?_
            refine lv_imul hx hb dX6_addDigits_45 ?_
            refine lv_topi (fun z_70 ez_70 => ?_)
            refine lv_aload_n hx hb dX6_addDigits_46 rfl (lv_at hl 2 rfl) ?_
            refine lv_aload_n hx hb dX6_addDigits_47 rfl (lv_at hl 2 rfl) ?_
            refine T_get (ci := 6) (C := RX6) (T := TX6) (N := 7) (t := tI) hx hb hts inw_X6_addDigits_6 hown hK hP hT 0 rfl rfl 2 (by decide) (hts (.fieldLink RX6 38 "VatHouse$Tokens" "at" "I") (by decide +kernel)) (fun _ h9 => h9) rfl dX6_addDigits_48 (fun v_73 hv_71 hr_72 => ?_)
            obtain rfl : v_73 = .int k1 := hr_72.symm.trans hk_40
            have hTo := hT
            refine K_V ⟨hx, hb, hml, hown, hts⟩ (t_X6_byteAt l dC dI sa hlt g _ _ h0 k1 _ (hT.sub [0] rfl)  ) (cwV 1 hts gX6_addDigits_X6_byteAt rfl rfl rfl (by decide +kernel) ⟨Nat.le_of_ble_eq_true rfl, Nat.le_of_ble_eq_true rfl⟩) hP hD hK hS hA hev hT 0 6 rfl rfl rfl rfl hl.1 rfl (Nat.le_of_ble_eq_true rfl) dX6_addDigits_51 ⟨Nat.le_of_ble_eq_true rfl, Nat.le_of_ble_eq_true rfl⟩ (fun r L_74 f_75 H locs hw_76 hP hD hS hT hE1 => ?_)
            have hF := Fr.call hF hE hw_76.2 (by decide)
            have hE := hE.tr hE1
            obtain ⟨⟨z_77, rfl⟩, hw_76⟩ := hw_76
            have hk_78 : rd f_75 h0 1 = .int le := (hw_76 h0 (hTo.at 0 rfl).1 6 (hTo.at 0 rfl).2 1 (by decide)).trans hk_39
            have hk_79 : rd f_75 h0 2 = .int k1 := (hw_76 h0 (hTo.at 0 rfl).1 6 (hTo.at 0 rfl).2 2 (by decide)).trans hk_40
            refine W.eq (g2 := F0 m 54 ls [.int z_77, .int z_70]) rfl ?_
            refine lv_iadd hx hb dX6_addDigits_54 ?_
            refine lv_topi (fun z_80 ez_80 => ?_)
            refine lv_bipush (v := 48) hx hb dX6_addDigits_55 (by decide) ?_
            refine lv_isub hx hb dX6_addDigits_57 ?_
            refine lv_topi (fun z_81 ez_81 => ?_)
            refine lv_istore_n (lv' := [(2, .int z_81), (1, .int a0), (0, .ref h0)]) hx hb dX6_addDigits_58 rfl hl (by decide) rfl (fun ls hl => ?_)
            refine lv_aload_n hx hb dX6_addDigits_59 rfl (lv_at hl 2 rfl) ?_
            refine lv_dup hx hb dX6_addDigits_60 rfl ?_
            refine T_get (ci := 6) (C := RX6) (T := TX6) (N := 7) (t := tI) hx hb hts inw_X6_addDigits_6 hown hK hP hT 0 rfl rfl 2 (by decide) (hts (.fieldLink RX6 38 "VatHouse$Tokens" "at" "I") (by decide +kernel)) (fun _ h9 => h9) rfl dX6_addDigits_61 (fun v_84 hv_82 hr_83 => ?_)
            obtain rfl : v_84 = .int k1 := hr_83.symm.trans hk_79
            refine lv_iconst (v := 1) hx hb dX6_addDigits_64 (by decide) ?_
            refine lv_iadd hx hb dX6_addDigits_65 ?_
            refine lv_topi (fun z_85 ez_85 => ?_)
            have hTo := hT
            refine T_put (ci := 6) (v := .int z_85) (ty := .int) (t := tI) (C := RX6) (T := TX6) (N := 7) hx hb hts inw_X6_addDigits_6 tyX6 tyX6_ok nmX6 hown hK hP hD hS hT 0 rfl rfl 2 (by decide) (hts (.fieldLink RX6 38 "VatHouse$Tokens" "at" "I") (by decide +kernel)) (fun _ h9 => h9) rfl (by decide +kernel) rfl rfl rfl ⟨_, rfl⟩ dX6_addDigits_66 (fun f_86 H locs hP hD hS hT hE1 hrd_87 => ?_)
            have hF := Fr.put (a := h0) (ci := 6) hF hE ((hE1 h0 (hT.at 0 rfl).1).2.symm.trans (hT.at 0 rfl).2) (by decide) hrd_87
            have hE := hE.tr hE1
            have hk_88 : rd f_86 h0 1 = .int le := ((Fr.put (cs := [(6, 2)]) (a := h0) (ci := 6) Fr.rf Ext.rf (hTo.at 0 rfl).2 (by decide) hrd_87) h0 (hTo.at 0 rfl).1 6 (hTo.at 0 rfl).2 1 (by decide)).trans hk_78
            have hk_89 : rd f_86 h0 2 = .int z_85 := (hrd_87 h0 2).trans (if_pos ⟨rfl, rfl⟩)
            refine lv_goto (tgt := 7) hx hb dX6_addDigits_69 (by decide) ?_
            exact ih z_81 z_85 _ _ _ _ _ (at_nx hm c_10 ez_85) hk_88 hk_89 hP hD hS (hT.sub [0] rfl) hE hF (lv_sub hl [0, 1, 2] rfl)
  exact lp ((le.toInt - a0.toInt).toNat + 1) 0 a0 _ _ _ _ _ (by omega) hm_le hm_a0 hP hD hS (hT.sub [0] rfl) hE hF (lv_sub hl [0, 1, 2] rfl)

abbrev rm_X6_addToken : Room := { frames := 7, cells := 0, slots := 0, locals := 210 }
theorem inw_X6_addToken_6 : ∀ w ∈ wsX60, w ∈ wsX6_addToken := by decide +kernel
set_option maxHeartbeats 800000 in
set_option maxRecDepth 100000 in
theorem t_X6_addToken (l : Launch) (dC : Nat → ClassId) (dI : Nat → Nat → Nat) (sa : Nat → Nat) (hlt : l.stackTraces = false) (g : Nat → Nat) (L : List Nat) (f : Nat → va_E) (h0 : Nat) (le : Int32) (a0 : Int32) (sz : Nat) (hT : TP g L f [(h0, (0, 6, 0))]) (hm_le : rd f h0 1 = .int le) (hm_a0 : rd f h0 2 = .int a0) : KC l dC dI sa g yX6_addToken wsX6_addToken rm_X6_addToken [.ref h0] L f sz (fun r L' f' => (r = none) ∧ Fr [(6, 2), (6, 3)] L f f') 0 0 := by
  refine CT.start (cc := cX6_addToken) (maxL := 2) (ret := none) (by decide) rfl (Nat.le_of_ble_eq_true rfl) ?_
  intro p e s m below meth c ls hst hP hK hD hev hS hl
  obtain ⟨hx, hb, hr, hml, hts, hown, hlocks, hin⟩ := hst
  have hown : s.vm.findClass RX6 = some m.cls := hown
  have hin : meth.name = yX6_addToken.name := hin
  have hA : ∀ q : Nat, s.heap.size ≤ q → va_A (va_pl L f) s.heap.size q := fun _ h => Or.inr h
  have hE : Ext L f L f := Ext.rf
  have hF : Fr [(6, 2), (6, 3)] L f f := Fr.rf
  have hl : lv_has ls 2 [(0, .ref h0)] := hl
  refine lv_aload_n hx hb dX6_addToken_0 rfl (lv_at hl 0 rfl) ?_
  refine lv_aload_n hx hb dX6_addToken_1 rfl (lv_at hl 0 rfl) ?_
  refine T_get (ci := 6) (C := RX6) (T := TX6) (N := 7) (t := tI) hx hb hts inw_X6_addToken_6 hown hK hP hT 0 rfl rfl 2 (by decide) (hts (.fieldLink RX6 38 "VatHouse$Tokens" "at" "I") (by decide +kernel)) (fun _ h9 => h9) rfl dX6_addToken_2 (fun v_3 hv_1 hr_2 => ?_)
  obtain rfl : v_3 = .int a0 := hr_2.symm.trans hm_a0
  have hTo := hT
  refine K_V ⟨hx, hb, hml, hown, hts⟩ (t_X6_byteAt l dC dI sa hlt g _ _ h0 a0 _ (hT.sub [0] rfl)  ) (cwV 1 hts gX6_addToken_X6_byteAt rfl rfl rfl (by decide +kernel) ⟨Nat.le_of_ble_eq_true rfl, Nat.le_of_ble_eq_true rfl⟩) hP hD hK hS hA hev hT 0 6 rfl rfl rfl rfl hl.1 rfl (Nat.le_of_ble_eq_true rfl) dX6_addToken_5 ⟨Nat.le_of_ble_eq_true rfl, Nat.le_of_ble_eq_true rfl⟩ (fun r L_4 f_5 H locs hw_6 hP hD hS hT hE1 => ?_)
  have hF := Fr.call hF hE hw_6.2 (by decide)
  have hE := hE.tr hE1
  obtain ⟨⟨z_7, rfl⟩, hw_6⟩ := hw_6
  have hk_8 : rd f_5 h0 1 = .int le := (hw_6 h0 (hTo.at 0 rfl).1 6 (hTo.at 0 rfl).2 1 (by decide)).trans hm_le
  have hk_9 : rd f_5 h0 2 = .int a0 := (hw_6 h0 (hTo.at 0 rfl).1 6 (hTo.at 0 rfl).2 2 (by decide)).trans hm_a0
  refine W.eq (g2 := F0 m 8 ls [.int z_7]) rfl ?_
  refine lv_istore_n (lv' := [(1, .int z_7), (0, .ref h0)]) hx hb dX6_addToken_8 rfl hl (by decide) rfl (fun ls hl => ?_)
  refine lv_iload_n hx hb dX6_addToken_9 rfl (lv_at hl 0 rfl) ?_
  have hTo := hT
  refine K_S ⟨hx, hb, hml, hown, hts⟩ (t_X6_isLetter l dC dI sa hlt g _ _ z_7 _ (hT.sub [] rfl)  ) (va_cwS 1 hts gX6_addToken_X6_isLetter rfl rfl rfl (by decide +kernel) ⟨Nat.le_of_ble_eq_true rfl, Nat.le_of_ble_eq_true rfl⟩) hP hD hK hS hA hev hT rfl hl.1 rfl (Nat.le_of_ble_eq_true rfl) dX6_addToken_10 ⟨Nat.le_of_ble_eq_true rfl, Nat.le_of_ble_eq_true rfl⟩ (fun r L_10 f_11 H locs hw_12 hP hD hS hT hE1 => ?_)
  have hF := Fr.call hF hE hw_12.2 (by decide)
  have hE := hE.tr hE1
  obtain ⟨⟨z_13, rfl, hz_z_13⟩, hw_12⟩ := hw_12
  have hk_14 : rd f_11 h0 1 = .int le := (hw_12 h0 (hTo.at 0 rfl).1 6 (hTo.at 0 rfl).2 1 (by decide)).trans hk_8
  have hk_15 : rd f_11 h0 2 = .int a0 := (hw_12 h0 (hTo.at 0 rfl).1 6 (hTo.at 0 rfl).2 2 (by decide)).trans hk_9
  refine W.eq (g2 := F0 m 13 ls [.int z_13]) rfl ?_
  refine lv_if_eq (tgt := 23) hx hb dX6_addToken_13 (by decide) (fun c_16 => ?_) (fun c_16 => ?_)
  · refine lv_iload_n hx hb dX6_addToken_23 rfl (lv_at hl 0 rfl) ?_
    have hTo := hT
    refine K_S ⟨hx, hb, hml, hown, hts⟩ (t_X6_isDigit l dC dI sa hlt g _ _ z_7 _ (hT.sub [] rfl)  ) (va_cwS 1 hts gX6_addToken_X6_isDigit rfl rfl rfl (by decide +kernel) ⟨Nat.le_of_ble_eq_true rfl, Nat.le_of_ble_eq_true rfl⟩) hP hD hK hS hA hev hT rfl hl.1 rfl (Nat.le_of_ble_eq_true rfl) dX6_addToken_24 ⟨Nat.le_of_ble_eq_true rfl, Nat.le_of_ble_eq_true rfl⟩ (fun r L_17 f_18 H locs hw_19 hP hD hS hT hE1 => ?_)
    have hF := Fr.call hF hE hw_19.2 (by decide)
    have hE := hE.tr hE1
    obtain ⟨⟨z_20, rfl, hz_z_20⟩, hw_19⟩ := hw_19
    have hk_21 : rd f_18 h0 1 = .int le := (hw_19 h0 (hTo.at 0 rfl).1 6 (hTo.at 0 rfl).2 1 (by decide)).trans hk_14
    have hk_22 : rd f_18 h0 2 = .int a0 := (hw_19 h0 (hTo.at 0 rfl).1 6 (hTo.at 0 rfl).2 2 (by decide)).trans hk_15
    refine W.eq (g2 := F0 m 27 ls [.int z_20]) rfl ?_
    refine lv_if_eq (tgt := 37) hx hb dX6_addToken_27 (by decide) (fun c_23 => ?_) (fun c_23 => ?_)
    · refine lv_aload_n hx hb dX6_addToken_37 rfl (lv_at hl 1 rfl) ?_
      refine lv_iload_n hx hb dX6_addToken_38 rfl (lv_at hl 0 rfl) ?_
      have hTo := hT
      refine K_S ⟨hx, hb, hml, hown, hts⟩ (t_X6_isSign l dC dI sa hlt g _ _ z_7 _ (hT.sub [] rfl)  ) (va_cwS 1 hts gX6_addToken_X6_isSign rfl rfl rfl (by decide +kernel) ⟨Nat.le_of_ble_eq_true rfl, Nat.le_of_ble_eq_true rfl⟩) hP hD hK hS hA hev hT rfl hl.1 rfl (Nat.le_of_ble_eq_true rfl) dX6_addToken_39 ⟨Nat.le_of_ble_eq_true rfl, Nat.le_of_ble_eq_true rfl⟩ (fun r L_24 f_25 H locs hw_26 hP hD hS hT hE1 => ?_)
      have hF := Fr.call hF hE hw_26.2 (by decide)
      have hE := hE.tr hE1
      obtain ⟨⟨z_27, rfl, hz_z_27⟩, hw_26⟩ := hw_26
      have hk_28 : rd f_25 h0 1 = .int le := (hw_26 h0 (hTo.at 0 rfl).1 6 (hTo.at 0 rfl).2 1 (by decide)).trans hk_21
      have hk_29 : rd f_25 h0 2 = .int a0 := (hw_26 h0 (hTo.at 0 rfl).1 6 (hTo.at 0 rfl).2 2 (by decide)).trans hk_22
      refine W.eq (g2 := F0 m 42 ls [.int z_27, .ref h0]) rfl ?_
      refine lv_if_eq (tgt := 49) hx hb dX6_addToken_42 (by decide) (fun c_30 => ?_) (fun c_30 => ?_)
      · refine lv_bipush (v := (-3)) hx hb dX6_addToken_49 (by decide) ?_
        refine lv_aload_n hx hb dX6_addToken_51 rfl (lv_at hl 1 rfl) ?_
        refine T_get (ci := 6) (C := RX6) (T := TX6) (N := 7) (t := tI) hx hb hts inw_X6_addToken_6 hown hK hP hT 0 rfl rfl 2 (by decide) (hts (.fieldLink RX6 38 "VatHouse$Tokens" "at" "I") (by decide +kernel)) (fun _ h9 => h9) rfl dX6_addToken_52 (fun v_33 hv_31 hr_32 => ?_)
        obtain rfl : v_33 = .int a0 := hr_32.symm.trans hk_29
        refine lv_iconst (v := 0) hx hb dX6_addToken_55 (by decide) ?_
        have hTo := hT
        refine K_V ⟨hx, hb, hml, hown, hts⟩ (t_X6_keep l dC dI sa hlt g _ _ h0 (-3) a0 0 _ (hT.sub [0] rfl)  ) (cwV 3 hts gX6_addToken_X6_keep rfl rfl rfl (by decide +kernel) ⟨Nat.le_of_ble_eq_true rfl, Nat.le_of_ble_eq_true rfl⟩) hP hD hK hS hA hev hT 0 6 rfl rfl rfl rfl hl.1 rfl (Nat.le_of_ble_eq_true rfl) dX6_addToken_56 ⟨Nat.le_of_ble_eq_true rfl, Nat.le_of_ble_eq_true rfl⟩ (fun r L_34 f_35 H locs hw_36 hP hD hS hT hE1 => ?_)
        have hF := Fr.call hF hE hw_36.2 (by decide)
        have hE := hE.tr hE1
        obtain ⟨rfl, hw_36⟩ := hw_36
        have hk_37 : rd f_35 h0 1 = .int le := (hw_36 h0 (hTo.at 0 rfl).1 6 (hTo.at 0 rfl).2 1 (by decide)).trans hk_28
        have hk_38 : rd f_35 h0 2 = .int a0 := (hw_36 h0 (hTo.at 0 rfl).1 6 (hTo.at 0 rfl).2 2 (by decide)).trans hk_29
        refine W.eq (g2 := F0 m 59 ls []) rfl ?_
        refine lv_aload_n hx hb dX6_addToken_59 rfl (lv_at hl 1 rfl) ?_
        refine lv_dup hx hb dX6_addToken_60 rfl ?_
        refine T_get (ci := 6) (C := RX6) (T := TX6) (N := 7) (t := tI) hx hb hts inw_X6_addToken_6 hown hK hP hT 0 rfl rfl 2 (by decide) (hts (.fieldLink RX6 38 "VatHouse$Tokens" "at" "I") (by decide +kernel)) (fun _ h9 => h9) rfl dX6_addToken_61 (fun v_41 hv_39 hr_40 => ?_)
        obtain rfl : v_41 = .int a0 := hr_40.symm.trans hk_38
        refine lv_iconst (v := 1) hx hb dX6_addToken_64 (by decide) ?_
        refine lv_iadd hx hb dX6_addToken_65 ?_
        refine lv_topi (fun z_42 ez_42 => ?_)
        have hTo := hT
        refine T_put (ci := 6) (v := .int z_42) (ty := .int) (t := tI) (C := RX6) (T := TX6) (N := 7) hx hb hts inw_X6_addToken_6 tyX6 tyX6_ok nmX6 hown hK hP hD hS hT 0 rfl rfl 2 (by decide) (hts (.fieldLink RX6 38 "VatHouse$Tokens" "at" "I") (by decide +kernel)) (fun _ h9 => h9) rfl (by decide +kernel) rfl rfl rfl ⟨_, rfl⟩ dX6_addToken_66 (fun f_43 H locs hP hD hS hT hE1 hrd_44 => ?_)
        have hF := Fr.put (a := h0) (ci := 6) hF hE ((hE1 h0 (hT.at 0 rfl).1).2.symm.trans (hT.at 0 rfl).2) (by decide) hrd_44
        have hE := hE.tr hE1
        have hk_45 : rd f_43 h0 1 = .int le := ((Fr.put (cs := [(6, 2)]) (a := h0) (ci := 6) Fr.rf Ext.rf (hTo.at 0 rfl).2 (by decide) hrd_44) h0 (hTo.at 0 rfl).1 6 (hTo.at 0 rfl).2 1 (by decide)).trans hk_37
        have hk_46 : rd f_43 h0 2 = .int z_42 := (hrd_44 h0 2).trans (if_pos ⟨rfl, rfl⟩)
        exact K_v hx hb hr hlocks hP hD hK hS hT hE ⟨rfl, hF⟩ (Nat.le_of_ble_eq_true rfl) (Nat.le_of_ble_eq_true rfl) dX6_addToken_69
      · refine lv_iload_n hx hb dX6_addToken_45 rfl (lv_at hl 0 rfl) ?_
        refine lv_goto (tgt := 51) hx hb dX6_addToken_46 (by decide) ?_
        refine lv_aload_n hx hb dX6_addToken_51 rfl (lv_at hl 1 rfl) ?_
        refine T_get (ci := 6) (C := RX6) (T := TX6) (N := 7) (t := tI) hx hb hts inw_X6_addToken_6 hown hK hP hT 0 rfl rfl 2 (by decide) (hts (.fieldLink RX6 38 "VatHouse$Tokens" "at" "I") (by decide +kernel)) (fun _ h9 => h9) rfl dX6_addToken_52 (fun v_49 hv_47 hr_48 => ?_)
        obtain rfl : v_49 = .int a0 := hr_48.symm.trans hk_29
        refine lv_iconst (v := 0) hx hb dX6_addToken_55 (by decide) ?_
        have hTo := hT
        refine K_V ⟨hx, hb, hml, hown, hts⟩ (t_X6_keep l dC dI sa hlt g _ _ h0 z_7 a0 0 _ (hT.sub [0] rfl)  ) (cwV 3 hts gX6_addToken_X6_keep rfl rfl rfl (by decide +kernel) ⟨Nat.le_of_ble_eq_true rfl, Nat.le_of_ble_eq_true rfl⟩) hP hD hK hS hA hev hT 0 6 rfl rfl rfl rfl hl.1 rfl (Nat.le_of_ble_eq_true rfl) dX6_addToken_56 ⟨Nat.le_of_ble_eq_true rfl, Nat.le_of_ble_eq_true rfl⟩ (fun r L_50 f_51 H locs hw_52 hP hD hS hT hE1 => ?_)
        have hF := Fr.call hF hE hw_52.2 (by decide)
        have hE := hE.tr hE1
        obtain ⟨rfl, hw_52⟩ := hw_52
        have hk_53 : rd f_51 h0 1 = .int le := (hw_52 h0 (hTo.at 0 rfl).1 6 (hTo.at 0 rfl).2 1 (by decide)).trans hk_28
        have hk_54 : rd f_51 h0 2 = .int a0 := (hw_52 h0 (hTo.at 0 rfl).1 6 (hTo.at 0 rfl).2 2 (by decide)).trans hk_29
        refine W.eq (g2 := F0 m 59 ls []) rfl ?_
        refine lv_aload_n hx hb dX6_addToken_59 rfl (lv_at hl 1 rfl) ?_
        refine lv_dup hx hb dX6_addToken_60 rfl ?_
        refine T_get (ci := 6) (C := RX6) (T := TX6) (N := 7) (t := tI) hx hb hts inw_X6_addToken_6 hown hK hP hT 0 rfl rfl 2 (by decide) (hts (.fieldLink RX6 38 "VatHouse$Tokens" "at" "I") (by decide +kernel)) (fun _ h9 => h9) rfl dX6_addToken_61 (fun v_57 hv_55 hr_56 => ?_)
        obtain rfl : v_57 = .int a0 := hr_56.symm.trans hk_54
        refine lv_iconst (v := 1) hx hb dX6_addToken_64 (by decide) ?_
        refine lv_iadd hx hb dX6_addToken_65 ?_
        refine lv_topi (fun z_58 ez_58 => ?_)
        have hTo := hT
        refine T_put (ci := 6) (v := .int z_58) (ty := .int) (t := tI) (C := RX6) (T := TX6) (N := 7) hx hb hts inw_X6_addToken_6 tyX6 tyX6_ok nmX6 hown hK hP hD hS hT 0 rfl rfl 2 (by decide) (hts (.fieldLink RX6 38 "VatHouse$Tokens" "at" "I") (by decide +kernel)) (fun _ h9 => h9) rfl (by decide +kernel) rfl rfl rfl ⟨_, rfl⟩ dX6_addToken_66 (fun f_59 H locs hP hD hS hT hE1 hrd_60 => ?_)
        have hF := Fr.put (a := h0) (ci := 6) hF hE ((hE1 h0 (hT.at 0 rfl).1).2.symm.trans (hT.at 0 rfl).2) (by decide) hrd_60
        have hE := hE.tr hE1
        have hk_61 : rd f_59 h0 1 = .int le := ((Fr.put (cs := [(6, 2)]) (a := h0) (ci := 6) Fr.rf Ext.rf (hTo.at 0 rfl).2 (by decide) hrd_60) h0 (hTo.at 0 rfl).1 6 (hTo.at 0 rfl).2 1 (by decide)).trans hk_53
        have hk_62 : rd f_59 h0 2 = .int z_58 := (hrd_60 h0 2).trans (if_pos ⟨rfl, rfl⟩)
        exact K_v hx hb hr hlocks hP hD hK hS hT hE ⟨rfl, hF⟩ (Nat.le_of_ble_eq_true rfl) (Nat.le_of_ble_eq_true rfl) dX6_addToken_69
    · refine lv_aload_n hx hb dX6_addToken_30 rfl (lv_at hl 1 rfl) ?_
      have hTo := hT
      refine K_V ⟨hx, hb, hml, hown, hts⟩ (t_X6_addDigits l dC dI sa hlt g _ _ h0 le a0 _ (hT.sub [0] rfl)  hk_21 hk_22 ) (cwV 0 hts gX6_addToken_X6_addDigits rfl rfl rfl (by decide +kernel) ⟨Nat.le_of_ble_eq_true rfl, Nat.le_of_ble_eq_true rfl⟩) hP hD hK hS hA hev hT 0 6 rfl rfl rfl rfl hl.1 rfl (Nat.le_of_ble_eq_true rfl) dX6_addToken_31 ⟨Nat.le_of_ble_eq_true rfl, Nat.le_of_ble_eq_true rfl⟩ (fun r L_63 f_64 H locs hw_65 hP hD hS hT hE1 => ?_)
      have hF := Fr.call hF hE hw_65.2 (by decide)
      have hE := hE.tr hE1
      obtain ⟨rfl, hw_65⟩ := hw_65
      have hk_66 : rd f_64 h0 1 = .int le := (hw_65 h0 (hTo.at 0 rfl).1 6 (hTo.at 0 rfl).2 1 (by decide)).trans hk_21
      refine W.eq (g2 := F0 m 34 ls []) rfl ?_
      refine lv_goto (tgt := 69) hx hb dX6_addToken_34 (by decide) ?_
      exact K_v hx hb hr hlocks hP hD hK hS hT hE ⟨rfl, hF⟩ (Nat.le_of_ble_eq_true rfl) (Nat.le_of_ble_eq_true rfl) dX6_addToken_69
  · refine lv_aload_n hx hb dX6_addToken_16 rfl (lv_at hl 1 rfl) ?_
    have hTo := hT
    refine K_V ⟨hx, hb, hml, hown, hts⟩ (t_X6_addLetters l dC dI sa hlt g _ _ h0 le a0 _ (hT.sub [0] rfl)  hk_14 hk_15 ) (cwV 0 hts gX6_addToken_X6_addLetters rfl rfl rfl (by decide +kernel) ⟨Nat.le_of_ble_eq_true rfl, Nat.le_of_ble_eq_true rfl⟩) hP hD hK hS hA hev hT 0 6 rfl rfl rfl rfl hl.1 rfl (Nat.le_of_ble_eq_true rfl) dX6_addToken_17 ⟨Nat.le_of_ble_eq_true rfl, Nat.le_of_ble_eq_true rfl⟩ (fun r L_67 f_68 H locs hw_69 hP hD hS hT hE1 => ?_)
    have hF := Fr.call hF hE hw_69.2 (by decide)
    have hE := hE.tr hE1
    obtain ⟨rfl, hw_69⟩ := hw_69
    have hk_70 : rd f_68 h0 1 = .int le := (hw_69 h0 (hTo.at 0 rfl).1 6 (hTo.at 0 rfl).2 1 (by decide)).trans hk_14
    refine W.eq (g2 := F0 m 20 ls []) rfl ?_
    refine lv_goto (tgt := 69) hx hb dX6_addToken_20 (by decide) ?_
    exact K_v hx hb hr hlocks hP hD hK hS hT hE ⟨rfl, hF⟩ (Nat.le_of_ble_eq_true rfl) (Nat.le_of_ble_eq_true rfl) dX6_addToken_69

abbrev rm_X6_split : Room := { frames := 8, cells := 0, slots := 0, locals := 231 }
theorem inw_X6_split_6 : ∀ w ∈ wsX60, w ∈ wsX6_split := by decide +kernel
set_option maxHeartbeats 800000 in
set_option maxRecDepth 100000 in
theorem t_X6_split (l : Launch) (dC : Nat → ClassId) (dI : Nat → Nat → Nat) (sa : Nat → Nat) (hlt : l.stackTraces = false) (g : Nat → Nat) (L : List Nat) (f : Nat → va_E) (h0 : Nat) (nn : Int32) (sz : Nat) (hT : TP g L f [(h0, (0, 6, 0))]) : KC l dC dI sa g yX6_split wsX6_split rm_X6_split [.ref h0, .int nn] L f sz (fun r L' f' => (r = none) ∧ Fr [(6, 1), (6, 2), (6, 3)] L f f') 0 0 := by
  refine CT.start (cc := cX6_split) (maxL := 3) (ret := none) (by decide) rfl (Nat.le_of_ble_eq_true rfl) ?_
  intro p e s m below meth c ls hst hP hK hD hev hS hl
  obtain ⟨hx, hb, hr, hml, hts, hown, hlocks, hin⟩ := hst
  have hown : s.vm.findClass RX6 = some m.cls := hown
  have hin : meth.name = yX6_split.name := hin
  have hA : ∀ q : Nat, s.heap.size ≤ q → va_A (va_pl L f) s.heap.size q := fun _ h => Or.inr h
  have hE : Ext L f L f := Ext.rf
  have hF : Fr [(6, 1), (6, 2), (6, 3)] L f f := Fr.rf
  have hl : lv_has ls 3 [(0, .ref h0), (1, .int nn)] := hl
  refine lv_aload_n hx hb dX6_split_0 rfl (lv_at hl 0 rfl) ?_
  refine lv_iconst (v := 0) hx hb dX6_split_1 (by decide) ?_
  refine lv_iload_n hx hb dX6_split_2 rfl (lv_at hl 1 rfl) ?_
  refine lv_aload_n hx hb dX6_split_3 rfl (lv_at hl 0 rfl) ?_
  refine T_get (ci := 6) (C := RX6) (T := TX6) (N := 7) (t := (1, 1, g 1, 1500)) hx hb hts inw_X6_split_6 hown hK hP hT 0 rfl rfl 0 (by decide) (hts (.fieldLink RX6 21 "VatHouse$Tokens" "text" "[B") (by decide +kernel)) (fun _ h9 => h9) rfl dX6_split_4 (fun v_3 hv_1 hr_2 => ?_)
  obtain ⟨b_4, rfl, hb9⟩ := hv_1
  have hT := hT.add hb9
  refine T_alen hx hb hK hP hT 0 1 rfl rfl (v := 1500) rfl dX6_split_7 ?_
  refine va_mmin hx hb (hml.trans hl.1.symm) hown (hts (.methodLink RX6 25 Lib.Math.min.name) (by decide +kernel)) (hts (.static Lib.Math.min.name) (by decide +kernel)) (hts (.initialized "java/lang/Math") (by decide +kernel)) (hts (.code Lib.Math.min.name Lib.Math.min.code 2 (some .int)) (by decide +kernel)) (Nat.le_of_ble_eq_true rfl) (Nat.le_of_ble_eq_true rfl) (Nat.le_of_ble_eq_true rfl) (Nat.le_of_ble_eq_true rfl) dX6_split_8 ?_
  refine lv_topi (fun z_5 ez_5 => ?_)
  refine va_mmax hx hb (hml.trans hl.1.symm) hown (hts (.methodLink RX6 31 Lib.Math.max.name) (by decide +kernel)) (hts (.static Lib.Math.max.name) (by decide +kernel)) (hts (.initialized "java/lang/Math") (by decide +kernel)) (hts (.code Lib.Math.max.name Lib.Math.max.code 2 (some .int)) (by decide +kernel)) (Nat.le_of_ble_eq_true rfl) (Nat.le_of_ble_eq_true rfl) (Nat.le_of_ble_eq_true rfl) (Nat.le_of_ble_eq_true rfl) dX6_split_11 ?_
  refine lv_topi (fun z_6 ez_6 => ?_)
  refine T_put (ci := 6) (v := .int z_6) (ty := .int) (t := tI) (C := RX6) (T := TX6) (N := 7) hx hb hts inw_X6_split_6 tyX6 tyX6_ok nmX6 hown hK hP hD hS hT 1 rfl rfl 1 (by decide) (hts (.fieldLink RX6 34 "VatHouse$Tokens" "length" "I") (by decide +kernel)) (fun _ h9 => h9) rfl (by decide +kernel) rfl rfl rfl ⟨_, rfl⟩ dX6_split_14 (fun f_7 H locs hP hD hS hT hE1 hrd_8 => ?_)
  have hF := Fr.put (a := h0) (ci := 6) hF hE ((hE1 h0 (hT.at 1 rfl).1).2.symm.trans (hT.at 1 rfl).2) (by decide) hrd_8
  have hE := hE.tr hE1
  have hk_9 : rd f_7 h0 1 = .int z_6 := (hrd_8 h0 1).trans (if_pos ⟨rfl, rfl⟩)
  refine lv_aload_n hx hb dX6_split_17 rfl (lv_at hl 0 rfl) ?_
  refine lv_iconst (v := 0) hx hb dX6_split_18 (by decide) ?_
  have hTo := hT
  refine T_put (ci := 6) (v := .int 0) (ty := .int) (t := tI) (C := RX6) (T := TX6) (N := 7) hx hb hts inw_X6_split_6 tyX6 tyX6_ok nmX6 hown hK hP hD hS hT 1 rfl rfl 2 (by decide) (hts (.fieldLink RX6 38 "VatHouse$Tokens" "at" "I") (by decide +kernel)) (fun _ h9 => h9) rfl (by decide +kernel) rfl rfl rfl ⟨_, rfl⟩ dX6_split_19 (fun f_10 H locs hP hD hS hT hE1 hrd_11 => ?_)
  have hF := Fr.put (a := h0) (ci := 6) hF hE ((hE1 h0 (hT.at 1 rfl).1).2.symm.trans (hT.at 1 rfl).2) (by decide) hrd_11
  have hE := hE.tr hE1
  have hk_12 : rd f_10 h0 1 = .int z_6 := ((Fr.put (cs := [(6, 2)]) (a := h0) (ci := 6) Fr.rf Ext.rf (hTo.at 1 rfl).2 (by decide) hrd_11) h0 (hTo.at 1 rfl).1 6 (hTo.at 1 rfl).2 1 (by decide)).trans hk_9
  have hk_13 : rd f_10 h0 2 = .int 0 := (hrd_11 h0 2).trans (if_pos ⟨rfl, rfl⟩)
  refine lv_aload_n hx hb dX6_split_22 rfl (lv_at hl 0 rfl) ?_
  refine lv_iconst (v := 0) hx hb dX6_split_23 (by decide) ?_
  have hTo := hT
  refine T_put (ci := 6) (v := .int 0) (ty := .int) (t := tI) (C := RX6) (T := TX6) (N := 7) hx hb hts inw_X6_split_6 tyX6 tyX6_ok nmX6 hown hK hP hD hS hT 1 rfl rfl 3 (by decide) (hts (.fieldLink RX6 41 "VatHouse$Tokens" "size" "I") (by decide +kernel)) (fun _ h9 => h9) rfl (by decide +kernel) rfl rfl rfl ⟨_, rfl⟩ dX6_split_24 (fun f_14 H locs hP hD hS hT hE1 hrd_15 => ?_)
  have hF := Fr.put (a := h0) (ci := 6) hF hE ((hE1 h0 (hT.at 1 rfl).1).2.symm.trans (hT.at 1 rfl).2) (by decide) hrd_15
  have hE := hE.tr hE1
  have hk_16 : rd f_14 h0 1 = .int z_6 := ((Fr.put (cs := [(6, 3)]) (a := h0) (ci := 6) Fr.rf Ext.rf (hTo.at 1 rfl).2 (by decide) hrd_15) h0 (hTo.at 1 rfl).1 6 (hTo.at 1 rfl).2 1 (by decide)).trans hk_12
  have hk_17 : rd f_14 h0 2 = .int 0 := ((Fr.put (cs := [(6, 3)]) (a := h0) (ci := 6) Fr.rf Ext.rf (hTo.at 1 rfl).2 (by decide) hrd_15) h0 (hTo.at 1 rfl).1 6 (hTo.at 1 rfl).2 2 (by decide)).trans hk_13
  refine lv_iconst (v := 0) hx hb dX6_split_27 (by decide) ?_
  refine lv_istore_n (lv' := [(2, .int 0), (0, .ref h0), (1, .int nn)]) hx hb dX6_split_28 rfl hl (by decide) rfl (fun ls hl => ?_)
  have lp : ∀ (n : Nat) (ii : Int32) (L1 : List Nat) (f1 : Nat → va_E) (H : Heap) (locs : List Loc) (ls : Array Slot), ((z_6.toInt - ii.toInt).toNat < n) → rd f1 h0 1 = .int z_6 → va_P (dC, dI) vwCl (va_pl L1 f1) H → va_D (va_A (va_pl L f) s.heap.size) (va_pl L1 f1) → va_S (va_A (va_pl L f) s.heap.size) s.heap H locs → TP g L1 f1 [(h0, (0, 6, 0))] → Ext L f L1 f1 → Fr [(6, 1), (6, 2), (6, 3)] L f f1 → lv_has ls 3 [(2, .int ii), (0, .ref h0), (1, .int nn)] → W p l e rm_X6_split s m [.ref h0, .int nn].toArray below meth c H locs 0 0 (MQ below (Qg (kpost g L f (fun r L' f' => (r = none) ∧ Fr [(6, 1), (6, 2), (6, 3)] L f f')) (fun (u : PL) t => QW dC dI (va_A (va_pl L f) s.heap.size) (va_pl u.1 u.2) [] t) (va_A (va_pl L f) s.heap.size)) [.ref h0, .int nn].toArray s (0) (0) (va_A (va_pl L f) s.heap.size)) (F0 m 29 ls []) := by
    intro n
    induction n with
    | zero => intro ii L1 f1 H locs ls hm hk_h0_1 hP hD hS hT hE hF hl; exact absurd hm (by omega)
    | succ n ih =>
      intro ii L1 f1 H locs ls hm hk_h0_1 hP hD hS hT hE hF hl
      refine lv_iload_n hx hb dX6_split_29 rfl (lv_at hl 0 rfl) ?_
      refine lv_aload_n hx hb dX6_split_30 rfl (lv_at hl 1 rfl) ?_
      refine T_get (ci := 6) (C := RX6) (T := TX6) (N := 7) (t := tI) hx hb hts inw_X6_split_6 hown hK hP hT 0 rfl rfl 1 (by decide) (hts (.fieldLink RX6 34 "VatHouse$Tokens" "length" "I") (by decide +kernel)) (fun _ h9 => h9) rfl dX6_split_31 (fun v_20 hv_18 hr_19 => ?_)
      obtain rfl : v_20 = .int z_6 := hr_19.symm.trans hk_h0_1
      refine lv_icmp_ge (tgt := 85) hx hb dX6_split_34 (by decide) (fun c_21 => ?_) (fun c_21 => ?_)
      · refine lv_aload_n hx hb dX6_split_85 rfl (lv_at hl 1 rfl) ?_
        refine lv_iconst (v := 0) hx hb dX6_split_86 (by decide) ?_
        refine lv_aload_n hx hb dX6_split_87 rfl (lv_at hl 1 rfl) ?_
        refine T_get (ci := 6) (C := RX6) (T := TX6) (N := 7) (t := tI) hx hb hts inw_X6_split_6 hown hK hP hT 0 rfl rfl 1 (by decide) (hts (.fieldLink RX6 34 "VatHouse$Tokens" "length" "I") (by decide +kernel)) (fun _ h9 => h9) rfl dX6_split_88 (fun v_24 hv_22 hr_23 => ?_)
        obtain rfl : v_24 = .int z_6 := hr_23.symm.trans hk_h0_1
        refine lv_iconst (v := 0) hx hb dX6_split_91 (by decide) ?_
        have hTo := hT
        refine K_V ⟨hx, hb, hml, hown, hts⟩ (t_X6_keep l dC dI sa hlt g _ _ h0 0 z_6 0 _ (hT.sub [0] rfl)  ) (cwV 3 hts gX6_split_X6_keep rfl rfl rfl (by decide +kernel) ⟨Nat.le_of_ble_eq_true rfl, Nat.le_of_ble_eq_true rfl⟩) hP hD hK hS hA hev hT 0 6 rfl rfl rfl rfl hl.1 rfl (Nat.le_of_ble_eq_true rfl) dX6_split_92 ⟨Nat.le_of_ble_eq_true rfl, Nat.le_of_ble_eq_true rfl⟩ (fun r L_25 f_26 H locs hw_27 hP hD hS hT hE1 => ?_)
        have hF := Fr.call hF hE hw_27.2 (by decide)
        have hE := hE.tr hE1
        obtain ⟨rfl, hw_27⟩ := hw_27
        have hk_28 : rd f_26 h0 1 = .int z_6 := (hw_27 h0 (hTo.at 0 rfl).1 6 (hTo.at 0 rfl).2 1 (by decide)).trans hk_h0_1
        refine W.eq (g2 := F0 m 95 ls []) rfl ?_
        exact K_v hx hb hr hlocks hP hD hK hS hT hE ⟨rfl, hF⟩ (Nat.le_of_ble_eq_true rfl) (Nat.le_of_ble_eq_true rfl) dX6_split_95
      · refine lv_aload_n hx hb dX6_split_37 rfl (lv_at hl 1 rfl) ?_
        refine T_get (ci := 6) (C := RX6) (T := TX6) (N := 7) (t := tI) hx hb hts inw_X6_split_6 hown hK hP hT 0 rfl rfl 2 (by decide) (hts (.fieldLink RX6 38 "VatHouse$Tokens" "at" "I") (by decide +kernel)) (fun _ h9 => h9) rfl dX6_split_38 (fun v_31 hv_29 hr_30 => ?_)
        obtain ⟨z_32, rfl⟩ := hv_29
        refine lv_aload_n hx hb dX6_split_41 rfl (lv_at hl 1 rfl) ?_
        refine T_get (ci := 6) (C := RX6) (T := TX6) (N := 7) (t := tI) hx hb hts inw_X6_split_6 hown hK hP hT 0 rfl rfl 1 (by decide) (hts (.fieldLink RX6 34 "VatHouse$Tokens" "length" "I") (by decide +kernel)) (fun _ h9 => h9) rfl dX6_split_42 (fun v_35 hv_33 hr_34 => ?_)
        obtain rfl : v_35 = .int z_6 := hr_34.symm.trans hk_h0_1
        refine lv_icmp_ge (tgt := 85) hx hb dX6_split_45 (by decide) (fun c_36 => ?_) (fun c_36 => ?_)
        · refine lv_aload_n hx hb dX6_split_85 rfl (lv_at hl 1 rfl) ?_
          refine lv_iconst (v := 0) hx hb dX6_split_86 (by decide) ?_
          refine lv_aload_n hx hb dX6_split_87 rfl (lv_at hl 1 rfl) ?_
          refine T_get (ci := 6) (C := RX6) (T := TX6) (N := 7) (t := tI) hx hb hts inw_X6_split_6 hown hK hP hT 0 rfl rfl 1 (by decide) (hts (.fieldLink RX6 34 "VatHouse$Tokens" "length" "I") (by decide +kernel)) (fun _ h9 => h9) rfl dX6_split_88 (fun v_39 hv_37 hr_38 => ?_)
          obtain rfl : v_39 = .int z_6 := hr_38.symm.trans hk_h0_1
          refine lv_iconst (v := 0) hx hb dX6_split_91 (by decide) ?_
          have hTo := hT
          refine K_V ⟨hx, hb, hml, hown, hts⟩ (t_X6_keep l dC dI sa hlt g _ _ h0 0 z_6 0 _ (hT.sub [0] rfl)  ) (cwV 3 hts gX6_split_X6_keep rfl rfl rfl (by decide +kernel) ⟨Nat.le_of_ble_eq_true rfl, Nat.le_of_ble_eq_true rfl⟩) hP hD hK hS hA hev hT 0 6 rfl rfl rfl rfl hl.1 rfl (Nat.le_of_ble_eq_true rfl) dX6_split_92 ⟨Nat.le_of_ble_eq_true rfl, Nat.le_of_ble_eq_true rfl⟩ (fun r L_40 f_41 H locs hw_42 hP hD hS hT hE1 => ?_)
          have hF := Fr.call hF hE hw_42.2 (by decide)
          have hE := hE.tr hE1
          obtain ⟨rfl, hw_42⟩ := hw_42
          have hk_43 : rd f_41 h0 1 = .int z_6 := (hw_42 h0 (hTo.at 0 rfl).1 6 (hTo.at 0 rfl).2 1 (by decide)).trans hk_h0_1
          have hk_44 : rd f_41 h0 2 = .int z_32 := (hw_42 h0 (hTo.at 0 rfl).1 6 (hTo.at 0 rfl).2 2 (by decide)).trans hr_30
          refine W.eq (g2 := F0 m 95 ls []) rfl ?_
          exact K_v hx hb hr hlocks hP hD hK hS hT hE ⟨rfl, hF⟩ (Nat.le_of_ble_eq_true rfl) (Nat.le_of_ble_eq_true rfl) dX6_split_95
        · refine lv_aload_n hx hb dX6_split_48 rfl (lv_at hl 1 rfl) ?_
          refine lv_aload_n hx hb dX6_split_49 rfl (lv_at hl 1 rfl) ?_
          refine T_get (ci := 6) (C := RX6) (T := TX6) (N := 7) (t := tI) hx hb hts inw_X6_split_6 hown hK hP hT 0 rfl rfl 2 (by decide) (hts (.fieldLink RX6 38 "VatHouse$Tokens" "at" "I") (by decide +kernel)) (fun _ h9 => h9) rfl dX6_split_50 (fun v_47 hv_45 hr_46 => ?_)
          obtain rfl : v_47 = .int z_32 := hr_46.symm.trans hr_30
          have hTo := hT
          refine K_V ⟨hx, hb, hml, hown, hts⟩ (t_X6_byteAt l dC dI sa hlt g _ _ h0 z_32 _ (hT.sub [0] rfl)  ) (cwV 1 hts gX6_split_X6_byteAt rfl rfl rfl (by decide +kernel) ⟨Nat.le_of_ble_eq_true rfl, Nat.le_of_ble_eq_true rfl⟩) hP hD hK hS hA hev hT 0 6 rfl rfl rfl rfl hl.1 rfl (Nat.le_of_ble_eq_true rfl) dX6_split_53 ⟨Nat.le_of_ble_eq_true rfl, Nat.le_of_ble_eq_true rfl⟩ (fun r L_48 f_49 H locs hw_50 hP hD hS hT hE1 => ?_)
          have hF := Fr.call hF hE hw_50.2 (by decide)
          have hE := hE.tr hE1
          obtain ⟨⟨z_51, rfl⟩, hw_50⟩ := hw_50
          have hk_52 : rd f_49 h0 1 = .int z_6 := (hw_50 h0 (hTo.at 0 rfl).1 6 (hTo.at 0 rfl).2 1 (by decide)).trans hk_h0_1
          have hk_53 : rd f_49 h0 2 = .int z_32 := (hw_50 h0 (hTo.at 0 rfl).1 6 (hTo.at 0 rfl).2 2 (by decide)).trans hr_30
          refine W.eq (g2 := F0 m 56 ls [.int z_51]) rfl ?_
          have hTo := hT
          refine K_S ⟨hx, hb, hml, hown, hts⟩ (t_X6_isBlank l dC dI sa hlt g _ _ z_51 _ (hT.sub [] rfl)  ) (va_cwS 1 hts gX6_split_X6_isBlank rfl rfl rfl (by decide +kernel) ⟨Nat.le_of_ble_eq_true rfl, Nat.le_of_ble_eq_true rfl⟩) hP hD hK hS hA hev hT rfl hl.1 rfl (Nat.le_of_ble_eq_true rfl) dX6_split_56 ⟨Nat.le_of_ble_eq_true rfl, Nat.le_of_ble_eq_true rfl⟩ (fun r L_54 f_55 H locs hw_56 hP hD hS hT hE1 => ?_)
          have hF := Fr.call hF hE hw_56.2 (by decide)
          have hE := hE.tr hE1
          obtain ⟨⟨z_57, rfl, hz_z_57⟩, hw_56⟩ := hw_56
          have hk_58 : rd f_55 h0 1 = .int z_6 := (hw_56 h0 (hTo.at 0 rfl).1 6 (hTo.at 0 rfl).2 1 (by decide)).trans hk_52
          have hk_59 : rd f_55 h0 2 = .int z_32 := (hw_56 h0 (hTo.at 0 rfl).1 6 (hTo.at 0 rfl).2 2 (by decide)).trans hk_53
          refine W.eq (g2 := F0 m 59 ls [.int z_57]) rfl ?_
          refine lv_if_eq (tgt := 75) hx hb dX6_split_59 (by decide) (fun c_60 => ?_) (fun c_60 => ?_)
          · refine lv_aload_n hx hb dX6_split_75 rfl (lv_at hl 1 rfl) ?_
            have hTo := hT
            refine K_V ⟨hx, hb, hml, hown, hts⟩ (t_X6_addToken l dC dI sa hlt g _ _ h0 z_6 z_32 _ (hT.sub [0] rfl)  hk_58 hk_59 ) (cwV 0 hts gX6_split_X6_addToken rfl rfl rfl (by decide +kernel) ⟨Nat.le_of_ble_eq_true rfl, Nat.le_of_ble_eq_true rfl⟩) hP hD hK hS hA hev hT 0 6 rfl rfl rfl rfl hl.1 rfl (Nat.le_of_ble_eq_true rfl) dX6_split_76 ⟨Nat.le_of_ble_eq_true rfl, Nat.le_of_ble_eq_true rfl⟩ (fun r L_61 f_62 H locs hw_63 hP hD hS hT hE1 => ?_)
            have hF := Fr.call hF hE hw_63.2 (by decide)
            have hE := hE.tr hE1
            obtain ⟨rfl, hw_63⟩ := hw_63
            have hk_64 : rd f_62 h0 1 = .int z_6 := (hw_63 h0 (hTo.at 0 rfl).1 6 (hTo.at 0 rfl).2 1 (by decide)).trans hk_58
            refine W.eq (g2 := F0 m 79 ls []) rfl ?_
            refine lv_iinc (v := (ii + 1)) (lv' := [(2, .int (ii + 1)), (0, .ref h0), (1, .int nn)]) hx hb dX6_split_79 hl (k := 0) rfl rfl (by decide) rfl (fun ls hl => ?_)
            refine lv_goto (tgt := 29) hx hb dX6_split_82 (by decide) ?_
            exact ih (ii + 1) _ _ _ _ _ (at_nx hm c_21 rfl) hk_64 hP hD hS (hT.sub [0] rfl) hE hF (lv_sub hl [0, 1, 2] rfl)
          · refine lv_aload_n hx hb dX6_split_62 rfl (lv_at hl 1 rfl) ?_
            refine lv_dup hx hb dX6_split_63 rfl ?_
            refine T_get (ci := 6) (C := RX6) (T := TX6) (N := 7) (t := tI) hx hb hts inw_X6_split_6 hown hK hP hT 0 rfl rfl 2 (by decide) (hts (.fieldLink RX6 38 "VatHouse$Tokens" "at" "I") (by decide +kernel)) (fun _ h9 => h9) rfl dX6_split_64 (fun v_67 hv_65 hr_66 => ?_)
            obtain rfl : v_67 = .int z_32 := hr_66.symm.trans hk_59
            refine lv_iconst (v := 1) hx hb dX6_split_67 (by decide) ?_
            refine lv_iadd hx hb dX6_split_68 ?_
            refine lv_topi (fun z_68 ez_68 => ?_)
            have hTo := hT
            refine T_put (ci := 6) (v := .int z_68) (ty := .int) (t := tI) (C := RX6) (T := TX6) (N := 7) hx hb hts inw_X6_split_6 tyX6 tyX6_ok nmX6 hown hK hP hD hS hT 0 rfl rfl 2 (by decide) (hts (.fieldLink RX6 38 "VatHouse$Tokens" "at" "I") (by decide +kernel)) (fun _ h9 => h9) rfl (by decide +kernel) rfl rfl rfl ⟨_, rfl⟩ dX6_split_69 (fun f_69 H locs hP hD hS hT hE1 hrd_70 => ?_)
            have hF := Fr.put (a := h0) (ci := 6) hF hE ((hE1 h0 (hT.at 0 rfl).1).2.symm.trans (hT.at 0 rfl).2) (by decide) hrd_70
            have hE := hE.tr hE1
            have hk_71 : rd f_69 h0 1 = .int z_6 := ((Fr.put (cs := [(6, 2)]) (a := h0) (ci := 6) Fr.rf Ext.rf (hTo.at 0 rfl).2 (by decide) hrd_70) h0 (hTo.at 0 rfl).1 6 (hTo.at 0 rfl).2 1 (by decide)).trans hk_58
            have hk_72 : rd f_69 h0 2 = .int z_68 := (hrd_70 h0 2).trans (if_pos ⟨rfl, rfl⟩)
            refine lv_goto (tgt := 79) hx hb dX6_split_72 (by decide) ?_
            refine lv_iinc (v := (ii + 1)) (lv' := [(2, .int (ii + 1)), (0, .ref h0), (1, .int nn)]) hx hb dX6_split_79 hl (k := 0) rfl rfl (by decide) rfl (fun ls hl => ?_)
            refine lv_goto (tgt := 29) hx hb dX6_split_82 (by decide) ?_
            exact ih (ii + 1) _ _ _ _ _ (at_nx hm c_21 rfl) hk_71 hP hD hS (hT.sub [0] rfl) hE hF (lv_sub hl [0, 1, 2] rfl)
  exact lp ((z_6.toInt - (0 : Int32).toInt).toNat + 1) 0 _ _ _ _ _ (by omega) hk_16 hP hD hS (hT.sub [1] rfl) hE hF (lv_sub hl [0, 1, 2] rfl)
