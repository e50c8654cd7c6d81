theorem ne_sh {f : Nat → va_E} {a b : Nat} {s t : shp} (h1 : sh (f a) = s) (h2 : sh (f b) = t) (h : s ≠ t) : a ≠ b := by
  rintro rfl
  exact h (h1.symm.trans h2)
noncomputable def btA (tt : Nat → Int32) (ln p : Nat) : Int32 := if p < ln then tt p else 256
theorem bt_1 {ln p : Nat} {le x : Int32} (hle : le = nI ln ∧ ln ≤ 1500) (hp : p < 2147483648) (hx : x = nI p) (c : le ≤ x) : ¬ p < ln := by
  rw [hle.1, hx, nI_leI (by omega) (by omega)] at c
  omega
theorem bt_2 {ln p : Nat} {le x : Int32} (hle : le = nI ln ∧ ln ≤ 1500) (hp : p < 2147483648) (hx : x = nI p) (c : ¬ le ≤ x) : p < ln := by
  rw [hle.1, hx, nI_leI (by omega) (by omega)] at c
  omega
theorem bt_3 {ln p : Nat} {le x : Int32} (hle : le = nI ln ∧ ln ≤ 1500) (hp : p < 2147483648) (hx : x = nI p) (c1 : ¬ le ≤ x) (c : ¬ x < 1500) : False := by
  have h := bt_2 hle hp hx c1
  rw [hx] at c
  have c : ¬ nI p < nI 1500 := c
  rw [nI_ltI (by omega) (by omega)] at c
  omega
/-- a token is laid behind the others -/
noncomputable def LAY (f f' : Nat → va_E) (ka sta vaa j : Nat) (kd sr va : Int32) : Prop := ia f' ka = upd (ia f ka) j kd ∧ ia f' sta = upd (ia f sta) j sr ∧ ia f' vaa = upd (ia f vaa) j va

noncomputable abbrev rm_X6_byteAt : Room := { frames := 0, cells := 0, slots := 0, locals := 0 }
theorem inw_X6_byteAt_6 : ∀ w ∈ wsX60, w ∈ wsX6_byteAt := fun _ h => List.mem_cons_of_mem _ (List.mem_append_right _ h)
set_option maxHeartbeats 800000 in
set_option maxRecDepth 100000 in
theorem t_X6_byteAt (l : Launch) (dC : Nat → ClassId) (dI : Nat → Nat → Nat) (sa : Nat → Nat) (hlt : l.stackTraces = false) (g : Nat → Nat) (L : List Nat) (f : Nat → va_E) (tt : Nat → Int32) (ln : Nat) (h0 : Nat) (ix : Int32) (tp : Nat) (le : Int32) (sz : Nat) (hT : TP g L f [(h0, (0, 6, 0)), (tp, (1, g 1, 1500))]) (hm_le : rd f h0 1 = .int le) (h_tp : rd f h0 0 = .ref tp) (hta : ia f tp = tt) (hle : le = nI ln ∧ ln ≤ 1500) : KC l dC dI sa g yX6_byteAt wsX6_byteAt rm_X6_byteAt [.ref h0, .int ix] L f sz (fun r L' f' => (∃ z : Int32, r = some (.int z)) ∧ Fr [] L f f' ∧ (∀ p9 : Nat, p9 < 2147483648 → ix = nI p9 → r = some (.int (btA tt ln p9)))) 0 0 := by
  refine CT.start (cc := cX6_byteAt) (maxL := 2) (ret := (some .int)) (by decide) rfl (Nat.le_of_ble_eq_true rfl) ?_
  intro p e s m below meth c ls hst hP hK hD hev hS hl
  obtain ⟨hx, hb, hr, hml, hts, hown, hlocks, hin⟩ := hst
  have hown : s.vm.findClass RX6 = some m.cls := hown
  have hin : meth.name = yX6_byteAt.name := hin
  have hA : ∀ q : Nat, s.heap.size ≤ q → va_A (va_pl L f) s.heap.size q := fun _ h => Or.inr h
  have hE : Ext L f L f := Ext.rf
  have hF : Fr [] L f f := Fr.rf
  have hl : lv_has ls 2 [(0, .ref h0), (1, .int ix)] := hl
  have hT0 := hT
  refine lv_iload_n hx hb dX6_byteAt_0 rfl (lv_at hl 1 rfl) ?_
  refine lv_if_lt (tgt := 21) hx hb dX6_byteAt_1 (by decide) (fun c_1 => ?_) (fun c_1 => ?_)
  · refine lv_sipush (v := 256) hx hb dX6_byteAt_21 (by decide) ?_
    refine lv_goto (tgt := 33) hx hb dX6_byteAt_24 (by decide) ?_
    exact K_i hx hb hr hlocks hP hD hK hS hT hE ⟨⟨_, rfl⟩, hF, fun p9 hp9 he9 => absurd c_1 (he9 ▸ nI_pos hp9)⟩ (Nat.le_of_ble_eq_true rfl) (Nat.le_of_ble_eq_true rfl) dX6_byteAt_33
  · refine lv_iload_n hx hb dX6_byteAt_4 rfl (lv_at hl 1 rfl) ?_
    refine lv_aload_n hx hb dX6_byteAt_5 rfl (lv_at hl 0 rfl) ?_
    refine T_get (ci := 6) (C := RX6) (T := TX6) (N := 7) (t := tI) hx hb hts inw_X6_byteAt_6 hown hK hP hT 0 rfl rfl 1 (by decide) (hts (.fieldLink RX6 34 "VatHouse$Tokens" "length" "I") (List.mem_of_getElem? (i := 1) (by exact rfl))) (fun _ h9 => h9) rfl dX6_byteAt_6 (fun v_4 hv_2 hr_3 => ?_)
    obtain rfl : v_4 = .int le := hr_3.symm.trans hm_le
    refine lv_icmp_ge (tgt := 21) hx hb dX6_byteAt_9 (by decide) (fun c_5 => ?_) (fun c_5 => ?_)
    · refine lv_sipush (v := 256) hx hb dX6_byteAt_21 (by decide) ?_
      refine lv_goto (tgt := 33) hx hb dX6_byteAt_24 (by decide) ?_
      exact K_i hx hb hr hlocks hP hD hK hS hT hE ⟨⟨_, rfl⟩, hF, fun p9 hp9 he9 => by unfold btA; rw [if_neg (bt_1 hle hp9 he9 c_5)]⟩ (Nat.le_of_ble_eq_true rfl) (Nat.le_of_ble_eq_true rfl) dX6_byteAt_33
    · refine lv_iload_n hx hb dX6_byteAt_12 rfl (lv_at hl 1 rfl) ?_
      refine lv_aload_n hx hb dX6_byteAt_13 rfl (lv_at hl 0 rfl) ?_
      refine T_get (ci := 6) (C := RX6) (T := TX6) (N := 7) (t := (1, 1, g 1, 1500)) hx hb hts inw_X6_byteAt_6 hown hK hP hT 0 rfl rfl 0 (by decide) (hts (.fieldLink RX6 21 "VatHouse$Tokens" "text" "[B") (List.mem_of_getElem? (i := 2) (by exact rfl))) (fun _ h9 => h9) rfl dX6_byteAt_14 (fun v_8 hv_6 hr_7 => ?_)
      obtain rfl : v_8 = .ref tp := hr_7.symm.trans ((hF.1 h0 (hT0.at 0 rfl).1 6 (hT0.at 0 rfl).2 0 (by decide)).trans h_tp)
      refine T_alen hx hb hK hP hT 1 1 rfl rfl (v := 1500) rfl dX6_byteAt_17 ?_
      refine lv_icmp_lt (tgt := 27) hx hb dX6_byteAt_18 (by decide) (fun c_9 => ?_) (fun c_9 => ?_)
      · refine lv_aload_n hx hb dX6_byteAt_27 rfl (lv_at hl 0 rfl) ?_
        refine T_get (ci := 6) (C := RX6) (T := TX6) (N := 7) (t := (1, 1, g 1, 1500)) hx hb hts inw_X6_byteAt_6 hown hK hP hT 0 rfl rfl 0 (by decide) (hts (.fieldLink RX6 21 "VatHouse$Tokens" "text" "[B") (List.mem_of_getElem? (i := 2) (by exact rfl))) (fun _ h9 => h9) rfl dX6_byteAt_28 (fun v_12 hv_10 hr_11 => ?_)
        obtain rfl : v_12 = .ref tp := hr_11.symm.trans ((hF.1 h0 (hT0.at 0 rfl).1 6 (hT0.at 0 rfl).2 0 (by decide)).trans h_tp)
        refine lv_iload_n hx hb dX6_byteAt_31 rfl (lv_at hl 1 rfl) ?_
        refine T_bald hx hb hK hP hT 1 1 rfl rfl (vin 1500 (by decide) rfl (by assumption) (lt_nle (by assumption))) dX6_byteAt_32 (fun z_13 ez_13 => ?_)
        exact K_i hx hb hr hlocks hP hD hK hS hT hE ⟨⟨_, rfl⟩, hF, fun p9 hp9 he9 => by unfold btA; rw [if_pos (bt_2 hle hp9 he9 c_5), ez_13, he9, nI_clamp hp9, hta]⟩ (Nat.le_of_ble_eq_true rfl) (Nat.le_of_ble_eq_true rfl) dX6_byteAt_33
      · refine lv_sipush (v := 256) hx hb dX6_byteAt_21 (by decide) ?_
        refine lv_goto (tgt := 33) hx hb dX6_byteAt_24 (by decide) ?_
        exact K_i hx hb hr hlocks hP hD hK hS hT hE ⟨⟨_, rfl⟩, hF, fun p9 hp9 he9 => (bt_3 hle hp9 he9 c_5 c_9).elim⟩ (Nat.le_of_ble_eq_true rfl) (Nat.le_of_ble_eq_true rfl) dX6_byteAt_33

noncomputable abbrev rm_X6_isBlank : Room := { frames := 0, cells := 0, slots := 0, locals := 0 }
set_option maxHeartbeats 800000 in
set_option maxRecDepth 100000 in
theorem t_X6_isBlank (l : Launch) (dC : Nat → ClassId) (dI : Nat → Nat → Nat) (sa : Nat → Nat) (hlt : l.stackTraces = false) (g : Nat → Nat) (L : List Nat) (f : Nat → va_E) (sg : Int32) (sz : Nat) (hT : TP g L f []) : KC l dC dI sa g yX6_isBlank wsX6_isBlank rm_X6_isBlank [.int sg] L f sz (fun r L' f' => ((r = some (.int 0) ∧ (isB sg = false)) ∨ (r = some (.int 1) ∧ (isB sg = true))) ∧ Fr [] L f f') 0 0 := by
  refine CT.start (cc := cX6_isBlank) (maxL := 1) (ret := (some .boolean)) (by decide) rfl (Nat.le_of_ble_eq_true rfl) ?_
  intro p e s m below meth c ls hst hP hK hD hev hS hl
  obtain ⟨hx, hb, hr, hml, hts, hown, hlocks, hin⟩ := hst
  have hown : s.vm.findClass RX6 = some m.cls := hown
  have hin : meth.name = yX6_isBlank.name := hin
  have hA : ∀ q : Nat, s.heap.size ≤ q → va_A (va_pl L f) s.heap.size q := fun _ h => Or.inr h
  have hE : Ext L f L f := Ext.rf
  have hF : Fr [] L f f := Fr.rf
  have hl : lv_has ls 1 [(0, .int sg)] := hl
  refine lv_iload_n hx hb dX6_isBlank_0 rfl (lv_at hl 0 rfl) ?_
  refine lv_bipush (v := 32) hx hb dX6_isBlank_1 (by decide) ?_
  refine lv_icmp_eq (tgt := 12) hx hb dX6_isBlank_3 (by decide) (fun c_1 => ?_) (fun c_1 => ?_)
  · refine lv_iconst (v := 1) hx hb dX6_isBlank_12 (by decide) ?_
    refine lv_goto (tgt := 17) hx hb dX6_isBlank_13 (by decide) ?_
    exact K_z hx hb hr rfl hlocks hP hD hK hS hT hE ⟨Or.inr ⟨rfl, (by simp [isB, c_1])⟩, hF⟩ (Nat.le_of_ble_eq_true rfl) (Nat.le_of_ble_eq_true rfl) dX6_isBlank_17
  · refine lv_iload_n hx hb dX6_isBlank_6 rfl (lv_at hl 0 rfl) ?_
    refine lv_bipush (v := 10) hx hb dX6_isBlank_7 (by decide) ?_
    refine lv_icmp_ne (tgt := 16) hx hb dX6_isBlank_9 (by decide) (fun c_2 => ?_) (fun c_2 => ?_)
    · refine lv_iconst (v := 0) hx hb dX6_isBlank_16 (by decide) ?_
      exact K_z hx hb hr rfl hlocks hP hD hK hS hT hE ⟨Or.inl ⟨rfl, (by simp [isB, c_1, c_2])⟩, hF⟩ (Nat.le_of_ble_eq_true rfl) (Nat.le_of_ble_eq_true rfl) dX6_isBlank_17
    · refine lv_iconst (v := 1) hx hb dX6_isBlank_12 (by decide) ?_
      refine lv_goto (tgt := 17) hx hb dX6_isBlank_13 (by decide) ?_
      exact K_z hx hb hr rfl hlocks hP hD hK hS hT hE ⟨Or.inr ⟨rfl, (by simp [isB, c_1, c_2])⟩, hF⟩ (Nat.le_of_ble_eq_true rfl) (Nat.le_of_ble_eq_true rfl) dX6_isBlank_17

noncomputable abbrev rm_X6_isSign : Room := { frames := 0, cells := 0, slots := 0, locals := 0 }
set_option maxHeartbeats 800000 in
set_option maxRecDepth 100000 in
theorem t_X6_isSign (l : Launch) (dC : Nat → ClassId) (dI : Nat → Nat → Nat) (sa : Nat → Nat) (hlt : l.stackTraces = false) (g : Nat → Nat) (L : List Nat) (f : Nat → va_E) (sg : Int32) (sz : Nat) (hT : TP g L f []) : KC l dC dI sa g yX6_isSign wsX6_isSign rm_X6_isSign [.int sg] L f sz (fun r L' f' => ((r = some (.int 0) ∧ (isG sg = false)) ∨ (r = some (.int 1) ∧ (isG sg = true))) ∧ Fr [] L f f') 0 0 := by
  refine CT.start (cc := cX6_isSign) (maxL := 1) (ret := (some .boolean)) (by decide) rfl (Nat.le_of_ble_eq_true rfl) ?_
  intro p e s m below meth c ls hst hP hK hD hev hS hl
  obtain ⟨hx, hb, hr, hml, hts, hown, hlocks, hin⟩ := hst
  have hown : s.vm.findClass RX6 = some m.cls := hown
  have hin : meth.name = yX6_isSign.name := hin
  have hA : ∀ q : Nat, s.heap.size ≤ q → va_A (va_pl L f) s.heap.size q := fun _ h => Or.inr h
  have hE : Ext L f L f := Ext.rf
  have hF : Fr [] L f f := Fr.rf
  have hl : lv_has ls 1 [(0, .int sg)] := hl
  refine lv_iload_n hx hb dX6_isSign_0 rfl (lv_at hl 0 rfl) ?_
  refine lv_bipush (v := 59) hx hb dX6_isSign_1 (by decide) ?_
  refine lv_icmp_eq (tgt := 30) hx hb dX6_isSign_3 (by decide) (fun c_1 => ?_) (fun c_1 => ?_)
  · refine lv_iconst (v := 1) hx hb dX6_isSign_30 (by decide) ?_
    refine lv_goto (tgt := 35) hx hb dX6_isSign_31 (by decide) ?_
    exact K_z hx hb hr rfl hlocks hP hD hK hS hT hE ⟨Or.inr ⟨rfl, (by simp [isG, c_1])⟩, hF⟩ (Nat.le_of_ble_eq_true rfl) (Nat.le_of_ble_eq_true rfl) dX6_isSign_35
  · refine lv_iload_n hx hb dX6_isSign_6 rfl (lv_at hl 0 rfl) ?_
    refine lv_bipush (v := 123) hx hb dX6_isSign_7 (by decide) ?_
    refine lv_icmp_eq (tgt := 30) hx hb dX6_isSign_9 (by decide) (fun c_2 => ?_) (fun c_2 => ?_)
    · refine lv_iconst (v := 1) hx hb dX6_isSign_30 (by decide) ?_
      refine lv_goto (tgt := 35) hx hb dX6_isSign_31 (by decide) ?_
      exact K_z hx hb hr rfl hlocks hP hD hK hS hT hE ⟨Or.inr ⟨rfl, (by simp [isG, c_1, c_2])⟩, hF⟩ (Nat.le_of_ble_eq_true rfl) (Nat.le_of_ble_eq_true rfl) dX6_isSign_35
    · refine lv_iload_n hx hb dX6_isSign_12 rfl (lv_at hl 0 rfl) ?_
      refine lv_bipush (v := 125) hx hb dX6_isSign_13 (by decide) ?_
      refine lv_icmp_eq (tgt := 30) hx hb dX6_isSign_15 (by decide) (fun c_3 => ?_) (fun c_3 => ?_)
      · refine lv_iconst (v := 1) hx hb dX6_isSign_30 (by decide) ?_
        refine lv_goto (tgt := 35) hx hb dX6_isSign_31 (by decide) ?_
        exact K_z hx hb hr rfl hlocks hP hD hK hS hT hE ⟨Or.inr ⟨rfl, (by simp [isG, c_1, c_2, c_3])⟩, hF⟩ (Nat.le_of_ble_eq_true rfl) (Nat.le_of_ble_eq_true rfl) dX6_isSign_35
      · refine lv_iload_n hx hb dX6_isSign_18 rfl (lv_at hl 0 rfl) ?_
        refine lv_bipush (v := 60) hx hb dX6_isSign_19 (by decide) ?_
        refine lv_icmp_eq (tgt := 30) hx hb dX6_isSign_21 (by decide) (fun c_4 => ?_) (fun c_4 => ?_)
        · refine lv_iconst (v := 1) hx hb dX6_isSign_30 (by decide) ?_
          refine lv_goto (tgt := 35) hx hb dX6_isSign_31 (by decide) ?_
          exact K_z hx hb hr rfl hlocks hP hD hK hS hT hE ⟨Or.inr ⟨rfl, (by simp [isG, c_1, c_2, c_3, c_4])⟩, hF⟩ (Nat.le_of_ble_eq_true rfl) (Nat.le_of_ble_eq_true rfl) dX6_isSign_35
        · refine lv_iload_n hx hb dX6_isSign_24 rfl (lv_at hl 0 rfl) ?_
          refine lv_bipush (v := 61) hx hb dX6_isSign_25 (by decide) ?_
          refine lv_icmp_ne (tgt := 34) hx hb dX6_isSign_27 (by decide) (fun c_5 => ?_) (fun c_5 => ?_)
          · refine lv_iconst (v := 0) hx hb dX6_isSign_34 (by decide) ?_
            exact K_z hx hb hr rfl hlocks hP hD hK hS hT hE ⟨Or.inl ⟨rfl, (by simp [isG, c_1, c_2, c_3, c_4, c_5])⟩, hF⟩ (Nat.le_of_ble_eq_true rfl) (Nat.le_of_ble_eq_true rfl) dX6_isSign_35
          · refine lv_iconst (v := 1) hx hb dX6_isSign_30 (by decide) ?_
            refine lv_goto (tgt := 35) hx hb dX6_isSign_31 (by decide) ?_
            exact K_z hx hb hr rfl hlocks hP hD hK hS hT hE ⟨Or.inr ⟨rfl, (by simp [isG, c_1, c_2, c_3, c_4, c_5])⟩, hF⟩ (Nat.le_of_ble_eq_true rfl) (Nat.le_of_ble_eq_true rfl) dX6_isSign_35

noncomputable abbrev rm_X6_isLetter : Room := { frames := 0, cells := 0, slots := 0, locals := 0 }
set_option maxHeartbeats 800000 in
set_option maxRecDepth 100000 in
theorem t_X6_isLetter (l : Launch) (dC : Nat → ClassId) (dI : Nat → Nat → Nat) (sa : Nat → Nat) (hlt : l.stackTraces = false) (g : Nat → Nat) (L : List Nat) (f : Nat → va_E) (sg : Int32) (sz : Nat) (hT : TP g L f []) : KC l dC dI sa g yX6_isLetter wsX6_isLetter rm_X6_isLetter [.int sg] L f sz (fun r L' f' => ((r = some (.int 0) ∧ (isL sg = false)) ∨ (r = some (.int 1) ∧ (isL sg = true))) ∧ Fr [] L f f') 0 0 := by
  refine CT.start (cc := cX6_isLetter) (maxL := 1) (ret := (some .boolean)) (by decide) rfl (Nat.le_of_ble_eq_true rfl) ?_
  intro p e s m below meth c ls hst hP hK hD hev hS hl
  obtain ⟨hx, hb, hr, hml, hts, hown, hlocks, hin⟩ := hst
  have hown : s.vm.findClass RX6 = some m.cls := hown
  have hin : meth.name = yX6_isLetter.name := hin
  have hA : ∀ q : Nat, s.heap.size ≤ q → va_A (va_pl L f) s.heap.size q := fun _ h => Or.inr h
  have hE : Ext L f L f := Ext.rf
  have hF : Fr [] L f f := Fr.rf
  have hl : lv_has ls 1 [(0, .int sg)] := hl
  refine lv_iload_n hx hb dX6_isLetter_0 rfl (lv_at hl 0 rfl) ?_
  refine lv_bipush (v := 97) hx hb dX6_isLetter_1 (by decide) ?_
  refine lv_icmp_lt (tgt := 16) hx hb dX6_isLetter_3 (by decide) (fun c_1 => ?_) (fun c_1 => ?_)
  · refine lv_iconst (v := 0) hx hb dX6_isLetter_16 (by decide) ?_
    exact K_z hx hb hr rfl hlocks hP hD hK hS hT hE ⟨Or.inl ⟨rfl, (isL_0 c_1)⟩, hF⟩ (Nat.le_of_ble_eq_true rfl) (Nat.le_of_ble_eq_true rfl) dX6_isLetter_17
  · refine lv_iload_n hx hb dX6_isLetter_6 rfl (lv_at hl 0 rfl) ?_
    refine lv_bipush (v := 122) hx hb dX6_isLetter_7 (by decide) ?_
    refine lv_icmp_gt (tgt := 16) hx hb dX6_isLetter_9 (by decide) (fun c_2 => ?_) (fun c_2 => ?_)
    · refine lv_iconst (v := 0) hx hb dX6_isLetter_16 (by decide) ?_
      exact K_z hx hb hr rfl hlocks hP hD hK hS hT hE ⟨Or.inl ⟨rfl, (isL_1 c_2)⟩, hF⟩ (Nat.le_of_ble_eq_true rfl) (Nat.le_of_ble_eq_true rfl) dX6_isLetter_17
    · refine lv_iconst (v := 1) hx hb dX6_isLetter_12 (by decide) ?_
      refine lv_goto (tgt := 17) hx hb dX6_isLetter_13 (by decide) ?_
      exact K_z hx hb hr rfl hlocks hP hD hK hS hT hE ⟨Or.inr ⟨rfl, (isL_2 c_1 c_2)⟩, hF⟩ (Nat.le_of_ble_eq_true rfl) (Nat.le_of_ble_eq_true rfl) dX6_isLetter_17

noncomputable abbrev rm_X6_isDigit : Room := { frames := 0, cells := 0, slots := 0, locals := 0 }
set_option maxHeartbeats 800000 in
set_option maxRecDepth 100000 in
theorem t_X6_isDigit (l : Launch) (dC : Nat → ClassId) (dI : Nat → Nat → Nat) (sa : Nat → Nat) (hlt : l.stackTraces = false) (g : Nat → Nat) (L : List Nat) (f : Nat → va_E) (sg : Int32) (sz : Nat) (hT : TP g L f []) : KC l dC dI sa g yX6_isDigit wsX6_isDigit rm_X6_isDigit [.int sg] L f sz (fun r L' f' => ((r = some (.int 0) ∧ (isD sg = false)) ∨ (r = some (.int 1) ∧ (isD sg = true))) ∧ Fr [] L f f') 0 0 := by
  refine CT.start (cc := cX6_isDigit) (maxL := 1) (ret := (some .boolean)) (by decide) rfl (Nat.le_of_ble_eq_true rfl) ?_
  intro p e s m below meth c ls hst hP hK hD hev hS hl
  obtain ⟨hx, hb, hr, hml, hts, hown, hlocks, hin⟩ := hst
  have hown : s.vm.findClass RX6 = some m.cls := hown
  have hin : meth.name = yX6_isDigit.name := hin
  have hA : ∀ q : Nat, s.heap.size ≤ q → va_A (va_pl L f) s.heap.size q := fun _ h => Or.inr h
  have hE : Ext L f L f := Ext.rf
  have hF : Fr [] L f f := Fr.rf
  have hl : lv_has ls 1 [(0, .int sg)] := hl
  refine lv_iload_n hx hb dX6_isDigit_0 rfl (lv_at hl 0 rfl) ?_
  refine lv_bipush (v := 48) hx hb dX6_isDigit_1 (by decide) ?_
  refine lv_icmp_lt (tgt := 16) hx hb dX6_isDigit_3 (by decide) (fun c_1 => ?_) (fun c_1 => ?_)
  · refine lv_iconst (v := 0) hx hb dX6_isDigit_16 (by decide) ?_
    exact K_z hx hb hr rfl hlocks hP hD hK hS hT hE ⟨Or.inl ⟨rfl, (isD_0 c_1)⟩, hF⟩ (Nat.le_of_ble_eq_true rfl) (Nat.le_of_ble_eq_true rfl) dX6_isDigit_17
  · refine lv_iload_n hx hb dX6_isDigit_6 rfl (lv_at hl 0 rfl) ?_
    refine lv_bipush (v := 57) hx hb dX6_isDigit_7 (by decide) ?_
    refine lv_icmp_gt (tgt := 16) hx hb dX6_isDigit_9 (by decide) (fun c_2 => ?_) (fun c_2 => ?_)
    · refine lv_iconst (v := 0) hx hb dX6_isDigit_16 (by decide) ?_
      exact K_z hx hb hr rfl hlocks hP hD hK hS hT hE ⟨Or.inl ⟨rfl, (isD_1 c_2)⟩, hF⟩ (Nat.le_of_ble_eq_true rfl) (Nat.le_of_ble_eq_true rfl) dX6_isDigit_17
    · refine lv_iconst (v := 1) hx hb dX6_isDigit_12 (by decide) ?_
      refine lv_goto (tgt := 17) hx hb dX6_isDigit_13 (by decide) ?_
      exact K_z hx hb hr rfl hlocks hP hD hK hS hT hE ⟨Or.inr ⟨rfl, (isD_2 c_1 c_2)⟩, hF⟩ (Nat.le_of_ble_eq_true rfl) (Nat.le_of_ble_eq_true rfl) dX6_isDigit_17

noncomputable abbrev rm_X6_keep : Room := { frames := 0, cells := 0, slots := 0, locals := 0 }
theorem inw_X6_keep_6 : ∀ w ∈ wsX60, w ∈ wsX6_keep := fun _ h => List.mem_cons_of_mem _ (List.mem_append_right _ h)
set_option maxHeartbeats 800000 in
set_option maxRecDepth 100000 in
theorem t_X6_keep (l : Launch) (dC : Nat → ClassId) (dI : Nat → Nat → Nat) (sa : Nat → Nat) (hlt : l.stackTraces = false) (g : Nat → Nat) (L : List Nat) (f : Nat → va_E) (h0 : Nat) (kd : Int32) (sr : Int32) (va : Int32) (ka : Nat) (sta : Nat) (vaa : Nat) (zz : Int32) (sz : Nat) (hT : TP g L f [(h0, (0, 6, 0)), (ka, (1, g 0, 1501)), (sta, (1, g 5, 1501)), (vaa, (1, g 6, 1501))]) (hm_zz : rd f h0 3 = .int zz) (h_ka : rd f h0 4 = .ref ka) (h_sta : rd f h0 5 = .ref sta) (h_vaa : rd f h0 6 = .ref vaa) (hds : ka ≠ sta ∧ ka ≠ vaa ∧ sta ≠ vaa) : KC l dC dI sa g yX6_keep wsX6_keep rm_X6_keep [.ref h0, .int kd, .int sr, .int va] L f sz (fun r L' f' => (r = none) ∧ Fr [(6, 3), (100, 1501)] L f f' ∧ (∃ zz' : Int32, rd f' h0 3 = .int zz' ∧ (True) ∧ (∀ j : Nat, j < 1501 → zz = nI j → LAY f f' ka sta vaa j kd sr va ∧ zz' = nI (j + 1)))) 0 0 := by
  refine CT.start (cc := cX6_keep) (maxL := 4) (ret := none) (by decide) rfl (Nat.le_of_ble_eq_true rfl) ?_
  intro p e s m below meth c ls hst hP hK hD hev hS hl
  obtain ⟨hx, hb, hr, hml, hts, hown, hlocks, hin⟩ := hst
  have hown : s.vm.findClass RX6 = some m.cls := hown
  have hin : meth.name = yX6_keep.name := hin
  have hA : ∀ q : Nat, s.heap.size ≤ q → va_A (va_pl L f) s.heap.size q := fun _ h => Or.inr h
  have hE : Ext L f L f := Ext.rf
  have hF : Fr [(6, 3), (100, 1501)] L f f := Fr.rf
  have hl : lv_has ls 4 [(0, .ref h0), (1, .int kd), (2, .int sr), (3, .int va)] := hl
  have hT0 := hT
  refine lv_aload_n hx hb dX6_keep_0 rfl (lv_at hl 0 rfl) ?_
  refine T_get (ci := 6) (C := RX6) (T := TX6) (N := 7) (t := tI) hx hb hts inw_X6_keep_6 hown hK hP hT 0 rfl rfl 3 (by decide) (hts (.fieldLink RX6 41 "VatHouse$Tokens" "size" "I") (List.mem_of_getElem? (i := 1) (by exact rfl))) (fun _ h9 => h9) rfl dX6_keep_1 (fun v_3 hv_1 hr_2 => ?_)
  obtain rfl : v_3 = .int zz := hr_2.symm.trans hm_zz
  refine lv_if_lt (tgt := 59) hx hb dX6_keep_4 (by decide) (fun c_4 => ?_) (fun c_4 => ?_)
  · exact K_v hx hb hr hlocks hP hD hK hS hT hE ⟨rfl, hF, _, hm_zz, trivial, fun j hj he9 => absurd c_4 (he9 ▸ nI_pos (by omega))⟩ (Nat.le_of_ble_eq_true rfl) (Nat.le_of_ble_eq_true rfl) dX6_keep_59
  · refine lv_aload_n hx hb dX6_keep_7 rfl (lv_at hl 0 rfl) ?_
    refine T_get (ci := 6) (C := RX6) (T := TX6) (N := 7) (t := tI) hx hb hts inw_X6_keep_6 hown hK hP hT 0 rfl rfl 3 (by decide) (hts (.fieldLink RX6 41 "VatHouse$Tokens" "size" "I") (List.mem_of_getElem? (i := 1) (by exact rfl))) (fun _ h9 => h9) rfl dX6_keep_8 (fun v_7 hv_5 hr_6 => ?_)
    obtain rfl : v_7 = .int zz := hr_6.symm.trans hm_zz
    refine lv_aload_n hx hb dX6_keep_11 rfl (lv_at hl 0 rfl) ?_
    refine T_get (ci := 6) (C := RX6) (T := TX6) (N := 7) (t := (1, 1, g 0, 1501)) hx hb hts inw_X6_keep_6 hown hK hP hT 0 rfl rfl 4 (by decide) (hts (.fieldLink RX6 9 "VatHouse$Tokens" "kinds" "[I") (List.mem_of_getElem? (i := 2) (by exact rfl))) (fun _ h9 => h9) rfl dX6_keep_12 (fun v_10 hv_8 hr_9 => ?_)
    obtain rfl : v_10 = .ref ka := hr_9.symm.trans ((hF.1 h0 (hT0.at 0 rfl).1 6 (hT0.at 0 rfl).2 4 (by decide)).trans h_ka)
    refine T_alen hx hb hK hP hT 1 0 rfl rfl (v := 1501) rfl dX6_keep_15 ?_
    refine lv_icmp_ge (tgt := 59) hx hb dX6_keep_16 (by decide) (fun c_11 => ?_) (fun c_11 => ?_)
    · exact K_v hx hb hr hlocks hP hD hK hS hT hE ⟨rfl, hF, _, hm_zz, trivial, fun j hj he9 => absurd (he9 ▸ c_11 : nI 1501 ≤ nI j) (by rw [nI_leI (by omega) (by omega)]; omega)⟩ (Nat.le_of_ble_eq_true rfl) (Nat.le_of_ble_eq_true rfl) dX6_keep_59
    · refine lv_aload_n hx hb dX6_keep_19 rfl (lv_at hl 0 rfl) ?_
      refine T_get (ci := 6) (C := RX6) (T := TX6) (N := 7) (t := (1, 1, g 0, 1501)) hx hb hts inw_X6_keep_6 hown hK hP hT 0 rfl rfl 4 (by decide) (hts (.fieldLink RX6 9 "VatHouse$Tokens" "kinds" "[I") (List.mem_of_getElem? (i := 2) (by exact rfl))) (fun _ h9 => h9) rfl dX6_keep_20 (fun v_14 hv_12 hr_13 => ?_)
      obtain rfl : v_14 = .ref ka := hr_13.symm.trans ((hF.1 h0 (hT0.at 0 rfl).1 6 (hT0.at 0 rfl).2 4 (by decide)).trans h_ka)
      refine lv_aload_n hx hb dX6_keep_23 rfl (lv_at hl 0 rfl) ?_
      refine T_get (ci := 6) (C := RX6) (T := TX6) (N := 7) (t := tI) hx hb hts inw_X6_keep_6 hown hK hP hT 0 rfl rfl 3 (by decide) (hts (.fieldLink RX6 41 "VatHouse$Tokens" "size" "I") (List.mem_of_getElem? (i := 1) (by exact rfl))) (fun _ h9 => h9) rfl dX6_keep_24 (fun v_17 hv_15 hr_16 => ?_)
      obtain rfl : v_17 = .int zz := hr_16.symm.trans hm_zz
      refine lv_iload_n hx hb dX6_keep_27 rfl (lv_at hl 1 rfl) ?_
      have hTo := hT
      refine T_iast hx hb hK hP hD hS hT 1 0 rfl rfl (vin 1501 (by decide) rfl (by assumption) (by assumption)) dX6_keep_28 (fun f_18 H locs hP hD hS hT hE1 hrd_19 hup_20 hia_21 => ?_)
      have hF := Fr.arr (a := ka) hF hE ((hE1 ka (hT.at 1 rfl).1).2.symm.trans (hT.at 1 rfl).2) (by decide) hrd_19 hup_20
      have hE := hE.tr hE1
      have hk_22 : rd f_18 h0 3 = .int zz := (hrd_19 h0 3).trans hm_zz
      refine lv_aload_n hx hb dX6_keep_29 rfl (lv_at hl 0 rfl) ?_
      refine T_get (ci := 6) (C := RX6) (T := TX6) (N := 7) (t := (1, 1, g 5, 1501)) hx hb hts inw_X6_keep_6 hown hK hP hT 0 rfl rfl 5 (by decide) (hts (.fieldLink RX6 15 "VatHouse$Tokens" "starts" "[I") (List.mem_of_getElem? (i := 3) (by exact rfl))) (fun _ h9 => h9) rfl dX6_keep_30 (fun v_25 hv_23 hr_24 => ?_)
      obtain rfl : v_25 = .ref sta := hr_24.symm.trans ((hF.1 h0 (hT0.at 0 rfl).1 6 (hT0.at 0 rfl).2 5 (by decide)).trans h_sta)
      refine lv_aload_n hx hb dX6_keep_33 rfl (lv_at hl 0 rfl) ?_
      refine T_get (ci := 6) (C := RX6) (T := TX6) (N := 7) (t := tI) hx hb hts inw_X6_keep_6 hown hK hP hT 0 rfl rfl 3 (by decide) (hts (.fieldLink RX6 41 "VatHouse$Tokens" "size" "I") (List.mem_of_getElem? (i := 1) (by exact rfl))) (fun _ h9 => h9) rfl dX6_keep_34 (fun v_28 hv_26 hr_27 => ?_)
      obtain rfl : v_28 = .int zz := hr_27.symm.trans hk_22
      refine lv_iload_n hx hb dX6_keep_37 rfl (lv_at hl 2 rfl) ?_
      have hTo := hT
      refine T_iast hx hb hK hP hD hS hT 2 5 rfl rfl (vin 1501 (by decide) rfl (by assumption) (by assumption)) dX6_keep_38 (fun f_29 H locs hP hD hS hT hE1 hrd_30 hup_31 hia_32 => ?_)
      have hF := Fr.arr (a := sta) hF hE ((hE1 sta (hT.at 2 rfl).1).2.symm.trans (hT.at 2 rfl).2) (by decide) hrd_30 hup_31
      have hE := hE.tr hE1
      have hk_33 : rd f_29 h0 3 = .int zz := (hrd_30 h0 3).trans hk_22
      refine lv_aload_n hx hb dX6_keep_39 rfl (lv_at hl 0 rfl) ?_
      refine T_get (ci := 6) (C := RX6) (T := TX6) (N := 7) (t := (1, 1, g 6, 1501)) hx hb hts inw_X6_keep_6 hown hK hP hT 0 rfl rfl 6 (by decide) (hts (.fieldLink RX6 18 "VatHouse$Tokens" "values" "[I") (List.mem_of_getElem? (i := 4) (by exact rfl))) (fun _ h9 => h9) rfl dX6_keep_40 (fun v_36 hv_34 hr_35 => ?_)
      obtain rfl : v_36 = .ref vaa := hr_35.symm.trans ((hF.1 h0 (hT0.at 0 rfl).1 6 (hT0.at 0 rfl).2 6 (by decide)).trans h_vaa)
      refine lv_aload_n hx hb dX6_keep_43 rfl (lv_at hl 0 rfl) ?_
      refine T_get (ci := 6) (C := RX6) (T := TX6) (N := 7) (t := tI) hx hb hts inw_X6_keep_6 hown hK hP hT 0 rfl rfl 3 (by decide) (hts (.fieldLink RX6 41 "VatHouse$Tokens" "size" "I") (List.mem_of_getElem? (i := 1) (by exact rfl))) (fun _ h9 => h9) rfl dX6_keep_44 (fun v_39 hv_37 hr_38 => ?_)
      obtain rfl : v_39 = .int zz := hr_38.symm.trans hk_33
      refine lv_iload_n hx hb dX6_keep_47 rfl (lv_at hl 3 rfl) ?_
      have hTo := hT
      refine T_iast hx hb hK hP hD hS hT 3 6 rfl rfl (vin 1501 (by decide) rfl (by assumption) (by assumption)) dX6_keep_48 (fun f_40 H locs hP hD hS hT hE1 hrd_41 hup_42 hia_43 => ?_)
      have hF := Fr.arr (a := vaa) hF hE ((hE1 vaa (hT.at 3 rfl).1).2.symm.trans (hT.at 3 rfl).2) (by decide) hrd_41 hup_42
      have hE := hE.tr hE1
      have hk_44 : rd f_40 h0 3 = .int zz := (hrd_41 h0 3).trans hk_33
      refine lv_aload_n hx hb dX6_keep_49 rfl (lv_at hl 0 rfl) ?_
      refine lv_dup hx hb dX6_keep_50 rfl ?_
      refine T_get (ci := 6) (C := RX6) (T := TX6) (N := 7) (t := tI) hx hb hts inw_X6_keep_6 hown hK hP hT 0 rfl rfl 3 (by decide) (hts (.fieldLink RX6 41 "VatHouse$Tokens" "size" "I") (List.mem_of_getElem? (i := 1) (by exact rfl))) (fun _ h9 => h9) rfl dX6_keep_51 (fun v_47 hv_45 hr_46 => ?_)
      obtain rfl : v_47 = .int zz := hr_46.symm.trans hk_44
      refine lv_iconst (v := 1) hx hb dX6_keep_54 (by decide) ?_
      refine lv_iadd hx hb dX6_keep_55 ?_
      refine lv_topi (fun z_48 ez_48 => ?_)
      have hTo := hT
      refine T_put (ci := 6) (v := .int z_48) (ty := .int) (t := tI) (C := RX6) (T := TX6) (N := 7) hx hb hts inw_X6_keep_6 tyX6 tyX6_ok nmX6 hown hK hP hD hS hT 0 rfl rfl 3 (by decide) (hts (.fieldLink RX6 41 "VatHouse$Tokens" "size" "I") (List.mem_of_getElem? (i := 1) (by exact rfl))) (fun _ h9 => h9) rfl (tyX6_ok 3 (by decide)) rfl rfl rfl ⟨_, rfl⟩ dX6_keep_56 (fun f_49 H locs hP hD hS hT hE1 hrd_50 hup_51 => ?_)
      have hF := Fr.put (a := h0) (ci := 6) hF hE ((hE1 h0 (hT.at 0 rfl).1).2.symm.trans (hT.at 0 rfl).2) (by decide) hrd_50 hup_51
      have hE := hE.tr hE1
      have hk_52 : rd f_49 h0 3 = .int z_48 := (hrd_50 h0 3).trans (if_pos ⟨rfl, rfl⟩)
      exact K_v hx hb hr hlocks hP hD hK hS hT hE ⟨rfl, hF, _, hk_52, trivial, fun j hj he9 => ⟨(by have e9 : zz.toNatClampNeg = j := (by rw [he9]; exact nI_clamp (by omega)); rw [← e9]; exact ⟨((ia_eq (hup_51 ka (ne_sh (hT0.at 1 rfl).2 (hT0.at 0 rfl).2 (by intro h9; cases h9)))).trans ((ia_eq (hup_42 ka hds.2.1)).trans ((ia_eq (hup_31 ka hds.1)).trans hia_21))), ((ia_eq (hup_51 sta (ne_sh (hT0.at 2 rfl).2 (hT0.at 0 rfl).2 (by intro h9; cases h9)))).trans ((ia_eq (hup_42 sta hds.2.2)).trans (hia_32.trans (congrArg (fun t9 => upd t9 _ _) (ia_eq (hup_20 sta hds.1.symm)))))), ((ia_eq (hup_51 vaa (ne_sh (hT0.at 3 rfl).2 (hT0.at 0 rfl).2 (by intro h9; cases h9)))).trans (hia_43.trans (congrArg (fun t9 => upd t9 _ _) ((ia_eq (hup_31 vaa hds.2.2.symm)).trans (ia_eq (hup_20 vaa hds.2.1.symm))))))⟩), by rw [ez_48, he9]; exact nI_1 j⟩⟩ (Nat.le_of_ble_eq_true rfl) (Nat.le_of_ble_eq_true rfl) dX6_keep_59

theorem sv {x y : Int32} (h : some (Value.int x) = some (.int y)) : x = y := by cases h; rfl
theorem nI_sub {a b : Nat} (h : a ≤ b) : nI b - nI a = nI (b - a) := by
  have e := nI_add (b - a) a
  rw [Nat.sub_add_cancel h] at e
  rw [← e]
  exact Int32.add_sub_cancel _ _
/-- the letters from pp to qq are those of the words' row from wa to wb -/
noncomputable def wmt (tt : Nat → Int32) (pp qq wa wb : Nat) : Prop := wb - wa = qq - pp ∧ ∀ i : Nat, i < wb - wa → chS 19 (wa + i) = tt (pp + i)
theorem iw_nx {tt : Nat → Int32} {wa c9 pp : Nat} (hc2 : wa ≤ c9) (hc5 : ∀ i : Nat, i < c9 - wa → chS 19 (wa + i) = tt (pp + i)) (hceq : chS 19 c9 = tt (pp + (c9 - wa))) : ∀ i : Nat, i < c9 + 1 - wa → chS 19 (wa + i) = tt (pp + i) := by
  intro i hi
  rcases Nat.lt_or_ge i (c9 - wa) with h9 | h9
  · exact hc5 i h9
  · obtain rfl : i = c9 - wa := by omega
    rw [← hceq, show wa + (c9 - wa) = c9 by omega]
theorem iw_eq {wa wb pp qq ln : Nat} {wq we sr a0 z1 z2 : Int32} (hw : wq = nI wa ∧ wa ≤ wb) (he : we = nI wb ∧ wb ≤ 94) (hsr : sr = nI pp ∧ pp ≤ qq) (hqq : a0 = nI qq ∧ qq ≤ ln) (hln : ln ≤ 1500) (e1 : z1 = we - wq) (e2 : z2 = a0 - sr) : z1 = z2 ↔ wb - wa = qq - pp := by
  rw [e1, e2, hw.1, he.1, hsr.1, hqq.1, nI_sub hw.2, nI_sub hsr.2]
  exact nI_eq (by omega) (by omega)

noncomputable abbrev rm_X6_isWord : Room := { frames := 4, cells := 0, slots := 0, locals := 141 }
theorem inw_X6_isWord_6 : ∀ w ∈ wsX60, w ∈ wsX6_isWord := fun _ h => List.mem_cons_of_mem _ (List.mem_append_right _ h)
set_option maxHeartbeats 800000 in
set_option maxRecDepth 100000 in
theorem t_X6_isWord (l : Launch) (dC : Nat → ClassId) (dI : Nat → Nat → Nat) (sa : Nat → Nat) (hlt : l.stackTraces = false) (g : Nat → Nat) (L : List Nat) (f : Nat → va_E) (tt : Nat → Int32) (ln : Nat) (wa : Nat) (wb : Nat) (pp : Nat) (qq : Nat) (h0 : Nat) (wq : Int32) (we : Int32) (sr : Int32) (tp : Nat) (le : Int32) (a0 : Int32) (sz : Nat) (hT : TP g L f [(h0, (0, 6, 0)), (tp, (1, g 1, 1500))]) (hm_le : rd f h0 1 = .int le) (hm_a0 : rd f h0 2 = .int a0) (h_tp : rd f h0 0 = .ref tp) (hta : ia f tp = tt) (hle : le = nI ln ∧ ln ≤ 1500) (hw : wq = nI wa ∧ wa ≤ wb) (he : we = nI wb ∧ wb ≤ 94) (hsr : sr = nI pp ∧ pp ≤ qq) (hqq : a0 = nI qq ∧ qq ≤ ln) : KC l dC dI sa g yX6_isWord wsX6_isWord rm_X6_isWord [.ref h0, .int wq, .int we, .int sr] L f sz (fun r L' f' => ((r = some (.int 0) ∧ (¬ wmt tt pp qq wa wb)) ∨ (r = some (.int 1) ∧ (wmt tt pp qq wa wb))) ∧ Fr [] L f f') 0 0 := by
  refine CT.start (cc := cX6_isWord) (maxL := 5) (ret := (some .boolean)) (by decide) rfl (Nat.le_of_ble_eq_true rfl) ?_
  intro p e s m below meth c ls hst hP hK hD hev hS hl
  obtain ⟨hx, hb, hr, hml, hts, hown, hlocks, hin⟩ := hst
  have hown : s.vm.findClass RX6 = some m.cls := hown
  have hin : meth.name = yX6_isWord.name := hin
  have hA : ∀ q : Nat, s.heap.size ≤ q → va_A (va_pl L f) s.heap.size q := fun _ h => Or.inr h
  have hE : Ext L f L f := Ext.rf
  have hF : Fr [] L f f := Fr.rf
  have hl : lv_has ls 5 [(0, .ref h0), (1, .int wq), (2, .int we), (3, .int sr)] := hl
  have hT0 := hT
  refine lv_iload_n hx hb dX6_isWord_0 rfl (lv_at hl 2 rfl) ?_
  refine lv_iload_n hx hb dX6_isWord_1 rfl (lv_at hl 1 rfl) ?_
  refine lv_isub hx hb dX6_isWord_2 ?_
  refine lv_topi (fun z_1 ez_1 => ?_)
  refine lv_aload_n hx hb dX6_isWord_3 rfl (lv_at hl 0 rfl) ?_
  refine T_get (ci := 6) (C := RX6) (T := TX6) (N := 7) (t := tI) hx hb hts inw_X6_isWord_6 hown hK hP hT 0 rfl rfl 2 (by decide) (hts (.fieldLink RX6 38 "VatHouse$Tokens" "at" "I") (List.mem_of_getElem? (i := 1) (by exact rfl))) (fun _ h9 => h9) rfl dX6_isWord_4 (fun v_4 hv_2 hr_3 => ?_)
  obtain rfl : v_4 = .int a0 := hr_3.symm.trans hm_a0
  refine lv_iload_n hx hb dX6_isWord_7 rfl (lv_at hl 3 rfl) ?_
  refine lv_isub hx hb dX6_isWord_8 ?_
  refine lv_topi (fun z_5 ez_5 => ?_)
  refine lv_icmp_eq (tgt := 14) hx hb dX6_isWord_9 (by decide) (fun c_6 => ?_) (fun c_6 => ?_)
  · have hlen := (iw_eq hw he hsr hqq hle.2 ez_1 ez_5).mp c_6
    refine lv_iload_n hx hb dX6_isWord_14 rfl (lv_at hl 1 rfl) ?_
    refine lv_istore (lv' := [(4, .int wq), (0, .ref h0), (1, .int wq), (2, .int we), (3, .int sr)]) hx hb dX6_isWord_15 hl (by decide) rfl (fun ls hl => ?_)
    have lp : ∀ (n : Nat) (ii : Int32) (L1 : List Nat) (f1 : Nat → va_E) (H : Heap) (locs : List Loc) (ls : Array Slot), (∃ c9 : Nat, ii = nI c9 ∧ wa ≤ c9 ∧ c9 ≤ wb ∧ wb < c9 + n ∧ ∀ i : Nat, i < c9 - wa → chS 19 (wa + i) = tt (pp + i)) → rd f1 h0 1 = .int le → rd f1 h0 2 = .int a0 → va_P (dC, dI) vwCl (va_pl L1 f1) H → va_D (va_A (va_pl L f) s.heap.size) (va_pl L1 f1) → va_S (va_A (va_pl L f) s.heap.size) s.heap H locs → TP g L1 f1 [(h0, (0, 6, 0)), (tp, (1, g 1, 1500))] → Ext L f L1 f1 → Fr [] L f f1 → lv_has ls 5 [(4, .int ii), (0, .ref h0), (1, .int wq), (2, .int we), (3, .int sr)] → W p l e rm_X6_isWord s m [.ref h0, .int wq, .int we, .int sr].toArray below meth c H locs 0 0 (MQ below (Qg (kpost g L f (fun r L' f' => ((r = some (.int 0) ∧ (¬ wmt tt pp qq wa wb)) ∨ (r = some (.int 1) ∧ (wmt tt pp qq wa wb))) ∧ Fr [] L f f')) (fun (u : PL) t => QW dC dI (va_A (va_pl L f) s.heap.size) (va_pl u.1 u.2) [] t) (va_A (va_pl L f) s.heap.size)) [.ref h0, .int wq, .int we, .int sr].toArray s (0) (0) (va_A (va_pl L f) s.heap.size)) (F0 m 17 ls []) := by
      intro n
      induction n with
      | zero => intro ii L1 f1 H locs ls hm hk_h0_1 hk_h0_2 hP hD hS hT hE hF hl; exact absurd hm (by rintro ⟨a, -, -, h1, h2, -⟩; omega)
      | succ n ih =>
        intro ii L1 f1 H locs ls hm hk_h0_1 hk_h0_2 hP hD hS hT hE hF hl
        refine lv_iload hx hb dX6_isWord_17 (lv_at hl 0 rfl) ?_
        refine lv_iload_n hx hb dX6_isWord_19 rfl (lv_at hl 3 rfl) ?_
        refine lv_icmp_ge (tgt := 51) hx hb dX6_isWord_20 (by decide) (fun c_7 => ?_) (fun c_7 => ?_)
        · obtain ⟨c9, hc1, hc2, hc3, hc4, hc5⟩ := hm
          have hc6 : c9 = wb := by have h9 := c_7; rw [he.1, hc1, nI_leI (by omega) (by omega)] at h9; omega
          refine lv_iconst (v := 1) hx hb dX6_isWord_51 (by decide) ?_
          exact K_z hx hb hr rfl hlocks hP hD hK hS hT hE ⟨Or.inr ⟨rfl, ⟨hlen, fun i9 hi9 => hc5 i9 (by omega)⟩⟩, hF⟩ (Nat.le_of_ble_eq_true rfl) (Nat.le_of_ble_eq_true rfl) dX6_isWord_52
        · obtain ⟨c9, hc1, hc2, hc3, hc4, hc5⟩ := hm
          have hc6 : c9 < wb := by have h9 := c_7; rw [he.1, hc1, nI_leI (by omega) (by omega)] at h9; omega
          refine va_ldcS (own := RX6) (tx := "dip air wash rest feed lime fail times until if try do else last shade loose grains food hour ") (index := 77) (q := sa (5 + 19)) hx hb hown (hev.2.2.2.2.2.2.2.2 19 (RX6, 77, "dip air wash rest feed lime fail times until if try do else last shade loose grains food hour ") rfl) dX6_isWord_23 ?_
          refine lv_iload hx hb dX6_isWord_25 (lv_at hl 0 rfl) ?_
          refine pu_V (i := 19) (v := some (.int (chS 19 c9))) ⟨hx, hb, hml, hown, hts⟩ (pu_charAtX l dC dI sa 19 c9 ii _ hc1 (by decide) (Nat.lt_of_lt_of_le (by omega : c9 < 94) (by decide))) (cwV 1 hts gX6_isWord_J0_charAt_5068e rfl rfl rfl (by decide +kernel) ⟨Nat.le_of_ble_eq_true rfl, Nat.le_of_ble_eq_true rfl⟩) hP hK hS hA hev (by decide) rfl hl.1 rfl (Nat.le_of_ble_eq_true rfl) dX6_isWord_27 ⟨Nat.le_of_ble_eq_true rfl, Nat.le_of_ble_eq_true rfl⟩ (fun H locs hP hS => ?_)
          refine W.eq (g2 := F0 m 30 ls [.int (chS 19 c9)]) rfl ?_
          refine lv_topi (fun z_8 ez_8 => ?_)
          refine lv_aload_n hx hb dX6_isWord_30 rfl (lv_at hl 1 rfl) ?_
          refine lv_iload_n hx hb dX6_isWord_31 rfl (lv_at hl 4 rfl) ?_
          refine lv_iload hx hb dX6_isWord_32 (lv_at hl 0 rfl) ?_
          refine lv_iadd hx hb dX6_isWord_34 ?_
          refine lv_topi (fun z_9 ez_9 => ?_)
          refine lv_iload_n hx hb dX6_isWord_35 rfl (lv_at hl 2 rfl) ?_
          refine lv_isub hx hb dX6_isWord_36 ?_
          refine lv_topi (fun z_10 ez_10 => ?_)
          have hTo := hT
          refine K_V ⟨hx, hb, hml, hown, hts⟩ (t_X6_byteAt l dC dI sa hlt g _ _ tt ln h0 z_10 tp le _ (hT.sub [0, 1] rfl)  hk_h0_1 ((hF.1 h0 (hT0.at 0 rfl).1 6 (hT0.at 0 rfl).2 0 (by decide)).trans h_tp) ((ia_eq (hF.2 tp (hT0.at 1 rfl).1 0 _ _ (hT0.at 1 rfl).2 (by decide))).trans hta) hle) (cwV 1 hts gX6_isWord_X6_byteAt rfl rfl rfl (by decide +kernel) ⟨Nat.le_of_ble_eq_true rfl, Nat.le_of_ble_eq_true rfl⟩) hP hD hK hS hA hev hT 0 6 rfl rfl rfl rfl hl.1 rfl (Nat.le_of_ble_eq_true rfl) dX6_isWord_37 ⟨Nat.le_of_ble_eq_true rfl, Nat.le_of_ble_eq_true rfl⟩ (fun r L_11 f_12 H locs hw_13 hP hD hS hT hE1 => ?_)
          have hF := Fr.call hF hE hw_13.2.1 (by decide)
          have hE := hE.tr hE1
          obtain ⟨⟨z_14, rfl⟩, hw_13⟩ := hw_13
          obtain ⟨hfr_15, hex_16⟩ := hw_13
          have hk_17 : rd f_12 h0 1 = .int le := (hfr_15.1 h0 (hTo.at 0 rfl).1 6 (hTo.at 0 rfl).2 1 (by decide)).trans hk_h0_1
          have hk_18 : rd f_12 h0 2 = .int a0 := (hfr_15.1 h0 (hTo.at 0 rfl).1 6 (hTo.at 0 rfl).2 2 (by decide)).trans hk_h0_2
          have hby : z_14 = tt (pp + (c9 - wa)) := by
            have h9 := sv (hex_16 (pp + c9 - wa) (by omega) (by rw [ez_10, ez_9, hsr.1, hc1, hw.1, nI_add, nI_sub (by omega)]))
            rw [h9]; unfold btA; rw [if_pos (by omega)]; congr 1; omega
          refine W.eq (g2 := F0 m 40 ls [.int z_14, .int z_8]) rfl ?_
          refine lv_icmp_eq (tgt := 45) hx hb dX6_isWord_40 (by decide) (fun c_19 => ?_) (fun c_19 => ?_)
          · have hceq : chS 19 c9 = tt (pp + (c9 - wa)) := by rw [← hby, ← ez_8]; exact c_19
            refine lv_iinc (v := (ii + 1)) (lv' := [(4, .int (ii + 1)), (0, .ref h0), (1, .int wq), (2, .int we), (3, .int sr)]) hx hb dX6_isWord_45 hl (k := 0) rfl rfl (by decide) rfl (fun ls hl => ?_)
            refine lv_goto (tgt := 17) hx hb dX6_isWord_48 (by decide) ?_
            exact ih (ii + 1) _ _ _ _ _ (⟨c9 + 1, by rw [hc1]; exact nI_1 c9, by omega, by omega, by omega, iw_nx hc2 hc5 hceq⟩) hk_17 hk_18 hP hD hS (hT.sub [0, 1] rfl) hE hF (lv_sub hl [0, 1, 2, 3, 4] rfl)
          · refine lv_iconst (v := 0) hx hb dX6_isWord_43 (by decide) ?_
            exact K_z hx hb hr rfl hlocks hP hD hK hS hT hE ⟨Or.inl ⟨rfl, (fun h9 => c_19 (by rw [hby, ez_8]; have g9 := h9.2 (c9 - wa) (by omega); rw [show wa + (c9 - wa) = c9 by omega] at g9; exact g9))⟩, hF⟩ (Nat.le_of_ble_eq_true rfl) (Nat.le_of_ble_eq_true rfl) dX6_isWord_44
    exact lp (wb + 1) wq _ _ _ _ _ (⟨wa, hw.1, by omega, hw.2, by omega, fun i9 hi9 => absurd hi9 (by omega)⟩) hm_le hm_a0 hP hD hS (hT.sub [0, 1] rfl) hE hF (lv_sub hl [0, 1, 2, 3, 4] rfl)
  · refine lv_iconst (v := 0) hx hb dX6_isWord_12 (by decide) ?_
    exact K_z hx hb hr rfl hlocks hP hD hK hS hT hE ⟨Or.inl ⟨rfl, (fun h9 => c_6 ((iw_eq hw he hsr hqq hle.2 ez_1 ez_5).mpr h9.1))⟩, hF⟩ (Nat.le_of_ble_eq_true rfl) (Nat.le_of_ble_eq_true rfl) dX6_isWord_13

noncomputable def sWl : List Nat := [0, 4, 8, 13, 18, 23, 28, 33, 39, 45, 48, 52, 55, 60, 65, 71, 77, 84, 89, 94]
noncomputable def eWl : List Nat := [3, 7, 12, 17, 22, 27, 32, 38, 44, 47, 51, 54, 59, 64, 70, 76, 83, 88, 93, 94]
noncomputable def sW (k : Nat) : Nat := sWl.getD k 94
noncomputable def eW (k : Nat) : Nat := eWl.getD k 94
noncomputable def cW (k : Nat) : Nat := (tabC.getD k (0, 0)).1
theorem w_tab : ∀ k, k < 19 → eW k - sW k = lenS.getD (cW k) 0 ∧ sW k ≤ eW k ∧ eW k < 94 ∧ sW (k + 1) = eW k + 1 ∧ chS 19 (eW k) = 32 ∧ cW k < 19 ∧ sW (k + 1) ≤ eW (k + 1) := by decide +kernel
theorem w_ch : ∀ k, k < 19 → ∀ i, i < eW k - sW k → chS 19 (sW k + i) = chS (cW k) i ∧ ¬ chS 19 (sW k + i) = 32 := by decide +kernel
theorem w_nr : ∀ k, k < 19 → ∀ w ∈ tabC, w.1 = cW k → w.2 = nI (k + 1) := by decide +kernel
theorem w_in : ∀ k, k < 19 → ∃ w ∈ tabC, w.1 = cW k := by decide +kernel
theorem w_all : ∀ w ∈ tabC, ∃ k, k < 19 ∧ w.1 = cW k := by
  have h : ∀ w ∈ tabC, (List.range 19).any (fun k => w.1 == cW k) = true := by decide +kernel
  intro w hw
  obtain ⟨k, h1, h2⟩ := List.any_eq_true.mp (h w hw)
  exact ⟨k, List.mem_range.mp h1, by simpa using h2⟩
theorem wmt_mW {tt : Nat → Int32} {pp qq k : Nat} (hk : k < 19) : wmt tt pp qq (sW k) (eW k) ↔ mW tt pp (qq - pp) (cW k) := by
  have h1 := w_tab k hk
  have h2 := w_ch k hk
  unfold wmt mW
  constructor
  · rintro ⟨a, b⟩
    exact ⟨h1.1.symm.trans a, fun i hi => ((b i (a ▸ hi)).symm.trans (h2 i (a ▸ hi)).1)⟩
  · rintro ⟨a, b⟩
    have e : eW k - sW k = qq - pp := h1.1.trans a
    exact ⟨e, fun i hi => ((h2 i hi).1.trans (b i (e ▸ hi)).symm)⟩
theorem wn_hit {tt : Nat → Int32} {pp qq k : Nat} (hk : k < 19) (h : wmt tt pp qq (sW k) (eW k)) : wn tt pp (qq - pp) = nI (k + 1) :=
  wF_at (w_tab k hk).2.2.2.2.2.1 ((wmt_mW hk).mp h) tabC (by decide +kernel) (w_nr k hk) (w_in k hk)
theorem wn_no {tt : Nat → Int32} {pp qq : Nat} (h : ∀ x, x < 19 → ¬ wmt tt pp qq (sW x) (eW x)) : wn tt pp (qq - pp) = -3 := by
  refine wF_none tabC fun w hw hm => ?_
  obtain ⟨k, hk, e⟩ := w_all w hw
  rw [e] at hm
  exact h k hk ((wmt_mW hk).mpr hm)
theorem w_blank {k c : Nat} (hk : k < 19) (h1 : sW k ≤ c) (h2 : c ≤ eW k) (h : chS 19 c = 32) : c = eW k := by
  rcases Nat.lt_or_ge c (eW k) with g | g
  · have := (w_ch k hk (c - sW k) (by omega)).2
    rw [show sW k + (c - sW k) = c by omega] at this
    exact absurd h this
  · omega

noncomputable abbrev rm_X6_wordNumber : Room := { frames := 5, cells := 0, slots := 0, locals := 165 }
set_option maxHeartbeats 800000 in
set_option maxRecDepth 100000 in
theorem t_X6_wordNumber (l : Launch) (dC : Nat → ClassId) (dI : Nat → Nat → Nat) (sa : Nat → Nat) (hlt : l.stackTraces = false) (g : Nat → Nat) (L : List Nat) (f : Nat → va_E) (tt : Nat → Int32) (ln : Nat) (pp : Nat) (qq : Nat) (h0 : Nat) (sr : Int32) (tp : Nat) (le : Int32) (a0 : Int32) (sz : Nat) (hT : TP g L f [(h0, (0, 6, 0)), (tp, (1, g 1, 1500))]) (hm_le : rd f h0 1 = .int le) (hm_a0 : rd f h0 2 = .int a0) (h_tp : rd f h0 0 = .ref tp) (hta : ia f tp = tt) (hle : le = nI ln ∧ ln ≤ 1500) (hsr : sr = nI pp ∧ pp ≤ qq) (hqq : a0 = nI qq ∧ qq ≤ ln) : KC l dC dI sa g yX6_wordNumber wsX6_wordNumber rm_X6_wordNumber [.ref h0, .int sr] L f sz (fun r L' f' => (∃ z : Int32, r = some (.int z)) ∧ Fr [] L f f' ∧ (r = some (.int (wn tt pp (qq - pp))))) 0 0 := by
  refine CT.start (cc := cX6_wordNumber) (maxL := 5) (ret := (some .int)) (by decide) rfl (Nat.le_of_ble_eq_true rfl) ?_
  intro p e s m below meth c ls hst hP hK hD hev hS hl
  obtain ⟨hx, hb, hr, hml, hts, hown, hlocks, hin⟩ := hst
  have hown : s.vm.findClass RX6 = some m.cls := hown
  have hin : meth.name = yX6_wordNumber.name := hin
  have hA : ∀ q : Nat, s.heap.size ≤ q → va_A (va_pl L f) s.heap.size q := fun _ h => Or.inr h
  have hE : Ext L f L f := Ext.rf
  have hF : Fr [] L f f := Fr.rf
  have hl : lv_has ls 5 [(0, .ref h0), (1, .int sr)] := hl
  have hT0 := hT
  refine lv_iconst (v := 1) hx hb dX6_wordNumber_0 (by decide) ?_
  refine lv_istore_n (lv' := [(2, .int 1), (0, .ref h0), (1, .int sr)]) hx hb dX6_wordNumber_1 rfl hl (by decide) rfl (fun ls hl => ?_)
  refine lv_iconst (v := 0) hx hb dX6_wordNumber_2 (by decide) ?_
  refine lv_istore_n (lv' := [(3, .int 0), (2, .int 1), (0, .ref h0), (1, .int sr)]) hx hb dX6_wordNumber_3 rfl hl (by decide) rfl (fun ls hl => ?_)
  refine lv_iconst (v := 0) hx hb dX6_wordNumber_4 (by decide) ?_
  refine lv_istore (lv' := [(4, .int 0), (3, .int 0), (2, .int 1), (0, .ref h0), (1, .int sr)]) hx hb dX6_wordNumber_5 hl (by decide) rfl (fun ls hl => ?_)
  have lp : ∀ (n : Nat) (nu : Int32) (wx : Int32) (ii : Int32) (L1 : List Nat) (f1 : Nat → va_E) (H : Heap) (locs : List Loc) (ls : Array Slot), (∃ k9 c9 : Nat, ii = nI c9 ∧ k9 ≤ 19 ∧ nu = nI (k9 + 1) ∧ wx = nI (sW k9) ∧ sW k9 ≤ c9 ∧ c9 ≤ eW k9 ∧ c9 ≤ 94 ∧ 94 < c9 + n ∧ ∀ x : Nat, x < k9 → ¬ wmt tt pp qq (sW x) (eW x)) → rd f1 h0 1 = .int le → rd f1 h0 2 = .int a0 → va_P (dC, dI) vwCl (va_pl L1 f1) H → va_D (va_A (va_pl L f) s.heap.size) (va_pl L1 f1) → va_S (va_A (va_pl L f) s.heap.size) s.heap H locs → TP g L1 f1 [(h0, (0, 6, 0)), (tp, (1, g 1, 1500))] → Ext L f L1 f1 → Fr [] L f f1 → lv_has ls 5 [(2, .int nu), (3, .int wx), (4, .int ii), (0, .ref h0), (1, .int sr)] → W p l e rm_X6_wordNumber s m [.ref h0, .int sr].toArray below meth c H locs 0 0 (MQ below (Qg (kpost g L f (fun r L' f' => (∃ z : Int32, r = some (.int z)) ∧ Fr [] L f f' ∧ (r = some (.int (wn tt pp (qq - pp)))))) (fun (u : PL) t => QW dC dI (va_A (va_pl L f) s.heap.size) (va_pl u.1 u.2) [] t) (va_A (va_pl L f) s.heap.size)) [.ref h0, .int sr].toArray s (0) (0) (va_A (va_pl L f) s.heap.size)) (F0 m 7 ls []) := by
    intro n
    induction n with
    | zero => intro nu wx ii L1 f1 H locs ls hm hk_h0_1 hk_h0_2 hP hD hS hT hE hF hl; exact absurd hm (by rintro ⟨k9, c9, -, -, -, -, -, -, h1, h2, -⟩; omega)
    | succ n ih =>
      intro nu wx ii L1 f1 H locs ls hm hk_h0_1 hk_h0_2 hP hD hS hT hE hF hl
      refine lv_iload hx hb dX6_wordNumber_7 (lv_at hl 2 rfl) ?_
      refine va_ldcS (own := RX6) (tx := "dip air wash rest feed lime fail times until if try do else last shade loose grains food hour ") (index := 77) (q := sa (5 + 19)) hx hb hown (hev.2.2.2.2.2.2.2.2 19 (RX6, 77, "dip air wash rest feed lime fail times until if try do else last shade loose grains food hour ") rfl) dX6_wordNumber_9 ?_
      refine pu_V (i := 19) (v := some (.int (nI (lenS.getD 19 0)))) ⟨hx, hb, hml, hown, hts⟩ (pu_length l dC dI sa 19 _ (by decide)) (cwV 0 hts gX6_wordNumber_J0_length_8abf5 rfl rfl rfl (by decide +kernel) ⟨Nat.le_of_ble_eq_true rfl, Nat.le_of_ble_eq_true rfl⟩) hP hK hS hA hev (by decide) rfl hl.1 rfl (Nat.le_of_ble_eq_true rfl) dX6_wordNumber_11 ⟨Nat.le_of_ble_eq_true rfl, Nat.le_of_ble_eq_true rfl⟩ (fun H locs hP hS => ?_)
      refine W.eq (g2 := F0 m 14 ls [.int (nI (lenS.getD 19 0)), .int ii]) rfl ?_
      refine lv_topi (fun z_1 ez_1 => ?_)
      obtain rfl : z_1 = 94 := ez_1.trans (by decide)
      refine lv_icmp_ge (tgt := 56) hx hb dX6_wordNumber_14 (by decide) (fun c_2 => ?_) (fun c_2 => ?_)
      · obtain ⟨k9, c9, hc1, hc2, hc3, hc4, hc5, hc6, hc7, hc8, hc9⟩ := hm
        have hk9 : k9 = 19 := by
          rcases Nat.eq_or_lt_of_le hc2 with h9 | h9
          · exact h9
          · have g9 : nI 94 ≤ ii := c_2
            rw [hc1, nI_leI (by omega) (by omega)] at g9
            have := (w_tab k9 h9).2.2.1
            omega
        refine lv_bipush (v := (-3)) hx hb dX6_wordNumber_56 (by decide) ?_
        exact K_i hx hb hr hlocks hP hD hK hS hT hE ⟨⟨_, rfl⟩, hF, by rw [wn_no (fun x9 hx9 => hc9 x9 (by omega))]⟩ (Nat.le_of_ble_eq_true rfl) (Nat.le_of_ble_eq_true rfl) dX6_wordNumber_58
      · obtain ⟨k9, c9, hc1, hc2, hc3, hc4, hc5, hc6, hc7, hc8, hc9⟩ := hm
        have hc94 : c9 < 94 := by have h9 : ¬ nI 94 ≤ ii := c_2; rw [hc1, nI_leI (by omega) (by omega)] at h9; omega
        have hk9 : k9 < 19 := by rcases Nat.eq_or_lt_of_le hc2 with h9 | h9; exact absurd hc5 (by rw [h9]; exact Nat.not_le.mpr (Nat.lt_of_lt_of_le hc94 (by decide))); exact h9
        refine va_ldcS (own := RX6) (tx := "dip air wash rest feed lime fail times until if try do else last shade loose grains food hour ") (index := 77) (q := sa (5 + 19)) hx hb hown (hev.2.2.2.2.2.2.2.2 19 (RX6, 77, "dip air wash rest feed lime fail times until if try do else last shade loose grains food hour ") rfl) dX6_wordNumber_17 ?_
        refine lv_iload hx hb dX6_wordNumber_19 (lv_at hl 2 rfl) ?_
        refine pu_V (i := 19) (v := some (.int (chS 19 c9))) ⟨hx, hb, hml, hown, hts⟩ (pu_charAtX l dC dI sa 19 c9 ii _ hc1 (by decide) (Nat.lt_of_lt_of_le hc94 (by decide))) (cwV 1 hts gX6_wordNumber_J0_charAt_5068e rfl rfl rfl (by decide +kernel) ⟨Nat.le_of_ble_eq_true rfl, Nat.le_of_ble_eq_true rfl⟩) hP hK hS hA hev (by decide) rfl hl.1 rfl (Nat.le_of_ble_eq_true rfl) dX6_wordNumber_21 ⟨Nat.le_of_ble_eq_true rfl, Nat.le_of_ble_eq_true rfl⟩ (fun H locs hP hS => ?_)
        refine W.eq (g2 := F0 m 24 ls [.int (chS 19 c9)]) rfl ?_
        refine lv_topi (fun z_3 ez_3 => ?_)
        refine lv_bipush (v := 32) hx hb dX6_wordNumber_24 (by decide) ?_
        refine lv_icmp_ne (tgt := 50) hx hb dX6_wordNumber_26 (by decide) (fun c_4 => ?_) (fun c_4 => ?_)
        · refine lv_iinc (v := (ii + 1)) (lv' := [(4, .int (ii + 1)), (2, .int nu), (3, .int wx), (0, .ref h0), (1, .int sr)]) hx hb dX6_wordNumber_50 hl (k := 2) rfl rfl (by decide) rfl (fun ls hl => ?_)
          refine lv_goto (tgt := 7) hx hb dX6_wordNumber_53 (by decide) ?_
          exact ih nu wx (ii + 1) _ _ _ _ _ (⟨k9, c9 + 1, by rw [hc1]; exact nI_1 c9, hc2, hc3, hc4, by omega, by rcases Nat.eq_or_lt_of_le hc6 with h9 | h9; exact absurd (by rw [ez_3, h9]; exact (w_tab k9 hk9).2.2.2.2.1) c_4; exact h9, by omega, by omega, hc9⟩) hk_h0_1 hk_h0_2 hP hD hS (hT.sub [0, 1] rfl) hE hF (lv_sub hl [1, 2, 0, 3, 4] rfl)
        · have hce : c9 = eW k9 := w_blank hk9 hc5 hc6 (by rw [← ez_3]; exact c_4)
          refine lv_aload_n hx hb dX6_wordNumber_29 rfl (lv_at hl 3 rfl) ?_
          refine lv_iload_n hx hb dX6_wordNumber_30 rfl (lv_at hl 1 rfl) ?_
          refine lv_iload hx hb dX6_wordNumber_31 (lv_at hl 2 rfl) ?_
          refine lv_iload_n hx hb dX6_wordNumber_33 rfl (lv_at hl 4 rfl) ?_
          have hTo := hT
          refine K_V ⟨hx, hb, hml, hown, hts⟩ (t_X6_isWord l dC dI sa hlt g _ _ tt ln (sW k9) (eW k9) pp qq h0 wx ii sr tp le a0 _ (hT.sub [0, 1] rfl)  hk_h0_1 hk_h0_2 ((hF.1 h0 (hT0.at 0 rfl).1 6 (hT0.at 0 rfl).2 0 (by decide)).trans h_tp) ((ia_eq (hF.2 tp (hT0.at 1 rfl).1 0 _ _ (hT0.at 1 rfl).2 (by decide))).trans hta) hle ⟨hc4, (w_tab k9 hk9).2.1⟩ ⟨by rw [hc1, hce], Nat.le_of_lt (w_tab k9 hk9).2.2.1⟩ hsr hqq) (cwV 3 hts gX6_wordNumber_X6_isWord rfl rfl rfl (by decide +kernel) ⟨Nat.le_of_ble_eq_true rfl, Nat.le_of_ble_eq_true rfl⟩) hP hD hK hS hA hev hT 0 6 rfl rfl rfl rfl hl.1 rfl (Nat.le_of_ble_eq_true rfl) dX6_wordNumber_34 ⟨Nat.le_of_ble_eq_true rfl, Nat.le_of_ble_eq_true rfl⟩ (fun r L_5 f_6 H locs hw_7 hP hD hS hT hE1 => ?_)
          have hF := Fr.call hF hE hw_7.2 (by decide)
          have hE := hE.tr hE1
          obtain ⟨⟨rfl, hz2_8⟩ | ⟨rfl, hz2_8⟩, hw_7⟩ := hw_7
          · have hk_9 : rd f_6 h0 1 = .int le := (hw_7.1 h0 (hTo.at 0 rfl).1 6 (hTo.at 0 rfl).2 1 (by decide)).trans hk_h0_1
            have hk_10 : rd f_6 h0 2 = .int a0 := (hw_7.1 h0 (hTo.at 0 rfl).1 6 (hTo.at 0 rfl).2 2 (by decide)).trans hk_h0_2
            refine W.eq (g2 := F0 m 37 ls [.int 0]) rfl ?_
            refine lv_if_eq (tgt := 42) hx hb dX6_wordNumber_37 (by decide) (fun c_11 => ?_) (fun c_11 => ?_)
            rotate_left
            · exact absurd c_11 (by decide)
            refine lv_iinc (v := (nu + 1)) (lv' := [(2, .int (nu + 1)), (3, .int wx), (4, .int ii), (0, .ref h0), (1, .int sr)]) hx hb dX6_wordNumber_42 hl (k := 0) rfl rfl (by decide) rfl (fun ls hl => ?_)
            refine lv_iload hx hb dX6_wordNumber_45 (lv_at hl 2 rfl) ?_
            refine lv_iconst (v := 1) hx hb dX6_wordNumber_47 (by decide) ?_
            refine lv_iadd hx hb dX6_wordNumber_48 ?_
            refine lv_topi (fun z_12 ez_12 => ?_)
            refine lv_istore_n (lv' := [(3, .int z_12), (2, .int (nu + 1)), (4, .int ii), (0, .ref h0), (1, .int sr)]) hx hb dX6_wordNumber_49 rfl hl (by decide) rfl (fun ls hl => ?_)
            refine lv_iinc (v := (ii + 1)) (lv' := [(4, .int (ii + 1)), (3, .int z_12), (2, .int (nu + 1)), (0, .ref h0), (1, .int sr)]) hx hb dX6_wordNumber_50 hl (k := 2) rfl rfl (by decide) rfl (fun ls hl => ?_)
            refine lv_goto (tgt := 7) hx hb dX6_wordNumber_53 (by decide) ?_
            exact ih (nu + 1) z_12 (ii + 1) _ _ _ _ _ (⟨k9 + 1, c9 + 1, by rw [hc1]; exact nI_1 c9, by omega, by rw [hc3]; exact nI_1 _, by rw [ez_12, hc1, hce, (w_tab k9 hk9).2.2.2.1]; exact nI_1 _, by rw [(w_tab k9 hk9).2.2.2.1]; omega, by have h9 := (w_tab k9 hk9).2.2.2.2.2.2; rw [(w_tab k9 hk9).2.2.2.1] at h9; omega, by omega, by omega, fun x9 hx9 => by rcases Nat.lt_or_ge x9 k9 with h9 | h9; exact hc9 x9 h9; obtain rfl : x9 = k9 := (by omega); exact hz2_8⟩) hk_9 hk_10 hP hD hS (hT.sub [0, 1] rfl) hE hF (lv_sub hl [2, 1, 0, 3, 4] rfl)
          · have hk_13 : rd f_6 h0 1 = .int le := (hw_7.1 h0 (hTo.at 0 rfl).1 6 (hTo.at 0 rfl).2 1 (by decide)).trans hk_h0_1
            have hk_14 : rd f_6 h0 2 = .int a0 := (hw_7.1 h0 (hTo.at 0 rfl).1 6 (hTo.at 0 rfl).2 2 (by decide)).trans hk_h0_2
            refine W.eq (g2 := F0 m 37 ls [.int 1]) rfl ?_
            refine lv_if_eq (tgt := 42) hx hb dX6_wordNumber_37 (by decide) (fun c_15 => ?_) (fun c_15 => ?_)
            · exact absurd c_15 (by decide)
            refine lv_iload_n hx hb dX6_wordNumber_40 rfl (lv_at hl 0 rfl) ?_
            exact K_i hx hb hr hlocks hP hD hK hS hT hE ⟨⟨_, rfl⟩, hF, by rw [wn_hit hk9 hz2_8, hc3]⟩ (Nat.le_of_ble_eq_true rfl) (Nat.le_of_ble_eq_true rfl) dX6_wordNumber_41
  exact lp 95 1 0 0 _ _ _ _ _ (⟨0, 0, nI_0.symm, by omega, rfl, rfl, by decide, by decide, by omega, by omega, fun x9 hx9 => absurd hx9 (by omega)⟩) hm_le hm_a0 hP hD hS (hT.sub [0, 1] rfl) hE hF (lv_sub hl [2, 1, 0, 3, 4] rfl)

theorem LAY.of {f fk f' : Nat → va_E} {ka sta vaa j : Nat} {kd sr va : Int32} (h1 : fk ka = f ka) (h2 : fk sta = f sta) (h3 : fk vaa = f vaa) (h : LAY fk f' ka sta vaa j kd sr va) : LAY f f' ka sta vaa j kd sr va := by
  unfold LAY at h ⊢
  rwa [ia_eq h1, ia_eq h2, ia_eq h3] at h
theorem LAY.to {f f' f2 : Nat → va_E} {ka sta vaa j : Nat} {kd sr va : Int32} (h1 : f2 ka = f' ka) (h2 : f2 sta = f' sta) (h3 : f2 vaa = f' vaa) (h : LAY f f' ka sta vaa j kd sr va) : LAY f f2 ka sta vaa j kd sr va := by
  unfold LAY at h ⊢
  rwa [ia_eq h1, ia_eq h2, ia_eq h3]
theorem bt_tt {tt : Nat → Int32} {ln p : Nat} {z : Int32} (h : z = btA tt ln p) (hp : p < ln) : z = tt p := by
  rw [h]; exact if_pos hp
theorem Kp_let {t : Nat → Int32} {n q : Nat} (hq : q < n) (h : isL (t q) = true) : Kp t n q = wn t q (le_ t n q - q) ∧ Vp t n q = 0 ∧ nx t n q = le_ t n q := by
  unfold Kp Vp nx
  rw [if_pos hq, if_pos hq, if_pos h, if_pos h, if_pos h]
  exact ⟨rfl, rfl, rfl⟩
theorem Kp_oth {t : Nat → Int32} {n q : Nat} (hq : q < n) (h1 : isL (t q) = false) (h2 : isD (t q) = false) : Kp t n q = (if isG (t q) = true then t q else -3) ∧ Vp t n q = 0 ∧ nx t n q = q + 1 := by
  unfold Kp Vp nx
  rw [if_pos hq, if_pos hq, h1, h2]
  exact ⟨rfl, rfl, rfl⟩

noncomputable abbrev rm_X6_addLetters : Room := { frames := 6, cells := 0, slots := 0, locals := 189 }
theorem inw_X6_addLetters_6 : ∀ w ∈ wsX60, w ∈ wsX6_addLetters := fun _ h => List.mem_cons_of_mem _ (List.mem_append_right _ h)
set_option maxHeartbeats 800000 in
set_option maxRecDepth 100000 in
theorem t_X6_addLetters (l : Launch) (dC : Nat → ClassId) (dI : Nat → Nat → Nat) (sa : Nat → Nat) (hlt : l.stackTraces = false) (g : Nat → Nat) (L : List Nat) (f : Nat → va_E) (tt : Nat → Int32) (ln : Nat) (pp : Nat) (jj : Nat) (h0 : Nat) (tp : Nat) (ka : Nat) (sta : Nat) (vaa : Nat) (le : Int32) (a0 : Int32) (zz : Int32) (sz : Nat) (hT : TP g L f [(h0, (0, 6, 0)), (tp, (1, g 1, 1500)), (ka, (1, g 0, 1501)), (sta, (1, g 5, 1501)), (vaa, (1, g 6, 1501))]) (hm_le : rd f h0 1 = .int le) (hm_a0 : rd f h0 2 = .int a0) (hm_zz : rd f h0 3 = .int zz) (h_tp : rd f h0 0 = .ref tp) (h_ka : rd f h0 4 = .ref ka) (h_sta : rd f h0 5 = .ref sta) (h_vaa : rd f h0 6 = .ref vaa) (hta : ia f tp = tt) (hle : le = nI ln ∧ ln ≤ 1500) (hds : ka ≠ sta ∧ ka ≠ vaa ∧ sta ≠ vaa) (hpp : a0 = nI pp ∧ pp < ln) (hjj : zz = nI jj ∧ jj < 1501) (hL : isL (tt pp) = true) : KC l dC dI sa g yX6_addLetters wsX6_addLetters rm_X6_addLetters [.ref h0] L f sz (fun r L' f' => (r = none) ∧ Fr [(6, 2), (6, 3), (100, 1501)] L f f' ∧ (∃ a0' : Int32, ∃ zz' : Int32, rd f' h0 2 = .int a0' ∧ rd f' h0 3 = .int zz' ∧ (True) ∧ (True) ∧ (LAY f f' ka sta vaa jj (Kp tt ln pp) (nI pp) (Vp tt ln pp) ∧ a0' = nI (nx tt ln pp) ∧ zz' = nI (jj + 1)))) 0 0 := by
  refine CT.start (cc := cX6_addLetters) (maxL := 2) (ret := none) (by decide) rfl (Nat.le_of_ble_eq_true rfl) ?_
  intro p e s m below meth c ls hst hP hK hD hev hS hl
  obtain ⟨hx, hb, hr, hml, hts, hown, hlocks, hin⟩ := hst
  have hown : s.vm.findClass RX6 = some m.cls := hown
  have hin : meth.name = yX6_addLetters.name := hin
  have hA : ∀ q : Nat, s.heap.size ≤ q → va_A (va_pl L f) s.heap.size q := fun _ h => Or.inr h
  have hE : Ext L f L f := Ext.rf
  have hF : Fr [(6, 2), (6, 3), (100, 1501)] L f f := Fr.rf
  have hl : lv_has ls 2 [(0, .ref h0)] := hl
  have hT0 := hT
  refine lv_aload_n hx hb dX6_addLetters_0 rfl (lv_at hl 0 rfl) ?_
  refine T_get (ci := 6) (C := RX6) (T := TX6) (N := 7) (t := tI) hx hb hts inw_X6_addLetters_6 hown hK hP hT 0 rfl rfl 2 (by decide) (hts (.fieldLink RX6 38 "VatHouse$Tokens" "at" "I") (List.mem_of_getElem? (i := 1) (by exact rfl))) (fun _ h9 => h9) rfl dX6_addLetters_1 (fun v_3 hv_1 hr_2 => ?_)
  obtain rfl : v_3 = .int a0 := hr_2.symm.trans hm_a0
  refine lv_istore_n (lv' := [(1, .int a0), (0, .ref h0)]) hx hb dX6_addLetters_4 rfl hl (by decide) rfl (fun ls hl => ?_)
  have lp : ∀ (n : Nat) (k1 : Int32) (L1 : List Nat) (f1 : Nat → va_E) (H : Heap) (locs : List Loc) (ls : Array Slot), (∃ p1 : Nat, k1 = nI p1 ∧ pp ≤ p1 ∧ p1 ≤ ln ∧ ln < p1 + n ∧ le_ tt ln p1 = le_ tt ln pp) → rd f1 h0 1 = .int le → rd f1 h0 2 = .int k1 → rd f1 h0 3 = .int zz → f1 ka = f ka → f1 sta = f sta → f1 vaa = f vaa → va_P (dC, dI) vwCl (va_pl L1 f1) H → va_D (va_A (va_pl L f) s.heap.size) (va_pl L1 f1) → va_S (va_A (va_pl L f) s.heap.size) s.heap H locs → TP g L1 f1 [(h0, (0, 6, 0)), (tp, (1, g 1, 1500)), (ka, (1, g 0, 1501)), (sta, (1, g 5, 1501)), (vaa, (1, g 6, 1501))] → Ext L f L1 f1 → Fr [(6, 2), (6, 3), (100, 1501)] L f f1 → lv_has ls 2 [(1, .int a0), (0, .ref h0)] → W p l e rm_X6_addLetters s m [.ref h0].toArray below meth c H locs 0 0 (MQ below (Qg (kpost g L f (fun r L' f' => (r = none) ∧ Fr [(6, 2), (6, 3), (100, 1501)] L f f' ∧ (∃ a0' : Int32, ∃ zz' : Int32, rd f' h0 2 = .int a0' ∧ rd f' h0 3 = .int zz' ∧ (True) ∧ (True) ∧ (LAY f f' ka sta vaa jj (Kp tt ln pp) (nI pp) (Vp tt ln pp) ∧ a0' = nI (nx tt ln pp) ∧ zz' = nI (jj + 1))))) (fun (u : PL) t => QW dC dI (va_A (va_pl L f) s.heap.size) (va_pl u.1 u.2) [] t) (va_A (va_pl L f) s.heap.size)) [.ref h0].toArray s (0) (0) (va_A (va_pl L f) s.heap.size)) (F0 m 5 ls []) := by
    intro n
    induction n with
    | zero => intro k1 L1 f1 H locs ls hm hk_h0_1 hk_h0_2 hk_h0_3 hak_ka hak_sta hak_vaa hP hD hS hT hE hF hl; exact absurd hm (by rintro ⟨p1, -, -, h1, h2, -⟩; omega)
    | succ n ih =>
      intro k1 L1 f1 H locs ls hm hk_h0_1 hk_h0_2 hk_h0_3 hak_ka hak_sta hak_vaa hP hD hS hT hE hF hl
      refine lv_aload_n hx hb dX6_addLetters_5 rfl (lv_at hl 1 rfl) ?_
      refine T_get (ci := 6) (C := RX6) (T := TX6) (N := 7) (t := tI) hx hb hts inw_X6_addLetters_6 hown hK hP hT 0 rfl rfl 2 (by decide) (hts (.fieldLink RX6 38 "VatHouse$Tokens" "at" "I") (List.mem_of_getElem? (i := 1) (by exact rfl))) (fun _ h9 => h9) rfl dX6_addLetters_6 (fun v_6 hv_4 hr_5 => ?_)
      obtain rfl : v_6 = .int k1 := hr_5.symm.trans hk_h0_2
      refine lv_aload_n hx hb dX6_addLetters_9 rfl (lv_at hl 1 rfl) ?_
      refine T_get (ci := 6) (C := RX6) (T := TX6) (N := 7) (t := tI) hx hb hts inw_X6_addLetters_6 hown hK hP hT 0 rfl rfl 1 (by decide) (hts (.fieldLink RX6 34 "VatHouse$Tokens" "length" "I") (List.mem_of_getElem? (i := 2) (by exact rfl))) (fun _ h9 => h9) rfl dX6_addLetters_10 (fun v_9 hv_7 hr_8 => ?_)
      obtain rfl : v_9 = .int le := hr_8.symm.trans hk_h0_1
      refine lv_icmp_ge (tgt := 43) hx hb dX6_addLetters_13 (by decide) (fun c_10 => ?_) (fun c_10 => ?_)
      · obtain ⟨p1, hp1, hp2, hp3, hp4, hp5⟩ := hm
        have hend : p1 = le_ tt ln pp := by
          have h9 := c_10
          rw [hle.1, hp1, nI_leI (by omega) (by omega)] at h9
          rw [← hp5]
          exact (re_stop (Q := fun x => isL (tt x)) (Or.inl h9)).symm
        refine lv_aload_n hx hb dX6_addLetters_43 rfl (lv_at hl 1 rfl) ?_
        refine lv_aload_n hx hb dX6_addLetters_44 rfl (lv_at hl 1 rfl) ?_
        refine lv_iload_n hx hb dX6_addLetters_45 rfl (lv_at hl 0 rfl) ?_
        have hTo := hT
        refine K_V ⟨hx, hb, hml, hown, hts⟩ (t_X6_wordNumber l dC dI sa hlt g _ _ tt ln pp p1 h0 a0 tp le k1 _ (hT.sub [0, 1] rfl)  hk_h0_1 hk_h0_2 ((hF.1 h0 (hT0.at 0 rfl).1 6 (hT0.at 0 rfl).2 0 (by decide)).trans h_tp) ((ia_eq (hF.2 tp (hT0.at 1 rfl).1 0 _ _ (hT0.at 1 rfl).2 (by decide))).trans hta) hle ⟨hpp.1, hp2⟩ ⟨hp1, hp3⟩) (cwV 1 hts gX6_addLetters_X6_wordNumber rfl rfl rfl (by decide +kernel) ⟨Nat.le_of_ble_eq_true rfl, Nat.le_of_ble_eq_true rfl⟩) hP hD hK hS hA hev hT 0 6 rfl rfl rfl rfl hl.1 rfl (Nat.le_of_ble_eq_true rfl) dX6_addLetters_46 ⟨Nat.le_of_ble_eq_true rfl, Nat.le_of_ble_eq_true rfl⟩ (fun r L_11 f_12 H locs hw_13 hP hD hS hT hE1 => ?_)
        have hF := Fr.call hF hE hw_13.2.1 (by decide)
        have hE := hE.tr hE1
        obtain ⟨⟨z_14, rfl⟩, hw_13⟩ := hw_13
        obtain ⟨hfr_15, hex_16⟩ := hw_13
        have hk_17 : rd f_12 h0 1 = .int le := (hfr_15.1 h0 (hTo.at 0 rfl).1 6 (hTo.at 0 rfl).2 1 (by decide)).trans hk_h0_1
        have hk_18 : rd f_12 h0 2 = .int k1 := (hfr_15.1 h0 (hTo.at 0 rfl).1 6 (hTo.at 0 rfl).2 2 (by decide)).trans hk_h0_2
        have hk_19 : rd f_12 h0 3 = .int zz := (hfr_15.1 h0 (hTo.at 0 rfl).1 6 (hTo.at 0 rfl).2 3 (by decide)).trans hk_h0_3
        have hak_20 : f_12 ka = f ka := (hfr_15.2 ka (hTo.at 2 rfl).1 _ _ _ (hTo.at 2 rfl).2 (by decide)).trans hak_ka
        have hak_21 : f_12 sta = f sta := (hfr_15.2 sta (hTo.at 3 rfl).1 _ _ _ (hTo.at 3 rfl).2 (by decide)).trans hak_sta
        have hak_22 : f_12 vaa = f vaa := (hfr_15.2 vaa (hTo.at 4 rfl).1 _ _ _ (hTo.at 4 rfl).2 (by decide)).trans hak_vaa
        have hwn_23 := sv hex_16
        refine W.eq (g2 := F0 m 49 ls [.int z_14, .ref h0]) rfl ?_
        refine lv_iload_n hx hb dX6_addLetters_49 rfl (lv_at hl 0 rfl) ?_
        refine lv_iconst (v := 0) hx hb dX6_addLetters_50 (by decide) ?_
        have hTo := hT
        refine K_V ⟨hx, hb, hml, hown, hts⟩ (t_X6_keep l dC dI sa hlt g _ _ h0 z_14 a0 0 ka sta vaa zz _ (hT.sub [0, 2, 3, 4] rfl)  hk_19 ((hF.1 h0 (hT0.at 0 rfl).1 6 (hT0.at 0 rfl).2 4 (by decide)).trans h_ka) ((hF.1 h0 (hT0.at 0 rfl).1 6 (hT0.at 0 rfl).2 5 (by decide)).trans h_sta) ((hF.1 h0 (hT0.at 0 rfl).1 6 (hT0.at 0 rfl).2 6 (by decide)).trans h_vaa) hds) (cwV 3 hts gX6_addLetters_X6_keep rfl rfl rfl (by decide +kernel) ⟨Nat.le_of_ble_eq_true rfl, Nat.le_of_ble_eq_true rfl⟩) hP hD hK hS hA hev hT 0 6 rfl rfl rfl rfl hl.1 rfl (Nat.le_of_ble_eq_true rfl) dX6_addLetters_51 ⟨Nat.le_of_ble_eq_true rfl, Nat.le_of_ble_eq_true rfl⟩ (fun r L_24 f_25 H locs hw_26 hP hD hS hT hE1 => ?_)
        have hF := Fr.call hF hE hw_26.2.1 (by decide)
        have hE := hE.tr hE1
        obtain ⟨rfl, hw_26⟩ := hw_26
        obtain ⟨hfr_27, zz_28, hk_29, hrel_30, hex_31⟩ := hw_26
        have hk_32 : rd f_25 h0 1 = .int le := (hfr_27.1 h0 (hTo.at 0 rfl).1 6 (hTo.at 0 rfl).2 1 (by decide)).trans hk_17
        have hk_33 : rd f_25 h0 2 = .int k1 := (hfr_27.1 h0 (hTo.at 0 rfl).1 6 (hTo.at 0 rfl).2 2 (by decide)).trans hk_18
        have hkp_34 := hex_31 jj hjj.2 hjj.1
        refine W.eq (g2 := F0 m 54 ls []) rfl ?_
        exact K_v hx hb hr hlocks hP hD hK hS hT hE ⟨rfl, hF, _, _, hk_33, hk_29, trivial, trivial, ⟨(LAY.of hak_20 hak_21 hak_22 (by rw [(Kp_let hpp.2 hL).1, (Kp_let hpp.2 hL).2.1, ← hend, ← hwn_23, ← hpp.1]; exact hkp_34.1)), by rw [(Kp_let hpp.2 hL).2.2, ← hend]; exact hp1, hkp_34.2⟩⟩ (Nat.le_of_ble_eq_true rfl) (Nat.le_of_ble_eq_true rfl) dX6_addLetters_54
      · obtain ⟨p1, hp1, hp2, hp3, hp4, hp5⟩ := hm
        have hp6 : p1 < ln := by have h9 := c_10; rw [hle.1, hp1, nI_leI (by omega) (by omega)] at h9; omega
        refine lv_aload_n hx hb dX6_addLetters_16 rfl (lv_at hl 1 rfl) ?_
        refine lv_aload_n hx hb dX6_addLetters_17 rfl (lv_at hl 1 rfl) ?_
        refine T_get (ci := 6) (C := RX6) (T := TX6) (N := 7) (t := tI) hx hb hts inw_X6_addLetters_6 hown hK hP hT 0 rfl rfl 2 (by decide) (hts (.fieldLink RX6 38 "VatHouse$Tokens" "at" "I") (List.mem_of_getElem? (i := 1) (by exact rfl))) (fun _ h9 => h9) rfl dX6_addLetters_18 (fun v_37 hv_35 hr_36 => ?_)
        obtain rfl : v_37 = .int k1 := hr_36.symm.trans hk_h0_2
        have hTo := hT
        refine K_V ⟨hx, hb, hml, hown, hts⟩ (t_X6_byteAt l dC dI sa hlt g _ _ tt ln h0 k1 tp le _ (hT.sub [0, 1] rfl)  hk_h0_1 ((hF.1 h0 (hT0.at 0 rfl).1 6 (hT0.at 0 rfl).2 0 (by decide)).trans h_tp) ((ia_eq (hF.2 tp (hT0.at 1 rfl).1 0 _ _ (hT0.at 1 rfl).2 (by decide))).trans hta) hle) (cwV 1 hts gX6_addLetters_X6_byteAt rfl rfl rfl (by decide +kernel) ⟨Nat.le_of_ble_eq_true rfl, Nat.le_of_ble_eq_true rfl⟩) hP hD hK hS hA hev hT 0 6 rfl rfl rfl rfl hl.1 rfl (Nat.le_of_ble_eq_true rfl) dX6_addLetters_21 ⟨Nat.le_of_ble_eq_true rfl, Nat.le_of_ble_eq_true rfl⟩ (fun r L_38 f_39 H locs hw_40 hP hD hS hT hE1 => ?_)
        have hF := Fr.call hF hE hw_40.2.1 (by decide)
        have hE := hE.tr hE1
        obtain ⟨⟨z_41, rfl⟩, hw_40⟩ := hw_40
        obtain ⟨hfr_42, hex_43⟩ := hw_40
        have hk_44 : rd f_39 h0 1 = .int le := (hfr_42.1 h0 (hTo.at 0 rfl).1 6 (hTo.at 0 rfl).2 1 (by decide)).trans hk_h0_1
        have hk_45 : rd f_39 h0 2 = .int k1 := (hfr_42.1 h0 (hTo.at 0 rfl).1 6 (hTo.at 0 rfl).2 2 (by decide)).trans hk_h0_2
        have hk_46 : rd f_39 h0 3 = .int zz := (hfr_42.1 h0 (hTo.at 0 rfl).1 6 (hTo.at 0 rfl).2 3 (by decide)).trans hk_h0_3
        have hak_47 : f_39 ka = f ka := (hfr_42.2 ka (hTo.at 2 rfl).1 _ _ _ (hTo.at 2 rfl).2 (by decide)).trans hak_ka
        have hak_48 : f_39 sta = f sta := (hfr_42.2 sta (hTo.at 3 rfl).1 _ _ _ (hTo.at 3 rfl).2 (by decide)).trans hak_sta
        have hak_49 : f_39 vaa = f vaa := (hfr_42.2 vaa (hTo.at 4 rfl).1 _ _ _ (hTo.at 4 rfl).2 (by decide)).trans hak_vaa
        have hby_50 : z_41 = tt p1 := bt_tt (sv (hex_43 p1 (by omega) hp1)) hp6
        refine W.eq (g2 := F0 m 24 ls [.int z_41]) rfl ?_
        have hTo := hT
        refine K_S ⟨hx, hb, hml, hown, hts⟩ (t_X6_isLetter l dC dI sa hlt g _ _ z_41 _ (hT.sub [] rfl)  ) (va_cwS 1 hts gX6_addLetters_X6_isLetter rfl rfl rfl (by decide +kernel) ⟨Nat.le_of_ble_eq_true rfl, Nat.le_of_ble_eq_true rfl⟩) hP hD hK hS hA hev hT rfl hl.1 rfl (Nat.le_of_ble_eq_true rfl) dX6_addLetters_24 ⟨Nat.le_of_ble_eq_true rfl, Nat.le_of_ble_eq_true rfl⟩ (fun r L_51 f_52 H locs hw_53 hP hD hS hT hE1 => ?_)
        have hF := Fr.call hF hE hw_53.2 (by decide)
        have hE := hE.tr hE1
        obtain ⟨⟨rfl, hz2_54⟩ | ⟨rfl, hz2_54⟩, hw_53⟩ := hw_53
        · have hk_55 : rd f_52 h0 1 = .int le := (hw_53.1 h0 (hTo.at 0 rfl).1 6 (hTo.at 0 rfl).2 1 (by decide)).trans hk_44
          have hk_56 : rd f_52 h0 2 = .int k1 := (hw_53.1 h0 (hTo.at 0 rfl).1 6 (hTo.at 0 rfl).2 2 (by decide)).trans hk_45
          have hk_57 : rd f_52 h0 3 = .int zz := (hw_53.1 h0 (hTo.at 0 rfl).1 6 (hTo.at 0 rfl).2 3 (by decide)).trans hk_46
          have hak_58 : f_52 ka = f ka := (hw_53.2 ka (hTo.at 2 rfl).1 _ _ _ (hTo.at 2 rfl).2 (by decide)).trans hak_47
          have hak_59 : f_52 sta = f sta := (hw_53.2 sta (hTo.at 3 rfl).1 _ _ _ (hTo.at 3 rfl).2 (by decide)).trans hak_48
          have hak_60 : f_52 vaa = f vaa := (hw_53.2 vaa (hTo.at 4 rfl).1 _ _ _ (hTo.at 4 rfl).2 (by decide)).trans hak_49
          refine W.eq (g2 := F0 m 27 ls [.int 0]) rfl ?_
          refine lv_if_eq (tgt := 43) hx hb dX6_addLetters_27 (by decide) (fun c_61 => ?_) (fun c_61 => ?_)
          rotate_left
          · exact absurd c_61 (by decide)
          have hend : p1 = le_ tt ln pp := by rw [← hp5]; exact (re_stop (Q := fun x => isL (tt x)) (Or.inr (by show isL (tt p1) = false; rw [← hby_50]; exact hz2_54))).symm
          refine lv_aload_n hx hb dX6_addLetters_43 rfl (lv_at hl 1 rfl) ?_
          refine lv_aload_n hx hb dX6_addLetters_44 rfl (lv_at hl 1 rfl) ?_
          refine lv_iload_n hx hb dX6_addLetters_45 rfl (lv_at hl 0 rfl) ?_
          have hTo := hT
          refine K_V ⟨hx, hb, hml, hown, hts⟩ (t_X6_wordNumber l dC dI sa hlt g _ _ tt ln pp p1 h0 a0 tp le k1 _ (hT.sub [0, 1] rfl)  hk_55 hk_56 ((hF.1 h0 (hT0.at 0 rfl).1 6 (hT0.at 0 rfl).2 0 (by decide)).trans h_tp) ((ia_eq (hF.2 tp (hT0.at 1 rfl).1 0 _ _ (hT0.at 1 rfl).2 (by decide))).trans hta) hle ⟨hpp.1, hp2⟩ ⟨hp1, hp3⟩) (cwV 1 hts gX6_addLetters_X6_wordNumber rfl rfl rfl (by decide +kernel) ⟨Nat.le_of_ble_eq_true rfl, Nat.le_of_ble_eq_true rfl⟩) hP hD hK hS hA hev hT 0 6 rfl rfl rfl rfl hl.1 rfl (Nat.le_of_ble_eq_true rfl) dX6_addLetters_46 ⟨Nat.le_of_ble_eq_true rfl, Nat.le_of_ble_eq_true rfl⟩ (fun r L_62 f_63 H locs hw_64 hP hD hS hT hE1 => ?_)
          have hF := Fr.call hF hE hw_64.2.1 (by decide)
          have hE := hE.tr hE1
          obtain ⟨⟨z_65, rfl⟩, hw_64⟩ := hw_64
          obtain ⟨hfr_66, hex_67⟩ := hw_64
          have hk_68 : rd f_63 h0 1 = .int le := (hfr_66.1 h0 (hTo.at 0 rfl).1 6 (hTo.at 0 rfl).2 1 (by decide)).trans hk_55
          have hk_69 : rd f_63 h0 2 = .int k1 := (hfr_66.1 h0 (hTo.at 0 rfl).1 6 (hTo.at 0 rfl).2 2 (by decide)).trans hk_56
          have hk_70 : rd f_63 h0 3 = .int zz := (hfr_66.1 h0 (hTo.at 0 rfl).1 6 (hTo.at 0 rfl).2 3 (by decide)).trans hk_57
          have hak_71 : f_63 ka = f ka := (hfr_66.2 ka (hTo.at 2 rfl).1 _ _ _ (hTo.at 2 rfl).2 (by decide)).trans hak_58
          have hak_72 : f_63 sta = f sta := (hfr_66.2 sta (hTo.at 3 rfl).1 _ _ _ (hTo.at 3 rfl).2 (by decide)).trans hak_59
          have hak_73 : f_63 vaa = f vaa := (hfr_66.2 vaa (hTo.at 4 rfl).1 _ _ _ (hTo.at 4 rfl).2 (by decide)).trans hak_60
          have hwn_74 := sv hex_67
          refine W.eq (g2 := F0 m 49 ls [.int z_65, .ref h0]) rfl ?_
          refine lv_iload_n hx hb dX6_addLetters_49 rfl (lv_at hl 0 rfl) ?_
          refine lv_iconst (v := 0) hx hb dX6_addLetters_50 (by decide) ?_
          have hTo := hT
          refine K_V ⟨hx, hb, hml, hown, hts⟩ (t_X6_keep l dC dI sa hlt g _ _ h0 z_65 a0 0 ka sta vaa zz _ (hT.sub [0, 2, 3, 4] rfl)  hk_70 ((hF.1 h0 (hT0.at 0 rfl).1 6 (hT0.at 0 rfl).2 4 (by decide)).trans h_ka) ((hF.1 h0 (hT0.at 0 rfl).1 6 (hT0.at 0 rfl).2 5 (by decide)).trans h_sta) ((hF.1 h0 (hT0.at 0 rfl).1 6 (hT0.at 0 rfl).2 6 (by decide)).trans h_vaa) hds) (cwV 3 hts gX6_addLetters_X6_keep rfl rfl rfl (by decide +kernel) ⟨Nat.le_of_ble_eq_true rfl, Nat.le_of_ble_eq_true rfl⟩) hP hD hK hS hA hev hT 0 6 rfl rfl rfl rfl hl.1 rfl (Nat.le_of_ble_eq_true rfl) dX6_addLetters_51 ⟨Nat.le_of_ble_eq_true rfl, Nat.le_of_ble_eq_true rfl⟩ (fun r L_75 f_76 H locs hw_77 hP hD hS hT hE1 => ?_)
          have hF := Fr.call hF hE hw_77.2.1 (by decide)
          have hE := hE.tr hE1
          obtain ⟨rfl, hw_77⟩ := hw_77
          obtain ⟨hfr_78, zz_79, hk_80, hrel_81, hex_82⟩ := hw_77
          have hk_83 : rd f_76 h0 1 = .int le := (hfr_78.1 h0 (hTo.at 0 rfl).1 6 (hTo.at 0 rfl).2 1 (by decide)).trans hk_68
          have hk_84 : rd f_76 h0 2 = .int k1 := (hfr_78.1 h0 (hTo.at 0 rfl).1 6 (hTo.at 0 rfl).2 2 (by decide)).trans hk_69
          have hkp_85 := hex_82 jj hjj.2 hjj.1
          refine W.eq (g2 := F0 m 54 ls []) rfl ?_
          exact K_v hx hb hr hlocks hP hD hK hS hT hE ⟨rfl, hF, _, _, hk_84, hk_80, trivial, trivial, ⟨(LAY.of hak_71 hak_72 hak_73 (by rw [(Kp_let hpp.2 hL).1, (Kp_let hpp.2 hL).2.1, ← hend, ← hwn_74, ← hpp.1]; exact hkp_85.1)), by rw [(Kp_let hpp.2 hL).2.2, ← hend]; exact hp1, hkp_85.2⟩⟩ (Nat.le_of_ble_eq_true rfl) (Nat.le_of_ble_eq_true rfl) dX6_addLetters_54
        · have hk_86 : rd f_52 h0 1 = .int le := (hw_53.1 h0 (hTo.at 0 rfl).1 6 (hTo.at 0 rfl).2 1 (by decide)).trans hk_44
          have hk_87 : rd f_52 h0 2 = .int k1 := (hw_53.1 h0 (hTo.at 0 rfl).1 6 (hTo.at 0 rfl).2 2 (by decide)).trans hk_45
          have hk_88 : rd f_52 h0 3 = .int zz := (hw_53.1 h0 (hTo.at 0 rfl).1 6 (hTo.at 0 rfl).2 3 (by decide)).trans hk_46
          have hak_89 : f_52 ka = f ka := (hw_53.2 ka (hTo.at 2 rfl).1 _ _ _ (hTo.at 2 rfl).2 (by decide)).trans hak_47
          have hak_90 : f_52 sta = f sta := (hw_53.2 sta (hTo.at 3 rfl).1 _ _ _ (hTo.at 3 rfl).2 (by decide)).trans hak_48
          have hak_91 : f_52 vaa = f vaa := (hw_53.2 vaa (hTo.at 4 rfl).1 _ _ _ (hTo.at 4 rfl).2 (by decide)).trans hak_49
          refine W.eq (g2 := F0 m 27 ls [.int 1]) rfl ?_
          refine lv_if_eq (tgt := 43) hx hb dX6_addLetters_27 (by decide) (fun c_92 => ?_) (fun c_92 => ?_)
          · exact absurd c_92 (by decide)
          refine lv_aload_n hx hb dX6_addLetters_30 rfl (lv_at hl 1 rfl) ?_
          refine lv_dup hx hb dX6_addLetters_31 rfl ?_
          refine T_get (ci := 6) (C := RX6) (T := TX6) (N := 7) (t := tI) hx hb hts inw_X6_addLetters_6 hown hK hP hT 0 rfl rfl 2 (by decide) (hts (.fieldLink RX6 38 "VatHouse$Tokens" "at" "I") (List.mem_of_getElem? (i := 1) (by exact rfl))) (fun _ h9 => h9) rfl dX6_addLetters_32 (fun v_95 hv_93 hr_94 => ?_)
          obtain rfl : v_95 = .int k1 := hr_94.symm.trans hk_87
          refine lv_iconst (v := 1) hx hb dX6_addLetters_35 (by decide) ?_
          refine lv_iadd hx hb dX6_addLetters_36 ?_
          refine lv_topi (fun z_96 ez_96 => ?_)
          have hTo := hT
          refine T_put (ci := 6) (v := .int z_96) (ty := .int) (t := tI) (C := RX6) (T := TX6) (N := 7) hx hb hts inw_X6_addLetters_6 tyX6 tyX6_ok nmX6 hown hK hP hD hS hT 0 rfl rfl 2 (by decide) (hts (.fieldLink RX6 38 "VatHouse$Tokens" "at" "I") (List.mem_of_getElem? (i := 1) (by exact rfl))) (fun _ h9 => h9) rfl (tyX6_ok 2 (by decide)) rfl rfl rfl ⟨_, rfl⟩ dX6_addLetters_37 (fun f_97 H locs hP hD hS hT hE1 hrd_98 hup_99 => ?_)
          have hF := Fr.put (a := h0) (ci := 6) hF hE ((hE1 h0 (hT.at 0 rfl).1).2.symm.trans (hT.at 0 rfl).2) (by decide) hrd_98 hup_99
          have hE := hE.tr hE1
          have hk_100 : rd f_97 h0 1 = .int le := ((Fr.put (cs := [(6, 2)]) (a := h0) (ci := 6) Fr.rf Ext.rf (hTo.at 0 rfl).2 (by decide) hrd_98 hup_99).1 h0 (hTo.at 0 rfl).1 6 (hTo.at 0 rfl).2 1 (by decide)).trans hk_86
          have hk_101 : rd f_97 h0 2 = .int z_96 := (hrd_98 h0 2).trans (if_pos ⟨rfl, rfl⟩)
          have hk_102 : rd f_97 h0 3 = .int zz := ((Fr.put (cs := [(6, 2)]) (a := h0) (ci := 6) Fr.rf Ext.rf (hTo.at 0 rfl).2 (by decide) hrd_98 hup_99).1 h0 (hTo.at 0 rfl).1 6 (hTo.at 0 rfl).2 3 (by decide)).trans hk_88
          have hak_103 : f_97 ka = f ka := (hup_99 ka (ne_sh (hT0.at 2 rfl).2 (hT0.at 0 rfl).2 (by intro h9; cases h9))).trans hak_89
          have hak_104 : f_97 sta = f sta := (hup_99 sta (ne_sh (hT0.at 3 rfl).2 (hT0.at 0 rfl).2 (by intro h9; cases h9))).trans hak_90
          have hak_105 : f_97 vaa = f vaa := (hup_99 vaa (ne_sh (hT0.at 4 rfl).2 (hT0.at 0 rfl).2 (by intro h9; cases h9))).trans hak_91
          refine lv_goto (tgt := 5) hx hb dX6_addLetters_40 (by decide) ?_
          exact ih z_96 _ _ _ _ _ (⟨p1 + 1, by rw [ez_96, hp1]; exact nI_1 p1, by omega, by omega, by omega, by rw [← hp5]; exact (re_go (Q := fun x => isL (tt x)) hp6 (by show isL (tt p1) = true; rw [← hby_50]; exact hz2_54)).symm⟩) hk_100 hk_101 hk_102 hak_103 hak_104 hak_105 hP hD hS (hT.sub [0, 1, 2, 3, 4] rfl) hE hF (lv_sub hl [0, 1] rfl)
  exact lp (ln + 1) a0 _ _ _ _ _ (⟨pp, hpp.1, Nat.le_refl _, by omega, by omega, rfl⟩) hm_le hm_a0 hm_zz rfl rfl rfl hP hD hS (hT.sub [0, 1, 2, 3, 4] rfl) hE hF (lv_sub hl [0, 1] rfl)

theorem dg_go {tt : Nat → Int32} {pp p1 : Nat} {va y1 y2 y3 b : Int32} (h : pp ≤ p1) (h4 : p1 - pp < 4) (hv : va = vF tt pp (min 4 (p1 - pp))) (hb : b = tt p1) (e1 : y1 = va * 10) (e2 : y2 = y1 + b) (e3 : y3 = y2 - 48) : y3 = vF tt pp (min 4 (p1 + 1 - pp)) := by
  rw [show min 4 (p1 + 1 - pp) = (p1 - pp) + 1 by omega]
  show y3 = vF tt pp (p1 - pp) * 10 + tt (pp + (p1 - pp)) - 48
  rw [show min 4 (p1 - pp) = p1 - pp by omega] at hv
  rw [e3, e2, e1, hb, hv, show pp + (p1 - pp) = p1 by omega]
theorem dg_st {tt : Nat → Int32} {pp p1 : Nat} {va : Int32} (h4 : 4 ≤ p1 - pp) (hv : va = vF tt pp (min 4 (p1 - pp))) : va = vF tt pp (min 4 (p1 + 1 - pp)) := by
  rw [show min 4 (p1 + 1 - pp) = min 4 (p1 - pp) by omega]
  exact hv
theorem dg_4 {pp p1 : Nat} {k1 a0 z : Int32} (h : pp ≤ p1) (hp : p1 < 2147483648) (h1 : k1 = nI p1) (h0 : a0 = nI pp) (e : z = k1 - a0) : z = nI (p1 - pp) := by
  rw [e, h1, h0]; exact nI_sub h

noncomputable abbrev rm_X6_addDigits : Room := { frames := 1, cells := 0, slots := 0, locals := 23 }
theorem inw_X6_addDigits_6 : ∀ w ∈ wsX60, w ∈ wsX6_addDigits := fun _ h => List.mem_cons_of_mem _ (List.mem_append_right _ h)
set_option maxHeartbeats 800000 in
set_option maxRecDepth 100000 in
theorem t_X6_addDigits (l : Launch) (dC : Nat → ClassId) (dI : Nat → Nat → Nat) (sa : Nat → Nat) (hlt : l.stackTraces = false) (g : Nat → Nat) (L : List Nat) (f : Nat → va_E) (tt : Nat → Int32) (ln : Nat) (pp : Nat) (jj : Nat) (h0 : Nat) (tp : Nat) (ka : Nat) (sta : Nat) (vaa : Nat) (le : Int32) (a0 : Int32) (zz : Int32) (sz : Nat) (hT : TP g L f [(h0, (0, 6, 0)), (tp, (1, g 1, 1500)), (ka, (1, g 0, 1501)), (sta, (1, g 5, 1501)), (vaa, (1, g 6, 1501))]) (hm_le : rd f h0 1 = .int le) (hm_a0 : rd f h0 2 = .int a0) (hm_zz : rd f h0 3 = .int zz) (h_tp : rd f h0 0 = .ref tp) (h_ka : rd f h0 4 = .ref ka) (h_sta : rd f h0 5 = .ref sta) (h_vaa : rd f h0 6 = .ref vaa) (hta : ia f tp = tt) (hle : le = nI ln ∧ ln ≤ 1500) (hds : ka ≠ sta ∧ ka ≠ vaa ∧ sta ≠ vaa) (hpp : a0 = nI pp ∧ pp < ln) (hjj : zz = nI jj ∧ jj < 1501) (hL : isD (tt pp) = true) : KC l dC dI sa g yX6_addDigits wsX6_addDigits rm_X6_addDigits [.ref h0] L f sz (fun r L' f' => (r = none) ∧ Fr [(6, 2), (6, 3), (100, 1501)] L f f' ∧ (∃ a0' : Int32, ∃ zz' : Int32, rd f' h0 2 = .int a0' ∧ rd f' h0 3 = .int zz' ∧ (True) ∧ (True) ∧ (LAY f f' ka sta vaa jj (Kp tt ln pp) (nI pp) (Vp tt ln pp) ∧ a0' = nI (nx tt ln pp) ∧ zz' = nI (jj + 1)))) 0 0 := by
  refine CT.start (cc := cX6_addDigits) (maxL := 3) (ret := none) (by decide) rfl (Nat.le_of_ble_eq_true rfl) ?_
  intro p e s m below meth c ls hst hP hK hD hev hS hl
  obtain ⟨hx, hb, hr, hml, hts, hown, hlocks, hin⟩ := hst
  have hown : s.vm.findClass RX6 = some m.cls := hown
  have hin : meth.name = yX6_addDigits.name := hin
  have hA : ∀ q : Nat, s.heap.size ≤ q → va_A (va_pl L f) s.heap.size q := fun _ h => Or.inr h
  have hE : Ext L f L f := Ext.rf
  have hF : Fr [(6, 2), (6, 3), (100, 1501)] L f f := Fr.rf
  have hl : lv_has ls 3 [(0, .ref h0)] := hl
  have hT0 := hT
  refine lv_aload_n hx hb dX6_addDigits_0 rfl (lv_at hl 0 rfl) ?_
  refine T_get (ci := 6) (C := RX6) (T := TX6) (N := 7) (t := tI) hx hb hts inw_X6_addDigits_6 hown hK hP hT 0 rfl rfl 2 (by decide) (hts (.fieldLink RX6 38 "VatHouse$Tokens" "at" "I") (List.mem_of_getElem? (i := 1) (by exact rfl))) (fun _ h9 => h9) rfl dX6_addDigits_1 (fun v_3 hv_1 hr_2 => ?_)
  obtain rfl : v_3 = .int a0 := hr_2.symm.trans hm_a0
  refine lv_istore_n (lv' := [(1, .int a0), (0, .ref h0)]) hx hb dX6_addDigits_4 rfl hl (by decide) rfl (fun ls hl => ?_)
  refine lv_iconst (v := 0) hx hb dX6_addDigits_5 (by decide) ?_
  refine lv_istore_n (lv' := [(2, .int 0), (1, .int a0), (0, .ref h0)]) hx hb dX6_addDigits_6 rfl hl (by decide) rfl (fun ls hl => ?_)
  have lp : ∀ (n : Nat) (va : Int32) (k1 : Int32) (L1 : List Nat) (f1 : Nat → va_E) (H : Heap) (locs : List Loc) (ls : Array Slot), (∃ p1 : Nat, k1 = nI p1 ∧ pp ≤ p1 ∧ p1 ≤ ln ∧ ln < p1 + n ∧ de_ tt ln p1 = de_ tt ln pp ∧ va = vF tt pp (min 4 (p1 - pp))) → rd f1 h0 1 = .int le → rd f1 h0 2 = .int k1 → rd f1 h0 3 = .int zz → f1 ka = f ka → f1 sta = f sta → f1 vaa = f vaa → va_P (dC, dI) vwCl (va_pl L1 f1) H → va_D (va_A (va_pl L f) s.heap.size) (va_pl L1 f1) → va_S (va_A (va_pl L f) s.heap.size) s.heap H locs → TP g L1 f1 [(h0, (0, 6, 0)), (tp, (1, g 1, 1500)), (ka, (1, g 0, 1501)), (sta, (1, g 5, 1501)), (vaa, (1, g 6, 1501))] → Ext L f L1 f1 → Fr [(6, 2), (6, 3), (100, 1501)] L f f1 → lv_has ls 3 [(2, .int va), (1, .int a0), (0, .ref h0)] → W p l e rm_X6_addDigits s m [.ref h0].toArray below meth c H locs 0 0 (MQ below (Qg (kpost g L f (fun r L' f' => (r = none) ∧ Fr [(6, 2), (6, 3), (100, 1501)] L f f' ∧ (∃ a0' : Int32, ∃ zz' : Int32, rd f' h0 2 = .int a0' ∧ rd f' h0 3 = .int zz' ∧ (True) ∧ (True) ∧ (LAY f f' ka sta vaa jj (Kp tt ln pp) (nI pp) (Vp tt ln pp) ∧ a0' = nI (nx tt ln pp) ∧ zz' = nI (jj + 1))))) (fun (u : PL) t => QW dC dI (va_A (va_pl L f) s.heap.size) (va_pl u.1 u.2) [] t) (va_A (va_pl L f) s.heap.size)) [.ref h0].toArray s (0) (0) (va_A (va_pl L f) s.heap.size)) (F0 m 7 ls []) := by
    intro n
    induction n with
    | zero => intro va k1 L1 f1 H locs ls hm hk_h0_1 hk_h0_2 hk_h0_3 hak_ka hak_sta hak_vaa hP hD hS hT hE hF hl; exact absurd hm (by rintro ⟨p1, -, -, h1, h2, -⟩; omega)
    | succ n ih =>
      intro va k1 L1 f1 H locs ls hm hk_h0_1 hk_h0_2 hk_h0_3 hak_ka hak_sta hak_vaa hP hD hS hT hE hF hl
      refine lv_aload_n hx hb dX6_addDigits_7 rfl (lv_at hl 2 rfl) ?_
      refine T_get (ci := 6) (C := RX6) (T := TX6) (N := 7) (t := tI) hx hb hts inw_X6_addDigits_6 hown hK hP hT 0 rfl rfl 2 (by decide) (hts (.fieldLink RX6 38 "VatHouse$Tokens" "at" "I") (List.mem_of_getElem? (i := 1) (by exact rfl))) (fun _ h9 => h9) rfl dX6_addDigits_8 (fun v_6 hv_4 hr_5 => ?_)
      obtain rfl : v_6 = .int k1 := hr_5.symm.trans hk_h0_2
      refine lv_aload_n hx hb dX6_addDigits_11 rfl (lv_at hl 2 rfl) ?_
      refine T_get (ci := 6) (C := RX6) (T := TX6) (N := 7) (t := tI) hx hb hts inw_X6_addDigits_6 hown hK hP hT 0 rfl rfl 1 (by decide) (hts (.fieldLink RX6 34 "VatHouse$Tokens" "length" "I") (List.mem_of_getElem? (i := 2) (by exact rfl))) (fun _ h9 => h9) rfl dX6_addDigits_12 (fun v_9 hv_7 hr_8 => ?_)
      obtain rfl : v_9 = .int le := hr_8.symm.trans hk_h0_1
      refine lv_icmp_ge (tgt := 72) hx hb dX6_addDigits_15 (by decide) (fun c_10 => ?_) (fun c_10 => ?_)
      · obtain ⟨p1, hp1, hp2, hp3, hp4, hp5, hp7⟩ := hm
        have hend : p1 = de_ tt ln pp := by
          have h9 := c_10
          rw [hle.1, hp1, nI_leI (by omega) (by omega)] at h9
          rw [← hp5]
          exact (re_stop (Q := fun x => isD (tt x)) (Or.inl h9)).symm
        refine lv_aload_n hx hb dX6_addDigits_72 rfl (lv_at hl 2 rfl) ?_
        refine lv_aload_n hx hb dX6_addDigits_73 rfl (lv_at hl 2 rfl) ?_
        refine T_get (ci := 6) (C := RX6) (T := TX6) (N := 7) (t := tI) hx hb hts inw_X6_addDigits_6 hown hK hP hT 0 rfl rfl 2 (by decide) (hts (.fieldLink RX6 38 "VatHouse$Tokens" "at" "I") (List.mem_of_getElem? (i := 1) (by exact rfl))) (fun _ h9 => h9) rfl dX6_addDigits_74 (fun v_13 hv_11 hr_12 => ?_)
        obtain rfl : v_13 = .int k1 := hr_12.symm.trans hk_h0_2
        refine lv_iload_n hx hb dX6_addDigits_77 rfl (lv_at hl 1 rfl) ?_
        refine lv_isub hx hb dX6_addDigits_78 ?_
        refine lv_topi (fun z_14 ez_14 => ?_)
        refine lv_iconst (v := 4) hx hb dX6_addDigits_79 (by decide) ?_
        refine lv_icmp_le (tgt := 88) hx hb dX6_addDigits_80 (by decide) (fun c_15 => ?_) (fun c_15 => ?_)
        · refine lv_iconst (v := (-1)) hx hb dX6_addDigits_88 (by decide) ?_
          refine lv_iload_n hx hb dX6_addDigits_89 rfl (lv_at hl 1 rfl) ?_
          refine lv_iload_n hx hb dX6_addDigits_90 rfl (lv_at hl 0 rfl) ?_
          have hTo := hT
          refine K_V ⟨hx, hb, hml, hown, hts⟩ (t_X6_keep l dC dI sa hlt g _ _ h0 (-1) a0 va ka sta vaa zz _ (hT.sub [0, 2, 3, 4] rfl)  hk_h0_3 ((hF.1 h0 (hT0.at 0 rfl).1 6 (hT0.at 0 rfl).2 4 (by decide)).trans h_ka) ((hF.1 h0 (hT0.at 0 rfl).1 6 (hT0.at 0 rfl).2 5 (by decide)).trans h_sta) ((hF.1 h0 (hT0.at 0 rfl).1 6 (hT0.at 0 rfl).2 6 (by decide)).trans h_vaa) hds) (cwV 3 hts gX6_addDigits_X6_keep rfl rfl rfl (by decide +kernel) ⟨Nat.le_of_ble_eq_true rfl, Nat.le_of_ble_eq_true rfl⟩) hP hD hK hS hA hev hT 0 6 rfl rfl rfl rfl hl.1 rfl (Nat.le_of_ble_eq_true rfl) dX6_addDigits_91 ⟨Nat.le_of_ble_eq_true rfl, Nat.le_of_ble_eq_true rfl⟩ (fun r L_16 f_17 H locs hw_18 hP hD hS hT hE1 => ?_)
          have hF := Fr.call hF hE hw_18.2.1 (by decide)
          have hE := hE.tr hE1
          obtain ⟨rfl, hw_18⟩ := hw_18
          obtain ⟨hfr_19, zz_20, hk_21, hrel_22, hex_23⟩ := hw_18
          have hk_24 : rd f_17 h0 1 = .int le := (hfr_19.1 h0 (hTo.at 0 rfl).1 6 (hTo.at 0 rfl).2 1 (by decide)).trans hk_h0_1
          have hk_25 : rd f_17 h0 2 = .int k1 := (hfr_19.1 h0 (hTo.at 0 rfl).1 6 (hTo.at 0 rfl).2 2 (by decide)).trans hk_h0_2
          have hkp_26 := hex_23 jj hjj.2 hjj.1
          refine W.eq (g2 := F0 m 94 ls []) rfl ?_
          exact K_v hx hb hr hlocks hP hD hK hS hT hE ⟨rfl, hF, _, _, hk_25, hk_21, trivial, trivial, ⟨(LAY.of hak_ka hak_sta hak_vaa (by rw [(Kp_dig hpp.2 hL).1, (Kp_dig hpp.2 hL).2.1, ← hend, ← hp7, ← hpp.1, if_neg (by have h9 := c_15; rw [dg_4 hp2 (by omega) hp1 hpp.1 ez_14] at h9; have h9 : nI _ ≤ nI 4 := h9; rw [nI_leI (by omega) (by omega)] at h9; omega)]; exact hkp_26.1)), by rw [(Kp_dig hpp.2 hL).2.2, ← hend]; exact hp1, hkp_26.2⟩⟩ (Nat.le_of_ble_eq_true rfl) (Nat.le_of_ble_eq_true rfl) dX6_addDigits_94
        · refine lv_bipush (v := (-2)) hx hb dX6_addDigits_83 (by decide) ?_
          refine lv_goto (tgt := 89) hx hb dX6_addDigits_85 (by decide) ?_
          refine lv_iload_n hx hb dX6_addDigits_89 rfl (lv_at hl 1 rfl) ?_
          refine lv_iload_n hx hb dX6_addDigits_90 rfl (lv_at hl 0 rfl) ?_
          have hTo := hT
          refine K_V ⟨hx, hb, hml, hown, hts⟩ (t_X6_keep l dC dI sa hlt g _ _ h0 (-2) a0 va ka sta vaa zz _ (hT.sub [0, 2, 3, 4] rfl)  hk_h0_3 ((hF.1 h0 (hT0.at 0 rfl).1 6 (hT0.at 0 rfl).2 4 (by decide)).trans h_ka) ((hF.1 h0 (hT0.at 0 rfl).1 6 (hT0.at 0 rfl).2 5 (by decide)).trans h_sta) ((hF.1 h0 (hT0.at 0 rfl).1 6 (hT0.at 0 rfl).2 6 (by decide)).trans h_vaa) hds) (cwV 3 hts gX6_addDigits_X6_keep rfl rfl rfl (by decide +kernel) ⟨Nat.le_of_ble_eq_true rfl, Nat.le_of_ble_eq_true rfl⟩) hP hD hK hS hA hev hT 0 6 rfl rfl rfl rfl hl.1 rfl (Nat.le_of_ble_eq_true rfl) dX6_addDigits_91 ⟨Nat.le_of_ble_eq_true rfl, Nat.le_of_ble_eq_true rfl⟩ (fun r L_27 f_28 H locs hw_29 hP hD hS hT hE1 => ?_)
          have hF := Fr.call hF hE hw_29.2.1 (by decide)
          have hE := hE.tr hE1
          obtain ⟨rfl, hw_29⟩ := hw_29
          obtain ⟨hfr_30, zz_31, hk_32, hrel_33, hex_34⟩ := hw_29
          have hk_35 : rd f_28 h0 1 = .int le := (hfr_30.1 h0 (hTo.at 0 rfl).1 6 (hTo.at 0 rfl).2 1 (by decide)).trans hk_h0_1
          have hk_36 : rd f_28 h0 2 = .int k1 := (hfr_30.1 h0 (hTo.at 0 rfl).1 6 (hTo.at 0 rfl).2 2 (by decide)).trans hk_h0_2
          have hkp_37 := hex_34 jj hjj.2 hjj.1
          refine W.eq (g2 := F0 m 94 ls []) rfl ?_
          exact K_v hx hb hr hlocks hP hD hK hS hT hE ⟨rfl, hF, _, _, hk_36, hk_32, trivial, trivial, ⟨(LAY.of hak_ka hak_sta hak_vaa (by rw [(Kp_dig hpp.2 hL).1, (Kp_dig hpp.2 hL).2.1, ← hend, ← hp7, ← hpp.1, if_pos (by have h9 := c_15; rw [dg_4 hp2 (by omega) hp1 hpp.1 ez_14] at h9; have h9 : ¬ nI _ ≤ nI 4 := h9; rw [nI_leI (by omega) (by omega)] at h9; omega)]; exact hkp_37.1)), by rw [(Kp_dig hpp.2 hL).2.2, ← hend]; exact hp1, hkp_37.2⟩⟩ (Nat.le_of_ble_eq_true rfl) (Nat.le_of_ble_eq_true rfl) dX6_addDigits_94
      · obtain ⟨p1, hp1, hp2, hp3, hp4, hp5, hp7⟩ := hm
        have hp6 : p1 < ln := by have h9 := c_10; rw [hle.1, hp1, nI_leI (by omega) (by omega)] at h9; omega
        refine lv_aload_n hx hb dX6_addDigits_18 rfl (lv_at hl 2 rfl) ?_
        refine lv_aload_n hx hb dX6_addDigits_19 rfl (lv_at hl 2 rfl) ?_
        refine T_get (ci := 6) (C := RX6) (T := TX6) (N := 7) (t := tI) hx hb hts inw_X6_addDigits_6 hown hK hP hT 0 rfl rfl 2 (by decide) (hts (.fieldLink RX6 38 "VatHouse$Tokens" "at" "I") (List.mem_of_getElem? (i := 1) (by exact rfl))) (fun _ h9 => h9) rfl dX6_addDigits_20 (fun v_40 hv_38 hr_39 => ?_)
        obtain rfl : v_40 = .int k1 := hr_39.symm.trans hk_h0_2
        have hTo := hT
        refine K_V ⟨hx, hb, hml, hown, hts⟩ (t_X6_byteAt l dC dI sa hlt g _ _ tt ln h0 k1 tp le _ (hT.sub [0, 1] rfl)  hk_h0_1 ((hF.1 h0 (hT0.at 0 rfl).1 6 (hT0.at 0 rfl).2 0 (by decide)).trans h_tp) ((ia_eq (hF.2 tp (hT0.at 1 rfl).1 0 _ _ (hT0.at 1 rfl).2 (by decide))).trans hta) hle) (cwV 1 hts gX6_addDigits_X6_byteAt rfl rfl rfl (by decide +kernel) ⟨Nat.le_of_ble_eq_true rfl, Nat.le_of_ble_eq_true rfl⟩) hP hD hK hS hA hev hT 0 6 rfl rfl rfl rfl hl.1 rfl (Nat.le_of_ble_eq_true rfl) dX6_addDigits_23 ⟨Nat.le_of_ble_eq_true rfl, Nat.le_of_ble_eq_true rfl⟩ (fun r L_41 f_42 H locs hw_43 hP hD hS hT hE1 => ?_)
        have hF := Fr.call hF hE hw_43.2.1 (by decide)
        have hE := hE.tr hE1
        obtain ⟨⟨z_44, rfl⟩, hw_43⟩ := hw_43
        obtain ⟨hfr_45, hex_46⟩ := hw_43
        have hk_47 : rd f_42 h0 1 = .int le := (hfr_45.1 h0 (hTo.at 0 rfl).1 6 (hTo.at 0 rfl).2 1 (by decide)).trans hk_h0_1
        have hk_48 : rd f_42 h0 2 = .int k1 := (hfr_45.1 h0 (hTo.at 0 rfl).1 6 (hTo.at 0 rfl).2 2 (by decide)).trans hk_h0_2
        have hk_49 : rd f_42 h0 3 = .int zz := (hfr_45.1 h0 (hTo.at 0 rfl).1 6 (hTo.at 0 rfl).2 3 (by decide)).trans hk_h0_3
        have hak_50 : f_42 ka = f ka := (hfr_45.2 ka (hTo.at 2 rfl).1 _ _ _ (hTo.at 2 rfl).2 (by decide)).trans hak_ka
        have hak_51 : f_42 sta = f sta := (hfr_45.2 sta (hTo.at 3 rfl).1 _ _ _ (hTo.at 3 rfl).2 (by decide)).trans hak_sta
        have hak_52 : f_42 vaa = f vaa := (hfr_45.2 vaa (hTo.at 4 rfl).1 _ _ _ (hTo.at 4 rfl).2 (by decide)).trans hak_vaa
        have hby_53 : z_44 = tt p1 := bt_tt (sv (hex_46 p1 (by omega) hp1)) hp6
        refine W.eq (g2 := F0 m 26 ls [.int z_44]) rfl ?_
        have hTo := hT
        refine K_S ⟨hx, hb, hml, hown, hts⟩ (t_X6_isDigit l dC dI sa hlt g _ _ z_44 _ (hT.sub [] rfl)  ) (va_cwS 1 hts gX6_addDigits_X6_isDigit rfl rfl rfl (by decide +kernel) ⟨Nat.le_of_ble_eq_true rfl, Nat.le_of_ble_eq_true rfl⟩) hP hD hK hS hA hev hT rfl hl.1 rfl (Nat.le_of_ble_eq_true rfl) dX6_addDigits_26 ⟨Nat.le_of_ble_eq_true rfl, Nat.le_of_ble_eq_true rfl⟩ (fun r L_54 f_55 H locs hw_56 hP hD hS hT hE1 => ?_)
        have hF := Fr.call hF hE hw_56.2 (by decide)
        have hE := hE.tr hE1
        obtain ⟨⟨rfl, hz2_57⟩ | ⟨rfl, hz2_57⟩, hw_56⟩ := hw_56
        · have hk_58 : rd f_55 h0 1 = .int le := (hw_56.1 h0 (hTo.at 0 rfl).1 6 (hTo.at 0 rfl).2 1 (by decide)).trans hk_47
          have hk_59 : rd f_55 h0 2 = .int k1 := (hw_56.1 h0 (hTo.at 0 rfl).1 6 (hTo.at 0 rfl).2 2 (by decide)).trans hk_48
          have hk_60 : rd f_55 h0 3 = .int zz := (hw_56.1 h0 (hTo.at 0 rfl).1 6 (hTo.at 0 rfl).2 3 (by decide)).trans hk_49
          have hak_61 : f_55 ka = f ka := (hw_56.2 ka (hTo.at 2 rfl).1 _ _ _ (hTo.at 2 rfl).2 (by decide)).trans hak_50
          have hak_62 : f_55 sta = f sta := (hw_56.2 sta (hTo.at 3 rfl).1 _ _ _ (hTo.at 3 rfl).2 (by decide)).trans hak_51
          have hak_63 : f_55 vaa = f vaa := (hw_56.2 vaa (hTo.at 4 rfl).1 _ _ _ (hTo.at 4 rfl).2 (by decide)).trans hak_52
          refine W.eq (g2 := F0 m 29 ls [.int 0]) rfl ?_
          refine lv_if_eq (tgt := 72) hx hb dX6_addDigits_29 (by decide) (fun c_64 => ?_) (fun c_64 => ?_)
          rotate_left
          · exact absurd c_64 (by decide)
          have hend : p1 = de_ tt ln pp := by rw [← hp5]; exact (re_stop (Q := fun x => isD (tt x)) (Or.inr (by show isD (tt p1) = false; rw [← hby_53]; exact hz2_57))).symm
          refine lv_aload_n hx hb dX6_addDigits_72 rfl (lv_at hl 2 rfl) ?_
          refine lv_aload_n hx hb dX6_addDigits_73 rfl (lv_at hl 2 rfl) ?_
          refine T_get (ci := 6) (C := RX6) (T := TX6) (N := 7) (t := tI) hx hb hts inw_X6_addDigits_6 hown hK hP hT 0 rfl rfl 2 (by decide) (hts (.fieldLink RX6 38 "VatHouse$Tokens" "at" "I") (List.mem_of_getElem? (i := 1) (by exact rfl))) (fun _ h9 => h9) rfl dX6_addDigits_74 (fun v_67 hv_65 hr_66 => ?_)
          obtain rfl : v_67 = .int k1 := hr_66.symm.trans hk_59
          refine lv_iload_n hx hb dX6_addDigits_77 rfl (lv_at hl 1 rfl) ?_
          refine lv_isub hx hb dX6_addDigits_78 ?_
          refine lv_topi (fun z_68 ez_68 => ?_)
          refine lv_iconst (v := 4) hx hb dX6_addDigits_79 (by decide) ?_
          refine lv_icmp_le (tgt := 88) hx hb dX6_addDigits_80 (by decide) (fun c_69 => ?_) (fun c_69 => ?_)
          · refine lv_iconst (v := (-1)) hx hb dX6_addDigits_88 (by decide) ?_
            refine lv_iload_n hx hb dX6_addDigits_89 rfl (lv_at hl 1 rfl) ?_
            refine lv_iload_n hx hb dX6_addDigits_90 rfl (lv_at hl 0 rfl) ?_
            have hTo := hT
            refine K_V ⟨hx, hb, hml, hown, hts⟩ (t_X6_keep l dC dI sa hlt g _ _ h0 (-1) a0 va ka sta vaa zz _ (hT.sub [0, 2, 3, 4] rfl)  hk_60 ((hF.1 h0 (hT0.at 0 rfl).1 6 (hT0.at 0 rfl).2 4 (by decide)).trans h_ka) ((hF.1 h0 (hT0.at 0 rfl).1 6 (hT0.at 0 rfl).2 5 (by decide)).trans h_sta) ((hF.1 h0 (hT0.at 0 rfl).1 6 (hT0.at 0 rfl).2 6 (by decide)).trans h_vaa) hds) (cwV 3 hts gX6_addDigits_X6_keep rfl rfl rfl (by decide +kernel) ⟨Nat.le_of_ble_eq_true rfl, Nat.le_of_ble_eq_true rfl⟩) hP hD hK hS hA hev hT 0 6 rfl rfl rfl rfl hl.1 rfl (Nat.le_of_ble_eq_true rfl) dX6_addDigits_91 ⟨Nat.le_of_ble_eq_true rfl, Nat.le_of_ble_eq_true rfl⟩ (fun r L_70 f_71 H locs hw_72 hP hD hS hT hE1 => ?_)
            have hF := Fr.call hF hE hw_72.2.1 (by decide)
            have hE := hE.tr hE1
            obtain ⟨rfl, hw_72⟩ := hw_72
            obtain ⟨hfr_73, zz_74, hk_75, hrel_76, hex_77⟩ := hw_72
            have hk_78 : rd f_71 h0 1 = .int le := (hfr_73.1 h0 (hTo.at 0 rfl).1 6 (hTo.at 0 rfl).2 1 (by decide)).trans hk_58
            have hk_79 : rd f_71 h0 2 = .int k1 := (hfr_73.1 h0 (hTo.at 0 rfl).1 6 (hTo.at 0 rfl).2 2 (by decide)).trans hk_59
            have hkp_80 := hex_77 jj hjj.2 hjj.1
            refine W.eq (g2 := F0 m 94 ls []) rfl ?_
            exact K_v hx hb hr hlocks hP hD hK hS hT hE ⟨rfl, hF, _, _, hk_79, hk_75, trivial, trivial, ⟨(LAY.of hak_61 hak_62 hak_63 (by rw [(Kp_dig hpp.2 hL).1, (Kp_dig hpp.2 hL).2.1, ← hend, ← hp7, ← hpp.1, if_neg (by have h9 := c_69; rw [dg_4 hp2 (by omega) hp1 hpp.1 ez_68] at h9; have h9 : nI _ ≤ nI 4 := h9; rw [nI_leI (by omega) (by omega)] at h9; omega)]; exact hkp_80.1)), by rw [(Kp_dig hpp.2 hL).2.2, ← hend]; exact hp1, hkp_80.2⟩⟩ (Nat.le_of_ble_eq_true rfl) (Nat.le_of_ble_eq_true rfl) dX6_addDigits_94
          · refine lv_bipush (v := (-2)) hx hb dX6_addDigits_83 (by decide) ?_
            refine lv_goto (tgt := 89) hx hb dX6_addDigits_85 (by decide) ?_
            refine lv_iload_n hx hb dX6_addDigits_89 rfl (lv_at hl 1 rfl) ?_
            refine lv_iload_n hx hb dX6_addDigits_90 rfl (lv_at hl 0 rfl) ?_
            have hTo := hT
            refine K_V ⟨hx, hb, hml, hown, hts⟩ (t_X6_keep l dC dI sa hlt g _ _ h0 (-2) a0 va ka sta vaa zz _ (hT.sub [0, 2, 3, 4] rfl)  hk_60 ((hF.1 h0 (hT0.at 0 rfl).1 6 (hT0.at 0 rfl).2 4 (by decide)).trans h_ka) ((hF.1 h0 (hT0.at 0 rfl).1 6 (hT0.at 0 rfl).2 5 (by decide)).trans h_sta) ((hF.1 h0 (hT0.at 0 rfl).1 6 (hT0.at 0 rfl).2 6 (by decide)).trans h_vaa) hds) (cwV 3 hts gX6_addDigits_X6_keep rfl rfl rfl (by decide +kernel) ⟨Nat.le_of_ble_eq_true rfl, Nat.le_of_ble_eq_true rfl⟩) hP hD hK hS hA hev hT 0 6 rfl rfl rfl rfl hl.1 rfl (Nat.le_of_ble_eq_true rfl) dX6_addDigits_91 ⟨Nat.le_of_ble_eq_true rfl, Nat.le_of_ble_eq_true rfl⟩ (fun r L_81 f_82 H locs hw_83 hP hD hS hT hE1 => ?_)
            have hF := Fr.call hF hE hw_83.2.1 (by decide)
            have hE := hE.tr hE1
            obtain ⟨rfl, hw_83⟩ := hw_83
            obtain ⟨hfr_84, zz_85, hk_86, hrel_87, hex_88⟩ := hw_83
            have hk_89 : rd f_82 h0 1 = .int le := (hfr_84.1 h0 (hTo.at 0 rfl).1 6 (hTo.at 0 rfl).2 1 (by decide)).trans hk_58
            have hk_90 : rd f_82 h0 2 = .int k1 := (hfr_84.1 h0 (hTo.at 0 rfl).1 6 (hTo.at 0 rfl).2 2 (by decide)).trans hk_59
            have hkp_91 := hex_88 jj hjj.2 hjj.1
            refine W.eq (g2 := F0 m 94 ls []) rfl ?_
            exact K_v hx hb hr hlocks hP hD hK hS hT hE ⟨rfl, hF, _, _, hk_90, hk_86, trivial, trivial, ⟨(LAY.of hak_61 hak_62 hak_63 (by rw [(Kp_dig hpp.2 hL).1, (Kp_dig hpp.2 hL).2.1, ← hend, ← hp7, ← hpp.1, if_pos (by have h9 := c_69; rw [dg_4 hp2 (by omega) hp1 hpp.1 ez_68] at h9; have h9 : ¬ nI _ ≤ nI 4 := h9; rw [nI_leI (by omega) (by omega)] at h9; omega)]; exact hkp_91.1)), by rw [(Kp_dig hpp.2 hL).2.2, ← hend]; exact hp1, hkp_91.2⟩⟩ (Nat.le_of_ble_eq_true rfl) (Nat.le_of_ble_eq_true rfl) dX6_addDigits_94
        · have hk_92 : rd f_55 h0 1 = .int le := (hw_56.1 h0 (hTo.at 0 rfl).1 6 (hTo.at 0 rfl).2 1 (by decide)).trans hk_47
          have hk_93 : rd f_55 h0 2 = .int k1 := (hw_56.1 h0 (hTo.at 0 rfl).1 6 (hTo.at 0 rfl).2 2 (by decide)).trans hk_48
          have hk_94 : rd f_55 h0 3 = .int zz := (hw_56.1 h0 (hTo.at 0 rfl).1 6 (hTo.at 0 rfl).2 3 (by decide)).trans hk_49
          have hak_95 : f_55 ka = f ka := (hw_56.2 ka (hTo.at 2 rfl).1 _ _ _ (hTo.at 2 rfl).2 (by decide)).trans hak_50
          have hak_96 : f_55 sta = f sta := (hw_56.2 sta (hTo.at 3 rfl).1 _ _ _ (hTo.at 3 rfl).2 (by decide)).trans hak_51
          have hak_97 : f_55 vaa = f vaa := (hw_56.2 vaa (hTo.at 4 rfl).1 _ _ _ (hTo.at 4 rfl).2 (by decide)).trans hak_52
          refine W.eq (g2 := F0 m 29 ls [.int 1]) rfl ?_
          refine lv_if_eq (tgt := 72) hx hb dX6_addDigits_29 (by decide) (fun c_98 => ?_) (fun c_98 => ?_)
          · exact absurd c_98 (by decide)
          refine lv_aload_n hx hb dX6_addDigits_32 rfl (lv_at hl 2 rfl) ?_
          refine T_get (ci := 6) (C := RX6) (T := TX6) (N := 7) (t := tI) hx hb hts inw_X6_addDigits_6 hown hK hP hT 0 rfl rfl 2 (by decide) (hts (.fieldLink RX6 38 "VatHouse$Tokens" "at" "I") (List.mem_of_getElem? (i := 1) (by exact rfl))) (fun _ h9 => h9) rfl dX6_addDigits_33 (fun v_101 hv_99 hr_100 => ?_)
          obtain rfl : v_101 = .int k1 := hr_100.symm.trans hk_93
          refine lv_iload_n hx hb dX6_addDigits_36 rfl (lv_at hl 1 rfl) ?_
          refine lv_isub hx hb dX6_addDigits_37 ?_
          refine lv_topi (fun z_102 ez_102 => ?_)
          refine lv_iconst (v := 4) hx hb dX6_addDigits_38 (by decide) ?_
          refine lv_icmp_ge (tgt := 59) hx hb dX6_addDigits_39 (by decide) (fun c_103 => ?_) (fun c_103 => ?_)
          · refine lv_aload_n hx hb dX6_addDigits_59 rfl (lv_at hl 2 rfl) ?_
            refine lv_dup hx hb dX6_addDigits_60 rfl ?_
            refine T_get (ci := 6) (C := RX6) (T := TX6) (N := 7) (t := tI) hx hb hts inw_X6_addDigits_6 hown hK hP hT 0 rfl rfl 2 (by decide) (hts (.fieldLink RX6 38 "VatHouse$Tokens" "at" "I") (List.mem_of_getElem? (i := 1) (by exact rfl))) (fun _ h9 => h9) rfl dX6_addDigits_61 (fun v_106 hv_104 hr_105 => ?_)
            obtain rfl : v_106 = .int k1 := hr_105.symm.trans hk_93
            refine lv_iconst (v := 1) hx hb dX6_addDigits_64 (by decide) ?_
            refine lv_iadd hx hb dX6_addDigits_65 ?_
            refine lv_topi (fun z_107 ez_107 => ?_)
            have hTo := hT
            refine T_put (ci := 6) (v := .int z_107) (ty := .int) (t := tI) (C := RX6) (T := TX6) (N := 7) hx hb hts inw_X6_addDigits_6 tyX6 tyX6_ok nmX6 hown hK hP hD hS hT 0 rfl rfl 2 (by decide) (hts (.fieldLink RX6 38 "VatHouse$Tokens" "at" "I") (List.mem_of_getElem? (i := 1) (by exact rfl))) (fun _ h9 => h9) rfl (tyX6_ok 2 (by decide)) rfl rfl rfl ⟨_, rfl⟩ dX6_addDigits_66 (fun f_108 H locs hP hD hS hT hE1 hrd_109 hup_110 => ?_)
            have hF := Fr.put (a := h0) (ci := 6) hF hE ((hE1 h0 (hT.at 0 rfl).1).2.symm.trans (hT.at 0 rfl).2) (by decide) hrd_109 hup_110
            have hE := hE.tr hE1
            have hk_111 : rd f_108 h0 1 = .int le := ((Fr.put (cs := [(6, 2)]) (a := h0) (ci := 6) Fr.rf Ext.rf (hTo.at 0 rfl).2 (by decide) hrd_109 hup_110).1 h0 (hTo.at 0 rfl).1 6 (hTo.at 0 rfl).2 1 (by decide)).trans hk_92
            have hk_112 : rd f_108 h0 2 = .int z_107 := (hrd_109 h0 2).trans (if_pos ⟨rfl, rfl⟩)
            have hk_113 : rd f_108 h0 3 = .int zz := ((Fr.put (cs := [(6, 2)]) (a := h0) (ci := 6) Fr.rf Ext.rf (hTo.at 0 rfl).2 (by decide) hrd_109 hup_110).1 h0 (hTo.at 0 rfl).1 6 (hTo.at 0 rfl).2 3 (by decide)).trans hk_94
            have hak_114 : f_108 ka = f ka := (hup_110 ka (ne_sh (hT0.at 2 rfl).2 (hT0.at 0 rfl).2 (by intro h9; cases h9))).trans hak_95
            have hak_115 : f_108 sta = f sta := (hup_110 sta (ne_sh (hT0.at 3 rfl).2 (hT0.at 0 rfl).2 (by intro h9; cases h9))).trans hak_96
            have hak_116 : f_108 vaa = f vaa := (hup_110 vaa (ne_sh (hT0.at 4 rfl).2 (hT0.at 0 rfl).2 (by intro h9; cases h9))).trans hak_97
            refine lv_goto (tgt := 7) hx hb dX6_addDigits_69 (by decide) ?_
            exact ih va z_107 _ _ _ _ _ (⟨p1 + 1, by rw [ez_107, hp1]; exact nI_1 p1, by omega, by omega, by omega, by rw [← hp5]; exact (re_go (Q := fun x => isD (tt x)) hp6 (by show isD (tt p1) = true; rw [← hby_53]; exact hz2_57)).symm, dg_st (by have h9 := c_103; rw [dg_4 hp2 (by omega) hp1 hpp.1 ez_102] at h9; have h9 : nI 4 ≤ nI _ := h9; rw [nI_leI (by omega) (by omega)] at h9; omega) hp7⟩) hk_111 hk_112 hk_113 hak_114 hak_115 hak_116 hP hD hS (hT.sub [0, 1, 2, 3, 4] rfl) hE hF (lv_sub hl [0, 1, 2] rfl)
          · refine lv_iload_n hx hb dX6_addDigits_42 rfl (lv_at hl 0 rfl) ?_
            refine lv_bipush (v := 10) hx hb dX6_addDigits_43 (by decide) ?_
            refine lv_imul hx hb dX6_addDigits_45 ?_
            refine lv_topi (fun z_117 ez_117 => ?_)
            refine lv_aload_n hx hb dX6_addDigits_46 rfl (lv_at hl 2 rfl) ?_
            refine lv_aload_n hx hb dX6_addDigits_47 rfl (lv_at hl 2 rfl) ?_
            refine T_get (ci := 6) (C := RX6) (T := TX6) (N := 7) (t := tI) hx hb hts inw_X6_addDigits_6 hown hK hP hT 0 rfl rfl 2 (by decide) (hts (.fieldLink RX6 38 "VatHouse$Tokens" "at" "I") (List.mem_of_getElem? (i := 1) (by exact rfl))) (fun _ h9 => h9) rfl dX6_addDigits_48 (fun v_120 hv_118 hr_119 => ?_)
            obtain rfl : v_120 = .int k1 := hr_119.symm.trans hk_93
            have hTo := hT
            refine K_V ⟨hx, hb, hml, hown, hts⟩ (t_X6_byteAt l dC dI sa hlt g _ _ tt ln h0 k1 tp le _ (hT.sub [0, 1] rfl)  hk_92 ((hF.1 h0 (hT0.at 0 rfl).1 6 (hT0.at 0 rfl).2 0 (by decide)).trans h_tp) ((ia_eq (hF.2 tp (hT0.at 1 rfl).1 0 _ _ (hT0.at 1 rfl).2 (by decide))).trans hta) hle) (cwV 1 hts gX6_addDigits_X6_byteAt rfl rfl rfl (by decide +kernel) ⟨Nat.le_of_ble_eq_true rfl, Nat.le_of_ble_eq_true rfl⟩) hP hD hK hS hA hev hT 0 6 rfl rfl rfl rfl hl.1 rfl (Nat.le_of_ble_eq_true rfl) dX6_addDigits_51 ⟨Nat.le_of_ble_eq_true rfl, Nat.le_of_ble_eq_true rfl⟩ (fun r L_121 f_122 H locs hw_123 hP hD hS hT hE1 => ?_)
            have hF := Fr.call hF hE hw_123.2.1 (by decide)
            have hE := hE.tr hE1
            obtain ⟨⟨z_124, rfl⟩, hw_123⟩ := hw_123
            obtain ⟨hfr_125, hex_126⟩ := hw_123
            have hk_127 : rd f_122 h0 1 = .int le := (hfr_125.1 h0 (hTo.at 0 rfl).1 6 (hTo.at 0 rfl).2 1 (by decide)).trans hk_92
            have hk_128 : rd f_122 h0 2 = .int k1 := (hfr_125.1 h0 (hTo.at 0 rfl).1 6 (hTo.at 0 rfl).2 2 (by decide)).trans hk_93
            have hk_129 : rd f_122 h0 3 = .int zz := (hfr_125.1 h0 (hTo.at 0 rfl).1 6 (hTo.at 0 rfl).2 3 (by decide)).trans hk_94
            have hak_130 : f_122 ka = f ka := (hfr_125.2 ka (hTo.at 2 rfl).1 _ _ _ (hTo.at 2 rfl).2 (by decide)).trans hak_95
            have hak_131 : f_122 sta = f sta := (hfr_125.2 sta (hTo.at 3 rfl).1 _ _ _ (hTo.at 3 rfl).2 (by decide)).trans hak_96
            have hak_132 : f_122 vaa = f vaa := (hfr_125.2 vaa (hTo.at 4 rfl).1 _ _ _ (hTo.at 4 rfl).2 (by decide)).trans hak_97
            have hby_133 : z_124 = tt p1 := bt_tt (sv (hex_126 p1 (by omega) hp1)) hp6
            refine W.eq (g2 := F0 m 54 ls [.int z_124, .int z_117]) rfl ?_
            refine lv_iadd hx hb dX6_addDigits_54 ?_
            refine lv_topi (fun z_134 ez_134 => ?_)
            refine lv_bipush (v := 48) hx hb dX6_addDigits_55 (by decide) ?_
            refine lv_isub hx hb dX6_addDigits_57 ?_
            refine lv_topi (fun z_135 ez_135 => ?_)
            refine lv_istore_n (lv' := [(2, .int z_135), (1, .int a0), (0, .ref h0)]) hx hb dX6_addDigits_58 rfl hl (by decide) rfl (fun ls hl => ?_)
            refine lv_aload_n hx hb dX6_addDigits_59 rfl (lv_at hl 2 rfl) ?_
            refine lv_dup hx hb dX6_addDigits_60 rfl ?_
            refine T_get (ci := 6) (C := RX6) (T := TX6) (N := 7) (t := tI) hx hb hts inw_X6_addDigits_6 hown hK hP hT 0 rfl rfl 2 (by decide) (hts (.fieldLink RX6 38 "VatHouse$Tokens" "at" "I") (List.mem_of_getElem? (i := 1) (by exact rfl))) (fun _ h9 => h9) rfl dX6_addDigits_61 (fun v_138 hv_136 hr_137 => ?_)
            obtain rfl : v_138 = .int k1 := hr_137.symm.trans hk_128
            refine lv_iconst (v := 1) hx hb dX6_addDigits_64 (by decide) ?_
            refine lv_iadd hx hb dX6_addDigits_65 ?_
            refine lv_topi (fun z_139 ez_139 => ?_)
            have hTo := hT
            refine T_put (ci := 6) (v := .int z_139) (ty := .int) (t := tI) (C := RX6) (T := TX6) (N := 7) hx hb hts inw_X6_addDigits_6 tyX6 tyX6_ok nmX6 hown hK hP hD hS hT 0 rfl rfl 2 (by decide) (hts (.fieldLink RX6 38 "VatHouse$Tokens" "at" "I") (List.mem_of_getElem? (i := 1) (by exact rfl))) (fun _ h9 => h9) rfl (tyX6_ok 2 (by decide)) rfl rfl rfl ⟨_, rfl⟩ dX6_addDigits_66 (fun f_140 H locs hP hD hS hT hE1 hrd_141 hup_142 => ?_)
            have hF := Fr.put (a := h0) (ci := 6) hF hE ((hE1 h0 (hT.at 0 rfl).1).2.symm.trans (hT.at 0 rfl).2) (by decide) hrd_141 hup_142
            have hE := hE.tr hE1
            have hk_143 : rd f_140 h0 1 = .int le := ((Fr.put (cs := [(6, 2)]) (a := h0) (ci := 6) Fr.rf Ext.rf (hTo.at 0 rfl).2 (by decide) hrd_141 hup_142).1 h0 (hTo.at 0 rfl).1 6 (hTo.at 0 rfl).2 1 (by decide)).trans hk_127
            have hk_144 : rd f_140 h0 2 = .int z_139 := (hrd_141 h0 2).trans (if_pos ⟨rfl, rfl⟩)
            have hk_145 : rd f_140 h0 3 = .int zz := ((Fr.put (cs := [(6, 2)]) (a := h0) (ci := 6) Fr.rf Ext.rf (hTo.at 0 rfl).2 (by decide) hrd_141 hup_142).1 h0 (hTo.at 0 rfl).1 6 (hTo.at 0 rfl).2 3 (by decide)).trans hk_129
            have hak_146 : f_140 ka = f ka := (hup_142 ka (ne_sh (hT0.at 2 rfl).2 (hT0.at 0 rfl).2 (by intro h9; cases h9))).trans hak_130
            have hak_147 : f_140 sta = f sta := (hup_142 sta (ne_sh (hT0.at 3 rfl).2 (hT0.at 0 rfl).2 (by intro h9; cases h9))).trans hak_131
            have hak_148 : f_140 vaa = f vaa := (hup_142 vaa (ne_sh (hT0.at 4 rfl).2 (hT0.at 0 rfl).2 (by intro h9; cases h9))).trans hak_132
            refine lv_goto (tgt := 7) hx hb dX6_addDigits_69 (by decide) ?_
            exact ih z_135 z_139 _ _ _ _ _ (⟨p1 + 1, by rw [ez_139, hp1]; exact nI_1 p1, by omega, by omega, by omega, by rw [← hp5]; exact (re_go (Q := fun x => isD (tt x)) hp6 (by show isD (tt p1) = true; rw [← hby_53]; exact hz2_57)).symm, dg_go hp2 (by have h9 := c_103; rw [dg_4 hp2 (by omega) hp1 hpp.1 ez_102] at h9; have h9 : ¬ nI 4 ≤ nI _ := h9; rw [nI_leI (by omega) (by omega)] at h9; omega) hp7 hby_133 ez_117 ez_134 ez_135⟩) hk_143 hk_144 hk_145 hak_146 hak_147 hak_148 hP hD hS (hT.sub [0, 1, 2, 3, 4] rfl) hE hF (lv_sub hl [0, 1, 2] rfl)
  exact lp (ln + 1) 0 a0 _ _ _ _ _ (⟨pp, hpp.1, Nat.le_refl _, by omega, by omega, rfl, by rw [Nat.sub_self]; rfl⟩) hm_le hm_a0 hm_zz rfl rfl rfl hP hD hS (hT.sub [0, 1, 2, 3, 4] rfl) hE hF (lv_sub hl [0, 1, 2] rfl)

noncomputable abbrev rm_X6_addToken : Room := { frames := 7, cells := 0, slots := 0, locals := 210 }
theorem inw_X6_addToken_6 : ∀ w ∈ wsX60, w ∈ wsX6_addToken := fun _ h => List.mem_cons_of_mem _ (List.mem_append_right _ h)
set_option maxHeartbeats 800000 in
set_option maxRecDepth 100000 in
theorem t_X6_addToken (l : Launch) (dC : Nat → ClassId) (dI : Nat → Nat → Nat) (sa : Nat → Nat) (hlt : l.stackTraces = false) (g : Nat → Nat) (L : List Nat) (f : Nat → va_E) (tt : Nat → Int32) (ln : Nat) (pp : Nat) (jj : Nat) (h0 : Nat) (tp : Nat) (ka : Nat) (sta : Nat) (vaa : Nat) (le : Int32) (a0 : Int32) (zz : Int32) (sz : Nat) (hT : TP g L f [(h0, (0, 6, 0)), (tp, (1, g 1, 1500)), (ka, (1, g 0, 1501)), (sta, (1, g 5, 1501)), (vaa, (1, g 6, 1501))]) (hm_le : rd f h0 1 = .int le) (hm_a0 : rd f h0 2 = .int a0) (hm_zz : rd f h0 3 = .int zz) (h_tp : rd f h0 0 = .ref tp) (h_ka : rd f h0 4 = .ref ka) (h_sta : rd f h0 5 = .ref sta) (h_vaa : rd f h0 6 = .ref vaa) (hta : ia f tp = tt) (hle : le = nI ln ∧ ln ≤ 1500) (hds : ka ≠ sta ∧ ka ≠ vaa ∧ sta ≠ vaa) (hpp : a0 = nI pp ∧ pp < ln) (hjj : zz = nI jj ∧ jj < 1501) : KC l dC dI sa g yX6_addToken wsX6_addToken rm_X6_addToken [.ref h0] L f sz (fun r L' f' => (r = none) ∧ Fr [(6, 2), (6, 3), (100, 1501)] L f f' ∧ (∃ a0' : Int32, ∃ zz' : Int32, rd f' h0 2 = .int a0' ∧ rd f' h0 3 = .int zz' ∧ (True) ∧ (True) ∧ (LAY f f' ka sta vaa jj (Kp tt ln pp) (nI pp) (Vp tt ln pp) ∧ a0' = nI (nx tt ln pp) ∧ zz' = nI (jj + 1)))) 0 0 := by
  refine CT.start (cc := cX6_addToken) (maxL := 2) (ret := none) (by decide) rfl (Nat.le_of_ble_eq_true rfl) ?_
  intro p e s m below meth c ls hst hP hK hD hev hS hl
  obtain ⟨hx, hb, hr, hml, hts, hown, hlocks, hin⟩ := hst
  have hown : s.vm.findClass RX6 = some m.cls := hown
  have hin : meth.name = yX6_addToken.name := hin
  have hA : ∀ q : Nat, s.heap.size ≤ q → va_A (va_pl L f) s.heap.size q := fun _ h => Or.inr h
  have hE : Ext L f L f := Ext.rf
  have hF : Fr [(6, 2), (6, 3), (100, 1501)] L f f := Fr.rf
  have hl : lv_has ls 2 [(0, .ref h0)] := hl
  have hT0 := hT
  refine lv_aload_n hx hb dX6_addToken_0 rfl (lv_at hl 0 rfl) ?_
  refine lv_aload_n hx hb dX6_addToken_1 rfl (lv_at hl 0 rfl) ?_
  refine T_get (ci := 6) (C := RX6) (T := TX6) (N := 7) (t := tI) hx hb hts inw_X6_addToken_6 hown hK hP hT 0 rfl rfl 2 (by decide) (hts (.fieldLink RX6 38 "VatHouse$Tokens" "at" "I") (List.mem_of_getElem? (i := 1) (by exact rfl))) (fun _ h9 => h9) rfl dX6_addToken_2 (fun v_3 hv_1 hr_2 => ?_)
  obtain rfl : v_3 = .int a0 := hr_2.symm.trans hm_a0
  have hTo := hT
  refine K_V ⟨hx, hb, hml, hown, hts⟩ (t_X6_byteAt l dC dI sa hlt g _ _ tt ln h0 a0 tp le _ (hT.sub [0, 1] rfl)  hm_le ((hF.1 h0 (hT0.at 0 rfl).1 6 (hT0.at 0 rfl).2 0 (by decide)).trans h_tp) ((ia_eq (hF.2 tp (hT0.at 1 rfl).1 0 _ _ (hT0.at 1 rfl).2 (by decide))).trans hta) hle) (cwV 1 hts gX6_addToken_X6_byteAt rfl rfl rfl (by decide +kernel) ⟨Nat.le_of_ble_eq_true rfl, Nat.le_of_ble_eq_true rfl⟩) hP hD hK hS hA hev hT 0 6 rfl rfl rfl rfl hl.1 rfl (Nat.le_of_ble_eq_true rfl) dX6_addToken_5 ⟨Nat.le_of_ble_eq_true rfl, Nat.le_of_ble_eq_true rfl⟩ (fun r L_4 f_5 H locs hw_6 hP hD hS hT hE1 => ?_)
  have hF := Fr.call hF hE hw_6.2.1 (by decide)
  have hE := hE.tr hE1
  obtain ⟨⟨z_7, rfl⟩, hw_6⟩ := hw_6
  obtain ⟨hfr_8, hex_9⟩ := hw_6
  have hk_10 : rd f_5 h0 1 = .int le := (hfr_8.1 h0 (hTo.at 0 rfl).1 6 (hTo.at 0 rfl).2 1 (by decide)).trans hm_le
  have hk_11 : rd f_5 h0 2 = .int a0 := (hfr_8.1 h0 (hTo.at 0 rfl).1 6 (hTo.at 0 rfl).2 2 (by decide)).trans hm_a0
  have hk_12 : rd f_5 h0 3 = .int zz := (hfr_8.1 h0 (hTo.at 0 rfl).1 6 (hTo.at 0 rfl).2 3 (by decide)).trans hm_zz
  have hak_13 : f_5 ka = f ka := (hfr_8.2 ka (hTo.at 2 rfl).1 _ _ _ (hTo.at 2 rfl).2 (by decide)).trans rfl
  have hak_14 : f_5 sta = f sta := (hfr_8.2 sta (hTo.at 3 rfl).1 _ _ _ (hTo.at 3 rfl).2 (by decide)).trans rfl
  have hak_15 : f_5 vaa = f vaa := (hfr_8.2 vaa (hTo.at 4 rfl).1 _ _ _ (hTo.at 4 rfl).2 (by decide)).trans rfl
  have hby_16 : z_7 = tt pp := bt_tt (sv (hex_9 pp (by omega) hpp.1)) hpp.2
  refine W.eq (g2 := F0 m 8 ls [.int z_7]) rfl ?_
  refine lv_istore_n (lv' := [(1, .int z_7), (0, .ref h0)]) hx hb dX6_addToken_8 rfl hl (by decide) rfl (fun ls hl => ?_)
  refine lv_iload_n hx hb dX6_addToken_9 rfl (lv_at hl 0 rfl) ?_
  have hTo := hT
  refine K_S ⟨hx, hb, hml, hown, hts⟩ (t_X6_isLetter l dC dI sa hlt g _ _ z_7 _ (hT.sub [] rfl)  ) (va_cwS 1 hts gX6_addToken_X6_isLetter rfl rfl rfl (by decide +kernel) ⟨Nat.le_of_ble_eq_true rfl, Nat.le_of_ble_eq_true rfl⟩) hP hD hK hS hA hev hT rfl hl.1 rfl (Nat.le_of_ble_eq_true rfl) dX6_addToken_10 ⟨Nat.le_of_ble_eq_true rfl, Nat.le_of_ble_eq_true rfl⟩ (fun r L_17 f_18 H locs hw_19 hP hD hS hT hE1 => ?_)
  have hF := Fr.call hF hE hw_19.2 (by decide)
  have hE := hE.tr hE1
  obtain ⟨⟨rfl, hz2_20⟩ | ⟨rfl, hz2_20⟩, hw_19⟩ := hw_19
  · have hk_21 : rd f_18 h0 1 = .int le := (hw_19.1 h0 (hTo.at 0 rfl).1 6 (hTo.at 0 rfl).2 1 (by decide)).trans hk_10
    have hk_22 : rd f_18 h0 2 = .int a0 := (hw_19.1 h0 (hTo.at 0 rfl).1 6 (hTo.at 0 rfl).2 2 (by decide)).trans hk_11
    have hk_23 : rd f_18 h0 3 = .int zz := (hw_19.1 h0 (hTo.at 0 rfl).1 6 (hTo.at 0 rfl).2 3 (by decide)).trans hk_12
    have hak_24 : f_18 ka = f ka := (hw_19.2 ka (hTo.at 2 rfl).1 _ _ _ (hTo.at 2 rfl).2 (by decide)).trans hak_13
    have hak_25 : f_18 sta = f sta := (hw_19.2 sta (hTo.at 3 rfl).1 _ _ _ (hTo.at 3 rfl).2 (by decide)).trans hak_14
    have hak_26 : f_18 vaa = f vaa := (hw_19.2 vaa (hTo.at 4 rfl).1 _ _ _ (hTo.at 4 rfl).2 (by decide)).trans hak_15
    refine W.eq (g2 := F0 m 13 ls [.int 0]) rfl ?_
    refine lv_if_eq (tgt := 23) hx hb dX6_addToken_13 (by decide) (fun c_27 => ?_) (fun c_27 => ?_)
    rotate_left
    · exact absurd c_27 (by decide)
    refine lv_iload_n hx hb dX6_addToken_23 rfl (lv_at hl 0 rfl) ?_
    have hTo := hT
    refine K_S ⟨hx, hb, hml, hown, hts⟩ (t_X6_isDigit l dC dI sa hlt g _ _ z_7 _ (hT.sub [] rfl)  ) (va_cwS 1 hts gX6_addToken_X6_isDigit rfl rfl rfl (by decide +kernel) ⟨Nat.le_of_ble_eq_true rfl, Nat.le_of_ble_eq_true rfl⟩) hP hD hK hS hA hev hT rfl hl.1 rfl (Nat.le_of_ble_eq_true rfl) dX6_addToken_24 ⟨Nat.le_of_ble_eq_true rfl, Nat.le_of_ble_eq_true rfl⟩ (fun r L_28 f_29 H locs hw_30 hP hD hS hT hE1 => ?_)
    have hF := Fr.call hF hE hw_30.2 (by decide)
    have hE := hE.tr hE1
    obtain ⟨⟨rfl, hz2_31⟩ | ⟨rfl, hz2_31⟩, hw_30⟩ := hw_30
    · have hk_32 : rd f_29 h0 1 = .int le := (hw_30.1 h0 (hTo.at 0 rfl).1 6 (hTo.at 0 rfl).2 1 (by decide)).trans hk_21
      have hk_33 : rd f_29 h0 2 = .int a0 := (hw_30.1 h0 (hTo.at 0 rfl).1 6 (hTo.at 0 rfl).2 2 (by decide)).trans hk_22
      have hk_34 : rd f_29 h0 3 = .int zz := (hw_30.1 h0 (hTo.at 0 rfl).1 6 (hTo.at 0 rfl).2 3 (by decide)).trans hk_23
      have hak_35 : f_29 ka = f ka := (hw_30.2 ka (hTo.at 2 rfl).1 _ _ _ (hTo.at 2 rfl).2 (by decide)).trans hak_24
      have hak_36 : f_29 sta = f sta := (hw_30.2 sta (hTo.at 3 rfl).1 _ _ _ (hTo.at 3 rfl).2 (by decide)).trans hak_25
      have hak_37 : f_29 vaa = f vaa := (hw_30.2 vaa (hTo.at 4 rfl).1 _ _ _ (hTo.at 4 rfl).2 (by decide)).trans hak_26
      refine W.eq (g2 := F0 m 27 ls [.int 0]) rfl ?_
      refine lv_if_eq (tgt := 37) hx hb dX6_addToken_27 (by decide) (fun c_38 => ?_) (fun c_38 => ?_)
      rotate_left
      · exact absurd c_38 (by decide)
      refine lv_aload_n hx hb dX6_addToken_37 rfl (lv_at hl 1 rfl) ?_
      refine lv_iload_n hx hb dX6_addToken_38 rfl (lv_at hl 0 rfl) ?_
      have hTo := hT
      refine K_S ⟨hx, hb, hml, hown, hts⟩ (t_X6_isSign l dC dI sa hlt g _ _ z_7 _ (hT.sub [] rfl)  ) (va_cwS 1 hts gX6_addToken_X6_isSign rfl rfl rfl (by decide +kernel) ⟨Nat.le_of_ble_eq_true rfl, Nat.le_of_ble_eq_true rfl⟩) hP hD hK hS hA hev hT rfl hl.1 rfl (Nat.le_of_ble_eq_true rfl) dX6_addToken_39 ⟨Nat.le_of_ble_eq_true rfl, Nat.le_of_ble_eq_true rfl⟩ (fun r L_39 f_40 H locs hw_41 hP hD hS hT hE1 => ?_)
      have hF := Fr.call hF hE hw_41.2 (by decide)
      have hE := hE.tr hE1
      obtain ⟨⟨rfl, hz2_42⟩ | ⟨rfl, hz2_42⟩, hw_41⟩ := hw_41
      · have hk_43 : rd f_40 h0 1 = .int le := (hw_41.1 h0 (hTo.at 0 rfl).1 6 (hTo.at 0 rfl).2 1 (by decide)).trans hk_32
        have hk_44 : rd f_40 h0 2 = .int a0 := (hw_41.1 h0 (hTo.at 0 rfl).1 6 (hTo.at 0 rfl).2 2 (by decide)).trans hk_33
        have hk_45 : rd f_40 h0 3 = .int zz := (hw_41.1 h0 (hTo.at 0 rfl).1 6 (hTo.at 0 rfl).2 3 (by decide)).trans hk_34
        have hak_46 : f_40 ka = f ka := (hw_41.2 ka (hTo.at 2 rfl).1 _ _ _ (hTo.at 2 rfl).2 (by decide)).trans hak_35
        have hak_47 : f_40 sta = f sta := (hw_41.2 sta (hTo.at 3 rfl).1 _ _ _ (hTo.at 3 rfl).2 (by decide)).trans hak_36
        have hak_48 : f_40 vaa = f vaa := (hw_41.2 vaa (hTo.at 4 rfl).1 _ _ _ (hTo.at 4 rfl).2 (by decide)).trans hak_37
        refine W.eq (g2 := F0 m 42 ls [.int 0, .ref h0]) rfl ?_
        refine lv_if_eq (tgt := 49) hx hb dX6_addToken_42 (by decide) (fun c_49 => ?_) (fun c_49 => ?_)
        rotate_left
        · exact absurd c_49 (by decide)
        refine lv_bipush (v := (-3)) hx hb dX6_addToken_49 (by decide) ?_
        refine lv_aload_n hx hb dX6_addToken_51 rfl (lv_at hl 1 rfl) ?_
        refine T_get (ci := 6) (C := RX6) (T := TX6) (N := 7) (t := tI) hx hb hts inw_X6_addToken_6 hown hK hP hT 0 rfl rfl 2 (by decide) (hts (.fieldLink RX6 38 "VatHouse$Tokens" "at" "I") (List.mem_of_getElem? (i := 1) (by exact rfl))) (fun _ h9 => h9) rfl dX6_addToken_52 (fun v_52 hv_50 hr_51 => ?_)
        obtain rfl : v_52 = .int a0 := hr_51.symm.trans hk_44
        refine lv_iconst (v := 0) hx hb dX6_addToken_55 (by decide) ?_
        have hTo := hT
        refine K_V ⟨hx, hb, hml, hown, hts⟩ (t_X6_keep l dC dI sa hlt g _ _ h0 (-3) a0 0 ka sta vaa zz _ (hT.sub [0, 2, 3, 4] rfl)  hk_45 ((hF.1 h0 (hT0.at 0 rfl).1 6 (hT0.at 0 rfl).2 4 (by decide)).trans h_ka) ((hF.1 h0 (hT0.at 0 rfl).1 6 (hT0.at 0 rfl).2 5 (by decide)).trans h_sta) ((hF.1 h0 (hT0.at 0 rfl).1 6 (hT0.at 0 rfl).2 6 (by decide)).trans h_vaa) hds) (cwV 3 hts gX6_addToken_X6_keep rfl rfl rfl (by decide +kernel) ⟨Nat.le_of_ble_eq_true rfl, Nat.le_of_ble_eq_true rfl⟩) hP hD hK hS hA hev hT 0 6 rfl rfl rfl rfl hl.1 rfl (Nat.le_of_ble_eq_true rfl) dX6_addToken_56 ⟨Nat.le_of_ble_eq_true rfl, Nat.le_of_ble_eq_true rfl⟩ (fun r L_53 f_54 H locs hw_55 hP hD hS hT hE1 => ?_)
        have hF := Fr.call hF hE hw_55.2.1 (by decide)
        have hE := hE.tr hE1
        obtain ⟨rfl, hw_55⟩ := hw_55
        obtain ⟨hfr_56, zz_57, hk_58, hrel_59, hex_60⟩ := hw_55
        have hk_61 : rd f_54 h0 1 = .int le := (hfr_56.1 h0 (hTo.at 0 rfl).1 6 (hTo.at 0 rfl).2 1 (by decide)).trans hk_43
        have hk_62 : rd f_54 h0 2 = .int a0 := (hfr_56.1 h0 (hTo.at 0 rfl).1 6 (hTo.at 0 rfl).2 2 (by decide)).trans hk_44
        have hkp_63 := hex_60 jj hjj.2 hjj.1
        refine W.eq (g2 := F0 m 59 ls []) rfl ?_
        refine lv_aload_n hx hb dX6_addToken_59 rfl (lv_at hl 1 rfl) ?_
        refine lv_dup hx hb dX6_addToken_60 rfl ?_
        refine T_get (ci := 6) (C := RX6) (T := TX6) (N := 7) (t := tI) hx hb hts inw_X6_addToken_6 hown hK hP hT 0 rfl rfl 2 (by decide) (hts (.fieldLink RX6 38 "VatHouse$Tokens" "at" "I") (List.mem_of_getElem? (i := 1) (by exact rfl))) (fun _ h9 => h9) rfl dX6_addToken_61 (fun v_66 hv_64 hr_65 => ?_)
        obtain rfl : v_66 = .int a0 := hr_65.symm.trans hk_62
        refine lv_iconst (v := 1) hx hb dX6_addToken_64 (by decide) ?_
        refine lv_iadd hx hb dX6_addToken_65 ?_
        refine lv_topi (fun z_67 ez_67 => ?_)
        have hTo := hT
        refine T_put (ci := 6) (v := .int z_67) (ty := .int) (t := tI) (C := RX6) (T := TX6) (N := 7) hx hb hts inw_X6_addToken_6 tyX6 tyX6_ok nmX6 hown hK hP hD hS hT 0 rfl rfl 2 (by decide) (hts (.fieldLink RX6 38 "VatHouse$Tokens" "at" "I") (List.mem_of_getElem? (i := 1) (by exact rfl))) (fun _ h9 => h9) rfl (tyX6_ok 2 (by decide)) rfl rfl rfl ⟨_, rfl⟩ dX6_addToken_66 (fun f_68 H locs hP hD hS hT hE1 hrd_69 hup_70 => ?_)
        have hF := Fr.put (a := h0) (ci := 6) hF hE ((hE1 h0 (hT.at 0 rfl).1).2.symm.trans (hT.at 0 rfl).2) (by decide) hrd_69 hup_70
        have hE := hE.tr hE1
        have hk_71 : rd f_68 h0 1 = .int le := ((Fr.put (cs := [(6, 2)]) (a := h0) (ci := 6) Fr.rf Ext.rf (hTo.at 0 rfl).2 (by decide) hrd_69 hup_70).1 h0 (hTo.at 0 rfl).1 6 (hTo.at 0 rfl).2 1 (by decide)).trans hk_61
        have hk_72 : rd f_68 h0 2 = .int z_67 := (hrd_69 h0 2).trans (if_pos ⟨rfl, rfl⟩)
        have hk_73 : rd f_68 h0 3 = .int zz_57 := ((Fr.put (cs := [(6, 2)]) (a := h0) (ci := 6) Fr.rf Ext.rf (hTo.at 0 rfl).2 (by decide) hrd_69 hup_70).1 h0 (hTo.at 0 rfl).1 6 (hTo.at 0 rfl).2 3 (by decide)).trans hk_58
        exact K_v hx hb hr hlocks hP hD hK hS hT hE ⟨rfl, hF, _, _, hk_72, hk_73, trivial, trivial, ⟨LAY.to (hup_70 ka (ne_sh (hT0.at 2 rfl).2 (hT0.at 0 rfl).2 (by intro h9; cases h9))) (hup_70 sta (ne_sh (hT0.at 3 rfl).2 (hT0.at 0 rfl).2 (by intro h9; cases h9))) (hup_70 vaa (ne_sh (hT0.at 4 rfl).2 (hT0.at 0 rfl).2 (by intro h9; cases h9))) (LAY.of hak_46 hak_47 hak_48 (by rw [(Kp_oth hpp.2 (by rw [← hby_16]; exact hz2_20) (by rw [← hby_16]; exact hz2_31)).1, (Kp_oth hpp.2 (by rw [← hby_16]; exact hz2_20) (by rw [← hby_16]; exact hz2_31)).2.1, ← hpp.1, if_neg (by rw [← hby_16, hz2_42]; decide)]; exact hkp_63.1)), by rw [ez_67, (Kp_oth hpp.2 (by rw [← hby_16]; exact hz2_20) (by rw [← hby_16]; exact hz2_31)).2.2, hpp.1]; exact nI_1 pp, hkp_63.2⟩⟩ (Nat.le_of_ble_eq_true rfl) (Nat.le_of_ble_eq_true rfl) dX6_addToken_69
      · have hk_74 : rd f_40 h0 1 = .int le := (hw_41.1 h0 (hTo.at 0 rfl).1 6 (hTo.at 0 rfl).2 1 (by decide)).trans hk_32
        have hk_75 : rd f_40 h0 2 = .int a0 := (hw_41.1 h0 (hTo.at 0 rfl).1 6 (hTo.at 0 rfl).2 2 (by decide)).trans hk_33
        have hk_76 : rd f_40 h0 3 = .int zz := (hw_41.1 h0 (hTo.at 0 rfl).1 6 (hTo.at 0 rfl).2 3 (by decide)).trans hk_34
        have hak_77 : f_40 ka = f ka := (hw_41.2 ka (hTo.at 2 rfl).1 _ _ _ (hTo.at 2 rfl).2 (by decide)).trans hak_35
        have hak_78 : f_40 sta = f sta := (hw_41.2 sta (hTo.at 3 rfl).1 _ _ _ (hTo.at 3 rfl).2 (by decide)).trans hak_36
        have hak_79 : f_40 vaa = f vaa := (hw_41.2 vaa (hTo.at 4 rfl).1 _ _ _ (hTo.at 4 rfl).2 (by decide)).trans hak_37
        refine W.eq (g2 := F0 m 42 ls [.int 1, .ref h0]) rfl ?_
        refine lv_if_eq (tgt := 49) hx hb dX6_addToken_42 (by decide) (fun c_80 => ?_) (fun c_80 => ?_)
        · exact absurd c_80 (by decide)
        refine lv_iload_n hx hb dX6_addToken_45 rfl (lv_at hl 0 rfl) ?_
        refine lv_goto (tgt := 51) hx hb dX6_addToken_46 (by decide) ?_
        refine lv_aload_n hx hb dX6_addToken_51 rfl (lv_at hl 1 rfl) ?_
        refine T_get (ci := 6) (C := RX6) (T := TX6) (N := 7) (t := tI) hx hb hts inw_X6_addToken_6 hown hK hP hT 0 rfl rfl 2 (by decide) (hts (.fieldLink RX6 38 "VatHouse$Tokens" "at" "I") (List.mem_of_getElem? (i := 1) (by exact rfl))) (fun _ h9 => h9) rfl dX6_addToken_52 (fun v_83 hv_81 hr_82 => ?_)
        obtain rfl : v_83 = .int a0 := hr_82.symm.trans hk_75
        refine lv_iconst (v := 0) hx hb dX6_addToken_55 (by decide) ?_
        have hTo := hT
        refine K_V ⟨hx, hb, hml, hown, hts⟩ (t_X6_keep l dC dI sa hlt g _ _ h0 z_7 a0 0 ka sta vaa zz _ (hT.sub [0, 2, 3, 4] rfl)  hk_76 ((hF.1 h0 (hT0.at 0 rfl).1 6 (hT0.at 0 rfl).2 4 (by decide)).trans h_ka) ((hF.1 h0 (hT0.at 0 rfl).1 6 (hT0.at 0 rfl).2 5 (by decide)).trans h_sta) ((hF.1 h0 (hT0.at 0 rfl).1 6 (hT0.at 0 rfl).2 6 (by decide)).trans h_vaa) hds) (cwV 3 hts gX6_addToken_X6_keep rfl rfl rfl (by decide +kernel) ⟨Nat.le_of_ble_eq_true rfl, Nat.le_of_ble_eq_true rfl⟩) hP hD hK hS hA hev hT 0 6 rfl rfl rfl rfl hl.1 rfl (Nat.le_of_ble_eq_true rfl) dX6_addToken_56 ⟨Nat.le_of_ble_eq_true rfl, Nat.le_of_ble_eq_true rfl⟩ (fun r L_84 f_85 H locs hw_86 hP hD hS hT hE1 => ?_)
        have hF := Fr.call hF hE hw_86.2.1 (by decide)
        have hE := hE.tr hE1
        obtain ⟨rfl, hw_86⟩ := hw_86
        obtain ⟨hfr_87, zz_88, hk_89, hrel_90, hex_91⟩ := hw_86
        have hk_92 : rd f_85 h0 1 = .int le := (hfr_87.1 h0 (hTo.at 0 rfl).1 6 (hTo.at 0 rfl).2 1 (by decide)).trans hk_74
        have hk_93 : rd f_85 h0 2 = .int a0 := (hfr_87.1 h0 (hTo.at 0 rfl).1 6 (hTo.at 0 rfl).2 2 (by decide)).trans hk_75
        have hkp_94 := hex_91 jj hjj.2 hjj.1
        refine W.eq (g2 := F0 m 59 ls []) rfl ?_
        refine lv_aload_n hx hb dX6_addToken_59 rfl (lv_at hl 1 rfl) ?_
        refine lv_dup hx hb dX6_addToken_60 rfl ?_
        refine T_get (ci := 6) (C := RX6) (T := TX6) (N := 7) (t := tI) hx hb hts inw_X6_addToken_6 hown hK hP hT 0 rfl rfl 2 (by decide) (hts (.fieldLink RX6 38 "VatHouse$Tokens" "at" "I") (List.mem_of_getElem? (i := 1) (by exact rfl))) (fun _ h9 => h9) rfl dX6_addToken_61 (fun v_97 hv_95 hr_96 => ?_)
        obtain rfl : v_97 = .int a0 := hr_96.symm.trans hk_93
        refine lv_iconst (v := 1) hx hb dX6_addToken_64 (by decide) ?_
        refine lv_iadd hx hb dX6_addToken_65 ?_
        refine lv_topi (fun z_98 ez_98 => ?_)
        have hTo := hT
        refine T_put (ci := 6) (v := .int z_98) (ty := .int) (t := tI) (C := RX6) (T := TX6) (N := 7) hx hb hts inw_X6_addToken_6 tyX6 tyX6_ok nmX6 hown hK hP hD hS hT 0 rfl rfl 2 (by decide) (hts (.fieldLink RX6 38 "VatHouse$Tokens" "at" "I") (List.mem_of_getElem? (i := 1) (by exact rfl))) (fun _ h9 => h9) rfl (tyX6_ok 2 (by decide)) rfl rfl rfl ⟨_, rfl⟩ dX6_addToken_66 (fun f_99 H locs hP hD hS hT hE1 hrd_100 hup_101 => ?_)
        have hF := Fr.put (a := h0) (ci := 6) hF hE ((hE1 h0 (hT.at 0 rfl).1).2.symm.trans (hT.at 0 rfl).2) (by decide) hrd_100 hup_101
        have hE := hE.tr hE1
        have hk_102 : rd f_99 h0 1 = .int le := ((Fr.put (cs := [(6, 2)]) (a := h0) (ci := 6) Fr.rf Ext.rf (hTo.at 0 rfl).2 (by decide) hrd_100 hup_101).1 h0 (hTo.at 0 rfl).1 6 (hTo.at 0 rfl).2 1 (by decide)).trans hk_92
        have hk_103 : rd f_99 h0 2 = .int z_98 := (hrd_100 h0 2).trans (if_pos ⟨rfl, rfl⟩)
        have hk_104 : rd f_99 h0 3 = .int zz_88 := ((Fr.put (cs := [(6, 2)]) (a := h0) (ci := 6) Fr.rf Ext.rf (hTo.at 0 rfl).2 (by decide) hrd_100 hup_101).1 h0 (hTo.at 0 rfl).1 6 (hTo.at 0 rfl).2 3 (by decide)).trans hk_89
        exact K_v hx hb hr hlocks hP hD hK hS hT hE ⟨rfl, hF, _, _, hk_103, hk_104, trivial, trivial, ⟨LAY.to (hup_101 ka (ne_sh (hT0.at 2 rfl).2 (hT0.at 0 rfl).2 (by intro h9; cases h9))) (hup_101 sta (ne_sh (hT0.at 3 rfl).2 (hT0.at 0 rfl).2 (by intro h9; cases h9))) (hup_101 vaa (ne_sh (hT0.at 4 rfl).2 (hT0.at 0 rfl).2 (by intro h9; cases h9))) (LAY.of hak_77 hak_78 hak_79 (by rw [(Kp_oth hpp.2 (by rw [← hby_16]; exact hz2_20) (by rw [← hby_16]; exact hz2_31)).1, (Kp_oth hpp.2 (by rw [← hby_16]; exact hz2_20) (by rw [← hby_16]; exact hz2_31)).2.1, ← hpp.1, if_pos (by rw [← hby_16]; exact hz2_42), ← hby_16]; exact hkp_94.1)), by rw [ez_98, (Kp_oth hpp.2 (by rw [← hby_16]; exact hz2_20) (by rw [← hby_16]; exact hz2_31)).2.2, hpp.1]; exact nI_1 pp, hkp_94.2⟩⟩ (Nat.le_of_ble_eq_true rfl) (Nat.le_of_ble_eq_true rfl) dX6_addToken_69
    · have hk_105 : rd f_29 h0 1 = .int le := (hw_30.1 h0 (hTo.at 0 rfl).1 6 (hTo.at 0 rfl).2 1 (by decide)).trans hk_21
      have hk_106 : rd f_29 h0 2 = .int a0 := (hw_30.1 h0 (hTo.at 0 rfl).1 6 (hTo.at 0 rfl).2 2 (by decide)).trans hk_22
      have hk_107 : rd f_29 h0 3 = .int zz := (hw_30.1 h0 (hTo.at 0 rfl).1 6 (hTo.at 0 rfl).2 3 (by decide)).trans hk_23
      have hak_108 : f_29 ka = f ka := (hw_30.2 ka (hTo.at 2 rfl).1 _ _ _ (hTo.at 2 rfl).2 (by decide)).trans hak_24
      have hak_109 : f_29 sta = f sta := (hw_30.2 sta (hTo.at 3 rfl).1 _ _ _ (hTo.at 3 rfl).2 (by decide)).trans hak_25
      have hak_110 : f_29 vaa = f vaa := (hw_30.2 vaa (hTo.at 4 rfl).1 _ _ _ (hTo.at 4 rfl).2 (by decide)).trans hak_26
      refine W.eq (g2 := F0 m 27 ls [.int 1]) rfl ?_
      refine lv_if_eq (tgt := 37) hx hb dX6_addToken_27 (by decide) (fun c_111 => ?_) (fun c_111 => ?_)
      · exact absurd c_111 (by decide)
      refine lv_aload_n hx hb dX6_addToken_30 rfl (lv_at hl 1 rfl) ?_
      have hTo := hT
      refine K_V ⟨hx, hb, hml, hown, hts⟩ (t_X6_addDigits l dC dI sa hlt g _ _ tt ln pp jj h0 tp ka sta vaa le a0 zz _ (hT.sub [0, 1, 2, 3, 4] rfl)  hk_105 hk_106 hk_107 ((hF.1 h0 (hT0.at 0 rfl).1 6 (hT0.at 0 rfl).2 0 (by decide)).trans h_tp) ((hF.1 h0 (hT0.at 0 rfl).1 6 (hT0.at 0 rfl).2 4 (by decide)).trans h_ka) ((hF.1 h0 (hT0.at 0 rfl).1 6 (hT0.at 0 rfl).2 5 (by decide)).trans h_sta) ((hF.1 h0 (hT0.at 0 rfl).1 6 (hT0.at 0 rfl).2 6 (by decide)).trans h_vaa) ((ia_eq (hF.2 tp (hT0.at 1 rfl).1 0 _ _ (hT0.at 1 rfl).2 (by decide))).trans hta) hle hds hpp hjj (by rw [← hby_16]; exact hz2_31)) (cwV 0 hts gX6_addToken_X6_addDigits rfl rfl rfl (by decide +kernel) ⟨Nat.le_of_ble_eq_true rfl, Nat.le_of_ble_eq_true rfl⟩) hP hD hK hS hA hev hT 0 6 rfl rfl rfl rfl hl.1 rfl (Nat.le_of_ble_eq_true rfl) dX6_addToken_31 ⟨Nat.le_of_ble_eq_true rfl, Nat.le_of_ble_eq_true rfl⟩ (fun r L_112 f_113 H locs hw_114 hP hD hS hT hE1 => ?_)
      have hF := Fr.call hF hE hw_114.2.1 (by decide)
      have hE := hE.tr hE1
      obtain ⟨rfl, hw_114⟩ := hw_114
      obtain ⟨hfr_115, a0_116, zz_117, hk_118, hk_119, hrel_120, hrel_121, hex_122⟩ := hw_114
      have hk_123 : rd f_113 h0 1 = .int le := (hfr_115.1 h0 (hTo.at 0 rfl).1 6 (hTo.at 0 rfl).2 1 (by decide)).trans hk_105
      refine W.eq (g2 := F0 m 34 ls []) rfl ?_
      refine lv_goto (tgt := 69) hx hb dX6_addToken_34 (by decide) ?_
      exact K_v hx hb hr hlocks hP hD hK hS hT hE ⟨rfl, hF, _, _, hk_118, hk_119, trivial, trivial, ⟨LAY.of hak_108 hak_109 hak_110 hex_122.1, hex_122.2⟩⟩ (Nat.le_of_ble_eq_true rfl) (Nat.le_of_ble_eq_true rfl) dX6_addToken_69
  · have hk_124 : rd f_18 h0 1 = .int le := (hw_19.1 h0 (hTo.at 0 rfl).1 6 (hTo.at 0 rfl).2 1 (by decide)).trans hk_10
    have hk_125 : rd f_18 h0 2 = .int a0 := (hw_19.1 h0 (hTo.at 0 rfl).1 6 (hTo.at 0 rfl).2 2 (by decide)).trans hk_11
    have hk_126 : rd f_18 h0 3 = .int zz := (hw_19.1 h0 (hTo.at 0 rfl).1 6 (hTo.at 0 rfl).2 3 (by decide)).trans hk_12
    have hak_127 : f_18 ka = f ka := (hw_19.2 ka (hTo.at 2 rfl).1 _ _ _ (hTo.at 2 rfl).2 (by decide)).trans hak_13
    have hak_128 : f_18 sta = f sta := (hw_19.2 sta (hTo.at 3 rfl).1 _ _ _ (hTo.at 3 rfl).2 (by decide)).trans hak_14
    have hak_129 : f_18 vaa = f vaa := (hw_19.2 vaa (hTo.at 4 rfl).1 _ _ _ (hTo.at 4 rfl).2 (by decide)).trans hak_15
    refine W.eq (g2 := F0 m 13 ls [.int 1]) rfl ?_
    refine lv_if_eq (tgt := 23) hx hb dX6_addToken_13 (by decide) (fun c_130 => ?_) (fun c_130 => ?_)
    · exact absurd c_130 (by decide)
    refine lv_aload_n hx hb dX6_addToken_16 rfl (lv_at hl 1 rfl) ?_
    have hTo := hT
    refine K_V ⟨hx, hb, hml, hown, hts⟩ (t_X6_addLetters l dC dI sa hlt g _ _ tt ln pp jj h0 tp ka sta vaa le a0 zz _ (hT.sub [0, 1, 2, 3, 4] rfl)  hk_124 hk_125 hk_126 ((hF.1 h0 (hT0.at 0 rfl).1 6 (hT0.at 0 rfl).2 0 (by decide)).trans h_tp) ((hF.1 h0 (hT0.at 0 rfl).1 6 (hT0.at 0 rfl).2 4 (by decide)).trans h_ka) ((hF.1 h0 (hT0.at 0 rfl).1 6 (hT0.at 0 rfl).2 5 (by decide)).trans h_sta) ((hF.1 h0 (hT0.at 0 rfl).1 6 (hT0.at 0 rfl).2 6 (by decide)).trans h_vaa) ((ia_eq (hF.2 tp (hT0.at 1 rfl).1 0 _ _ (hT0.at 1 rfl).2 (by decide))).trans hta) hle hds hpp hjj (by rw [← hby_16]; exact hz2_20)) (cwV 0 hts gX6_addToken_X6_addLetters rfl rfl rfl (by decide +kernel) ⟨Nat.le_of_ble_eq_true rfl, Nat.le_of_ble_eq_true rfl⟩) hP hD hK hS hA hev hT 0 6 rfl rfl rfl rfl hl.1 rfl (Nat.le_of_ble_eq_true rfl) dX6_addToken_17 ⟨Nat.le_of_ble_eq_true rfl, Nat.le_of_ble_eq_true rfl⟩ (fun r L_131 f_132 H locs hw_133 hP hD hS hT hE1 => ?_)
    have hF := Fr.call hF hE hw_133.2.1 (by decide)
    have hE := hE.tr hE1
    obtain ⟨rfl, hw_133⟩ := hw_133
    obtain ⟨hfr_134, a0_135, zz_136, hk_137, hk_138, hrel_139, hrel_140, hex_141⟩ := hw_133
    have hk_142 : rd f_132 h0 1 = .int le := (hfr_134.1 h0 (hTo.at 0 rfl).1 6 (hTo.at 0 rfl).2 1 (by decide)).trans hk_124
    refine W.eq (g2 := F0 m 20 ls []) rfl ?_
    refine lv_goto (tgt := 69) hx hb dX6_addToken_20 (by decide) ?_
    exact K_v hx hb hr hlocks hP hD hK hS hT hE ⟨rfl, hF, _, _, hk_137, hk_138, trivial, trivial, ⟨LAY.of hak_127 hak_128 hak_129 hex_141.1, hex_141.2⟩⟩ (Nat.le_of_ble_eq_true rfl) (Nat.le_of_ble_eq_true rfl) dX6_addToken_69

/-- the first j tokens are laid -/
noncomputable def TKp (f : Nat → va_E) (ka sta vaa : Nat) (tt : Nat → Int32) (ln j : Nat) : Prop := ∀ x : Nat, x < j → ia f ka x = Kp tt ln (Sj tt ln x) ∧ ia f sta x = nI (Sj tt ln x) ∧ ia f vaa x = Vp tt ln (Sj tt ln x)
theorem TKp.go {f f' : Nat → va_E} {ka sta vaa ln j : Nat} {tt : Nat → Int32} (h : TKp f ka sta vaa tt ln j) (h1 : f' ka = f ka) (h2 : f' sta = f sta) (h3 : f' vaa = f vaa) : TKp f' ka sta vaa tt ln j := by
  unfold TKp
  rw [ia_eq h1, ia_eq h2, ia_eq h3]
  exact h
theorem TKp.up {f f' : Nat → va_E} {ka sta vaa ln j p : Nat} {tt : Nat → Int32} (h : TKp f ka sta vaa tt ln j) (hl : LAY f f' ka sta vaa j (Kp tt ln p) (nI p) (Vp tt ln p)) (hp : Sj tt ln j = p) : TKp f' ka sta vaa tt ln (j + 1) := by
  intro x hx
  rw [hl.1, hl.2.1, hl.2.2]
  by_cases e : x = j
  · subst e
    rw [hp]
    exact ⟨if_pos rfl, if_pos rfl, if_pos rfl⟩
  · have g : ∀ (t : Nat → Int32) (v : Int32), upd t j v x = t x := fun t v => if_neg e
    rw [g, g, g]
    exact h x (by omega)
theorem mm_ln {ln : Nat} {nn z5 z6 : Int32} (h : nn = nI ln ∧ ln ≤ 1500) (e5 : z5 = if (1500 : Int32) < nn then 1500 else nn) (e6 : z6 = if (0 : Int32) < z5 then z5 else 0) : z6 = nI ln := by
  have h1 : ¬ (1500 : Int32) < nn := by
    rw [h.1]
    show ¬ nI 1500 < nI ln
    rw [nI_ltI (by omega) (by omega)]
    omega
  rw [if_neg h1] at e5
  rw [e6, e5, h.1]
  split
  · rfl
  · rename_i g
    have g : ¬ nI 0 < nI ln := g
    rw [nI_ltI (by omega) (by omega)] at g
    obtain rfl : ln = 0 := by omega
    rfl

noncomputable abbrev rm_X6_split : Room := { frames := 8, cells := 0, slots := 0, locals := 231 }
theorem inw_X6_split_6 : ∀ w ∈ wsX60, w ∈ wsX6_split := fun _ h => List.mem_cons_of_mem _ (List.mem_append_right _ h)
set_option maxHeartbeats 800000 in
set_option maxRecDepth 100000 in
theorem t_X6_split (l : Launch) (dC : Nat → ClassId) (dI : Nat → Nat → Nat) (sa : Nat → Nat) (hlt : l.stackTraces = false) (g : Nat → Nat) (L : List Nat) (f : Nat → va_E) (tt : Nat → Int32) (ln : Nat) (h0 : Nat) (nn : Int32) (tp : Nat) (ka : Nat) (sta : Nat) (vaa : Nat) (sz : Nat) (hT : TP g L f [(h0, (0, 6, 0)), (tp, (1, g 1, 1500)), (ka, (1, g 0, 1501)), (sta, (1, g 5, 1501)), (vaa, (1, g 6, 1501))]) (h_tp : rd f h0 0 = .ref tp) (h_ka : rd f h0 4 = .ref ka) (h_sta : rd f h0 5 = .ref sta) (h_vaa : rd f h0 6 = .ref vaa) (hta : ia f tp = tt) (hnn : nn = nI ln ∧ ln ≤ 1500) (hds : ka ≠ sta ∧ ka ≠ vaa ∧ sta ≠ vaa) : KC l dC dI sa g yX6_split wsX6_split rm_X6_split [.ref h0, .int nn] L f sz (fun r L' f' => (r = none) ∧ Fr [(6, 1), (6, 2), (6, 3), (100, 1501)] L f f' ∧ (∃ zz' : Int32, rd f' h0 3 = .int zz' ∧ (True) ∧ (∃ M : Nat, M ≤ 1500 ∧ Sj tt ln M = ln ∧ TKp f' ka sta vaa tt ln (M + 1) ∧ zz' = nI (M + 1)))) 0 0 := by
  refine CT.start (cc := cX6_split) (maxL := 3) (ret := none) (by decide) rfl (Nat.le_of_ble_eq_true rfl) ?_
  intro p e s m below meth c ls hst hP hK hD hev hS hl
  obtain ⟨hx, hb, hr, hml, hts, hown, hlocks, hin⟩ := hst
  have hown : s.vm.findClass RX6 = some m.cls := hown
  have hin : meth.name = yX6_split.name := hin
  have hA : ∀ q : Nat, s.heap.size ≤ q → va_A (va_pl L f) s.heap.size q := fun _ h => Or.inr h
  have hE : Ext L f L f := Ext.rf
  have hF : Fr [(6, 1), (6, 2), (6, 3), (100, 1501)] L f f := Fr.rf
  have hl : lv_has ls 3 [(0, .ref h0), (1, .int nn)] := hl
  have hT0 := hT
  refine lv_aload_n hx hb dX6_split_0 rfl (lv_at hl 0 rfl) ?_
  refine lv_iconst (v := 0) hx hb dX6_split_1 (by decide) ?_
  refine lv_iload_n hx hb dX6_split_2 rfl (lv_at hl 1 rfl) ?_
  refine lv_aload_n hx hb dX6_split_3 rfl (lv_at hl 0 rfl) ?_
  refine T_get (ci := 6) (C := RX6) (T := TX6) (N := 7) (t := (1, 1, g 1, 1500)) hx hb hts inw_X6_split_6 hown hK hP hT 0 rfl rfl 0 (by decide) (hts (.fieldLink RX6 21 "VatHouse$Tokens" "text" "[B") (List.mem_of_getElem? (i := 1) (by exact rfl))) (fun _ h9 => h9) rfl dX6_split_4 (fun v_3 hv_1 hr_2 => ?_)
  obtain rfl : v_3 = .ref tp := hr_2.symm.trans ((hF.1 h0 (hT0.at 0 rfl).1 6 (hT0.at 0 rfl).2 0 (by decide)).trans h_tp)
  refine T_alen hx hb hK hP hT 1 1 rfl rfl (v := 1500) rfl dX6_split_7 ?_
  refine va_mmin hx hb (hml.trans hl.1.symm) hown (hts (.methodLink RX6 25 Lib.Math.min.name) (List.mem_of_getElem? (i := 2) (by exact rfl))) (hts (.static Lib.Math.min.name) (List.mem_of_getElem? (i := 3) (by exact rfl))) (hts (.initialized "java/lang/Math") (List.mem_of_getElem? (i := 4) (by exact rfl))) (hts (.code Lib.Math.min.name Lib.Math.min.code 2 (some .int)) (List.mem_of_getElem? (i := 5) (by exact rfl))) (Nat.le_of_ble_eq_true rfl) (Nat.le_of_ble_eq_true rfl) (Nat.le_of_ble_eq_true rfl) (Nat.le_of_ble_eq_true rfl) dX6_split_8 ?_
  refine lv_topi (fun z_4 ez_4 => ?_)
  refine va_mmax hx hb (hml.trans hl.1.symm) hown (hts (.methodLink RX6 31 Lib.Math.max.name) (List.mem_of_getElem? (i := 6) (by exact rfl))) (hts (.static Lib.Math.max.name) (List.mem_of_getElem? (i := 7) (by exact rfl))) (hts (.initialized "java/lang/Math") (List.mem_of_getElem? (i := 4) (by exact rfl))) (hts (.code Lib.Math.max.name Lib.Math.max.code 2 (some .int)) (List.mem_of_getElem? (i := 8) (by exact rfl))) (Nat.le_of_ble_eq_true rfl) (Nat.le_of_ble_eq_true rfl) (Nat.le_of_ble_eq_true rfl) (Nat.le_of_ble_eq_true rfl) dX6_split_11 ?_
  refine lv_topi (fun z_5 ez_5 => ?_)
  have hz6 : z_5 = nI ln := mm_ln hnn ez_4 ez_5
  have hTo := hT
  refine T_put (ci := 6) (v := .int z_5) (ty := .int) (t := tI) (C := RX6) (T := TX6) (N := 7) hx hb hts inw_X6_split_6 tyX6 tyX6_ok nmX6 hown hK hP hD hS hT 0 rfl rfl 1 (by decide) (hts (.fieldLink RX6 34 "VatHouse$Tokens" "length" "I") (List.mem_of_getElem? (i := 9) (by exact rfl))) (fun _ h9 => h9) rfl (tyX6_ok 1 (by decide)) rfl rfl rfl ⟨_, rfl⟩ dX6_split_14 (fun f_6 H locs hP hD hS hT hE1 hrd_7 hup_8 => ?_)
  have hF := Fr.put (a := h0) (ci := 6) hF hE ((hE1 h0 (hT.at 0 rfl).1).2.symm.trans (hT.at 0 rfl).2) (by decide) hrd_7 hup_8
  have hE := hE.tr hE1
  have hk_9 : rd f_6 h0 1 = .int z_5 := (hrd_7 h0 1).trans (if_pos ⟨rfl, rfl⟩)
  have hak_10 : f_6 ka = f ka := (hup_8 ka (ne_sh (hT0.at 2 rfl).2 (hT0.at 0 rfl).2 (by intro h9; cases h9))).trans rfl
  have hak_11 : f_6 sta = f sta := (hup_8 sta (ne_sh (hT0.at 3 rfl).2 (hT0.at 0 rfl).2 (by intro h9; cases h9))).trans rfl
  have hak_12 : f_6 vaa = f vaa := (hup_8 vaa (ne_sh (hT0.at 4 rfl).2 (hT0.at 0 rfl).2 (by intro h9; cases h9))).trans rfl
  refine lv_aload_n hx hb dX6_split_17 rfl (lv_at hl 0 rfl) ?_
  refine lv_iconst (v := 0) hx hb dX6_split_18 (by decide) ?_
  have hTo := hT
  refine T_put (ci := 6) (v := .int 0) (ty := .int) (t := tI) (C := RX6) (T := TX6) (N := 7) hx hb hts inw_X6_split_6 tyX6 tyX6_ok nmX6 hown hK hP hD hS hT 0 rfl rfl 2 (by decide) (hts (.fieldLink RX6 38 "VatHouse$Tokens" "at" "I") (List.mem_of_getElem? (i := 10) (by exact rfl))) (fun _ h9 => h9) rfl (tyX6_ok 2 (by decide)) rfl rfl rfl ⟨_, rfl⟩ dX6_split_19 (fun f_13 H locs hP hD hS hT hE1 hrd_14 hup_15 => ?_)
  have hF := Fr.put (a := h0) (ci := 6) hF hE ((hE1 h0 (hT.at 0 rfl).1).2.symm.trans (hT.at 0 rfl).2) (by decide) hrd_14 hup_15
  have hE := hE.tr hE1
  have hk_16 : rd f_13 h0 1 = .int z_5 := ((Fr.put (cs := [(6, 2)]) (a := h0) (ci := 6) Fr.rf Ext.rf (hTo.at 0 rfl).2 (by decide) hrd_14 hup_15).1 h0 (hTo.at 0 rfl).1 6 (hTo.at 0 rfl).2 1 (by decide)).trans hk_9
  have hk_17 : rd f_13 h0 2 = .int 0 := (hrd_14 h0 2).trans (if_pos ⟨rfl, rfl⟩)
  have hak_18 : f_13 ka = f ka := (hup_15 ka (ne_sh (hT0.at 2 rfl).2 (hT0.at 0 rfl).2 (by intro h9; cases h9))).trans hak_10
  have hak_19 : f_13 sta = f sta := (hup_15 sta (ne_sh (hT0.at 3 rfl).2 (hT0.at 0 rfl).2 (by intro h9; cases h9))).trans hak_11
  have hak_20 : f_13 vaa = f vaa := (hup_15 vaa (ne_sh (hT0.at 4 rfl).2 (hT0.at 0 rfl).2 (by intro h9; cases h9))).trans hak_12
  refine lv_aload_n hx hb dX6_split_22 rfl (lv_at hl 0 rfl) ?_
  refine lv_iconst (v := 0) hx hb dX6_split_23 (by decide) ?_
  have hTo := hT
  refine T_put (ci := 6) (v := .int 0) (ty := .int) (t := tI) (C := RX6) (T := TX6) (N := 7) hx hb hts inw_X6_split_6 tyX6 tyX6_ok nmX6 hown hK hP hD hS hT 0 rfl rfl 3 (by decide) (hts (.fieldLink RX6 41 "VatHouse$Tokens" "size" "I") (List.mem_of_getElem? (i := 11) (by exact rfl))) (fun _ h9 => h9) rfl (tyX6_ok 3 (by decide)) rfl rfl rfl ⟨_, rfl⟩ dX6_split_24 (fun f_21 H locs hP hD hS hT hE1 hrd_22 hup_23 => ?_)
  have hF := Fr.put (a := h0) (ci := 6) hF hE ((hE1 h0 (hT.at 0 rfl).1).2.symm.trans (hT.at 0 rfl).2) (by decide) hrd_22 hup_23
  have hE := hE.tr hE1
  have hk_24 : rd f_21 h0 1 = .int z_5 := ((Fr.put (cs := [(6, 3)]) (a := h0) (ci := 6) Fr.rf Ext.rf (hTo.at 0 rfl).2 (by decide) hrd_22 hup_23).1 h0 (hTo.at 0 rfl).1 6 (hTo.at 0 rfl).2 1 (by decide)).trans hk_16
  have hk_25 : rd f_21 h0 2 = .int 0 := ((Fr.put (cs := [(6, 3)]) (a := h0) (ci := 6) Fr.rf Ext.rf (hTo.at 0 rfl).2 (by decide) hrd_22 hup_23).1 h0 (hTo.at 0 rfl).1 6 (hTo.at 0 rfl).2 2 (by decide)).trans hk_17
  have hk_26 : rd f_21 h0 3 = .int 0 := (hrd_22 h0 3).trans (if_pos ⟨rfl, rfl⟩)
  have hak_27 : f_21 ka = f ka := (hup_23 ka (ne_sh (hT0.at 2 rfl).2 (hT0.at 0 rfl).2 (by intro h9; cases h9))).trans hak_18
  have hak_28 : f_21 sta = f sta := (hup_23 sta (ne_sh (hT0.at 3 rfl).2 (hT0.at 0 rfl).2 (by intro h9; cases h9))).trans hak_19
  have hak_29 : f_21 vaa = f vaa := (hup_23 vaa (ne_sh (hT0.at 4 rfl).2 (hT0.at 0 rfl).2 (by intro h9; cases h9))).trans hak_20
  refine lv_iconst (v := 0) hx hb dX6_split_27 (by decide) ?_
  refine lv_istore_n (lv' := [(2, .int 0), (0, .ref h0), (1, .int nn)]) hx hb dX6_split_28 rfl hl (by decide) rfl (fun ls hl => ?_)
  have lp : ∀ (n : Nat) (ii : Int32) (k2 : Int32) (k3 : Int32) (L1 : List Nat) (f1 : Nat → va_E) (H : Heap) (locs : List Loc) (ls : Array Slot), (∃ p1 j1 i1 : Nat, ii = nI i1 ∧ k2 = nI p1 ∧ k3 = nI j1 ∧ i1 ≤ p1 ∧ j1 ≤ p1 ∧ p1 ≤ ln ∧ ln < i1 + n ∧ sk tt ln p1 = Sj tt ln j1 ∧ TKp f1 ka sta vaa tt ln j1) → rd f1 h0 1 = .int z_5 → rd f1 h0 2 = .int k2 → rd f1 h0 3 = .int k3 → va_P (dC, dI) vwCl (va_pl L1 f1) H → va_D (va_A (va_pl L f) s.heap.size) (va_pl L1 f1) → va_S (va_A (va_pl L f) s.heap.size) s.heap H locs → TP g L1 f1 [(h0, (0, 6, 0)), (tp, (1, g 1, 1500)), (ka, (1, g 0, 1501)), (sta, (1, g 5, 1501)), (vaa, (1, g 6, 1501))] → Ext L f L1 f1 → Fr [(6, 1), (6, 2), (6, 3), (100, 1501)] L f f1 → lv_has ls 3 [(2, .int ii), (0, .ref h0), (1, .int nn)] → W p l e rm_X6_split s m [.ref h0, .int nn].toArray below meth c H locs 0 0 (MQ below (Qg (kpost g L f (fun r L' f' => (r = none) ∧ Fr [(6, 1), (6, 2), (6, 3), (100, 1501)] L f f' ∧ (∃ zz' : Int32, rd f' h0 3 = .int zz' ∧ (True) ∧ (∃ M : Nat, M ≤ 1500 ∧ Sj tt ln M = ln ∧ TKp f' ka sta vaa tt ln (M + 1) ∧ zz' = nI (M + 1))))) (fun (u : PL) t => QW dC dI (va_A (va_pl L f) s.heap.size) (va_pl u.1 u.2) [] t) (va_A (va_pl L f) s.heap.size)) [.ref h0, .int nn].toArray s (0) (0) (va_A (va_pl L f) s.heap.size)) (F0 m 29 ls []) := by
    intro n
    induction n with
    | zero => intro ii k2 k3 L1 f1 H locs ls hm hk_h0_1 hk_h0_2 hk_h0_3 hP hD hS hT hE hF hl; exact absurd hm (by rintro ⟨p1, j1, i1, -, -, -, h1, -, h2, h3, -⟩; omega)
    | succ n ih =>
      intro ii k2 k3 L1 f1 H locs ls hm hk_h0_1 hk_h0_2 hk_h0_3 hP hD hS hT hE hF hl
      refine lv_iload_n hx hb dX6_split_29 rfl (lv_at hl 0 rfl) ?_
      refine lv_aload_n hx hb dX6_split_30 rfl (lv_at hl 1 rfl) ?_
      refine T_get (ci := 6) (C := RX6) (T := TX6) (N := 7) (t := tI) hx hb hts inw_X6_split_6 hown hK hP hT 0 rfl rfl 1 (by decide) (hts (.fieldLink RX6 34 "VatHouse$Tokens" "length" "I") (List.mem_of_getElem? (i := 9) (by exact rfl))) (fun _ h9 => h9) rfl dX6_split_31 (fun v_32 hv_30 hr_31 => ?_)
      obtain rfl : v_32 = .int z_5 := hr_31.symm.trans hk_h0_1
      refine lv_icmp_ge (tgt := 85) hx hb dX6_split_34 (by decide) (fun c_33 => ?_) (fun c_33 => ?_)
      · obtain ⟨p1, j1, i1, hq1, hq2, hq3, hq4, hq5, hq6, hq7, hq8, hq9⟩ := hm
        have hpe : p1 = ln := by have h9 := c_33; rw [hz6, hq1, nI_leI (by omega) (by omega)] at h9; omega
        have hsj : Sj tt ln j1 = ln := by rw [← hq8, hpe]; exact re_stop (Or.inl (Nat.le_refl _))
        refine lv_aload_n hx hb dX6_split_85 rfl (lv_at hl 1 rfl) ?_
        refine lv_iconst (v := 0) hx hb dX6_split_86 (by decide) ?_
        refine lv_aload_n hx hb dX6_split_87 rfl (lv_at hl 1 rfl) ?_
        refine T_get (ci := 6) (C := RX6) (T := TX6) (N := 7) (t := tI) hx hb hts inw_X6_split_6 hown hK hP hT 0 rfl rfl 1 (by decide) (hts (.fieldLink RX6 34 "VatHouse$Tokens" "length" "I") (List.mem_of_getElem? (i := 9) (by exact rfl))) (fun _ h9 => h9) rfl dX6_split_88 (fun v_36 hv_34 hr_35 => ?_)
        obtain rfl : v_36 = .int z_5 := hr_35.symm.trans hk_h0_1
        refine lv_iconst (v := 0) hx hb dX6_split_91 (by decide) ?_
        have hTo := hT
        refine K_V ⟨hx, hb, hml, hown, hts⟩ (t_X6_keep l dC dI sa hlt g _ _ h0 0 z_5 0 ka sta vaa k3 _ (hT.sub [0, 2, 3, 4] rfl)  hk_h0_3 ((hF.1 h0 (hT0.at 0 rfl).1 6 (hT0.at 0 rfl).2 4 (by decide)).trans h_ka) ((hF.1 h0 (hT0.at 0 rfl).1 6 (hT0.at 0 rfl).2 5 (by decide)).trans h_sta) ((hF.1 h0 (hT0.at 0 rfl).1 6 (hT0.at 0 rfl).2 6 (by decide)).trans h_vaa) hds) (cwV 3 hts gX6_split_X6_keep rfl rfl rfl (by decide +kernel) ⟨Nat.le_of_ble_eq_true rfl, Nat.le_of_ble_eq_true rfl⟩) hP hD hK hS hA hev hT 0 6 rfl rfl rfl rfl hl.1 rfl (Nat.le_of_ble_eq_true rfl) dX6_split_92 ⟨Nat.le_of_ble_eq_true rfl, Nat.le_of_ble_eq_true rfl⟩ (fun r L_37 f_38 H locs hw_39 hP hD hS hT hE1 => ?_)
        have hF := Fr.call hF hE hw_39.2.1 (by decide)
        have hE := hE.tr hE1
        obtain ⟨rfl, hw_39⟩ := hw_39
        obtain ⟨hfr_40, zz_41, hk_42, hrel_43, hex_44⟩ := hw_39
        have hk_45 : rd f_38 h0 1 = .int z_5 := (hfr_40.1 h0 (hTo.at 0 rfl).1 6 (hTo.at 0 rfl).2 1 (by decide)).trans hk_h0_1
        have hk_46 : rd f_38 h0 2 = .int k2 := (hfr_40.1 h0 (hTo.at 0 rfl).1 6 (hTo.at 0 rfl).2 2 (by decide)).trans hk_h0_2
        have hkp_47 := hex_44 j1 (by omega) hq3
        refine W.eq (g2 := F0 m 95 ls []) rfl ?_
        exact K_v hx hb hr hlocks hP hD hK hS hT hE ⟨rfl, hF, _, hk_42, trivial, ⟨j1, by omega, hsj, hq9.up (LAY.of rfl rfl rfl (by rw [Kp_0.mpr (Nat.le_refl ln), ← hz6, show Vp tt ln ln = 0 from if_neg (Nat.lt_irrefl _)]; exact hkp_47.1)) hsj, hkp_47.2⟩⟩ (Nat.le_of_ble_eq_true rfl) (Nat.le_of_ble_eq_true rfl) dX6_split_95
      · obtain ⟨p1, j1, i1, hq1, hq2, hq3, hq4, hq5, hq6, hq7, hq8, hq9⟩ := hm
        refine lv_aload_n hx hb dX6_split_37 rfl (lv_at hl 1 rfl) ?_
        refine T_get (ci := 6) (C := RX6) (T := TX6) (N := 7) (t := tI) hx hb hts inw_X6_split_6 hown hK hP hT 0 rfl rfl 2 (by decide) (hts (.fieldLink RX6 38 "VatHouse$Tokens" "at" "I") (List.mem_of_getElem? (i := 10) (by exact rfl))) (fun _ h9 => h9) rfl dX6_split_38 (fun v_50 hv_48 hr_49 => ?_)
        obtain rfl : v_50 = .int k2 := hr_49.symm.trans hk_h0_2
        refine lv_aload_n hx hb dX6_split_41 rfl (lv_at hl 1 rfl) ?_
        refine T_get (ci := 6) (C := RX6) (T := TX6) (N := 7) (t := tI) hx hb hts inw_X6_split_6 hown hK hP hT 0 rfl rfl 1 (by decide) (hts (.fieldLink RX6 34 "VatHouse$Tokens" "length" "I") (List.mem_of_getElem? (i := 9) (by exact rfl))) (fun _ h9 => h9) rfl dX6_split_42 (fun v_53 hv_51 hr_52 => ?_)
        obtain rfl : v_53 = .int z_5 := hr_52.symm.trans hk_h0_1
        refine lv_icmp_ge (tgt := 85) hx hb dX6_split_45 (by decide) (fun c_54 => ?_) (fun c_54 => ?_)
        · have hpe : p1 = ln := by have h9 := c_54; rw [hz6, hq2, nI_leI (by omega) (by omega)] at h9; omega
          have hsj : Sj tt ln j1 = ln := by rw [← hq8, hpe]; exact re_stop (Or.inl (Nat.le_refl _))
          refine lv_aload_n hx hb dX6_split_85 rfl (lv_at hl 1 rfl) ?_
          refine lv_iconst (v := 0) hx hb dX6_split_86 (by decide) ?_
          refine lv_aload_n hx hb dX6_split_87 rfl (lv_at hl 1 rfl) ?_
          refine T_get (ci := 6) (C := RX6) (T := TX6) (N := 7) (t := tI) hx hb hts inw_X6_split_6 hown hK hP hT 0 rfl rfl 1 (by decide) (hts (.fieldLink RX6 34 "VatHouse$Tokens" "length" "I") (List.mem_of_getElem? (i := 9) (by exact rfl))) (fun _ h9 => h9) rfl dX6_split_88 (fun v_57 hv_55 hr_56 => ?_)
          obtain rfl : v_57 = .int z_5 := hr_56.symm.trans hk_h0_1
          refine lv_iconst (v := 0) hx hb dX6_split_91 (by decide) ?_
          have hTo := hT
          refine K_V ⟨hx, hb, hml, hown, hts⟩ (t_X6_keep l dC dI sa hlt g _ _ h0 0 z_5 0 ka sta vaa k3 _ (hT.sub [0, 2, 3, 4] rfl)  hk_h0_3 ((hF.1 h0 (hT0.at 0 rfl).1 6 (hT0.at 0 rfl).2 4 (by decide)).trans h_ka) ((hF.1 h0 (hT0.at 0 rfl).1 6 (hT0.at 0 rfl).2 5 (by decide)).trans h_sta) ((hF.1 h0 (hT0.at 0 rfl).1 6 (hT0.at 0 rfl).2 6 (by decide)).trans h_vaa) hds) (cwV 3 hts gX6_split_X6_keep rfl rfl rfl (by decide +kernel) ⟨Nat.le_of_ble_eq_true rfl, Nat.le_of_ble_eq_true rfl⟩) hP hD hK hS hA hev hT 0 6 rfl rfl rfl rfl hl.1 rfl (Nat.le_of_ble_eq_true rfl) dX6_split_92 ⟨Nat.le_of_ble_eq_true rfl, Nat.le_of_ble_eq_true rfl⟩ (fun r L_58 f_59 H locs hw_60 hP hD hS hT hE1 => ?_)
          have hF := Fr.call hF hE hw_60.2.1 (by decide)
          have hE := hE.tr hE1
          obtain ⟨rfl, hw_60⟩ := hw_60
          obtain ⟨hfr_61, zz_62, hk_63, hrel_64, hex_65⟩ := hw_60
          have hk_66 : rd f_59 h0 1 = .int z_5 := (hfr_61.1 h0 (hTo.at 0 rfl).1 6 (hTo.at 0 rfl).2 1 (by decide)).trans hk_h0_1
          have hk_67 : rd f_59 h0 2 = .int k2 := (hfr_61.1 h0 (hTo.at 0 rfl).1 6 (hTo.at 0 rfl).2 2 (by decide)).trans hk_h0_2
          have hkp_68 := hex_65 j1 (by omega) hq3
          refine W.eq (g2 := F0 m 95 ls []) rfl ?_
          exact K_v hx hb hr hlocks hP hD hK hS hT hE ⟨rfl, hF, _, hk_63, trivial, ⟨j1, by omega, hsj, hq9.up (LAY.of rfl rfl rfl (by rw [Kp_0.mpr (Nat.le_refl ln), ← hz6, show Vp tt ln ln = 0 from if_neg (Nat.lt_irrefl _)]; exact hkp_68.1)) hsj, hkp_68.2⟩⟩ (Nat.le_of_ble_eq_true rfl) (Nat.le_of_ble_eq_true rfl) dX6_split_95
        · have hp6 : p1 < ln := by have h9 := c_54; rw [hz6, hq2, nI_leI (by omega) (by omega)] at h9; omega
          refine lv_aload_n hx hb dX6_split_48 rfl (lv_at hl 1 rfl) ?_
          refine lv_aload_n hx hb dX6_split_49 rfl (lv_at hl 1 rfl) ?_
          refine T_get (ci := 6) (C := RX6) (T := TX6) (N := 7) (t := tI) hx hb hts inw_X6_split_6 hown hK hP hT 0 rfl rfl 2 (by decide) (hts (.fieldLink RX6 38 "VatHouse$Tokens" "at" "I") (List.mem_of_getElem? (i := 10) (by exact rfl))) (fun _ h9 => h9) rfl dX6_split_50 (fun v_71 hv_69 hr_70 => ?_)
          obtain rfl : v_71 = .int k2 := hr_70.symm.trans hk_h0_2
          have hTo := hT
          refine K_V ⟨hx, hb, hml, hown, hts⟩ (t_X6_byteAt l dC dI sa hlt g _ _ tt ln h0 k2 tp z_5 _ (hT.sub [0, 1] rfl)  hk_h0_1 ((hF.1 h0 (hT0.at 0 rfl).1 6 (hT0.at 0 rfl).2 0 (by decide)).trans h_tp) ((ia_eq (hF.2 tp (hT0.at 1 rfl).1 0 _ _ (hT0.at 1 rfl).2 (by decide))).trans hta) ⟨hz6, hnn.2⟩) (cwV 1 hts gX6_split_X6_byteAt rfl rfl rfl (by decide +kernel) ⟨Nat.le_of_ble_eq_true rfl, Nat.le_of_ble_eq_true rfl⟩) hP hD hK hS hA hev hT 0 6 rfl rfl rfl rfl hl.1 rfl (Nat.le_of_ble_eq_true rfl) dX6_split_53 ⟨Nat.le_of_ble_eq_true rfl, Nat.le_of_ble_eq_true rfl⟩ (fun r L_72 f_73 H locs hw_74 hP hD hS hT hE1 => ?_)
          have hF := Fr.call hF hE hw_74.2.1 (by decide)
          have hE := hE.tr hE1
          obtain ⟨⟨z_75, rfl⟩, hw_74⟩ := hw_74
          obtain ⟨hfr_76, hex_77⟩ := hw_74
          have hk_78 : rd f_73 h0 1 = .int z_5 := (hfr_76.1 h0 (hTo.at 0 rfl).1 6 (hTo.at 0 rfl).2 1 (by decide)).trans hk_h0_1
          have hk_79 : rd f_73 h0 2 = .int k2 := (hfr_76.1 h0 (hTo.at 0 rfl).1 6 (hTo.at 0 rfl).2 2 (by decide)).trans hk_h0_2
          have hk_80 : rd f_73 h0 3 = .int k3 := (hfr_76.1 h0 (hTo.at 0 rfl).1 6 (hTo.at 0 rfl).2 3 (by decide)).trans hk_h0_3
          have hak_81 : f_73 ka = f1 ka := (hfr_76.2 ka (hTo.at 2 rfl).1 _ _ _ (hTo.at 2 rfl).2 (by decide)).trans rfl
          have hak_82 : f_73 sta = f1 sta := (hfr_76.2 sta (hTo.at 3 rfl).1 _ _ _ (hTo.at 3 rfl).2 (by decide)).trans rfl
          have hak_83 : f_73 vaa = f1 vaa := (hfr_76.2 vaa (hTo.at 4 rfl).1 _ _ _ (hTo.at 4 rfl).2 (by decide)).trans rfl
          have hby_84 : z_75 = tt p1 := bt_tt (sv (hex_77 p1 (by omega) hq2)) hp6
          refine W.eq (g2 := F0 m 56 ls [.int z_75]) rfl ?_
          have hTo := hT
          refine K_S ⟨hx, hb, hml, hown, hts⟩ (t_X6_isBlank l dC dI sa hlt g _ _ z_75 _ (hT.sub [] rfl)  ) (va_cwS 1 hts gX6_split_X6_isBlank rfl rfl rfl (by decide +kernel) ⟨Nat.le_of_ble_eq_true rfl, Nat.le_of_ble_eq_true rfl⟩) hP hD hK hS hA hev hT rfl hl.1 rfl (Nat.le_of_ble_eq_true rfl) dX6_split_56 ⟨Nat.le_of_ble_eq_true rfl, Nat.le_of_ble_eq_true rfl⟩ (fun r L_85 f_86 H locs hw_87 hP hD hS hT hE1 => ?_)
          have hF := Fr.call hF hE hw_87.2 (by decide)
          have hE := hE.tr hE1
          obtain ⟨⟨rfl, hz2_88⟩ | ⟨rfl, hz2_88⟩, hw_87⟩ := hw_87
          · have hk_89 : rd f_86 h0 1 = .int z_5 := (hw_87.1 h0 (hTo.at 0 rfl).1 6 (hTo.at 0 rfl).2 1 (by decide)).trans hk_78
            have hk_90 : rd f_86 h0 2 = .int k2 := (hw_87.1 h0 (hTo.at 0 rfl).1 6 (hTo.at 0 rfl).2 2 (by decide)).trans hk_79
            have hk_91 : rd f_86 h0 3 = .int k3 := (hw_87.1 h0 (hTo.at 0 rfl).1 6 (hTo.at 0 rfl).2 3 (by decide)).trans hk_80
            have hak_92 : f_86 ka = f1 ka := (hw_87.2 ka (hTo.at 2 rfl).1 _ _ _ (hTo.at 2 rfl).2 (by decide)).trans hak_81
            have hak_93 : f_86 sta = f1 sta := (hw_87.2 sta (hTo.at 3 rfl).1 _ _ _ (hTo.at 3 rfl).2 (by decide)).trans hak_82
            have hak_94 : f_86 vaa = f1 vaa := (hw_87.2 vaa (hTo.at 4 rfl).1 _ _ _ (hTo.at 4 rfl).2 (by decide)).trans hak_83
            refine W.eq (g2 := F0 m 59 ls [.int 0]) rfl ?_
            refine lv_if_eq (tgt := 75) hx hb dX6_split_59 (by decide) (fun c_95 => ?_) (fun c_95 => ?_)
            rotate_left
            · exact absurd c_95 (by decide)
            have hsj : Sj tt ln j1 = p1 := by rw [← hq8]; exact re_stop (Q := fun x => isB (tt x)) (Or.inr (by show isB (tt p1) = false; rw [← hby_84]; exact hz2_88))
            refine lv_aload_n hx hb dX6_split_75 rfl (lv_at hl 1 rfl) ?_
            have hTo := hT
            refine K_V ⟨hx, hb, hml, hown, hts⟩ (t_X6_addToken l dC dI sa hlt g _ _ tt ln p1 j1 h0 tp ka sta vaa z_5 k2 k3 _ (hT.sub [0, 1, 2, 3, 4] rfl)  hk_89 hk_90 hk_91 ((hF.1 h0 (hT0.at 0 rfl).1 6 (hT0.at 0 rfl).2 0 (by decide)).trans h_tp) ((hF.1 h0 (hT0.at 0 rfl).1 6 (hT0.at 0 rfl).2 4 (by decide)).trans h_ka) ((hF.1 h0 (hT0.at 0 rfl).1 6 (hT0.at 0 rfl).2 5 (by decide)).trans h_sta) ((hF.1 h0 (hT0.at 0 rfl).1 6 (hT0.at 0 rfl).2 6 (by decide)).trans h_vaa) ((ia_eq (hF.2 tp (hT0.at 1 rfl).1 0 _ _ (hT0.at 1 rfl).2 (by decide))).trans hta) ⟨hz6, hnn.2⟩ hds ⟨hq2, hp6⟩ ⟨hq3, by omega⟩) (cwV 0 hts gX6_split_X6_addToken rfl rfl rfl (by decide +kernel) ⟨Nat.le_of_ble_eq_true rfl, Nat.le_of_ble_eq_true rfl⟩) hP hD hK hS hA hev hT 0 6 rfl rfl rfl rfl hl.1 rfl (Nat.le_of_ble_eq_true rfl) dX6_split_76 ⟨Nat.le_of_ble_eq_true rfl, Nat.le_of_ble_eq_true rfl⟩ (fun r L_96 f_97 H locs hw_98 hP hD hS hT hE1 => ?_)
            have hF := Fr.call hF hE hw_98.2.1 (by decide)
            have hE := hE.tr hE1
            obtain ⟨rfl, hw_98⟩ := hw_98
            obtain ⟨hfr_99, a0_100, zz_101, hk_102, hk_103, hrel_104, hrel_105, hex_106⟩ := hw_98
            have hk_107 : rd f_97 h0 1 = .int z_5 := (hfr_99.1 h0 (hTo.at 0 rfl).1 6 (hTo.at 0 rfl).2 1 (by decide)).trans hk_89
            refine W.eq (g2 := F0 m 79 ls []) rfl ?_
            refine lv_iinc (v := (ii + 1)) (lv' := [(2, .int (ii + 1)), (0, .ref h0), (1, .int nn)]) hx hb dX6_split_79 hl (k := 0) rfl rfl (by decide) rfl (fun ls hl => ?_)
            refine lv_goto (tgt := 29) hx hb dX6_split_82 (by decide) ?_
            exact ih (ii + 1) a0_100 zz_101 _ _ _ _ _ (⟨nx tt ln p1, j1 + 1, i1 + 1, by rw [hq1]; exact nI_1 i1, hex_106.2.1, hex_106.2.2, by have := (nx_le (t := tt) hp6).1; omega, by have := (nx_le (t := tt) hp6).1; omega, (nx_le hp6).2, by omega, by show _ = nq tt ln (Sj tt ln j1); rw [hsj]; exact (if_pos hp6).symm, hq9.up (LAY.of hak_92 hak_93 hak_94 hex_106.1) hsj⟩) hk_107 hk_102 hk_103 hP hD hS (hT.sub [0, 1, 2, 3, 4] rfl) hE hF (lv_sub hl [0, 1, 2] rfl)
          · have hk_108 : rd f_86 h0 1 = .int z_5 := (hw_87.1 h0 (hTo.at 0 rfl).1 6 (hTo.at 0 rfl).2 1 (by decide)).trans hk_78
            have hk_109 : rd f_86 h0 2 = .int k2 := (hw_87.1 h0 (hTo.at 0 rfl).1 6 (hTo.at 0 rfl).2 2 (by decide)).trans hk_79
            have hk_110 : rd f_86 h0 3 = .int k3 := (hw_87.1 h0 (hTo.at 0 rfl).1 6 (hTo.at 0 rfl).2 3 (by decide)).trans hk_80
            have hak_111 : f_86 ka = f1 ka := (hw_87.2 ka (hTo.at 2 rfl).1 _ _ _ (hTo.at 2 rfl).2 (by decide)).trans hak_81
            have hak_112 : f_86 sta = f1 sta := (hw_87.2 sta (hTo.at 3 rfl).1 _ _ _ (hTo.at 3 rfl).2 (by decide)).trans hak_82
            have hak_113 : f_86 vaa = f1 vaa := (hw_87.2 vaa (hTo.at 4 rfl).1 _ _ _ (hTo.at 4 rfl).2 (by decide)).trans hak_83
            refine W.eq (g2 := F0 m 59 ls [.int 1]) rfl ?_
            refine lv_if_eq (tgt := 75) hx hb dX6_split_59 (by decide) (fun c_114 => ?_) (fun c_114 => ?_)
            · exact absurd c_114 (by decide)
            refine lv_aload_n hx hb dX6_split_62 rfl (lv_at hl 1 rfl) ?_
            refine lv_dup hx hb dX6_split_63 rfl ?_
            refine T_get (ci := 6) (C := RX6) (T := TX6) (N := 7) (t := tI) hx hb hts inw_X6_split_6 hown hK hP hT 0 rfl rfl 2 (by decide) (hts (.fieldLink RX6 38 "VatHouse$Tokens" "at" "I") (List.mem_of_getElem? (i := 10) (by exact rfl))) (fun _ h9 => h9) rfl dX6_split_64 (fun v_117 hv_115 hr_116 => ?_)
            obtain rfl : v_117 = .int k2 := hr_116.symm.trans hk_109
            refine lv_iconst (v := 1) hx hb dX6_split_67 (by decide) ?_
            refine lv_iadd hx hb dX6_split_68 ?_
            refine lv_topi (fun z_118 ez_118 => ?_)
            have hTo := hT
            refine T_put (ci := 6) (v := .int z_118) (ty := .int) (t := tI) (C := RX6) (T := TX6) (N := 7) hx hb hts inw_X6_split_6 tyX6 tyX6_ok nmX6 hown hK hP hD hS hT 0 rfl rfl 2 (by decide) (hts (.fieldLink RX6 38 "VatHouse$Tokens" "at" "I") (List.mem_of_getElem? (i := 10) (by exact rfl))) (fun _ h9 => h9) rfl (tyX6_ok 2 (by decide)) rfl rfl rfl ⟨_, rfl⟩ dX6_split_69 (fun f_119 H locs hP hD hS hT hE1 hrd_120 hup_121 => ?_)
            have hF := Fr.put (a := h0) (ci := 6) hF hE ((hE1 h0 (hT.at 0 rfl).1).2.symm.trans (hT.at 0 rfl).2) (by decide) hrd_120 hup_121
            have hE := hE.tr hE1
            have hk_122 : rd f_119 h0 1 = .int z_5 := ((Fr.put (cs := [(6, 2)]) (a := h0) (ci := 6) Fr.rf Ext.rf (hTo.at 0 rfl).2 (by decide) hrd_120 hup_121).1 h0 (hTo.at 0 rfl).1 6 (hTo.at 0 rfl).2 1 (by decide)).trans hk_108
            have hk_123 : rd f_119 h0 2 = .int z_118 := (hrd_120 h0 2).trans (if_pos ⟨rfl, rfl⟩)
            have hk_124 : rd f_119 h0 3 = .int k3 := ((Fr.put (cs := [(6, 2)]) (a := h0) (ci := 6) Fr.rf Ext.rf (hTo.at 0 rfl).2 (by decide) hrd_120 hup_121).1 h0 (hTo.at 0 rfl).1 6 (hTo.at 0 rfl).2 3 (by decide)).trans hk_110
            have hak_125 : f_119 ka = f1 ka := (hup_121 ka (ne_sh (hT0.at 2 rfl).2 (hT0.at 0 rfl).2 (by intro h9; cases h9))).trans hak_111
            have hak_126 : f_119 sta = f1 sta := (hup_121 sta (ne_sh (hT0.at 3 rfl).2 (hT0.at 0 rfl).2 (by intro h9; cases h9))).trans hak_112
            have hak_127 : f_119 vaa = f1 vaa := (hup_121 vaa (ne_sh (hT0.at 4 rfl).2 (hT0.at 0 rfl).2 (by intro h9; cases h9))).trans hak_113
            refine lv_goto (tgt := 79) hx hb dX6_split_72 (by decide) ?_
            refine lv_iinc (v := (ii + 1)) (lv' := [(2, .int (ii + 1)), (0, .ref h0), (1, .int nn)]) hx hb dX6_split_79 hl (k := 0) rfl rfl (by decide) rfl (fun ls hl => ?_)
            refine lv_goto (tgt := 29) hx hb dX6_split_82 (by decide) ?_
            exact ih (ii + 1) z_118 k3 _ _ _ _ _ (⟨p1 + 1, j1, i1 + 1, by rw [hq1]; exact nI_1 i1, by rw [ez_118, hq2]; exact nI_1 p1, hq3, by omega, by omega, by omega, by omega, by rw [← hq8]; exact (re_go (Q := fun x => isB (tt x)) hp6 (by show isB (tt p1) = true; rw [← hby_84]; exact hz2_88)).symm, hq9.go hak_125 hak_126 hak_127⟩) hk_122 hk_123 hk_124 hP hD hS (hT.sub [0, 1, 2, 3, 4] rfl) hE hF (lv_sub hl [0, 1, 2] rfl)
  exact lp (ln + 1) 0 0 0 _ _ _ _ _ (⟨0, 0, 0, nI_0.symm, nI_0.symm, nI_0.symm, by omega, by omega, by omega, by omega, rfl, fun x9 hx9 => absurd hx9 (by omega)⟩) hk_24 hk_25 hk_26 hP hD hS (hT.sub [0, 1, 2, 3, 4] rfl) hE hF (lv_sub hl [0, 1, 2] rfl)
