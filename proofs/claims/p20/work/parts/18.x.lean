/-- the bytes of a number, the first of them first -/
noncomputable def b8 (x : Int32) (i : Nat) : Int32 := vp_nar .byte (x >>> ((24 - 8 * nI i) &&& 31)).toInt8.toInt32
noncomputable def apF (b : Int32 → Nat → Int32) (t : Nat → Int32) (n : Nat) (x : Int32) : Nat → (Nat → Int32)
  | 0 => t
  | i + 1 => upd (apF b t n x i) (n + i) (b x i)
noncomputable def APX (f f1 : Nat → va_E) (tp : Nat) (tl k1 sh fb : Int32) : Prop := ∀ nn : Nat, tl = nI nn → nn ≤ 1496 → ∃ i : Nat, i ≤ 4 ∧ sh = 24 - 8 * nI i ∧ k1 = nI (nn + i) ∧ ia f1 tp = apF b8 (ia f tp) nn fb i
theorem shv_nx : ∀ i : Nat, i < 5 → (24 - 8 * nI i + -8 : Int32) = 24 - 8 * nI (i + 1) := by decide +kernel
theorem shv_4 : ∀ i : Nat, i < 5 → ((24 - 8 * nI i : Int32) < 0 ↔ i = 4) := by decide +kernel
theorem APX.no {f f1 f2 : Nat → va_E} {tp : Nat} {tl k1 k2 sh sh2 fb : Int32} (h : APX f f1 tp tl k1 sh fb) (h0 : ¬ sh < 0) (hk : k1 < 0 ∨ 1500 ≤ k1) : APX f f2 tp tl k2 sh2 fb := by
  intro nn h1 h2
  obtain ⟨i, g1, g2, g3, -⟩ := h nn h1 h2
  rw [g2, shv_4 i (by omega)] at h0
  rcases hk with hk | hk
  · rw [g3] at hk; exact absurd hk (nI_pos (by omega))
  · rw [g3] at hk
    have hk : nI 1500 ≤ nI (nn + i) := hk
    rw [nI_leI (by omega) (by omega)] at hk
    omega
theorem APX.nx {f f1 f2 : Nat → va_E} {tp : Nat} {tl k1 k2 sh fb z1 z2 : Int32} (h : APX f f1 tp tl k1 sh fb) (h0 : ¬ sh < 0) (hz1 : z1 = fb >>> (sh &&& 31)) (hz2 : z2 = z1.toInt8.toInt32) (hf : ia f2 tp = upd (ia f1 tp) k1.toNatClampNeg (vp_nar .byte z2)) (hk : k2 = k1 + 1) : APX f f2 tp tl k2 (sh + -8) fb := by
  intro nn h1 h2
  obtain ⟨i, g1, g2, g3, g4⟩ := h nn h1 h2
  rw [g2, shv_4 i (by omega)] at h0
  refine ⟨i + 1, by omega, by rw [g2]; exact shv_nx i (by omega), by rw [hk, g3]; exact nI_1 _, ?_⟩
  rw [hf, g3, nI_clamp (by omega), g4, hz2, hz1, g2]
  rfl
theorem APX.e {f f1 : Nat → va_E} {tp : Nat} {tl k1 sh fb : Int32} (h : APX f f1 tp tl k1 sh fb) (h0 : sh < 0) (nn : Nat) (h1 : tl = nI nn) (h2 : nn ≤ 1496) : k1 = nI (nn + 4) ∧ ia f1 tp = apF b8 (ia f tp) nn fb 4 := by
  obtain ⟨i, g1, g2, g3, g4⟩ := h nn h1 h2
  rw [g2, shv_4 i (by omega)] at h0
  subst h0
  exact ⟨g3, g4⟩
/-- twenty bytes -/
noncomputable def ap5 (b : Int32 → Nat → Int32) (t : Nat → Int32) (n : Nat) (x1 x2 x3 x4 x5 : Int32) : Nat → Int32 := apF b (apF b (apF b (apF b (apF b t n x1 4) (n + 4) x2 4) (n + 8) x3 4) (n + 12) x4 4) (n + 16) x5 4

noncomputable abbrev rm_X9_appendX : Room := { frames := 0, cells := 0, slots := 0, locals := 0 }
set_option maxHeartbeats 800000 in
set_option maxRecDepth 100000 in
theorem t_X9_appendX (l : Launch) (dC : Nat → ClassId) (dI : Nat → Nat → Nat) (sa : Nat → Nat) (hlt : l.stackTraces = false) (g : Nat → Nat) (L : List Nat) (f : Nat → va_E) (h0 : Nat) (fb : Int32) (tp : Nat) (tl : Int32) (sz : Nat) (hT : TP g L f [(h0, (0, 9, 0)), (tp, (1, g 1, 1500))]) (hm_tl : rd f h0 5 = .int tl) (h_tp : rd f h0 4 = .ref tp) : KC l dC dI sa g yX9_append wsX9_append rm_X9_appendX [.ref h0, .int fb] L f sz (fun r L' f' => (r = none) ∧ Fr [(9, 5), (100, 1500)] L f f' ∧ (∃ tl' : Int32, rd f' h0 5 = .int tl' ∧ (0 ≤ tl.toInt → tl.toInt ≤ 1496 → tl'.toInt = tl.toInt + 4) ∧ (∀ nn : Nat, tl = nI nn → nn ≤ 1496 → tl' = nI (nn + 4) ∧ ia f' tp = apF b8 (ia f tp) nn fb 4))) 0 0 := by
  refine CT.start (cc := cX9_append) (maxL := 3) (ret := none) (by decide) rfl (Nat.le_of_ble_eq_true rfl) ?_
  intro p e s m below meth c ls hst hP hK hD hev hS hl
  obtain ⟨hx, hb, hr, hml, hts, hown, hlocks, hin⟩ := hst
  have hown : s.vm.findClass RX9 = some m.cls := hown
  have hin : meth.name = yX9_append.name := hin
  have hA : ∀ q : Nat, s.heap.size ≤ q → va_A (va_pl L f) s.heap.size q := fun _ h => Or.inr h
  have hE : Ext L f L f := Ext.rf
  have hF : Fr [(9, 5), (100, 1500)] L f f := Fr.rf
  have hl : lv_has ls 3 [(0, .ref h0), (1, .int fb)] := hl
  have hT0 := hT
  refine lv_bipush (v := 24) hx hb dX9_append_0 (by decide) ?_
  refine lv_istore_n (lv' := [(2, .int 24), (0, .ref h0), (1, .int fb)]) hx hb dX9_append_2 rfl hl (by decide) rfl (fun ls hl => ?_)
  have lp : ∀ (n : Nat) (sh : Int32) (k1 : Int32) (L1 : List Nat) (f1 : Nat → va_E) (H : Heap) (locs : List Loc) (ls : Array Slot), (Ap tl k1 sh n) → rd f1 h0 5 = .int k1 → (APX f f1 tp tl k1 sh fb) → va_P (dC, dI) vwCl (va_pl L1 f1) H → va_D (va_A (va_pl L f) s.heap.size) (va_pl L1 f1) → va_S (va_A (va_pl L f) s.heap.size) s.heap H locs → TP g L1 f1 [(h0, (0, 9, 0)), (tp, (1, g 1, 1500))] → Ext L f L1 f1 → Fr [(9, 5), (100, 1500)] L f f1 → lv_has ls 3 [(2, .int sh), (0, .ref h0), (1, .int fb)] → W p l e rm_X9_appendX s m [.ref h0, .int fb].toArray below meth c H locs 0 0 (MQ below (Qg (kpost g L f (fun r L' f' => (r = none) ∧ Fr [(9, 5), (100, 1500)] L f f' ∧ (∃ tl' : Int32, rd f' h0 5 = .int tl' ∧ (0 ≤ tl.toInt → tl.toInt ≤ 1496 → tl'.toInt = tl.toInt + 4) ∧ (∀ nn : Nat, tl = nI nn → nn ≤ 1496 → tl' = nI (nn + 4) ∧ ia f' tp = apF b8 (ia f tp) nn fb 4)))) (fun (u : PL) t => QW dC dI (va_A (va_pl L f) s.heap.size) (va_pl u.1 u.2) [] t) (va_A (va_pl L f) s.heap.size)) [.ref h0, .int fb].toArray s (0) (0) (va_A (va_pl L f) s.heap.size)) (F0 m 3 ls []) := by
    intro n
    induction n with
    | zero => intro sh k1 L1 f1 H locs ls hm hk_h0_5 hq hP hD hS hT hE hF hl; exact hm.z.elim
    | succ n ih =>
      intro sh k1 L1 f1 H locs ls hm hk_h0_5 hq hP hD hS hT hE hF hl
      refine lv_iload_n hx hb dX9_append_3 rfl (lv_at hl 0 rfl) ?_
      refine lv_if_lt (tgt := 55) hx hb dX9_append_4 (by decide) (fun c_1 => ?_) (fun c_1 => ?_)
      · exact K_v hx hb hr hlocks hP hD hK hS hT hE ⟨rfl, hF, _, hk_h0_5, hm.e c_1, hq.e c_1⟩ (Nat.le_of_ble_eq_true rfl) (Nat.le_of_ble_eq_true rfl) dX9_append_55
      · refine lv_aload_n hx hb dX9_append_7 rfl (lv_at hl 1 rfl) ?_
        refine T_get (ci := 9) (C := RX9) (T := TX9) (N := 11) (t := tI) hx hb hts inw_X9_append_9 hown hK hP hT 0 rfl rfl 5 (by decide) (hts (.fieldLink RX9 124 "VatHouse" "tapeLength" "I") (List.mem_of_getElem? (i := 1) (by exact rfl))) (fun _ h9 => h9) rfl dX9_append_8 (fun v_4 hv_2 hr_3 => ?_)
        obtain rfl : v_4 = .int k1 := hr_3.symm.trans hk_h0_5
        refine lv_if_lt (tgt := 49) hx hb dX9_append_11 (by decide) (fun c_5 => ?_) (fun c_5 => ?_)
        · refine lv_iinc (v := (sh + (-8))) (lv' := [(2, .int (sh + (-8))), (0, .ref h0), (1, .int fb)]) hx hb dX9_append_49 hl (k := 0) rfl rfl (by decide) rfl (fun ls hl => ?_)
          refine lv_goto (tgt := 3) hx hb dX9_append_52 (by decide) ?_
          exact ih (sh + (-8)) k1 _ _ _ _ _ (hm.nx c_1 (ap_a c_5)) hk_h0_5 (hq.no c_1 (Or.inl c_5)) hP hD hS (hT.sub [0, 1] rfl) hE hF (lv_sub hl [0, 1, 2] rfl)
        · refine lv_aload_n hx hb dX9_append_14 rfl (lv_at hl 1 rfl) ?_
          refine T_get (ci := 9) (C := RX9) (T := TX9) (N := 11) (t := tI) hx hb hts inw_X9_append_9 hown hK hP hT 0 rfl rfl 5 (by decide) (hts (.fieldLink RX9 124 "VatHouse" "tapeLength" "I") (List.mem_of_getElem? (i := 1) (by exact rfl))) (fun _ h9 => h9) rfl dX9_append_15 (fun v_8 hv_6 hr_7 => ?_)
          obtain rfl : v_8 = .int k1 := hr_7.symm.trans hk_h0_5
          refine lv_aload_n hx hb dX9_append_18 rfl (lv_at hl 1 rfl) ?_
          refine T_get (ci := 9) (C := RX9) (T := TX9) (N := 11) (t := (1, 1, g 1, 1500)) hx hb hts inw_X9_append_9 hown hK hP hT 0 rfl rfl 4 (by decide) (hts (.fieldLink RX9 22 "VatHouse" "tape" "[B") (List.mem_of_getElem? (i := 2) (by exact rfl))) (fun _ h9 => h9) rfl dX9_append_19 (fun v_11 hv_9 hr_10 => ?_)
          obtain rfl : v_11 = .ref tp := hr_10.symm.trans ((hF.1 h0 (hT0.at 0 rfl).1 9 (hT0.at 0 rfl).2 4 (by decide)).trans h_tp)
          refine T_alen hx hb hK hP hT 1 1 rfl rfl (v := 1500) rfl dX9_append_22 ?_
          refine lv_icmp_ge (tgt := 49) hx hb dX9_append_23 (by decide) (fun c_12 => ?_) (fun c_12 => ?_)
          · refine lv_iinc (v := (sh + (-8))) (lv' := [(2, .int (sh + (-8))), (0, .ref h0), (1, .int fb)]) hx hb dX9_append_49 hl (k := 0) rfl rfl (by decide) rfl (fun ls hl => ?_)
            refine lv_goto (tgt := 3) hx hb dX9_append_52 (by decide) ?_
            exact ih (sh + (-8)) k1 _ _ _ _ _ (hm.nx c_1 (ap_b c_12)) hk_h0_5 (hq.no c_1 (Or.inr c_12)) hP hD hS (hT.sub [0, 1] rfl) hE hF (lv_sub hl [0, 1, 2] rfl)
          · refine lv_aload_n hx hb dX9_append_26 rfl (lv_at hl 1 rfl) ?_
            refine T_get (ci := 9) (C := RX9) (T := TX9) (N := 11) (t := (1, 1, g 1, 1500)) hx hb hts inw_X9_append_9 hown hK hP hT 0 rfl rfl 4 (by decide) (hts (.fieldLink RX9 22 "VatHouse" "tape" "[B") (List.mem_of_getElem? (i := 2) (by exact rfl))) (fun _ h9 => h9) rfl dX9_append_27 (fun v_15 hv_13 hr_14 => ?_)
            obtain rfl : v_15 = .ref tp := hr_14.symm.trans ((hF.1 h0 (hT0.at 0 rfl).1 9 (hT0.at 0 rfl).2 4 (by decide)).trans h_tp)
            refine lv_aload_n hx hb dX9_append_30 rfl (lv_at hl 1 rfl) ?_
            refine T_get (ci := 9) (C := RX9) (T := TX9) (N := 11) (t := tI) hx hb hts inw_X9_append_9 hown hK hP hT 0 rfl rfl 5 (by decide) (hts (.fieldLink RX9 124 "VatHouse" "tapeLength" "I") (List.mem_of_getElem? (i := 1) (by exact rfl))) (fun _ h9 => h9) rfl dX9_append_31 (fun v_18 hv_16 hr_17 => ?_)
            obtain rfl : v_18 = .int k1 := hr_17.symm.trans hk_h0_5
            refine lv_iload_n hx hb dX9_append_34 rfl (lv_at hl 2 rfl) ?_
            refine lv_iload_n hx hb dX9_append_35 rfl (lv_at hl 0 rfl) ?_
            refine lv_ishr hx hb dX9_append_36 ?_
            refine lv_topi (fun z_19 ez_19 => ?_)
            refine lv_i2b (v := (z_19).toInt8.toInt32) hx hb dX9_append_37 rfl ?_
            refine lv_topi (fun z_20 ez_20 => ?_)
            have hTo := hT
            refine T_bast hx hb hK hP hD hS hT 1 1 rfl rfl (vin 1500 (by decide) rfl (by assumption) (by assumption)) dX9_append_38 (fun f_21 H locs hP hD hS hT hE1 hrd_22 hup_23 hia_24 => ?_)
            have hF := Fr.arr (a := tp) hF hE ((hE1 tp (hT.at 1 rfl).1).2.symm.trans (hT.at 1 rfl).2) (by decide) hrd_22 hup_23
            have hE := hE.tr hE1
            have hk_25 : rd f_21 h0 5 = .int k1 := (hrd_22 h0 5).trans hk_h0_5
            refine lv_aload_n hx hb dX9_append_39 rfl (lv_at hl 1 rfl) ?_
            refine lv_dup hx hb dX9_append_40 rfl ?_
            refine T_get (ci := 9) (C := RX9) (T := TX9) (N := 11) (t := tI) hx hb hts inw_X9_append_9 hown hK hP hT 0 rfl rfl 5 (by decide) (hts (.fieldLink RX9 124 "VatHouse" "tapeLength" "I") (List.mem_of_getElem? (i := 1) (by exact rfl))) (fun _ h9 => h9) rfl dX9_append_41 (fun v_28 hv_26 hr_27 => ?_)
            obtain rfl : v_28 = .int k1 := hr_27.symm.trans hk_25
            refine lv_iconst (v := 1) hx hb dX9_append_44 (by decide) ?_
            refine lv_iadd hx hb dX9_append_45 ?_
            refine lv_topi (fun z_29 ez_29 => ?_)
            have hTo := hT
            refine T_put (ci := 9) (v := .int z_29) (ty := .int) (t := tI) (C := RX9) (T := TX9) (N := 11) hx hb hts inw_X9_append_9 tyX9 tyX9_ok nmX9 hown hK hP hD hS hT 0 rfl rfl 5 (by decide) (hts (.fieldLink RX9 124 "VatHouse" "tapeLength" "I") (List.mem_of_getElem? (i := 1) (by exact rfl))) (fun _ h9 => h9) rfl (tyX9_ok 5 (by decide)) rfl rfl rfl ⟨_, rfl⟩ dX9_append_46 (fun f_30 H locs hP hD hS hT hE1 hrd_31 hup_32 => ?_)
            have hF := Fr.put (a := h0) (ci := 9) hF hE ((hE1 h0 (hT.at 0 rfl).1).2.symm.trans (hT.at 0 rfl).2) (by decide) hrd_31 hup_32
            have hE := hE.tr hE1
            have hk_33 : rd f_30 h0 5 = .int z_29 := (hrd_31 h0 5).trans (if_pos ⟨rfl, rfl⟩)
            refine lv_iinc (v := (sh + (-8))) (lv' := [(2, .int (sh + (-8))), (0, .ref h0), (1, .int fb)]) hx hb dX9_append_49 hl (k := 0) rfl rfl (by decide) rfl (fun ls hl => ?_)
            refine lv_goto (tgt := 3) hx hb dX9_append_52 (by decide) ?_
            exact ih (sh + (-8)) z_29 _ _ _ _ _ (hm.nx c_1 (ap_c c_12 ez_29)) hk_33 (hq.nx c_1 ez_19 ez_20 ((ia_eq (hup_32 tp (ne_sh (hT0.at 1 rfl).2 (hT0.at 0 rfl).2 (by intro h9; cases h9)))).trans hia_24) ez_29) hP hD hS (hT.sub [0, 1] rfl) hE hF (lv_sub hl [0, 1, 2] rfl)
  exact lp 5 24 tl _ _ _ _ _ (⟨0, Or.inl ⟨rfl, rfl⟩, by omega, fun _ _ => by omega⟩) hm_tl (fun nn h1 h2 => ⟨0, by omega, by decide, h1, rfl⟩) hP hD hS (hT.sub [0, 1] rfl) hE hF (lv_sub hl [0, 1, 2] rfl)

noncomputable abbrev rm_X9_putX : Room := { frames := 1, cells := 0, slots := 0, locals := 22 }
set_option maxHeartbeats 800000 in
set_option maxRecDepth 100000 in
theorem t_X9_putX (l : Launch) (dC : Nat → ClassId) (dI : Nat → Nat → Nat) (sa : Nat → Nat) (hlt : l.stackTraces = false) (g : Nat → Nat) (L : List Nat) (f : Nat → va_E) (h0 : Nat) (a : Int32) (b : Int32) (cq : Int32) (dq : Int32) (eq : Int32) (tp : Nat) (tl : Int32) (sz : Nat) (hT : TP g L f [(h0, (0, 9, 0)), (tp, (1, g 1, 1500))]) (hm_tl : rd f h0 5 = .int tl) (h_tp : rd f h0 4 = .ref tp) : KC l dC dI sa g yX9_put wsX9_put rm_X9_putX [.ref h0, .int a, .int b, .int cq, .int dq, .int eq] L f sz (fun r L' f' => (∃ z : Int32, r = some (.int z)) ∧ Fr [(9, 5), (100, 1500)] L f f' ∧ (∃ tl' : Int32, rd f' h0 5 = .int tl' ∧ (0 ≤ tl.toInt → tl.toInt ≤ 1500 → (1480 < tl.toInt ∧ r = some (.int (-1)) ∧ tl' = tl) ∨ (tl.toInt ≤ 1480 ∧ r = some (.int tl') ∧ tl'.toInt = tl.toInt + 20)) ∧ (∀ nn : Nat, tl = nI nn → nn ≤ 1500 → (nn ≤ 1480 → tl' = nI (nn + 20) ∧ ia f' tp = ap5 b8 (ia f tp) nn a b cq dq eq) ∧ (¬ nn ≤ 1480 → tl' = tl ∧ ia f' tp = ia f tp)))) 0 0 := by
  refine CT.start (cc := cX9_put) (maxL := 6) (ret := (some .int)) (by decide) rfl (Nat.le_of_ble_eq_true rfl) ?_
  intro p e s m below meth c ls hst hP hK hD hev hS hl
  obtain ⟨hx, hb, hr, hml, hts, hown, hlocks, hin⟩ := hst
  have hown : s.vm.findClass RX9 = some m.cls := hown
  have hin : meth.name = yX9_put.name := hin
  have hA : ∀ q : Nat, s.heap.size ≤ q → va_A (va_pl L f) s.heap.size q := fun _ h => Or.inr h
  have hE : Ext L f L f := Ext.rf
  have hF : Fr [(9, 5), (100, 1500)] L f f := Fr.rf
  have hl : lv_has ls 6 [(0, .ref h0), (1, .int a), (2, .int b), (3, .int cq), (4, .int dq), (5, .int eq)] := hl
  have hT0 := hT
  refine lv_aload_n hx hb dX9_put_0 rfl (lv_at hl 0 rfl) ?_
  refine T_get (ci := 9) (C := RX9) (T := TX9) (N := 11) (t := tI) hx hb hts inw_X9_put_9 hown hK hP hT 0 rfl rfl 5 (by decide) (hts (.fieldLink RX9 124 "VatHouse" "tapeLength" "I") (List.mem_of_getElem? (i := 1) (by exact rfl))) (fun _ h9 => h9) rfl dX9_put_1 (fun v_3 hv_1 hr_2 => ?_)
  obtain rfl : v_3 = .int tl := hr_2.symm.trans hm_tl
  refine lv_aload_n hx hb dX9_put_4 rfl (lv_at hl 0 rfl) ?_
  refine T_get (ci := 9) (C := RX9) (T := TX9) (N := 11) (t := (1, 1, g 1, 1500)) hx hb hts inw_X9_put_9 hown hK hP hT 0 rfl rfl 4 (by decide) (hts (.fieldLink RX9 22 "VatHouse" "tape" "[B") (List.mem_of_getElem? (i := 2) (by exact rfl))) (fun _ h9 => h9) rfl dX9_put_5 (fun v_6 hv_4 hr_5 => ?_)
  obtain rfl : v_6 = .ref tp := hr_5.symm.trans ((hF.1 h0 (hT0.at 0 rfl).1 9 (hT0.at 0 rfl).2 4 (by decide)).trans h_tp)
  refine T_alen hx hb hK hP hT 1 1 rfl rfl (v := 1500) rfl dX9_put_8 ?_
  refine lv_bipush (v := 20) hx hb dX9_put_9 (by decide) ?_
  refine lv_isub hx hb dX9_put_11 ?_
  refine lv_topi (fun z_7 ez_7 => ?_)
  obtain rfl : z_7 = 1480 := ez_7.trans (by decide)
  refine lv_icmp_le (tgt := 17) hx hb dX9_put_12 (by decide) (fun c_8 => ?_) (fun c_8 => ?_)
  · refine lv_aload_n hx hb dX9_put_17 rfl (lv_at hl 0 rfl) ?_
    refine lv_iload_n hx hb dX9_put_18 rfl (lv_at hl 1 rfl) ?_
    have hTo := hT
    refine K_V ⟨hx, hb, hml, hown, hts⟩ (t_X9_appendX l dC dI sa hlt g _ _ h0 a tp tl _ (hT.sub [0, 1] rfl)  hm_tl ((hF.1 h0 (hT0.at 0 rfl).1 9 (hT0.at 0 rfl).2 4 (by decide)).trans h_tp) ) (cwV 1 hts gX9_put_X9_append rfl rfl rfl (by decide +kernel) ⟨Nat.le_of_ble_eq_true rfl, Nat.le_of_ble_eq_true rfl⟩) hP hD hK hS hA hev hT 0 9 rfl rfl rfl rfl hl.1 rfl (Nat.le_of_ble_eq_true rfl) dX9_put_19 ⟨Nat.le_of_ble_eq_true rfl, Nat.le_of_ble_eq_true rfl⟩ (fun r L_9 f_10 H locs hw_11 hP hD hS hT hE1 => ?_)
    have hF := Fr.call hF hE hw_11.2.1 (by decide)
    have hE := hE.tr hE1
    obtain ⟨rfl, hw_11⟩ := hw_11
    obtain ⟨hfr_12, tl_13, hk_14, hrel_15, hex_16⟩ := hw_11
    refine W.eq (g2 := F0 m 22 ls []) rfl ?_
    refine lv_aload_n hx hb dX9_put_22 rfl (lv_at hl 0 rfl) ?_
    refine lv_iload_n hx hb dX9_put_23 rfl (lv_at hl 2 rfl) ?_
    have hTo := hT
    refine K_V ⟨hx, hb, hml, hown, hts⟩ (t_X9_appendX l dC dI sa hlt g _ _ h0 b tp tl_13 _ (hT.sub [0, 1] rfl)  hk_14 ((hF.1 h0 (hT0.at 0 rfl).1 9 (hT0.at 0 rfl).2 4 (by decide)).trans h_tp) ) (cwV 1 hts gX9_put_X9_append rfl rfl rfl (by decide +kernel) ⟨Nat.le_of_ble_eq_true rfl, Nat.le_of_ble_eq_true rfl⟩) hP hD hK hS hA hev hT 0 9 rfl rfl rfl rfl hl.1 rfl (Nat.le_of_ble_eq_true rfl) dX9_put_24 ⟨Nat.le_of_ble_eq_true rfl, Nat.le_of_ble_eq_true rfl⟩ (fun r L_17 f_18 H locs hw_19 hP hD hS hT hE1 => ?_)
    have hF := Fr.call hF hE hw_19.2.1 (by decide)
    have hE := hE.tr hE1
    obtain ⟨rfl, hw_19⟩ := hw_19
    obtain ⟨hfr_20, tl_21, hk_22, hrel_23, hex_24⟩ := hw_19
    refine W.eq (g2 := F0 m 27 ls []) rfl ?_
    refine lv_aload_n hx hb dX9_put_27 rfl (lv_at hl 0 rfl) ?_
    refine lv_iload_n hx hb dX9_put_28 rfl (lv_at hl 3 rfl) ?_
    have hTo := hT
    refine K_V ⟨hx, hb, hml, hown, hts⟩ (t_X9_appendX l dC dI sa hlt g _ _ h0 cq tp tl_21 _ (hT.sub [0, 1] rfl)  hk_22 ((hF.1 h0 (hT0.at 0 rfl).1 9 (hT0.at 0 rfl).2 4 (by decide)).trans h_tp) ) (cwV 1 hts gX9_put_X9_append rfl rfl rfl (by decide +kernel) ⟨Nat.le_of_ble_eq_true rfl, Nat.le_of_ble_eq_true rfl⟩) hP hD hK hS hA hev hT 0 9 rfl rfl rfl rfl hl.1 rfl (Nat.le_of_ble_eq_true rfl) dX9_put_29 ⟨Nat.le_of_ble_eq_true rfl, Nat.le_of_ble_eq_true rfl⟩ (fun r L_25 f_26 H locs hw_27 hP hD hS hT hE1 => ?_)
    have hF := Fr.call hF hE hw_27.2.1 (by decide)
    have hE := hE.tr hE1
    obtain ⟨rfl, hw_27⟩ := hw_27
    obtain ⟨hfr_28, tl_29, hk_30, hrel_31, hex_32⟩ := hw_27
    refine W.eq (g2 := F0 m 32 ls []) rfl ?_
    refine lv_aload_n hx hb dX9_put_32 rfl (lv_at hl 0 rfl) ?_
    refine lv_iload hx hb dX9_put_33 (lv_at hl 4 rfl) ?_
    have hTo := hT
    refine K_V ⟨hx, hb, hml, hown, hts⟩ (t_X9_appendX l dC dI sa hlt g _ _ h0 dq tp tl_29 _ (hT.sub [0, 1] rfl)  hk_30 ((hF.1 h0 (hT0.at 0 rfl).1 9 (hT0.at 0 rfl).2 4 (by decide)).trans h_tp) ) (cwV 1 hts gX9_put_X9_append rfl rfl rfl (by decide +kernel) ⟨Nat.le_of_ble_eq_true rfl, Nat.le_of_ble_eq_true rfl⟩) hP hD hK hS hA hev hT 0 9 rfl rfl rfl rfl hl.1 rfl (Nat.le_of_ble_eq_true rfl) dX9_put_35 ⟨Nat.le_of_ble_eq_true rfl, Nat.le_of_ble_eq_true rfl⟩ (fun r L_33 f_34 H locs hw_35 hP hD hS hT hE1 => ?_)
    have hF := Fr.call hF hE hw_35.2.1 (by decide)
    have hE := hE.tr hE1
    obtain ⟨rfl, hw_35⟩ := hw_35
    obtain ⟨hfr_36, tl_37, hk_38, hrel_39, hex_40⟩ := hw_35
    refine W.eq (g2 := F0 m 38 ls []) rfl ?_
    refine lv_aload_n hx hb dX9_put_38 rfl (lv_at hl 0 rfl) ?_
    refine lv_iload hx hb dX9_put_39 (lv_at hl 5 rfl) ?_
    have hTo := hT
    refine K_V ⟨hx, hb, hml, hown, hts⟩ (t_X9_appendX l dC dI sa hlt g _ _ h0 eq tp tl_37 _ (hT.sub [0, 1] rfl)  hk_38 ((hF.1 h0 (hT0.at 0 rfl).1 9 (hT0.at 0 rfl).2 4 (by decide)).trans h_tp) ) (cwV 1 hts gX9_put_X9_append rfl rfl rfl (by decide +kernel) ⟨Nat.le_of_ble_eq_true rfl, Nat.le_of_ble_eq_true rfl⟩) hP hD hK hS hA hev hT 0 9 rfl rfl rfl rfl hl.1 rfl (Nat.le_of_ble_eq_true rfl) dX9_put_41 ⟨Nat.le_of_ble_eq_true rfl, Nat.le_of_ble_eq_true rfl⟩ (fun r L_41 f_42 H locs hw_43 hP hD hS hT hE1 => ?_)
    have hF := Fr.call hF hE hw_43.2.1 (by decide)
    have hE := hE.tr hE1
    obtain ⟨rfl, hw_43⟩ := hw_43
    obtain ⟨hfr_44, tl_45, hk_46, hrel_47, hex_48⟩ := hw_43
    refine W.eq (g2 := F0 m 44 ls []) rfl ?_
    refine lv_aload_n hx hb dX9_put_44 rfl (lv_at hl 0 rfl) ?_
    refine T_get (ci := 9) (C := RX9) (T := TX9) (N := 11) (t := tI) hx hb hts inw_X9_put_9 hown hK hP hT 0 rfl rfl 5 (by decide) (hts (.fieldLink RX9 124 "VatHouse" "tapeLength" "I") (List.mem_of_getElem? (i := 1) (by exact rfl))) (fun _ h9 => h9) rfl dX9_put_45 (fun v_51 hv_49 hr_50 => ?_)
    obtain rfl : v_51 = .int tl_45 := hr_50.symm.trans hk_46
    exact K_i hx hb hr hlocks hP hD hK hS hT hE ⟨⟨_, rfl⟩, hF, _, hk_46, fun a9 _ => Or.inr ⟨le80 c_8, rfl, by have h80 := le80 c_8; omega⟩, fun nn h1 h2 => ⟨fun h3 => by have g1 := hex_16 nn h1 (by omega); have g2 := hex_24 (nn + 4) g1.1 (by omega); have g3 := hex_32 (nn + 8) g2.1 (by omega); have g4 := hex_40 (nn + 12) g3.1 (by omega); have g5 := hex_48 (nn + 16) g4.1 (by omega); exact ⟨g5.1, by rw [g5.2, g4.2, g3.2, g2.2, g1.2]; rfl⟩, fun h3 => absurd (by have h9 := le80 c_8; rw [h1, nI_toInt (by omega)] at h9; omega) h3⟩⟩ (Nat.le_of_ble_eq_true rfl) (Nat.le_of_ble_eq_true rfl) dX9_put_48
  · refine lv_iconst (v := (-1)) hx hb dX9_put_15 (by decide) ?_
    exact K_i hx hb hr hlocks hP hD hK hS hT hE ⟨⟨_, rfl⟩, hF, _, hm_tl, fun _ _ => Or.inl ⟨gt80 c_8, rfl, rfl⟩, fun nn h1 h2 => ⟨fun h3 => absurd h3 (by have h9 := gt80 c_8; rw [h1, nI_toInt (by omega)] at h9; omega), fun _ => ⟨rfl, rfl⟩⟩⟩ (Nat.le_of_ble_eq_true rfl) (Nat.le_of_ble_eq_true rfl) dX9_put_16

/-- when recipe reads -/
noncomputable def Cq (a b tl : Int32) : Prop := ¬ a < 0 ∧ ¬ 8 ≤ a ∧ ¬ b < 0 ∧ ¬ tl < b

noncomputable abbrev rm_X9_demandC : Room := { frames := 6, cells := 1, slots := 6, locals := 82 }
set_option maxHeartbeats 800000 in
set_option maxRecDepth 100000 in
theorem t_X9_demandC (l : Launch) (dC : Nat → ClassId) (dI : Nat → Nat → Nat) (sa : Nat → Nat) (hlt : l.stackTraces = false) (g : Nat → Nat) (L : List Nat) (f : Nat → va_E) (b : Int32) (sz : Nat) (hT : TP g L f []) : KX l dC dI sa g yX9_demand wsX9_demand rm_X9_demandC [.int b] L f sz (fun r L' f' => (r = none) ∧ Fr [] L f f' ∧ (¬ b = 0)) (fun E L' f' => ((E = IAE) ∧ (b = 0)) ∧ Fr [] L f f') 1 6 := by
  refine KX.start (cc := cX9_demand) (maxL := 1) (ret := none) (by decide) rfl (Nat.le_of_ble_eq_true rfl) ?_
  intro p e s m below meth c ls hst hno hP hK hD hev hS hl
  obtain ⟨hx, hb, hr, hml, hts, hown, hlocks, hin⟩ := hst
  have hown : s.vm.findClass RX9 = some m.cls := hown
  have hin : meth.name = yX9_demand.name := hin
  have hA : ∀ q : Nat, s.heap.size ≤ q → va_A (va_pl L f) s.heap.size q := fun _ h => Or.inr h
  have hE : Ext L f L f := Ext.rf
  have hF : Fr [] L f f := Fr.rf
  have hl : lv_has ls 1 [(0, .int b)] := hl
  refine lv_iload_n hx hb dX9_demand_0 rfl (lv_at hl 0 rfl) ?_
  refine lv_if_ne (tgt := 14) hx hb dX9_demand_1 (by decide) (fun c_1 => ?_) (fun c_1 => ?_)
  · refine vx_ret ?_
    exact K_v hx hb hr hlocks hP hD hK hS hT hE ⟨rfl, hF, c_1⟩ (Nat.le_of_ble_eq_true rfl) (Nat.le_of_ble_eq_true rfl) dX9_demand_14
  · exact K_x (cls := IAE) hno hx hb hlt hlocks hown hts Bundle.six_0 Bundle.six_1 Bundle.six_2 Bundle.six_5 (by decide +kernel) (hts (.classLink RX9 252 IAE) (List.mem_of_getElem? (i := 1) (by exact rfl))) (hts (.initialized IAE) (List.mem_of_getElem? (i := 2) (by exact rfl))) hev.2.1.2.1 (inx_X9_demand_i) xb_i hev.2.2.1.2.1 xo_i hev (hl.1.trans hml.symm) dX9_demand_4 dX9_demand_7 dX9_demand_8 dX9_demand_10 dX9_demand_13 (Nat.le_of_ble_eq_true rfl) (Nat.le_of_ble_eq_true rfl) (Nat.le_of_ble_eq_true rfl) (Nat.le_of_ble_eq_true rfl) ⟨⟨rfl, c_1⟩, hF⟩ hP hD hK hS hT hE (Nat.le_of_ble_eq_true rfl) (Nat.le_of_ble_eq_true rfl)

theorem rc_ln {b tl : Int32} (h0 : ¬ b < 0) (h1 : ¬ tl < b) (h15 : tl.toInt ≤ 1500) : ∃ ln : Nat, b = nI ln ∧ ln ≤ 1500 := by
  obtain ⟨ln, hln, rfl⟩ := nI_of h0
  refine ⟨ln, rfl, ?_⟩
  rw [Int32.lt_iff_toInt_lt, nI_toInt (by omega)] at h1
  omega

theorem inw_X9_recipe_2 : ∀ w ∈ wsX20, w ∈ wsX9_recipe := fun _ h => List.mem_cons_of_mem _ (List.mem_append_left _ (List.mem_append_left _ (List.mem_append_left _ (List.mem_append_left _ (List.mem_append_right _ h)))))
theorem inw_X9_recipe_3 : ∀ w ∈ wsX30, w ∈ wsX9_recipe := fun _ h => List.mem_cons_of_mem _ (List.mem_append_left _ (List.mem_append_left _ (List.mem_append_left _ (List.mem_append_right _ h))))
theorem inw_X9_recipe_9 : ∀ w ∈ wsX90, w ∈ wsX9_recipe := fun _ h => List.mem_cons_of_mem _ (List.mem_append_left _ (List.mem_append_left _ (List.mem_append_left _ (List.mem_append_left _ (List.mem_append_left _ (List.mem_append_right _ h))))))

noncomputable abbrev rm_X9_faultX : Room := { frames := 6, cells := 1, slots := 6, locals := 82 }
set_option maxHeartbeats 800000 in
set_option maxRecDepth 100000 in
theorem t_X9_faultX (l : Launch) (dC : Nat → ClassId) (dI : Nat → Nat → Nat) (sa : Nat → Nat) (hlt : l.stackTraces = false) (g : Nat → Nat) (L : List Nat) (f : Nat → va_E) (h0 : Nat) (a : Int32) (rdr : Nat) (fa : Int32) (pw : Int32) (sz : Nat) (hT : TP g L f [(h0, (0, 9, 0)), (rdr, (0, 2, 0))]) (hm_fa : rd f rdr 3 = .int fa) (hm_pw : rd f rdr 4 = .int pw) (h_rdr : rd f h0 6 = .ref rdr) : KX l dC dI sa g yX9_fault wsX9_fault rm_X9_faultX [.ref h0, .int a] L f sz (fun r L' f' => (∃ z : Int32, r = some (.int z)) ∧ Fr [] L f f' ∧ ((a = 0 ∧ r = some (.int fa)) ∨ (a = 1 ∧ r = some (.int pw)))) (fun E L' f' => ((E = NSE) ∧ (¬ a = 0 ∧ ¬ a = 1)) ∧ Fr [] L f f') 1 6 := by
  refine KX.start (cc := cX9_fault) (maxL := 2) (ret := (some .int)) (by decide) rfl (Nat.le_of_ble_eq_true rfl) ?_
  intro p e s m below meth c ls hst hno hP hK hD hev hS hl
  obtain ⟨hx, hb, hr, hml, hts, hown, hlocks, hin⟩ := hst
  have hown : s.vm.findClass RX9 = some m.cls := hown
  have hin : meth.name = yX9_fault.name := hin
  have hA : ∀ q : Nat, s.heap.size ≤ q → va_A (va_pl L f) s.heap.size q := fun _ h => Or.inr h
  have hE : Ext L f L f := Ext.rf
  have hF : Fr [] L f f := Fr.rf
  have hl : lv_has ls 2 [(0, .ref h0), (1, .int a)] := hl
  have hT0 := hT
  refine lv_iload_n hx hb dX9_fault_0 rfl (lv_at hl 1 rfl) ?_
  by_cases c_1 : a = 0
  · refine lv_lookup (tgt := 28) hx hb dX9_fault_1 (by decide) (off := 27) (by rw [c_1]; rfl) (by decide) ?_
    refine lv_aload_n hx hb dX9_fault_28 rfl (lv_at hl 0 rfl) ?_
    refine T_get (ci := 9) (C := RX9) (T := TX9) (N := 11) (t := (1, 0, 2, 0)) hx hb hts inw_X9_fault_9 hown hK hP hT 0 rfl rfl 6 (by decide) (hts (.fieldLink RX9 31 "VatHouse" "reader" "LVatHouse$Reader;") (List.mem_of_getElem? (i := 3) (by exact rfl))) (fun _ h9 => h9) rfl dX9_fault_29 (fun v_4 hv_2 hr_3 => ?_)
    obtain rfl : v_4 = .ref rdr := hr_3.symm.trans ((hF.1 h0 (hT0.at 0 rfl).1 9 (hT0.at 0 rfl).2 6 (by decide)).trans h_rdr)
    refine T_get (ci := 2) (C := RX2) (T := TX2) (N := 6) (t := tI) hx hb hts inw_X9_fault_2 hown hK hP hT 1 rfl rfl 3 (by decide) (hts (.fieldLink RX9 134 "VatHouse$Reader" "fault" "I") (List.mem_of_getElem? (i := 4) (by exact rfl))) (fun _ h9 => h9) rfl dX9_fault_32 (fun v_7 hv_5 hr_6 => ?_)
    obtain rfl : v_7 = .int fa := hr_6.symm.trans hm_fa
    refine vx_ret ?_
    exact K_i hx hb hr hlocks hP hD hK hS hT hE ⟨⟨_, rfl⟩, hF, Or.inl ⟨c_1, rfl⟩⟩ (Nat.le_of_ble_eq_true rfl) (Nat.le_of_ble_eq_true rfl) dX9_fault_35
  by_cases c_8 : a = 1
  · refine lv_lookup (tgt := 36) hx hb dX9_fault_1 (by decide) (off := 35) (by rw [c_8]; rfl) (by decide) ?_
    refine lv_aload_n hx hb dX9_fault_36 rfl (lv_at hl 0 rfl) ?_
    refine T_get (ci := 9) (C := RX9) (T := TX9) (N := 11) (t := (1, 0, 2, 0)) hx hb hts inw_X9_fault_9 hown hK hP hT 0 rfl rfl 6 (by decide) (hts (.fieldLink RX9 31 "VatHouse" "reader" "LVatHouse$Reader;") (List.mem_of_getElem? (i := 3) (by exact rfl))) (fun _ h9 => h9) rfl dX9_fault_37 (fun v_11 hv_9 hr_10 => ?_)
    obtain rfl : v_11 = .ref rdr := hr_10.symm.trans ((hF.1 h0 (hT0.at 0 rfl).1 9 (hT0.at 0 rfl).2 6 (by decide)).trans h_rdr)
    refine T_get (ci := 2) (C := RX2) (T := TX2) (N := 6) (t := tI) hx hb hts inw_X9_fault_2 hown hK hP hT 1 rfl rfl 4 (by decide) (hts (.fieldLink RX9 146 "VatHouse$Reader" "place" "I") (List.mem_of_getElem? (i := 5) (by exact rfl))) (fun _ h9 => h9) rfl dX9_fault_40 (fun v_14 hv_12 hr_13 => ?_)
    obtain rfl : v_14 = .int pw := hr_13.symm.trans hm_pw
    refine vx_ret ?_
    exact K_i hx hb hr hlocks hP hD hK hS hT hE ⟨⟨_, rfl⟩, hF, Or.inr ⟨c_8, rfl⟩⟩ (Nat.le_of_ble_eq_true rfl) (Nat.le_of_ble_eq_true rfl) dX9_fault_43
  refine lv_lookup (tgt := 44) hx hb dX9_fault_1 (by decide) (off := 43) (look_out2 c_1 c_8) (by decide) ?_
  exact K_x (cls := NSE) hno hx hb hlt hlocks hown hts xg_0 xg_1 xg_2 xg_5 (by decide +kernel) (hts (.classLink RX9 149 NSE) (List.mem_of_getElem? (i := 1) (by exact rfl))) (hts (.initialized NSE) (List.mem_of_getElem? (i := 2) (by exact rfl))) hev.2.1.2.2.2.1 (inx_X9_fault_9) xb_9 hev.2.2.1.1 xo_9 hev (hl.1.trans hml.symm) dX9_fault_44 dX9_fault_47 dX9_fault_48 dX9_fault_50 dX9_fault_53 (Nat.le_of_ble_eq_true rfl) (Nat.le_of_ble_eq_true rfl) (Nat.le_of_ble_eq_true rfl) (Nat.le_of_ble_eq_true rfl) ⟨⟨rfl, ⟨c_1, c_8⟩⟩, hF⟩ hP hD hK hS hT hE (Nat.le_of_ble_eq_true rfl) (Nat.le_of_ble_eq_true rfl)
