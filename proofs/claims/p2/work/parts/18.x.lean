/-- the bytes of a number, the first of them first -/
def b8 (x : Int32) (i : Nat) : Int32 := vp_nar .byte (x >>> ((24 - 8 * nI i) &&& 31)).toInt8.toInt32
def apF (b : Int32 → Nat → Int32) (t : Nat → Int32) (n : Nat) (x : Int32) : Nat → (Nat → Int32)
  | 0 => t
  | i + 1 => upd (apF b t n x i) (n + i) (b x i)
def APX (f f1 : Nat → va_E) (tp : Nat) (tl k1 sh fb : Int32) : Prop := ∀ nn : Nat, tl = nI nn → nn ≤ 1496 → ∃ i : Nat, i ≤ 4 ∧ sh = 24 - 8 * nI i ∧ k1 = nI (nn + i) ∧ ia f1 tp = apF b8 (ia f tp) nn fb i
theorem shv_nx : ∀ i : Nat, i < 5 → (24 - 8 * nI i + -8 : Int32) = 24 - 8 * nI (i + 1) := by decide +kernel
theorem shv_4 : ∀ i : Nat, i < 5 → ((24 - 8 * nI i : Int32) < 0 ↔ i = 4) := by decide +kernel
theorem APX.no {f f1 f2 : Nat → va_E} {tp : Nat} {tl k1 k2 sh sh2 fb : Int32} (h : APX f f1 tp tl k1 sh fb) (h0 : ¬ sh < 0) (hk : k1 < 0 ∨ 1500 ≤ k1) : APX f f2 tp tl k2 sh2 fb := by
  intro nn h1 h2
  obtain ⟨i, g1, g2, g3, -⟩ := h nn h1 h2
  rw [g2, shv_4 i (by omega)] at h0
  rcases hk with hk | hk
  · rw [g3] at hk; exact absurd hk (nI_pos (by omega))
  · rw [g3] at hk
    have hk : nI 1500 ≤ nI (nn + i) := hk
    rw [nI_leI (by omega) (by omega)] at hk
    omega
theorem APX.nx {f f1 f2 : Nat → va_E} {tp : Nat} {tl k1 k2 sh fb z1 z2 : Int32} (h : APX f f1 tp tl k1 sh fb) (h0 : ¬ sh < 0) (hz1 : z1 = fb >>> (sh &&& 31)) (hz2 : z2 = z1.toInt8.toInt32) (hf : ia f2 tp = upd (ia f1 tp) k1.toNatClampNeg (vp_nar .byte z2)) (hk : k2 = k1 + 1) : APX f f2 tp tl k2 (sh + -8) fb := by
  intro nn h1 h2
  obtain ⟨i, g1, g2, g3, g4⟩ := h nn h1 h2
  rw [g2, shv_4 i (by omega)] at h0
  refine ⟨i + 1, by omega, by rw [g2]; exact shv_nx i (by omega), by rw [hk, g3]; exact nI_1 _, ?_⟩
  rw [hf, g3, nI_clamp (by omega), g4, hz2, hz1, g2]
  rfl
theorem APX.e {f f1 : Nat → va_E} {tp : Nat} {tl k1 sh fb : Int32} (h : APX f f1 tp tl k1 sh fb) (h0 : sh < 0) (nn : Nat) (h1 : tl = nI nn) (h2 : nn ≤ 1496) : k1 = nI (nn + 4) ∧ ia f1 tp = apF b8 (ia f tp) nn fb 4 := by
  obtain ⟨i, g1, g2, g3, g4⟩ := h nn h1 h2
  rw [g2, shv_4 i (by omega)] at h0
  subst h0
  exact ⟨g3, g4⟩
/-- twenty bytes -/
def ap5 (b : Int32 → Nat → Int32) (t : Nat → Int32) (n : Nat) (x1 x2 x3 x4 x5 : Int32) : Nat → Int32 := apF b (apF b (apF b (apF b (apF b t n x1 4) (n + 4) x2 4) (n + 8) x3 4) (n + 12) x4 4) (n + 16) x5 4

abbrev rm_X9_appendX : Room := { frames := 0, cells := 0, slots := 0, locals := 0 }
set_option maxHeartbeats 800000 in
set_option maxRecDepth 100000 in
theorem t_X9_appendX (l : Launch) (dC : Nat → ClassId) (dI : Nat → Nat → Nat) (sa : Nat → Nat) (hlt : l.stackTraces = false) (g : Nat → Nat) (L : List Nat) (f : Nat → va_E) (h0 : Nat) (fb : Int32) (tp : Nat) (tl : Int32) (sz : Nat) (hT : TP g L f [(h0, (0, 9, 0)), (tp, (1, g 1, 1500))]) (hm_tl : rd f h0 5 = .int tl) (h_tp : rd f h0 4 = .ref tp) : KC l dC dI sa g yX9_append wsX9_append rm_X9_appendX [.ref h0, .int fb] L f sz (fun r L' f' => (r = none) ∧ Fr [(9, 5), (100, 1500)] L f f' ∧ (∃ tl' : Int32, rd f' h0 5 = .int tl' ∧ (0 ≤ tl.toInt → tl.toInt ≤ 1496 → tl'.toInt = tl.toInt + 4) ∧ (∀ nn : Nat, tl = nI nn → nn ≤ 1496 → tl' = nI (nn + 4) ∧ ia f' tp = apF b8 (ia f tp) nn fb 4))) 0 0 := by
  refine CT.start (cc := cX9_append) (maxL := 3) (ret := none) (by decide) rfl (Nat.le_of_ble_eq_true rfl) ?_
  intro p e s m below meth c ls hst hP hK hD hev hS hl
  obtain ⟨hx, hb, hr, hml, hts, hown, hlocks, hin⟩ := hst
  have hown : s.vm.findClass RX9 = some m.cls := hown
  have hin : meth.name = yX9_append.name := hin
  have hA : ∀ q : Nat, s.heap.size ≤ q → va_A (va_pl L f) s.heap.size q := fun _ h => Or.inr h
  have hE : Ext L f L f := Ext.rf
  have hF : Fr [(9, 5), (100, 1500)] L f f := Fr.rf
  have hl : lv_has ls 3 [(0, .ref h0), (1, .int fb)] := hl
  have hT0 := hT
  refine lv_bipush (v := 24) hx hb dX9_append_0 (by decide) ?_
  refine lv_istore_n (lv' := [(2, .int 24), (0, .ref h0), (1, .int fb)]) hx hb dX9_append_2 rfl hl (by decide) rfl (fun ls hl => ?_)
  have lp : ∀ (n : Nat) (sh : Int32) (k1 : Int32) (L1 : List Nat) (f1 : Nat → va_E) (H : Heap) (locs : List Loc) (ls : Array Slot), (Ap tl k1 sh n) → rd f1 h0 5 = .int k1 → (APX f f1 tp tl k1 sh fb) → va_P (dC, dI) vwCl (va_pl L1 f1) H → va_D (va_A (va_pl L f) s.heap.size) (va_pl L1 f1) → va_S (va_A (va_pl L f) s.heap.size) s.heap H locs → TP g L1 f1 [(h0, (0, 9, 0)), (tp, (1, g 1, 1500))] → Ext L f L1 f1 → Fr [(9, 5), (100, 1500)] L f f1 → lv_has ls 3 [(2, .int sh), (0, .ref h0), (1, .int fb)] → W p l e rm_X9_appendX s m [.ref h0, .int fb].toArray below meth c H locs 0 0 (MQ below (Qg (kpost g L f (fun r L' f' => (r = none) ∧ Fr [(9, 5), (100, 1500)] L f f' ∧ (∃ tl' : Int32, rd f' h0 5 = .int tl' ∧ (0 ≤ tl.toInt → tl.toInt ≤ 1496 → tl'.toInt = tl.toInt + 4) ∧ (∀ nn : Nat, tl = nI nn → nn ≤ 1496 → tl' = nI (nn + 4) ∧ ia f' tp = apF b8 (ia f tp) nn fb 4)))) (fun (u : PL) t => QW dC dI (va_A (va_pl L f) s.heap.size) (va_pl u.1 u.2) [] t) (va_A (va_pl L f) s.heap.size)) [.ref h0, .int fb].toArray s (0) (0) (va_A (va_pl L f) s.heap.size)) (F0 m 3 ls []) := by
    intro n
    induction n with
    | zero => intro sh k1 L1 f1 H locs ls hm hk_h0_5 hq hP hD hS hT hE hF hl; exact hm.z.elim
    | succ n ih =>
      intro sh k1 L1 f1 H locs ls hm hk_h0_5 hq hP hD hS hT hE hF hl
      refine lv_iload_n hx hb dX9_append_3 rfl (lv_at hl 0 rfl) ?_
      refine lv_if_lt (tgt := 55) hx hb dX9_append_4 (by decide) (fun c_1 => ?_) (fun c_1 => ?_)
      · exact K_v hx hb hr hlocks hP hD hK hS hT hE ⟨rfl, hF, _, hk_h0_5, hm.e c_1, hq.e c_1⟩ (Nat.le_of_ble_eq_true rfl) (Nat.le_of_ble_eq_true rfl) dX9_append_55
      · refine lv_aload_n hx hb dX9_append_7 rfl (lv_at hl 1 rfl) ?_
        refine T_get (ci := 9) (C := RX9) (T := TX9) (N := 11) (t := tI) hx hb hts inw_X9_append_9 hown hK hP hT 0 rfl rfl 5 (by decide) (hts (.fieldLink RX9 124 "VatHouse" "tapeLength" "I") (by decide +kernel)) (fun _ h9 => h9) rfl dX9_append_8 (fun v_4 hv_2 hr_3 => ?_)
        obtain rfl : v_4 = .int k1 := hr_3.symm.trans hk_h0_5
        refine lv_if_lt (tgt := 49) hx hb dX9_append_11 (by decide) (fun c_5 => ?_) (fun c_5 => ?_)
        · refine lv_iinc (v := (sh + (-8))) (lv' := [(2, .int (sh + (-8))), (0, .ref h0), (1, .int fb)]) hx hb dX9_append_49 hl (k := 0) rfl rfl (by decide) rfl (fun ls hl => ?_)
          refine lv_goto (tgt := 3) hx hb dX9_append_52 (by decide) ?_
          exact ih (sh + (-8)) k1 _ _ _ _ _ (hm.nx c_1 (ap_a c_5)) hk_h0_5 (hq.no c_1 (Or.inl c_5)) hP hD hS (hT.sub [0, 1] rfl) hE hF (lv_sub hl [0, 1, 2] rfl)
        · refine lv_aload_n hx hb dX9_append_14 rfl (lv_at hl 1 rfl) ?_
          refine T_get (ci := 9) (C := RX9) (T := TX9) (N := 11) (t := tI) hx hb hts inw_X9_append_9 hown hK hP hT 0 rfl rfl 5 (by decide) (hts (.fieldLink RX9 124 "VatHouse" "tapeLength" "I") (by decide +kernel)) (fun _ h9 => h9) rfl dX9_append_15 (fun v_8 hv_6 hr_7 => ?_)
          obtain rfl : v_8 = .int k1 := hr_7.symm.trans hk_h0_5
          refine lv_aload_n hx hb dX9_append_18 rfl (lv_at hl 1 rfl) ?_
          refine T_get (ci := 9) (C := RX9) (T := TX9) (N := 11) (t := (1, 1, g 1, 1500)) hx hb hts inw_X9_append_9 hown hK hP hT 0 rfl rfl 4 (by decide) (hts (.fieldLink RX9 22 "VatHouse" "tape" "[B") (by decide +kernel)) (fun _ h9 => h9) rfl dX9_append_19 (fun v_11 hv_9 hr_10 => ?_)
          obtain rfl : v_11 = .ref tp := hr_10.symm.trans ((hF.1 h0 (hT0.at 0 rfl).1 9 (hT0.at 0 rfl).2 4 (by decide)).trans h_tp)
          refine T_alen hx hb hK hP hT 1 1 rfl rfl (v := 1500) rfl dX9_append_22 ?_
          refine lv_icmp_ge (tgt := 49) hx hb dX9_append_23 (by decide) (fun c_12 => ?_) (fun c_12 => ?_)
          · refine lv_iinc (v := (sh + (-8))) (lv' := [(2, .int (sh + (-8))), (0, .ref h0), (1, .int fb)]) hx hb dX9_append_49 hl (k := 0) rfl rfl (by decide) rfl (fun ls hl => ?_)
            refine lv_goto (tgt := 3) hx hb dX9_append_52 (by decide) ?_
            exact ih (sh + (-8)) k1 _ _ _ _ _ (hm.nx c_1 (ap_b c_12)) hk_h0_5 (hq.no c_1 (Or.inr c_12)) hP hD hS (hT.sub [0, 1] rfl) hE hF (lv_sub hl [0, 1, 2] rfl)
          · refine lv_aload_n hx hb dX9_append_26 rfl (lv_at hl 1 rfl) ?_
            refine T_get (ci := 9) (C := RX9) (T := TX9) (N := 11) (t := (1, 1, g 1, 1500)) hx hb hts inw_X9_append_9 hown hK hP hT 0 rfl rfl 4 (by decide) (hts (.fieldLink RX9 22 "VatHouse" "tape" "[B") (by decide +kernel)) (fun _ h9 => h9) rfl dX9_append_27 (fun v_15 hv_13 hr_14 => ?_)
            obtain rfl : v_15 = .ref tp := hr_14.symm.trans ((hF.1 h0 (hT0.at 0 rfl).1 9 (hT0.at 0 rfl).2 4 (by decide)).trans h_tp)
            refine lv_aload_n hx hb dX9_append_30 rfl (lv_at hl 1 rfl) ?_
            refine T_get (ci := 9) (C := RX9) (T := TX9) (N := 11) (t := tI) hx hb hts inw_X9_append_9 hown hK hP hT 0 rfl rfl 5 (by decide) (hts (.fieldLink RX9 124 "VatHouse" "tapeLength" "I") (by decide +kernel)) (fun _ h9 => h9) rfl dX9_append_31 (fun v_18 hv_16 hr_17 => ?_)
            obtain rfl : v_18 = .int k1 := hr_17.symm.trans hk_h0_5
            refine lv_iload_n hx hb dX9_append_34 rfl (lv_at hl 2 rfl) ?_
            refine lv_iload_n hx hb dX9_append_35 rfl (lv_at hl 0 rfl) ?_
            refine lv_ishr hx hb dX9_append_36 ?_
            refine lv_topi (fun z_19 ez_19 => ?_)
            refine lv_i2b (v := (z_19).toInt8.toInt32) hx hb dX9_append_37 rfl ?_
            refine lv_topi (fun z_20 ez_20 => ?_)
            have hTo := hT
            refine T_bast hx hb hK hP hD hS hT 1 1 rfl rfl (vin 1500 (by decide) rfl (by assumption) (by assumption)) dX9_append_38 (fun f_21 H locs hP hD hS hT hE1 hrd_22 hup_23 hia_24 => ?_)
            have hF := Fr.arr (a := tp) hF hE ((hE1 tp (hT.at 1 rfl).1).2.symm.trans (hT.at 1 rfl).2) (by decide) hrd_22 hup_23
            have hE := hE.tr hE1
            have hk_25 : rd f_21 h0 5 = .int k1 := (hrd_22 h0 5).trans hk_h0_5
            refine lv_aload_n hx hb dX9_append_39 rfl (lv_at hl 1 rfl) ?_
            refine lv_dup hx hb dX9_append_40 rfl ?_
            refine T_get (ci := 9) (C := RX9) (T := TX9) (N := 11) (t := tI) hx hb hts inw_X9_append_9 hown hK hP hT 0 rfl rfl 5 (by decide) (hts (.fieldLink RX9 124 "VatHouse" "tapeLength" "I") (by decide +kernel)) (fun _ h9 => h9) rfl dX9_append_41 (fun v_28 hv_26 hr_27 => ?_)
            obtain rfl : v_28 = .int k1 := hr_27.symm.trans hk_25
            refine lv_iconst (v := 1) hx hb dX9_append_44 (by decide) ?_
            refine lv_iadd hx hb dX9_append_45 ?_
            refine lv_topi (fun z_29 ez_29 => ?_)
            have hTo := hT
            refine T_put (ci := 9) (v := .int z_29) (ty := .int) (t := tI) (C := RX9) (T := TX9) (N := 11) hx hb hts inw_X9_append_9 tyX9 tyX9_ok nmX9 hown hK hP hD hS hT 0 rfl rfl 5 (by decide) (hts (.fieldLink RX9 124 "VatHouse" "tapeLength" "I") (by decide +kernel)) (fun _ h9 => h9) rfl (by decide +kernel) rfl rfl rfl ⟨_, rfl⟩ dX9_append_46 (fun f_30 H locs hP hD hS hT hE1 hrd_31 hup_32 => ?_)
            have hF := Fr.put (a := h0) (ci := 9) hF hE ((hE1 h0 (hT.at 0 rfl).1).2.symm.trans (hT.at 0 rfl).2) (by decide) hrd_31 hup_32
            have hE := hE.tr hE1
            have hk_33 : rd f_30 h0 5 = .int z_29 := (hrd_31 h0 5).trans (if_pos ⟨rfl, rfl⟩)
            refine lv_iinc (v := (sh + (-8))) (lv' := [(2, .int (sh + (-8))), (0, .ref h0), (1, .int fb)]) hx hb dX9_append_49 hl (k := 0) rfl rfl (by decide) rfl (fun ls hl => ?_)
            refine lv_goto (tgt := 3) hx hb dX9_append_52 (by decide) ?_
            exact ih (sh + (-8)) z_29 _ _ _ _ _ (hm.nx c_1 (ap_c c_12 ez_29)) hk_33 (hq.nx c_1 ez_19 ez_20 ((ia_eq (hup_32 tp (ne_sh (hT0.at 1 rfl).2 (hT0.at 0 rfl).2 (by intro h9; cases h9)))).trans hia_24) ez_29) hP hD hS (hT.sub [0, 1] rfl) hE hF (lv_sub hl [0, 1, 2] rfl)
  exact lp 5 24 tl _ _ _ _ _ (⟨0, Or.inl ⟨rfl, rfl⟩, by omega, fun _ _ => by omega⟩) hm_tl (fun nn h1 h2 => ⟨0, by omega, by decide, h1, rfl⟩) hP hD hS (hT.sub [0, 1] rfl) hE hF (lv_sub hl [0, 1, 2] rfl)

abbrev rm_X9_putX : Room := { frames := 1, cells := 0, slots := 0, locals := 22 }
set_option maxHeartbeats 800000 in
set_option maxRecDepth 100000 in
theorem t_X9_putX (l : Launch) (dC : Nat → ClassId) (dI : Nat → Nat → Nat) (sa : Nat → Nat) (hlt : l.stackTraces = false) (g : Nat → Nat) (L : List Nat) (f : Nat → va_E) (h0 : Nat) (a : Int32) (b : Int32) (cq : Int32) (dq : Int32) (eq : Int32) (tp : Nat) (tl : Int32) (sz : Nat) (hT : TP g L f [(h0, (0, 9, 0)), (tp, (1, g 1, 1500))]) (hm_tl : rd f h0 5 = .int tl) (h_tp : rd f h0 4 = .ref tp) : KC l dC dI sa g yX9_put wsX9_put rm_X9_putX [.ref h0, .int a, .int b, .int cq, .int dq, .int eq] L f sz (fun r L' f' => (∃ z : Int32, r = some (.int z)) ∧ Fr [(9, 5), (100, 1500)] L f f' ∧ (∃ tl' : Int32, rd f' h0 5 = .int tl' ∧ (0 ≤ tl.toInt → tl.toInt ≤ 1500 → (1480 < tl.toInt ∧ r = some (.int (-1)) ∧ tl' = tl) ∨ (tl.toInt ≤ 1480 ∧ r = some (.int tl') ∧ tl'.toInt = tl.toInt + 20)) ∧ (∀ nn : Nat, tl = nI nn → nn ≤ 1500 → (nn ≤ 1480 → tl' = nI (nn + 20) ∧ ia f' tp = ap5 b8 (ia f tp) nn a b cq dq eq) ∧ (¬ nn ≤ 1480 → tl' = tl ∧ ia f' tp = ia f tp)))) 0 0 := by
  refine CT.start (cc := cX9_put) (maxL := 6) (ret := (some .int)) (by decide) rfl (Nat.le_of_ble_eq_true rfl) ?_
  intro p e s m below meth c ls hst hP hK hD hev hS hl
  obtain ⟨hx, hb, hr, hml, hts, hown, hlocks, hin⟩ := hst
  have hown : s.vm.findClass RX9 = some m.cls := hown
  have hin : meth.name = yX9_put.name := hin
  have hA : ∀ q : Nat, s.heap.size ≤ q → va_A (va_pl L f) s.heap.size q := fun _ h => Or.inr h
  have hE : Ext L f L f := Ext.rf
  have hF : Fr [(9, 5), (100, 1500)] L f f := Fr.rf
  have hl : lv_has ls 6 [(0, .ref h0), (1, .int a), (2, .int b), (3, .int cq), (4, .int dq), (5, .int eq)] := hl
  have hT0 := hT
  refine lv_aload_n hx hb dX9_put_0 rfl (lv_at hl 0 rfl) ?_
  refine T_get (ci := 9) (C := RX9) (T := TX9) (N := 11) (t := tI) hx hb hts inw_X9_put_9 hown hK hP hT 0 rfl rfl 5 (by decide) (hts (.fieldLink RX9 124 "VatHouse" "tapeLength" "I") (by decide +kernel)) (fun _ h9 => h9) rfl dX9_put_1 (fun v_3 hv_1 hr_2 => ?_)
  obtain rfl : v_3 = .int tl := hr_2.symm.trans hm_tl
  refine lv_aload_n hx hb dX9_put_4 rfl (lv_at hl 0 rfl) ?_
  refine T_get (ci := 9) (C := RX9) (T := TX9) (N := 11) (t := (1, 1, g 1, 1500)) hx hb hts inw_X9_put_9 hown hK hP hT 0 rfl rfl 4 (by decide) (hts (.fieldLink RX9 22 "VatHouse" "tape" "[B") (by decide +kernel)) (fun _ h9 => h9) rfl dX9_put_5 (fun v_6 hv_4 hr_5 => ?_)
  obtain rfl : v_6 = .ref tp := hr_5.symm.trans ((hF.1 h0 (hT0.at 0 rfl).1 9 (hT0.at 0 rfl).2 4 (by decide)).trans h_tp)
  refine T_alen hx hb hK hP hT 1 1 rfl rfl (v := 1500) rfl dX9_put_8 ?_
  refine lv_bipush (v := 20) hx hb dX9_put_9 (by decide) ?_
  refine lv_isub hx hb dX9_put_11 ?_
  refine lv_topi (fun z_7 ez_7 => ?_)
  obtain rfl : z_7 = 1480 := ez_7.trans (by decide)
  refine lv_icmp_le (tgt := 17) hx hb dX9_put_12 (by decide) (fun c_8 => ?_) (fun c_8 => ?_)
  · refine lv_aload_n hx hb dX9_put_17 rfl (lv_at hl 0 rfl) ?_
    refine lv_iload_n hx hb dX9_put_18 rfl (lv_at hl 1 rfl) ?_
    have hTo := hT
    refine K_V ⟨hx, hb, hml, hown, hts⟩ (t_X9_appendX l dC dI sa hlt g _ _ h0 a tp tl _ (hT.sub [0, 1] rfl)  hm_tl ((hF.1 h0 (hT0.at 0 rfl).1 9 (hT0.at 0 rfl).2 4 (by decide)).trans h_tp) ) (cwV 1 hts gX9_put_X9_append rfl rfl rfl (by decide +kernel) ⟨Nat.le_of_ble_eq_true rfl, Nat.le_of_ble_eq_true rfl⟩) hP hD hK hS hA hev hT 0 9 rfl rfl rfl rfl hl.1 rfl (Nat.le_of_ble_eq_true rfl) dX9_put_19 ⟨Nat.le_of_ble_eq_true rfl, Nat.le_of_ble_eq_true rfl⟩ (fun r L_9 f_10 H locs hw_11 hP hD hS hT hE1 => ?_)
    have hF := Fr.call hF hE hw_11.2.1 (by decide)
    have hE := hE.tr hE1
    obtain ⟨rfl, hw_11⟩ := hw_11
    obtain ⟨hfr_12, tl_13, hk_14, hrel_15, hex_16⟩ := hw_11
    refine W.eq (g2 := F0 m 22 ls []) rfl ?_
    refine lv_aload_n hx hb dX9_put_22 rfl (lv_at hl 0 rfl) ?_
    refine lv_iload_n hx hb dX9_put_23 rfl (lv_at hl 2 rfl) ?_
    have hTo := hT
    refine K_V ⟨hx, hb, hml, hown, hts⟩ (t_X9_appendX l dC dI sa hlt g _ _ h0 b tp tl_13 _ (hT.sub [0, 1] rfl)  hk_14 ((hF.1 h0 (hT0.at 0 rfl).1 9 (hT0.at 0 rfl).2 4 (by decide)).trans h_tp) ) (cwV 1 hts gX9_put_X9_append rfl rfl rfl (by decide +kernel) ⟨Nat.le_of_ble_eq_true rfl, Nat.le_of_ble_eq_true rfl⟩) hP hD hK hS hA hev hT 0 9 rfl rfl rfl rfl hl.1 rfl (Nat.le_of_ble_eq_true rfl) dX9_put_24 ⟨Nat.le_of_ble_eq_true rfl, Nat.le_of_ble_eq_true rfl⟩ (fun r L_17 f_18 H locs hw_19 hP hD hS hT hE1 => ?_)
    have hF := Fr.call hF hE hw_19.2.1 (by decide)
    have hE := hE.tr hE1
    obtain ⟨rfl, hw_19⟩ := hw_19
    obtain ⟨hfr_20, tl_21, hk_22, hrel_23, hex_24⟩ := hw_19
    refine W.eq (g2 := F0 m 27 ls []) rfl ?_
    refine lv_aload_n hx hb dX9_put_27 rfl (lv_at hl 0 rfl) ?_
    refine lv_iload_n hx hb dX9_put_28 rfl (lv_at hl 3 rfl) ?_
    have hTo := hT
    refine K_V ⟨hx, hb, hml, hown, hts⟩ (t_X9_appendX l dC dI sa hlt g _ _ h0 cq tp tl_21 _ (hT.sub [0, 1] rfl)  hk_22 ((hF.1 h0 (hT0.at 0 rfl).1 9 (hT0.at 0 rfl).2 4 (by decide)).trans h_tp) ) (cwV 1 hts gX9_put_X9_append rfl rfl rfl (by decide +kernel) ⟨Nat.le_of_ble_eq_true rfl, Nat.le_of_ble_eq_true rfl⟩) hP hD hK hS hA hev hT 0 9 rfl rfl rfl rfl hl.1 rfl (Nat.le_of_ble_eq_true rfl) dX9_put_29 ⟨Nat.le_of_ble_eq_true rfl, Nat.le_of_ble_eq_true rfl⟩ (fun r L_25 f_26 H locs hw_27 hP hD hS hT hE1 => ?_)
    have hF := Fr.call hF hE hw_27.2.1 (by decide)
    have hE := hE.tr hE1
    obtain ⟨rfl, hw_27⟩ := hw_27
    obtain ⟨hfr_28, tl_29, hk_30, hrel_31, hex_32⟩ := hw_27
    refine W.eq (g2 := F0 m 32 ls []) rfl ?_
    refine lv_aload_n hx hb dX9_put_32 rfl (lv_at hl 0 rfl) ?_
    refine lv_iload hx hb dX9_put_33 (lv_at hl 4 rfl) ?_
    have hTo := hT
    refine K_V ⟨hx, hb, hml, hown, hts⟩ (t_X9_appendX l dC dI sa hlt g _ _ h0 dq tp tl_29 _ (hT.sub [0, 1] rfl)  hk_30 ((hF.1 h0 (hT0.at 0 rfl).1 9 (hT0.at 0 rfl).2 4 (by decide)).trans h_tp) ) (cwV 1 hts gX9_put_X9_append rfl rfl rfl (by decide +kernel) ⟨Nat.le_of_ble_eq_true rfl, Nat.le_of_ble_eq_true rfl⟩) hP hD hK hS hA hev hT 0 9 rfl rfl rfl rfl hl.1 rfl (Nat.le_of_ble_eq_true rfl) dX9_put_35 ⟨Nat.le_of_ble_eq_true rfl, Nat.le_of_ble_eq_true rfl⟩ (fun r L_33 f_34 H locs hw_35 hP hD hS hT hE1 => ?_)
    have hF := Fr.call hF hE hw_35.2.1 (by decide)
    have hE := hE.tr hE1
    obtain ⟨rfl, hw_35⟩ := hw_35
    obtain ⟨hfr_36, tl_37, hk_38, hrel_39, hex_40⟩ := hw_35
    refine W.eq (g2 := F0 m 38 ls []) rfl ?_
    refine lv_aload_n hx hb dX9_put_38 rfl (lv_at hl 0 rfl) ?_
    refine lv_iload hx hb dX9_put_39 (lv_at hl 5 rfl) ?_
    have hTo := hT
    refine K_V ⟨hx, hb, hml, hown, hts⟩ (t_X9_appendX l dC dI sa hlt g _ _ h0 eq tp tl_37 _ (hT.sub [0, 1] rfl)  hk_38 ((hF.1 h0 (hT0.at 0 rfl).1 9 (hT0.at 0 rfl).2 4 (by decide)).trans h_tp) ) (cwV 1 hts gX9_put_X9_append rfl rfl rfl (by decide +kernel) ⟨Nat.le_of_ble_eq_true rfl, Nat.le_of_ble_eq_true rfl⟩) hP hD hK hS hA hev hT 0 9 rfl rfl rfl rfl hl.1 rfl (Nat.le_of_ble_eq_true rfl) dX9_put_41 ⟨Nat.le_of_ble_eq_true rfl, Nat.le_of_ble_eq_true rfl⟩ (fun r L_41 f_42 H locs hw_43 hP hD hS hT hE1 => ?_)
    have hF := Fr.call hF hE hw_43.2.1 (by decide)
    have hE := hE.tr hE1
    obtain ⟨rfl, hw_43⟩ := hw_43
    obtain ⟨hfr_44, tl_45, hk_46, hrel_47, hex_48⟩ := hw_43
    refine W.eq (g2 := F0 m 44 ls []) rfl ?_
    refine lv_aload_n hx hb dX9_put_44 rfl (lv_at hl 0 rfl) ?_
    refine T_get (ci := 9) (C := RX9) (T := TX9) (N := 11) (t := tI) hx hb hts inw_X9_put_9 hown hK hP hT 0 rfl rfl 5 (by decide) (hts (.fieldLink RX9 124 "VatHouse" "tapeLength" "I") (by decide +kernel)) (fun _ h9 => h9) rfl dX9_put_45 (fun v_51 hv_49 hr_50 => ?_)
    obtain rfl : v_51 = .int tl_45 := hr_50.symm.trans hk_46
    exact K_i hx hb hr hlocks hP hD hK hS hT hE ⟨⟨_, rfl⟩, hF, _, hk_46, fun a9 _ => Or.inr ⟨le80 c_8, rfl, by have h80 := le80 c_8; omega⟩, fun nn h1 h2 => ⟨fun h3 => by have g1 := hex_16 nn h1 (by omega); have g2 := hex_24 (nn + 4) g1.1 (by omega); have g3 := hex_32 (nn + 8) g2.1 (by omega); have g4 := hex_40 (nn + 12) g3.1 (by omega); have g5 := hex_48 (nn + 16) g4.1 (by omega); exact ⟨g5.1, by rw [g5.2, g4.2, g3.2, g2.2, g1.2]; rfl⟩, fun h3 => absurd (by have h9 := le80 c_8; rw [h1, nI_toInt (by omega)] at h9; omega) h3⟩⟩ (Nat.le_of_ble_eq_true rfl) (Nat.le_of_ble_eq_true rfl) dX9_put_48
  · refine lv_iconst (v := (-1)) hx hb dX9_put_15 (by decide) ?_
    exact K_i hx hb hr hlocks hP hD hK hS hT hE ⟨⟨_, rfl⟩, hF, _, hm_tl, fun _ _ => Or.inl ⟨gt80 c_8, rfl, rfl⟩, fun nn h1 h2 => ⟨fun h3 => absurd h3 (by have h9 := gt80 c_8; rw [h1, nI_toInt (by omega)] at h9; omega), fun _ => ⟨rfl, rfl⟩⟩⟩ (Nat.le_of_ble_eq_true rfl) (Nat.le_of_ble_eq_true rfl) dX9_put_16

/-- when recipe reads -/
def Cq (a b tl : Int32) : Prop := ¬ a < 0 ∧ ¬ 8 ≤ a ∧ ¬ b < 0 ∧ ¬ tl < b

abbrev rm_X9_demandC : Room := { frames := 6, cells := 1, slots := 6, locals := 82 }
set_option maxHeartbeats 800000 in
set_option maxRecDepth 100000 in
theorem t_X9_demandC (l : Launch) (dC : Nat → ClassId) (dI : Nat → Nat → Nat) (sa : Nat → Nat) (hlt : l.stackTraces = false) (g : Nat → Nat) (L : List Nat) (f : Nat → va_E) (b : Int32) (sz : Nat) (hT : TP g L f []) : KX l dC dI sa g yX9_demand wsX9_demand rm_X9_demandC [.int b] L f sz (fun r L' f' => (r = none) ∧ Fr [] L f f' ∧ (¬ b = 0)) (fun E L' f' => ((E = IAE) ∧ (b = 0)) ∧ Fr [] L f f') 1 6 := by
  refine KX.start (cc := cX9_demand) (maxL := 1) (ret := none) (by decide) rfl (Nat.le_of_ble_eq_true rfl) ?_
  intro p e s m below meth c ls hst hno hP hK hD hev hS hl
  obtain ⟨hx, hb, hr, hml, hts, hown, hlocks, hin⟩ := hst
  have hown : s.vm.findClass RX9 = some m.cls := hown
  have hin : meth.name = yX9_demand.name := hin
  have hA : ∀ q : Nat, s.heap.size ≤ q → va_A (va_pl L f) s.heap.size q := fun _ h => Or.inr h
  have hE : Ext L f L f := Ext.rf
  have hF : Fr [] L f f := Fr.rf
  have hl : lv_has ls 1 [(0, .int b)] := hl
  refine lv_iload_n hx hb dX9_demand_0 rfl (lv_at hl 0 rfl) ?_
  refine lv_if_ne (tgt := 14) hx hb dX9_demand_1 (by decide) (fun c_1 => ?_) (fun c_1 => ?_)
  · refine vx_ret ?_
    exact K_v hx hb hr hlocks hP hD hK hS hT hE ⟨rfl, hF, c_1⟩ (Nat.le_of_ble_eq_true rfl) (Nat.le_of_ble_eq_true rfl) dX9_demand_14
  · exact K_x (cls := IAE) hno hx hb hlt hlocks hown hts Bundle.six_0 Bundle.six_1 Bundle.six_2 Bundle.six_5 (by decide +kernel) (hts (.classLink RX9 252 IAE) (by decide +kernel)) (hts (.initialized IAE) (by decide +kernel)) hev.2.1.2.1 (inx_X9_demand_i) xb_i hev.2.2.1.2.1 xo_i hev (hl.1.trans hml.symm) dX9_demand_4 dX9_demand_7 dX9_demand_8 dX9_demand_10 dX9_demand_13 (Nat.le_of_ble_eq_true rfl) (Nat.le_of_ble_eq_true rfl) (Nat.le_of_ble_eq_true rfl) (Nat.le_of_ble_eq_true rfl) ⟨⟨rfl, c_1⟩, hF⟩ hP hD hK hS hT hE (Nat.le_of_ble_eq_true rfl) (Nat.le_of_ble_eq_true rfl)

theorem rc_ln {b tl : Int32} (h0 : ¬ b < 0) (h1 : ¬ tl < b) (h15 : tl.toInt ≤ 1500) : ∃ ln : Nat, b = nI ln ∧ ln ≤ 1500 := by
  obtain ⟨ln, hln, rfl⟩ := nI_of h0
  refine ⟨ln, rfl, ?_⟩
  rw [Int32.lt_iff_toInt_lt, nI_toInt (by omega)] at h1
  omega

abbrev rm_X9_recipeX : Room := { frames := 81, cells := 303, slots := 2415, locals := 2422 }
theorem inw_X9_recipe_2 : ∀ w ∈ wsX20, w ∈ wsX9_recipe := by decide +kernel
theorem inw_X9_recipe_3 : ∀ w ∈ wsX30, w ∈ wsX9_recipe := by decide +kernel
theorem inw_X9_recipe_9 : ∀ w ∈ wsX90, w ∈ wsX9_recipe := by decide +kernel
set_option maxHeartbeats 800000 in
set_option maxRecDepth 100000 in
theorem t_X9_recipeX (l : Launch) (dC : Nat → ClassId) (dI : Nat → Nat → Nat) (sa : Nat → Nat) (hlt : l.stackTraces = false) (g : Nat → Nat) (L : List Nat) (f : Nat → va_E) (tt : Nat → Int32) (h0 : Nat) (a : Int32) (b : Int32) (tp : Nat) (rdr : Nat) (tok : Nat) (ka : Nat) (sta : Nat) (vaa : Nat) (tl : Int32) (sz : Nat) (hT : TP g L f [(h0, (0, 9, 0)), (tp, (1, g 1, 1500)), (rdr, (0, 2, 0)), (tok, (0, 6, 0)), (ka, (1, g 0, 1501)), (sta, (1, g 5, 1501)), (vaa, (1, g 6, 1501))]) (hm_tl : rd f h0 5 = .int tl) (h_tp : rd f h0 4 = .ref tp) (h_rdr : rd f h0 6 = .ref rdr) (h_tok : rd f rdr 0 = .ref tok) (h_tp_tok_0 : rd f tok 0 = .ref tp) (h_ka : rd f tok 4 = .ref ka) (h_sta : rd f tok 5 = .ref sta) (h_vaa : rd f tok 6 = .ref vaa) (hta : ia f tp = tt) (htl15 : tl.toInt ≤ 1500) (hds : ka ≠ sta ∧ ka ≠ vaa ∧ sta ≠ vaa) : KX l dC dI sa g yX9_recipe wsX9_recipe rm_X9_recipeX [.ref h0, .int a, .int b] L f sz (fun r L' f' => (∃ z : Int32, r = some (.int z)) ∧ Fr [(2, 1), (2, 2), (2, 3), (2, 4), (2, 5), (5, 1), (5, 2), (5, 3), (5, 4), (5, 5), (5, 6), (5, 7), (6, 1), (6, 2), (6, 3), (3, 0), (9, 5), (9, 8), (100, 1501), (200, 8)] L f f' ∧ (∃ tl' : Int32, ∃ fa' : Int32, ∃ pw' : Int32, rd f' h0 5 = .int tl' ∧ rd f' rdr 3 = .int fa' ∧ rd f' rdr 4 = .int pw' ∧ (Cq a b tl ∧ tl' = 0) ∧ (True) ∧ (True) ∧ (∃ (ln : Nat) (qn : SG), b = nI ln ∧ ln ≤ 1500 ∧ Ev (Kp tt ln) (Vp tt ln) (nq tt ln) 0 0 (Sj tt ln 0, 0, 0, -1) qn ∧ fa' = (gpa (Kp tt ln) (nq tt ln) 0 qn).2.2.1 ∧ pw' = (gpa (Kp tt ln) (nq tt ln) 0 qn).2.2.2 ∧ r = some (.int fa')))) (fun E L' f' => ((E = IAE) ∧ (¬ Cq a b tl)) ∧ Fr [] L f f') 303 2415 := by
  refine KX.start (cc := cX9_recipe) (maxL := 4) (ret := (some .int)) (by decide) rfl (Nat.le_of_ble_eq_true rfl) ?_
  intro p e s m below meth c ls hst hno hP hK hD hev hS hl
  obtain ⟨hx, hb, hr, hml, hts, hown, hlocks, hin⟩ := hst
  have hown : s.vm.findClass RX9 = some m.cls := hown
  have hin : meth.name = yX9_recipe.name := hin
  have hA : ∀ q : Nat, s.heap.size ≤ q → va_A (va_pl L f) s.heap.size q := fun _ h => Or.inr h
  have hE : Ext L f L f := Ext.rf
  have hF : Fr [(2, 1), (2, 2), (2, 3), (2, 4), (2, 5), (5, 1), (5, 2), (5, 3), (5, 4), (5, 5), (5, 6), (5, 7), (6, 1), (6, 2), (6, 3), (3, 0), (9, 5), (9, 8), (100, 1501), (200, 8)] L f f := Fr.rf
  have hl : lv_has ls 4 [(0, .ref h0), (1, .int a), (2, .int b)] := hl
  have hT0 := hT
  refine lv_iload_n hx hb dX9_recipe_0 rfl (lv_at hl 1 rfl) ?_
  refine lv_if_lt (tgt := 29) hx hb dX9_recipe_1 (by decide) (fun c_1 => ?_) (fun c_1 => ?_)
  · refine lv_iconst (v := 0) hx hb dX9_recipe_29 (by decide) ?_
    have hTo := hT
    refine K_SX ⟨hx, hb, hml, hown, hts⟩ (t_X9_demandC l dC dI sa hlt g _ _ 0 _ (hT.sub [] rfl)  ) (va_cwS 1 hts gX9_recipe_X9_demand rfl rfl rfl (by decide +kernel) ⟨Nat.le_of_ble_eq_true rfl, Nat.le_of_ble_eq_true rfl⟩) hP hD hK hS hA hev hT rfl hl.1 rfl (Nat.le_of_ble_eq_true rfl) dX9_recipe_30 ⟨Nat.le_of_ble_eq_true rfl, Nat.le_of_ble_eq_true rfl⟩ (fun E ce q9 L9 f9 H locs hpx hP hD hS hT hE1 hce hcv hcl => ?_) (fun r L_2 f_3 H locs hw_4 hP hD hS hT hE1 => ?_)
    · have hF := Fr.call hF hE hpx.2 (by decide)
      have hE := hE.tr hE1
      exact K_out hno hlocks ⟨⟨hpx.1.1, fun h9 => h9.1 c_1⟩, hpx.2⟩ hP hD hK hS hT hE hce hcv hcl (Nat.le_of_ble_eq_true rfl) (Nat.le_of_ble_eq_true rfl)
    have hF := Fr.call hF hE hw_4.2.1 (by decide)
    have hE := hE.tr hE1
    obtain ⟨rfl, hw_4⟩ := hw_4
    obtain ⟨hfr_5, hex_6⟩ := hw_4
    have hk_7 : rd f_3 h0 5 = .int tl := (hfr_5.1 h0 (hTo.at 0 rfl).1 9 (hTo.at 0 rfl).2 5 (by decide)).trans hm_tl
    refine W.eq (g2 := F0 m 33 ls []) rfl ?_
    exact absurd rfl hex_6
  · refine lv_iload_n hx hb dX9_recipe_4 rfl (lv_at hl 1 rfl) ?_
    refine lv_aload_n hx hb dX9_recipe_5 rfl (lv_at hl 0 rfl) ?_
    refine T_get (ci := 9) (C := RX9) (T := TX9) (N := 11) (t := (1, 2, g 4, 8)) hx hb hts inw_X9_recipe_9 hown hK hP hT 0 rfl rfl 7 (by decide) (hts (.fieldLink RX9 37 "VatHouse" "recipes" "[LVatHouse$Recipe;") (by decide +kernel)) (fun _ h9 => h9) rfl dX9_recipe_6 (fun v_10 hv_8 hr_9 => ?_)
    obtain ⟨b_11, rfl, hb9⟩ := hv_8
    have hT := hT.add hb9
    refine T_alen hx hb hK hP hT 0 4 rfl rfl (v := 8) rfl dX9_recipe_9 ?_
    refine lv_icmp_ge (tgt := 29) hx hb dX9_recipe_10 (by decide) (fun c_12 => ?_) (fun c_12 => ?_)
    · refine lv_iconst (v := 0) hx hb dX9_recipe_29 (by decide) ?_
      have hTo := hT
      refine K_SX ⟨hx, hb, hml, hown, hts⟩ (t_X9_demandC l dC dI sa hlt g _ _ 0 _ (hT.sub [] rfl)  ) (va_cwS 1 hts gX9_recipe_X9_demand rfl rfl rfl (by decide +kernel) ⟨Nat.le_of_ble_eq_true rfl, Nat.le_of_ble_eq_true rfl⟩) hP hD hK hS hA hev hT rfl hl.1 rfl (Nat.le_of_ble_eq_true rfl) dX9_recipe_30 ⟨Nat.le_of_ble_eq_true rfl, Nat.le_of_ble_eq_true rfl⟩ (fun E ce q9 L9 f9 H locs hpx hP hD hS hT hE1 hce hcv hcl => ?_) (fun r L_13 f_14 H locs hw_15 hP hD hS hT hE1 => ?_)
      · have hF := Fr.call hF hE hpx.2 (by decide)
        have hE := hE.tr hE1
        exact K_out hno hlocks ⟨⟨hpx.1.1, fun h9 => h9.2.1 c_12⟩, hpx.2⟩ hP hD hK hS hT hE hce hcv hcl (Nat.le_of_ble_eq_true rfl) (Nat.le_of_ble_eq_true rfl)
      have hF := Fr.call hF hE hw_15.2.1 (by decide)
      have hE := hE.tr hE1
      obtain ⟨rfl, hw_15⟩ := hw_15
      obtain ⟨hfr_16, hex_17⟩ := hw_15
      have hk_18 : rd f_14 h0 5 = .int tl := (hfr_16.1 h0 (hTo.at 1 rfl).1 9 (hTo.at 1 rfl).2 5 (by decide)).trans hm_tl
      refine W.eq (g2 := F0 m 33 ls []) rfl ?_
      exact absurd rfl hex_17
    · refine lv_iload_n hx hb dX9_recipe_13 rfl (lv_at hl 2 rfl) ?_
      refine lv_if_lt (tgt := 29) hx hb dX9_recipe_14 (by decide) (fun c_19 => ?_) (fun c_19 => ?_)
      · refine lv_iconst (v := 0) hx hb dX9_recipe_29 (by decide) ?_
        have hTo := hT
        refine K_SX ⟨hx, hb, hml, hown, hts⟩ (t_X9_demandC l dC dI sa hlt g _ _ 0 _ (hT.sub [] rfl)  ) (va_cwS 1 hts gX9_recipe_X9_demand rfl rfl rfl (by decide +kernel) ⟨Nat.le_of_ble_eq_true rfl, Nat.le_of_ble_eq_true rfl⟩) hP hD hK hS hA hev hT rfl hl.1 rfl (Nat.le_of_ble_eq_true rfl) dX9_recipe_30 ⟨Nat.le_of_ble_eq_true rfl, Nat.le_of_ble_eq_true rfl⟩ (fun E ce q9 L9 f9 H locs hpx hP hD hS hT hE1 hce hcv hcl => ?_) (fun r L_20 f_21 H locs hw_22 hP hD hS hT hE1 => ?_)
        · have hF := Fr.call hF hE hpx.2 (by decide)
          have hE := hE.tr hE1
          exact K_out hno hlocks ⟨⟨hpx.1.1, fun h9 => h9.2.2.1 c_19⟩, hpx.2⟩ hP hD hK hS hT hE hce hcv hcl (Nat.le_of_ble_eq_true rfl) (Nat.le_of_ble_eq_true rfl)
        have hF := Fr.call hF hE hw_22.2.1 (by decide)
        have hE := hE.tr hE1
        obtain ⟨rfl, hw_22⟩ := hw_22
        obtain ⟨hfr_23, hex_24⟩ := hw_22
        have hk_25 : rd f_21 h0 5 = .int tl := (hfr_23.1 h0 (hTo.at 1 rfl).1 9 (hTo.at 1 rfl).2 5 (by decide)).trans hm_tl
        refine W.eq (g2 := F0 m 33 ls []) rfl ?_
        exact absurd rfl hex_24
      · refine lv_iload_n hx hb dX9_recipe_17 rfl (lv_at hl 2 rfl) ?_
        refine lv_aload_n hx hb dX9_recipe_18 rfl (lv_at hl 0 rfl) ?_
        refine T_get (ci := 9) (C := RX9) (T := TX9) (N := 11) (t := tI) hx hb hts inw_X9_recipe_9 hown hK hP hT 1 rfl rfl 5 (by decide) (hts (.fieldLink RX9 124 "VatHouse" "tapeLength" "I") (by decide +kernel)) (fun _ h9 => h9) rfl dX9_recipe_19 (fun v_28 hv_26 hr_27 => ?_)
        obtain rfl : v_28 = .int tl := hr_27.symm.trans hm_tl
        refine lv_icmp_gt (tgt := 29) hx hb dX9_recipe_22 (by decide) (fun c_29 => ?_) (fun c_29 => ?_)
        · refine lv_iconst (v := 0) hx hb dX9_recipe_29 (by decide) ?_
          have hTo := hT
          refine K_SX ⟨hx, hb, hml, hown, hts⟩ (t_X9_demandC l dC dI sa hlt g _ _ 0 _ (hT.sub [] rfl)  ) (va_cwS 1 hts gX9_recipe_X9_demand rfl rfl rfl (by decide +kernel) ⟨Nat.le_of_ble_eq_true rfl, Nat.le_of_ble_eq_true rfl⟩) hP hD hK hS hA hev hT rfl hl.1 rfl (Nat.le_of_ble_eq_true rfl) dX9_recipe_30 ⟨Nat.le_of_ble_eq_true rfl, Nat.le_of_ble_eq_true rfl⟩ (fun E ce q9 L9 f9 H locs hpx hP hD hS hT hE1 hce hcv hcl => ?_) (fun r L_30 f_31 H locs hw_32 hP hD hS hT hE1 => ?_)
          · have hF := Fr.call hF hE hpx.2 (by decide)
            have hE := hE.tr hE1
            exact K_out hno hlocks ⟨⟨hpx.1.1, fun h9 => h9.2.2.2 c_29⟩, hpx.2⟩ hP hD hK hS hT hE hce hcv hcl (Nat.le_of_ble_eq_true rfl) (Nat.le_of_ble_eq_true rfl)
          have hF := Fr.call hF hE hw_32.2.1 (by decide)
          have hE := hE.tr hE1
          obtain ⟨rfl, hw_32⟩ := hw_32
          obtain ⟨hfr_33, hex_34⟩ := hw_32
          have hk_35 : rd f_31 h0 5 = .int tl := (hfr_33.1 h0 (hTo.at 1 rfl).1 9 (hTo.at 1 rfl).2 5 (by decide)).trans hm_tl
          refine W.eq (g2 := F0 m 33 ls []) rfl ?_
          exact absurd rfl hex_34
        · refine lv_iconst (v := 1) hx hb dX9_recipe_25 (by decide) ?_
          refine lv_goto (tgt := 30) hx hb dX9_recipe_26 (by decide) ?_
          have hTo := hT
          refine K_SX ⟨hx, hb, hml, hown, hts⟩ (t_X9_demandC l dC dI sa hlt g _ _ 1 _ (hT.sub [] rfl)  ) (va_cwS 1 hts gX9_recipe_X9_demand rfl rfl rfl (by decide +kernel) ⟨Nat.le_of_ble_eq_true rfl, Nat.le_of_ble_eq_true rfl⟩) hP hD hK hS hA hev hT rfl hl.1 rfl (Nat.le_of_ble_eq_true rfl) dX9_recipe_30 ⟨Nat.le_of_ble_eq_true rfl, Nat.le_of_ble_eq_true rfl⟩ (fun E ce q9 L9 f9 H locs hpx hP hD hS hT hE1 hce hcv hcl => ?_) (fun r L_36 f_37 H locs hw_38 hP hD hS hT hE1 => ?_)
          · have hF := Fr.call hF hE hpx.2 (by decide)
            have hE := hE.tr hE1
            exact K_out hno hlocks ⟨⟨hpx.1.1, absurd hpx.1.2 (by decide)⟩, hpx.2⟩ hP hD hK hS hT hE hce hcv hcl (Nat.le_of_ble_eq_true rfl) (Nat.le_of_ble_eq_true rfl)
          have hF := Fr.call hF hE hw_38.2.1 (by decide)
          have hE := hE.tr hE1
          obtain ⟨rfl, hw_38⟩ := hw_38
          obtain ⟨hfr_39, hex_40⟩ := hw_38
          have hk_41 : rd f_37 h0 5 = .int tl := (hfr_39.1 h0 (hTo.at 1 rfl).1 9 (hTo.at 1 rfl).2 5 (by decide)).trans hm_tl
          refine W.eq (g2 := F0 m 33 ls []) rfl ?_
          refine lv_aload_n hx hb dX9_recipe_33 rfl (lv_at hl 0 rfl) ?_
          refine T_get (ci := 9) (C := RX9) (T := TX9) (N := 11) (t := (1, 0, 2, 0)) hx hb hts inw_X9_recipe_9 hown hK hP hT 1 rfl rfl 6 (by decide) (hts (.fieldLink RX9 31 "VatHouse" "reader" "LVatHouse$Reader;") (by decide +kernel)) (fun _ h9 => h9) rfl dX9_recipe_34 (fun v_44 hv_42 hr_43 => ?_)
          obtain rfl : v_44 = .ref rdr := hr_43.symm.trans ((hF.1 h0 (hT0.at 0 rfl).1 9 (hT0.at 0 rfl).2 6 (by decide)).trans h_rdr)
          refine lv_iload_n hx hb dX9_recipe_37 rfl (lv_at hl 2 rfl) ?_
          obtain ⟨ln, hbn, hln⟩ := rc_ln c_19 c_29 htl15
          have hTo := hT
          refine K_V ⟨hx, hb, hml, hown, hts⟩ (t_X2_readRecipe l dC dI sa hlt g _ _ tt ln rdr b tok tp ka sta vaa _ (hT.sub [3, 4, 2, 5, 6, 7] rfl)  ((hF.1 rdr (hT0.at 2 rfl).1 2 (hT0.at 2 rfl).2 0 (by decide)).trans h_tok) ((hF.1 tok (hT0.at 3 rfl).1 6 (hT0.at 3 rfl).2 0 (by decide)).trans h_tp_tok_0) ((hF.1 tok (hT0.at 3 rfl).1 6 (hT0.at 3 rfl).2 4 (by decide)).trans h_ka) ((hF.1 tok (hT0.at 3 rfl).1 6 (hT0.at 3 rfl).2 5 (by decide)).trans h_sta) ((hF.1 tok (hT0.at 3 rfl).1 6 (hT0.at 3 rfl).2 6 (by decide)).trans h_vaa) ((ia_eq (hF.2 tp (hT0.at 1 rfl).1 0 _ _ (hT0.at 1 rfl).2 (by decide))).trans hta) ⟨hbn, hln⟩ hds) (cwV 1 hts gX9_recipe_X2_readRecipe rfl rfl rfl (by decide +kernel) ⟨Nat.le_of_ble_eq_true rfl, Nat.le_of_ble_eq_true rfl⟩) hP hD hK hS hA hev hT 3 2 rfl rfl rfl rfl hl.1 rfl (Nat.le_of_ble_eq_true rfl) dX9_recipe_38 ⟨Nat.le_of_ble_eq_true rfl, Nat.le_of_ble_eq_true rfl⟩ (fun r L_45 f_46 H locs hw_47 hP hD hS hT hE1 => ?_)
          have hF := Fr.call hF hE hw_47.2.1 (by decide)
          have hE := hE.tr hE1
          obtain ⟨⟨v_48, rfl, hv9⟩, hw_47⟩ := hw_47
          rcases hv9 with rfl | ⟨b_49, rfl, hb9⟩
          · obtain ⟨hfr_50, fa_51, pw_52, sg_53, hk_54, hk_55, hk_56, hrel_57, hrel_58, hrel_59, hex_60⟩ := hw_47
            have hk_61 : rd f_46 h0 5 = .int tl := (hfr_50.1 h0 (hTo.at 1 rfl).1 9 (hTo.at 1 rfl).2 5 (by decide)).trans hk_41
            obtain ⟨qn, hev9, hfa9, hpw9⟩ := hex_60
            refine W.eq (g2 := F0 m 41 ls [.null]) rfl ?_
            refine lv_astore_nN (lv' := [(3, .null), (0, .ref h0), (1, .int a), (2, .int b)]) hx hb dX9_recipe_41 rfl hl (by decide) rfl (fun ls hl => ?_)
            refine lv_aload_n hx hb dX9_recipe_42 rfl (lv_at hl 1 rfl) ?_
            refine lv_iconst (v := 0) hx hb dX9_recipe_43 (by decide) ?_
            have hTo := hT
            refine T_put (ci := 9) (v := .int 0) (ty := .int) (t := tI) (C := RX9) (T := TX9) (N := 11) hx hb hts inw_X9_recipe_9 tyX9 tyX9_ok nmX9 hown hK hP hD hS hT 1 rfl rfl 5 (by decide) (hts (.fieldLink RX9 124 "VatHouse" "tapeLength" "I") (by decide +kernel)) (fun _ h9 => h9) rfl (by decide +kernel) rfl rfl rfl ⟨_, rfl⟩ dX9_recipe_44 (fun f_62 H locs hP hD hS hT hE1 hrd_63 hup_64 => ?_)
            have hF := Fr.put (a := h0) (ci := 9) hF hE ((hE1 h0 (hT.at 1 rfl).1).2.symm.trans (hT.at 1 rfl).2) (by decide) hrd_63 hup_64
            have hE := hE.tr hE1
            have hk_65 : rd f_62 h0 5 = .int 0 := (hrd_63 h0 5).trans (if_pos ⟨rfl, rfl⟩)
            have hk_66 : rd f_62 rdr 3 = .int fa_51 := ((Fr.put (cs := [(9, 5)]) (a := h0) (ci := 9) Fr.rf Ext.rf (hTo.at 1 rfl).2 (by decide) hrd_63 hup_64).1 rdr (hTo.at 3 rfl).1 2 (hTo.at 3 rfl).2 3 (by decide)).trans hk_54
            have hk_67 : rd f_62 rdr 4 = .int pw_52 := ((Fr.put (cs := [(9, 5)]) (a := h0) (ci := 9) Fr.rf Ext.rf (hTo.at 1 rfl).2 (by decide) hrd_63 hup_64).1 rdr (hTo.at 3 rfl).1 2 (hTo.at 3 rfl).2 4 (by decide)).trans hk_55
            have hk_68 : rd f_62 rdr 5 = .int sg_53 := ((Fr.put (cs := [(9, 5)]) (a := h0) (ci := 9) Fr.rf Ext.rf (hTo.at 1 rfl).2 (by decide) hrd_63 hup_64).1 rdr (hTo.at 3 rfl).1 2 (hTo.at 3 rfl).2 5 (by decide)).trans hk_56
            refine lv_aload_n hx hb dX9_recipe_47 rfl (lv_at hl 1 rfl) ?_
            refine T_get (ci := 9) (C := RX9) (T := TX9) (N := 11) (t := (1, 0, 2, 0)) hx hb hts inw_X9_recipe_9 hown hK hP hT 1 rfl rfl 6 (by decide) (hts (.fieldLink RX9 31 "VatHouse" "reader" "LVatHouse$Reader;") (by decide +kernel)) (fun _ h9 => h9) rfl dX9_recipe_48 (fun v_71 hv_69 hr_70 => ?_)
            obtain rfl : v_71 = .ref rdr := hr_70.symm.trans ((hF.1 h0 (hT0.at 0 rfl).1 9 (hT0.at 0 rfl).2 6 (by decide)).trans h_rdr)
            refine T_get (ci := 2) (C := RX2) (T := TX2) (N := 6) (t := tI) hx hb hts inw_X9_recipe_2 hown hK hP hT 3 rfl rfl 3 (by decide) (hts (.fieldLink RX9 134 "VatHouse$Reader" "fault" "I") (by decide +kernel)) (fun _ h9 => h9) rfl dX9_recipe_51 (fun v_74 hv_72 hr_73 => ?_)
            obtain rfl : v_74 = .int fa_51 := hr_73.symm.trans hk_66
            refine lv_if_ne (tgt := 82) hx hb dX9_recipe_54 (by decide) (fun c_75 => ?_) (fun c_75 => ?_)
            · refine lv_aload_n hx hb dX9_recipe_82 rfl (lv_at hl 1 rfl) ?_
              refine T_get (ci := 9) (C := RX9) (T := TX9) (N := 11) (t := (1, 0, 2, 0)) hx hb hts inw_X9_recipe_9 hown hK hP hT 1 rfl rfl 6 (by decide) (hts (.fieldLink RX9 31 "VatHouse" "reader" "LVatHouse$Reader;") (by decide +kernel)) (fun _ h9 => h9) rfl dX9_recipe_83 (fun v_78 hv_76 hr_77 => ?_)
              obtain rfl : v_78 = .ref rdr := hr_77.symm.trans ((hF.1 h0 (hT0.at 0 rfl).1 9 (hT0.at 0 rfl).2 6 (by decide)).trans h_rdr)
              refine T_get (ci := 2) (C := RX2) (T := TX2) (N := 6) (t := tI) hx hb hts inw_X9_recipe_2 hown hK hP hT 3 rfl rfl 3 (by decide) (hts (.fieldLink RX9 134 "VatHouse$Reader" "fault" "I") (by decide +kernel)) (fun _ h9 => h9) rfl dX9_recipe_86 (fun v_81 hv_79 hr_80 => ?_)
              obtain rfl : v_81 = .int fa_51 := hr_80.symm.trans hk_66
              refine vx_ret ?_
              exact K_i hx hb hr hlocks hP hD hK hS hT hE ⟨⟨_, rfl⟩, hF, _, _, _, hk_65, hk_66, hk_67, ⟨⟨c_1, c_12, c_19, c_29⟩, rfl⟩, trivial, trivial, ⟨ln, qn, hbn, hln, hev9, hfa9, hpw9, rfl⟩⟩ (Nat.le_of_ble_eq_true rfl) (Nat.le_of_ble_eq_true rfl) dX9_recipe_89
            · refine lv_aload_n hx hb dX9_recipe_57 rfl (lv_at hl 1 rfl) ?_
              refine T_get (ci := 9) (C := RX9) (T := TX9) (N := 11) (t := (1, 2, g 4, 8)) hx hb hts inw_X9_recipe_9 hown hK hP hT 1 rfl rfl 7 (by decide) (hts (.fieldLink RX9 37 "VatHouse" "recipes" "[LVatHouse$Recipe;") (by decide +kernel)) (fun _ h9 => h9) rfl dX9_recipe_58 (fun v_84 hv_82 hr_83 => ?_)
              obtain ⟨b_85, rfl, hb9⟩ := hv_82
              have hT := hT.add hb9
              refine lv_iload_n hx hb dX9_recipe_61 rfl (lv_at hl 2 rfl) ?_
              have hTo := hT
              refine T_new (ci := 3) (fs := [.null]) (C := RX3) (T := TX3) (N := 1) hx hb hts inw_X9_recipe_3 tyX3 tyX3_ok hown (hts (.classLink RX9 35 RX3) (by decide +kernel)) (hts (.instantiable RX3 1) (by decide +kernel)) (hts (.initialized RX3) (by decide +kernel)) hK hP hD hS hA hT rfl nfX3 (okn_3 g) (Nat.le_of_ble_eq_true rfl) (Nat.le_of_ble_eq_true rfl) dX9_recipe_62 (fun q_86 L_87 f_88 H hq_89 hL_90 hP hD hS hT hE1 hrd_91 hrq_92 hup => ?_)
              have hF := Fr.new hF hE hq_89 hrd_91 hup
              have hE := hE.tr hE1
              have hk_93 := (hrd_91 h0 5 (fun h9 => hq_89 (h9 ▸ (hTo.at 2 rfl).1))).trans hk_65
              have hk_94 := (hrd_91 rdr 3 (fun h9 => hq_89 (h9 ▸ (hTo.at 4 rfl).1))).trans hk_66
              have hk_95 := (hrd_91 rdr 4 (fun h9 => hq_89 (h9 ▸ (hTo.at 4 rfl).1))).trans hk_67
              have hk_96 := (hrd_91 rdr 5 (fun h9 => hq_89 (h9 ▸ (hTo.at 4 rfl).1))).trans hk_68
              refine lv_dup hx hb dX9_recipe_65 rfl ?_
              refine lv_aload_nN hx hb dX9_recipe_66 rfl (lv_at hl 0 rfl) ?_
              have hTo := hT
              refine K_I ⟨hx, hb, hml, hown, hts⟩ (t_X3_init l dC dI sa hlt g _ _ q_86 .null _ (hT.sub [0] rfl) (Or.inl rfl) ) (cwI 1 hts gX9_recipe_X3_init rfl rfl rfl (hts (.initialized RX3) (by decide +kernel)) (hts (.methodLink RX9 137 yX3_init) (by decide +kernel)) (hts (.instanceMethod yX3_init) (by decide +kernel)) rfl (by decide +kernel) ⟨Nat.le_of_ble_eq_true rfl, Nat.le_of_ble_eq_true rfl⟩) hP hD hK hS hA hev hT rfl hl.1 rfl (Nat.le_of_ble_eq_true rfl) dX9_recipe_67 ⟨Nat.le_of_ble_eq_true rfl, Nat.le_of_ble_eq_true rfl⟩ (fun r L_97 f_98 H locs hw_99 hP hD hS hT hE1 => ?_)
              have hF := Fr.call hF hE hw_99.2 (by decide)
              have hE := hE.tr hE1
              obtain ⟨rfl, hw_99⟩ := hw_99
              have hk_100 : rd f_98 h0 5 = .int 0 := (hw_99.1 h0 (hTo.at 3 rfl).1 9 (hTo.at 3 rfl).2 5 (by decide)).trans hk_93
              have hk_101 : rd f_98 rdr 3 = .int fa_51 := (hw_99.1 rdr (hTo.at 5 rfl).1 2 (hTo.at 5 rfl).2 3 (by decide)).trans hk_94
              have hk_102 : rd f_98 rdr 4 = .int pw_52 := (hw_99.1 rdr (hTo.at 5 rfl).1 2 (hTo.at 5 rfl).2 4 (by decide)).trans hk_95
              have hk_103 : rd f_98 rdr 5 = .int sg_53 := (hw_99.1 rdr (hTo.at 5 rfl).1 2 (hTo.at 5 rfl).2 5 (by decide)).trans hk_96
              refine W.eq (g2 := F0 m 70 ls [.ref q_86, .int a, .ref b_85]) rfl ?_
              have hTo := hT
              refine T_rast hx hb hK hP hD hS hT 1 4 0 rfl rfl rfl rfl (vin 8 (by decide) rfl (by assumption) (by assumption)) dX9_recipe_70 (fun f_104 H locs hP hD hS hT hE1 hrd_105 hup_106 hia_107 => ?_)
              have hF := Fr.arr (a := b_85) hF hE ((hE1 b_85 (hT.at 1 rfl).1).2.symm.trans (hT.at 1 rfl).2) (by decide) hrd_105 hup_106
              have hE := hE.tr hE1
              have hk_108 : rd f_104 h0 5 = .int 0 := (hrd_105 h0 5).trans hk_100
              have hk_109 : rd f_104 rdr 3 = .int fa_51 := (hrd_105 rdr 3).trans hk_101
              have hk_110 : rd f_104 rdr 4 = .int pw_52 := (hrd_105 rdr 4).trans hk_102
              have hk_111 : rd f_104 rdr 5 = .int sg_53 := (hrd_105 rdr 5).trans hk_103
              refine lv_aload_n hx hb dX9_recipe_71 rfl (lv_at hl 1 rfl) ?_
              refine lv_aload_n hx hb dX9_recipe_72 rfl (lv_at hl 1 rfl) ?_
              refine T_get (ci := 9) (C := RX9) (T := TX9) (N := 11) (t := (1, 0, 2, 0)) hx hb hts inw_X9_recipe_9 hown hK hP hT 3 rfl rfl 6 (by decide) (hts (.fieldLink RX9 31 "VatHouse" "reader" "LVatHouse$Reader;") (by decide +kernel)) (fun _ h9 => h9) rfl dX9_recipe_73 (fun v_114 hv_112 hr_113 => ?_)
              obtain rfl : v_114 = .ref rdr := hr_113.symm.trans ((hF.1 h0 (hT0.at 0 rfl).1 9 (hT0.at 0 rfl).2 6 (by decide)).trans h_rdr)
              refine T_get (ci := 2) (C := RX2) (T := TX2) (N := 6) (t := tI) hx hb hts inw_X9_recipe_2 hown hK hP hT 5 rfl rfl 5 (by decide) (hts (.fieldLink RX9 140 "VatHouse$Reader" "steps" "I") (by decide +kernel)) (fun _ h9 => h9) rfl dX9_recipe_76 (fun v_117 hv_115 hr_116 => ?_)
              obtain rfl : v_117 = .int sg_53 := hr_116.symm.trans hk_111
              have hTo := hT
              refine T_put (ci := 9) (v := .int sg_53) (ty := .int) (t := tI) (C := RX9) (T := TX9) (N := 11) hx hb hts inw_X9_recipe_9 tyX9 tyX9_ok nmX9 hown hK hP hD hS hT 3 rfl rfl 8 (by decide) (hts (.fieldLink RX9 143 "VatHouse" "stepsRead" "I") (by decide +kernel)) (fun _ h9 => h9) rfl (by decide +kernel) rfl rfl rfl ⟨_, rfl⟩ dX9_recipe_79 (fun f_118 H locs hP hD hS hT hE1 hrd_119 hup_120 => ?_)
              have hF := Fr.put (a := h0) (ci := 9) hF hE ((hE1 h0 (hT.at 3 rfl).1).2.symm.trans (hT.at 3 rfl).2) (by decide) hrd_119 hup_120
              have hE := hE.tr hE1
              have hk_121 : rd f_118 h0 5 = .int 0 := ((Fr.put (cs := [(9, 8)]) (a := h0) (ci := 9) Fr.rf Ext.rf (hTo.at 3 rfl).2 (by decide) hrd_119 hup_120).1 h0 (hTo.at 3 rfl).1 9 (hTo.at 3 rfl).2 5 (by decide)).trans hk_108
              have hk_122 : rd f_118 rdr 3 = .int fa_51 := ((Fr.put (cs := [(9, 8)]) (a := h0) (ci := 9) Fr.rf Ext.rf (hTo.at 3 rfl).2 (by decide) hrd_119 hup_120).1 rdr (hTo.at 5 rfl).1 2 (hTo.at 5 rfl).2 3 (by decide)).trans hk_109
              have hk_123 : rd f_118 rdr 4 = .int pw_52 := ((Fr.put (cs := [(9, 8)]) (a := h0) (ci := 9) Fr.rf Ext.rf (hTo.at 3 rfl).2 (by decide) hrd_119 hup_120).1 rdr (hTo.at 5 rfl).1 2 (hTo.at 5 rfl).2 4 (by decide)).trans hk_110
              have hk_124 : rd f_118 rdr 5 = .int sg_53 := ((Fr.put (cs := [(9, 8)]) (a := h0) (ci := 9) Fr.rf Ext.rf (hTo.at 3 rfl).2 (by decide) hrd_119 hup_120).1 rdr (hTo.at 5 rfl).1 2 (hTo.at 5 rfl).2 5 (by decide)).trans hk_111
              refine lv_aload_n hx hb dX9_recipe_82 rfl (lv_at hl 1 rfl) ?_
              refine T_get (ci := 9) (C := RX9) (T := TX9) (N := 11) (t := (1, 0, 2, 0)) hx hb hts inw_X9_recipe_9 hown hK hP hT 3 rfl rfl 6 (by decide) (hts (.fieldLink RX9 31 "VatHouse" "reader" "LVatHouse$Reader;") (by decide +kernel)) (fun _ h9 => h9) rfl dX9_recipe_83 (fun v_127 hv_125 hr_126 => ?_)
              obtain rfl : v_127 = .ref rdr := hr_126.symm.trans ((hF.1 h0 (hT0.at 0 rfl).1 9 (hT0.at 0 rfl).2 6 (by decide)).trans h_rdr)
              refine T_get (ci := 2) (C := RX2) (T := TX2) (N := 6) (t := tI) hx hb hts inw_X9_recipe_2 hown hK hP hT 5 rfl rfl 3 (by decide) (hts (.fieldLink RX9 134 "VatHouse$Reader" "fault" "I") (by decide +kernel)) (fun _ h9 => h9) rfl dX9_recipe_86 (fun v_130 hv_128 hr_129 => ?_)
              obtain rfl : v_130 = .int fa_51 := hr_129.symm.trans hk_122
              refine vx_ret ?_
              exact K_i hx hb hr hlocks hP hD hK hS hT hE ⟨⟨_, rfl⟩, hF, _, _, _, hk_121, hk_122, hk_123, ⟨⟨c_1, c_12, c_19, c_29⟩, rfl⟩, trivial, trivial, ⟨ln, qn, hbn, hln, hev9, hfa9, hpw9, rfl⟩⟩ (Nat.le_of_ble_eq_true rfl) (Nat.le_of_ble_eq_true rfl) dX9_recipe_89
          · have hT := hT.add hb9
            obtain ⟨hfr_131, fa_132, pw_133, sg_134, hk_135, hk_136, hk_137, hrel_138, hrel_139, hrel_140, hex_141⟩ := hw_47
            have hk_142 : rd f_46 h0 5 = .int tl := (hfr_131.1 h0 (hTo.at 1 rfl).1 9 (hTo.at 1 rfl).2 5 (by decide)).trans hk_41
            obtain ⟨qn, hev9, hfa9, hpw9⟩ := hex_141
            refine W.eq (g2 := F0 m 41 ls [.ref b_49]) rfl ?_
            refine lv_astore_n (lv' := [(3, .ref b_49), (0, .ref h0), (1, .int a), (2, .int b)]) hx hb dX9_recipe_41 rfl hl (by decide) rfl (fun ls hl => ?_)
            refine lv_aload_n hx hb dX9_recipe_42 rfl (lv_at hl 1 rfl) ?_
            refine lv_iconst (v := 0) hx hb dX9_recipe_43 (by decide) ?_
            have hTo := hT
            refine T_put (ci := 9) (v := .int 0) (ty := .int) (t := tI) (C := RX9) (T := TX9) (N := 11) hx hb hts inw_X9_recipe_9 tyX9 tyX9_ok nmX9 hown hK hP hD hS hT 2 rfl rfl 5 (by decide) (hts (.fieldLink RX9 124 "VatHouse" "tapeLength" "I") (by decide +kernel)) (fun _ h9 => h9) rfl (by decide +kernel) rfl rfl rfl ⟨_, rfl⟩ dX9_recipe_44 (fun f_143 H locs hP hD hS hT hE1 hrd_144 hup_145 => ?_)
            have hF := Fr.put (a := h0) (ci := 9) hF hE ((hE1 h0 (hT.at 2 rfl).1).2.symm.trans (hT.at 2 rfl).2) (by decide) hrd_144 hup_145
            have hE := hE.tr hE1
            have hk_146 : rd f_143 h0 5 = .int 0 := (hrd_144 h0 5).trans (if_pos ⟨rfl, rfl⟩)
            have hk_147 : rd f_143 rdr 3 = .int fa_132 := ((Fr.put (cs := [(9, 5)]) (a := h0) (ci := 9) Fr.rf Ext.rf (hTo.at 2 rfl).2 (by decide) hrd_144 hup_145).1 rdr (hTo.at 4 rfl).1 2 (hTo.at 4 rfl).2 3 (by decide)).trans hk_135
            have hk_148 : rd f_143 rdr 4 = .int pw_133 := ((Fr.put (cs := [(9, 5)]) (a := h0) (ci := 9) Fr.rf Ext.rf (hTo.at 2 rfl).2 (by decide) hrd_144 hup_145).1 rdr (hTo.at 4 rfl).1 2 (hTo.at 4 rfl).2 4 (by decide)).trans hk_136
            have hk_149 : rd f_143 rdr 5 = .int sg_134 := ((Fr.put (cs := [(9, 5)]) (a := h0) (ci := 9) Fr.rf Ext.rf (hTo.at 2 rfl).2 (by decide) hrd_144 hup_145).1 rdr (hTo.at 4 rfl).1 2 (hTo.at 4 rfl).2 5 (by decide)).trans hk_137
            refine lv_aload_n hx hb dX9_recipe_47 rfl (lv_at hl 1 rfl) ?_
            refine T_get (ci := 9) (C := RX9) (T := TX9) (N := 11) (t := (1, 0, 2, 0)) hx hb hts inw_X9_recipe_9 hown hK hP hT 2 rfl rfl 6 (by decide) (hts (.fieldLink RX9 31 "VatHouse" "reader" "LVatHouse$Reader;") (by decide +kernel)) (fun _ h9 => h9) rfl dX9_recipe_48 (fun v_152 hv_150 hr_151 => ?_)
            obtain rfl : v_152 = .ref rdr := hr_151.symm.trans ((hF.1 h0 (hT0.at 0 rfl).1 9 (hT0.at 0 rfl).2 6 (by decide)).trans h_rdr)
            refine T_get (ci := 2) (C := RX2) (T := TX2) (N := 6) (t := tI) hx hb hts inw_X9_recipe_2 hown hK hP hT 4 rfl rfl 3 (by decide) (hts (.fieldLink RX9 134 "VatHouse$Reader" "fault" "I") (by decide +kernel)) (fun _ h9 => h9) rfl dX9_recipe_51 (fun v_155 hv_153 hr_154 => ?_)
            obtain rfl : v_155 = .int fa_132 := hr_154.symm.trans hk_147
            refine lv_if_ne (tgt := 82) hx hb dX9_recipe_54 (by decide) (fun c_156 => ?_) (fun c_156 => ?_)
            · refine lv_aload_n hx hb dX9_recipe_82 rfl (lv_at hl 1 rfl) ?_
              refine T_get (ci := 9) (C := RX9) (T := TX9) (N := 11) (t := (1, 0, 2, 0)) hx hb hts inw_X9_recipe_9 hown hK hP hT 2 rfl rfl 6 (by decide) (hts (.fieldLink RX9 31 "VatHouse" "reader" "LVatHouse$Reader;") (by decide +kernel)) (fun _ h9 => h9) rfl dX9_recipe_83 (fun v_159 hv_157 hr_158 => ?_)
              obtain rfl : v_159 = .ref rdr := hr_158.symm.trans ((hF.1 h0 (hT0.at 0 rfl).1 9 (hT0.at 0 rfl).2 6 (by decide)).trans h_rdr)
              refine T_get (ci := 2) (C := RX2) (T := TX2) (N := 6) (t := tI) hx hb hts inw_X9_recipe_2 hown hK hP hT 4 rfl rfl 3 (by decide) (hts (.fieldLink RX9 134 "VatHouse$Reader" "fault" "I") (by decide +kernel)) (fun _ h9 => h9) rfl dX9_recipe_86 (fun v_162 hv_160 hr_161 => ?_)
              obtain rfl : v_162 = .int fa_132 := hr_161.symm.trans hk_147
              refine vx_ret ?_
              exact K_i hx hb hr hlocks hP hD hK hS hT hE ⟨⟨_, rfl⟩, hF, _, _, _, hk_146, hk_147, hk_148, ⟨⟨c_1, c_12, c_19, c_29⟩, rfl⟩, trivial, trivial, ⟨ln, qn, hbn, hln, hev9, hfa9, hpw9, rfl⟩⟩ (Nat.le_of_ble_eq_true rfl) (Nat.le_of_ble_eq_true rfl) dX9_recipe_89
            · refine lv_aload_n hx hb dX9_recipe_57 rfl (lv_at hl 1 rfl) ?_
              refine T_get (ci := 9) (C := RX9) (T := TX9) (N := 11) (t := (1, 2, g 4, 8)) hx hb hts inw_X9_recipe_9 hown hK hP hT 2 rfl rfl 7 (by decide) (hts (.fieldLink RX9 37 "VatHouse" "recipes" "[LVatHouse$Recipe;") (by decide +kernel)) (fun _ h9 => h9) rfl dX9_recipe_58 (fun v_165 hv_163 hr_164 => ?_)
              obtain ⟨b_166, rfl, hb9⟩ := hv_163
              have hT := hT.add hb9
              refine lv_iload_n hx hb dX9_recipe_61 rfl (lv_at hl 2 rfl) ?_
              have hTo := hT
              refine T_new (ci := 3) (fs := [.null]) (C := RX3) (T := TX3) (N := 1) hx hb hts inw_X9_recipe_3 tyX3 tyX3_ok hown (hts (.classLink RX9 35 RX3) (by decide +kernel)) (hts (.instantiable RX3 1) (by decide +kernel)) (hts (.initialized RX3) (by decide +kernel)) hK hP hD hS hA hT rfl nfX3 (okn_3 g) (Nat.le_of_ble_eq_true rfl) (Nat.le_of_ble_eq_true rfl) dX9_recipe_62 (fun q_167 L_168 f_169 H hq_170 hL_171 hP hD hS hT hE1 hrd_172 hrq_173 hup => ?_)
              have hF := Fr.new hF hE hq_170 hrd_172 hup
              have hE := hE.tr hE1
              have hk_174 := (hrd_172 h0 5 (fun h9 => hq_170 (h9 ▸ (hTo.at 3 rfl).1))).trans hk_146
              have hk_175 := (hrd_172 rdr 3 (fun h9 => hq_170 (h9 ▸ (hTo.at 5 rfl).1))).trans hk_147
              have hk_176 := (hrd_172 rdr 4 (fun h9 => hq_170 (h9 ▸ (hTo.at 5 rfl).1))).trans hk_148
              have hk_177 := (hrd_172 rdr 5 (fun h9 => hq_170 (h9 ▸ (hTo.at 5 rfl).1))).trans hk_149
              refine lv_dup hx hb dX9_recipe_65 rfl ?_
              refine lv_aload_n hx hb dX9_recipe_66 rfl (lv_at hl 0 rfl) ?_
              have hTo := hT
              refine K_I ⟨hx, hb, hml, hown, hts⟩ (t_X3_init l dC dI sa hlt g _ _ q_167 (.ref b_49) _ (hT.sub [0] rfl) (Or.inr ⟨_, rfl, hT.at 2 rfl⟩) ) (cwI 1 hts gX9_recipe_X3_init rfl rfl rfl (hts (.initialized RX3) (by decide +kernel)) (hts (.methodLink RX9 137 yX3_init) (by decide +kernel)) (hts (.instanceMethod yX3_init) (by decide +kernel)) rfl (by decide +kernel) ⟨Nat.le_of_ble_eq_true rfl, Nat.le_of_ble_eq_true rfl⟩) hP hD hK hS hA hev hT rfl hl.1 rfl (Nat.le_of_ble_eq_true rfl) dX9_recipe_67 ⟨Nat.le_of_ble_eq_true rfl, Nat.le_of_ble_eq_true rfl⟩ (fun r L_178 f_179 H locs hw_180 hP hD hS hT hE1 => ?_)
              have hF := Fr.call hF hE hw_180.2 (by decide)
              have hE := hE.tr hE1
              obtain ⟨rfl, hw_180⟩ := hw_180
              have hk_181 : rd f_179 h0 5 = .int 0 := (hw_180.1 h0 (hTo.at 4 rfl).1 9 (hTo.at 4 rfl).2 5 (by decide)).trans hk_174
              have hk_182 : rd f_179 rdr 3 = .int fa_132 := (hw_180.1 rdr (hTo.at 6 rfl).1 2 (hTo.at 6 rfl).2 3 (by decide)).trans hk_175
              have hk_183 : rd f_179 rdr 4 = .int pw_133 := (hw_180.1 rdr (hTo.at 6 rfl).1 2 (hTo.at 6 rfl).2 4 (by decide)).trans hk_176
              have hk_184 : rd f_179 rdr 5 = .int sg_134 := (hw_180.1 rdr (hTo.at 6 rfl).1 2 (hTo.at 6 rfl).2 5 (by decide)).trans hk_177
              refine W.eq (g2 := F0 m 70 ls [.ref q_167, .int a, .ref b_166]) rfl ?_
              have hTo := hT
              refine T_rast hx hb hK hP hD hS hT 1 4 0 rfl rfl rfl rfl (vin 8 (by decide) rfl (by assumption) (by assumption)) dX9_recipe_70 (fun f_185 H locs hP hD hS hT hE1 hrd_186 hup_187 hia_188 => ?_)
              have hF := Fr.arr (a := b_166) hF hE ((hE1 b_166 (hT.at 1 rfl).1).2.symm.trans (hT.at 1 rfl).2) (by decide) hrd_186 hup_187
              have hE := hE.tr hE1
              have hk_189 : rd f_185 h0 5 = .int 0 := (hrd_186 h0 5).trans hk_181
              have hk_190 : rd f_185 rdr 3 = .int fa_132 := (hrd_186 rdr 3).trans hk_182
              have hk_191 : rd f_185 rdr 4 = .int pw_133 := (hrd_186 rdr 4).trans hk_183
              have hk_192 : rd f_185 rdr 5 = .int sg_134 := (hrd_186 rdr 5).trans hk_184
              refine lv_aload_n hx hb dX9_recipe_71 rfl (lv_at hl 1 rfl) ?_
              refine lv_aload_n hx hb dX9_recipe_72 rfl (lv_at hl 1 rfl) ?_
              refine T_get (ci := 9) (C := RX9) (T := TX9) (N := 11) (t := (1, 0, 2, 0)) hx hb hts inw_X9_recipe_9 hown hK hP hT 4 rfl rfl 6 (by decide) (hts (.fieldLink RX9 31 "VatHouse" "reader" "LVatHouse$Reader;") (by decide +kernel)) (fun _ h9 => h9) rfl dX9_recipe_73 (fun v_195 hv_193 hr_194 => ?_)
              obtain rfl : v_195 = .ref rdr := hr_194.symm.trans ((hF.1 h0 (hT0.at 0 rfl).1 9 (hT0.at 0 rfl).2 6 (by decide)).trans h_rdr)
              refine T_get (ci := 2) (C := RX2) (T := TX2) (N := 6) (t := tI) hx hb hts inw_X9_recipe_2 hown hK hP hT 6 rfl rfl 5 (by decide) (hts (.fieldLink RX9 140 "VatHouse$Reader" "steps" "I") (by decide +kernel)) (fun _ h9 => h9) rfl dX9_recipe_76 (fun v_198 hv_196 hr_197 => ?_)
              obtain rfl : v_198 = .int sg_134 := hr_197.symm.trans hk_192
              have hTo := hT
              refine T_put (ci := 9) (v := .int sg_134) (ty := .int) (t := tI) (C := RX9) (T := TX9) (N := 11) hx hb hts inw_X9_recipe_9 tyX9 tyX9_ok nmX9 hown hK hP hD hS hT 4 rfl rfl 8 (by decide) (hts (.fieldLink RX9 143 "VatHouse" "stepsRead" "I") (by decide +kernel)) (fun _ h9 => h9) rfl (by decide +kernel) rfl rfl rfl ⟨_, rfl⟩ dX9_recipe_79 (fun f_199 H locs hP hD hS hT hE1 hrd_200 hup_201 => ?_)
              have hF := Fr.put (a := h0) (ci := 9) hF hE ((hE1 h0 (hT.at 4 rfl).1).2.symm.trans (hT.at 4 rfl).2) (by decide) hrd_200 hup_201
              have hE := hE.tr hE1
              have hk_202 : rd f_199 h0 5 = .int 0 := ((Fr.put (cs := [(9, 8)]) (a := h0) (ci := 9) Fr.rf Ext.rf (hTo.at 4 rfl).2 (by decide) hrd_200 hup_201).1 h0 (hTo.at 4 rfl).1 9 (hTo.at 4 rfl).2 5 (by decide)).trans hk_189
              have hk_203 : rd f_199 rdr 3 = .int fa_132 := ((Fr.put (cs := [(9, 8)]) (a := h0) (ci := 9) Fr.rf Ext.rf (hTo.at 4 rfl).2 (by decide) hrd_200 hup_201).1 rdr (hTo.at 6 rfl).1 2 (hTo.at 6 rfl).2 3 (by decide)).trans hk_190
              have hk_204 : rd f_199 rdr 4 = .int pw_133 := ((Fr.put (cs := [(9, 8)]) (a := h0) (ci := 9) Fr.rf Ext.rf (hTo.at 4 rfl).2 (by decide) hrd_200 hup_201).1 rdr (hTo.at 6 rfl).1 2 (hTo.at 6 rfl).2 4 (by decide)).trans hk_191
              have hk_205 : rd f_199 rdr 5 = .int sg_134 := ((Fr.put (cs := [(9, 8)]) (a := h0) (ci := 9) Fr.rf Ext.rf (hTo.at 4 rfl).2 (by decide) hrd_200 hup_201).1 rdr (hTo.at 6 rfl).1 2 (hTo.at 6 rfl).2 5 (by decide)).trans hk_192
              refine lv_aload_n hx hb dX9_recipe_82 rfl (lv_at hl 1 rfl) ?_
              refine T_get (ci := 9) (C := RX9) (T := TX9) (N := 11) (t := (1, 0, 2, 0)) hx hb hts inw_X9_recipe_9 hown hK hP hT 4 rfl rfl 6 (by decide) (hts (.fieldLink RX9 31 "VatHouse" "reader" "LVatHouse$Reader;") (by decide +kernel)) (fun _ h9 => h9) rfl dX9_recipe_83 (fun v_208 hv_206 hr_207 => ?_)
              obtain rfl : v_208 = .ref rdr := hr_207.symm.trans ((hF.1 h0 (hT0.at 0 rfl).1 9 (hT0.at 0 rfl).2 6 (by decide)).trans h_rdr)
              refine T_get (ci := 2) (C := RX2) (T := TX2) (N := 6) (t := tI) hx hb hts inw_X9_recipe_2 hown hK hP hT 6 rfl rfl 3 (by decide) (hts (.fieldLink RX9 134 "VatHouse$Reader" "fault" "I") (by decide +kernel)) (fun _ h9 => h9) rfl dX9_recipe_86 (fun v_211 hv_209 hr_210 => ?_)
              obtain rfl : v_211 = .int fa_132 := hr_210.symm.trans hk_203
              refine vx_ret ?_
              exact K_i hx hb hr hlocks hP hD hK hS hT hE ⟨⟨_, rfl⟩, hF, _, _, _, hk_202, hk_203, hk_204, ⟨⟨c_1, c_12, c_19, c_29⟩, rfl⟩, trivial, trivial, ⟨ln, qn, hbn, hln, hev9, hfa9, hpw9, rfl⟩⟩ (Nat.le_of_ble_eq_true rfl) (Nat.le_of_ble_eq_true rfl) dX9_recipe_89

abbrev rm_X9_faultX : Room := { frames := 6, cells := 1, slots := 6, locals := 82 }
set_option maxHeartbeats 800000 in
set_option maxRecDepth 100000 in
theorem t_X9_faultX (l : Launch) (dC : Nat → ClassId) (dI : Nat → Nat → Nat) (sa : Nat → Nat) (hlt : l.stackTraces = false) (g : Nat → Nat) (L : List Nat) (f : Nat → va_E) (h0 : Nat) (a : Int32) (rdr : Nat) (fa : Int32) (pw : Int32) (sz : Nat) (hT : TP g L f [(h0, (0, 9, 0)), (rdr, (0, 2, 0))]) (hm_fa : rd f rdr 3 = .int fa) (hm_pw : rd f rdr 4 = .int pw) (h_rdr : rd f h0 6 = .ref rdr) : KX l dC dI sa g yX9_fault wsX9_fault rm_X9_faultX [.ref h0, .int a] L f sz (fun r L' f' => (∃ z : Int32, r = some (.int z)) ∧ Fr [] L f f' ∧ ((a = 0 ∧ r = some (.int fa)) ∨ (a = 1 ∧ r = some (.int pw)))) (fun E L' f' => ((E = NSE) ∧ (¬ a = 0 ∧ ¬ a = 1)) ∧ Fr [] L f f') 1 6 := by
  refine KX.start (cc := cX9_fault) (maxL := 2) (ret := (some .int)) (by decide) rfl (Nat.le_of_ble_eq_true rfl) ?_
  intro p e s m below meth c ls hst hno hP hK hD hev hS hl
  obtain ⟨hx, hb, hr, hml, hts, hown, hlocks, hin⟩ := hst
  have hown : s.vm.findClass RX9 = some m.cls := hown
  have hin : meth.name = yX9_fault.name := hin
  have hA : ∀ q : Nat, s.heap.size ≤ q → va_A (va_pl L f) s.heap.size q := fun _ h => Or.inr h
  have hE : Ext L f L f := Ext.rf
  have hF : Fr [] L f f := Fr.rf
  have hl : lv_has ls 2 [(0, .ref h0), (1, .int a)] := hl
  have hT0 := hT
  refine lv_iload_n hx hb dX9_fault_0 rfl (lv_at hl 1 rfl) ?_
  by_cases c_1 : a = 0
  · refine lv_lookup (tgt := 28) hx hb dX9_fault_1 (by decide) (off := 27) (by rw [c_1]; rfl) (by decide) ?_
    refine lv_aload_n hx hb dX9_fault_28 rfl (lv_at hl 0 rfl) ?_
    refine T_get (ci := 9) (C := RX9) (T := TX9) (N := 11) (t := (1, 0, 2, 0)) hx hb hts inw_X9_fault_9 hown hK hP hT 0 rfl rfl 6 (by decide) (hts (.fieldLink RX9 31 "VatHouse" "reader" "LVatHouse$Reader;") (by decide +kernel)) (fun _ h9 => h9) rfl dX9_fault_29 (fun v_4 hv_2 hr_3 => ?_)
    obtain rfl : v_4 = .ref rdr := hr_3.symm.trans ((hF.1 h0 (hT0.at 0 rfl).1 9 (hT0.at 0 rfl).2 6 (by decide)).trans h_rdr)
    refine T_get (ci := 2) (C := RX2) (T := TX2) (N := 6) (t := tI) hx hb hts inw_X9_fault_2 hown hK hP hT 1 rfl rfl 3 (by decide) (hts (.fieldLink RX9 134 "VatHouse$Reader" "fault" "I") (by decide +kernel)) (fun _ h9 => h9) rfl dX9_fault_32 (fun v_7 hv_5 hr_6 => ?_)
    obtain rfl : v_7 = .int fa := hr_6.symm.trans hm_fa
    refine vx_ret ?_
    exact K_i hx hb hr hlocks hP hD hK hS hT hE ⟨⟨_, rfl⟩, hF, Or.inl ⟨c_1, rfl⟩⟩ (Nat.le_of_ble_eq_true rfl) (Nat.le_of_ble_eq_true rfl) dX9_fault_35
  by_cases c_8 : a = 1
  · refine lv_lookup (tgt := 36) hx hb dX9_fault_1 (by decide) (off := 35) (by rw [c_8]; rfl) (by decide) ?_
    refine lv_aload_n hx hb dX9_fault_36 rfl (lv_at hl 0 rfl) ?_
    refine T_get (ci := 9) (C := RX9) (T := TX9) (N := 11) (t := (1, 0, 2, 0)) hx hb hts inw_X9_fault_9 hown hK hP hT 0 rfl rfl 6 (by decide) (hts (.fieldLink RX9 31 "VatHouse" "reader" "LVatHouse$Reader;") (by decide +kernel)) (fun _ h9 => h9) rfl dX9_fault_37 (fun v_11 hv_9 hr_10 => ?_)
    obtain rfl : v_11 = .ref rdr := hr_10.symm.trans ((hF.1 h0 (hT0.at 0 rfl).1 9 (hT0.at 0 rfl).2 6 (by decide)).trans h_rdr)
    refine T_get (ci := 2) (C := RX2) (T := TX2) (N := 6) (t := tI) hx hb hts inw_X9_fault_2 hown hK hP hT 1 rfl rfl 4 (by decide) (hts (.fieldLink RX9 146 "VatHouse$Reader" "place" "I") (by decide +kernel)) (fun _ h9 => h9) rfl dX9_fault_40 (fun v_14 hv_12 hr_13 => ?_)
    obtain rfl : v_14 = .int pw := hr_13.symm.trans hm_pw
    refine vx_ret ?_
    exact K_i hx hb hr hlocks hP hD hK hS hT hE ⟨⟨_, rfl⟩, hF, Or.inr ⟨c_8, rfl⟩⟩ (Nat.le_of_ble_eq_true rfl) (Nat.le_of_ble_eq_true rfl) dX9_fault_43
  refine lv_lookup (tgt := 44) hx hb dX9_fault_1 (by decide) (off := 43) (look_out2 c_1 c_8) (by decide) ?_
  exact K_x (cls := NSE) hno hx hb hlt hlocks hown hts xg_0 xg_1 xg_2 xg_5 (by decide +kernel) (hts (.classLink RX9 149 NSE) (by decide +kernel)) (hts (.initialized NSE) (by decide +kernel)) hev.2.1.2.2.2.1 (inx_X9_fault_9) xb_9 hev.2.2.1.1 xo_9 hev (hl.1.trans hml.symm) dX9_fault_44 dX9_fault_47 dX9_fault_48 dX9_fault_50 dX9_fault_53 (Nat.le_of_ble_eq_true rfl) (Nat.le_of_ble_eq_true rfl) (Nat.le_of_ble_eq_true rfl) (Nat.le_of_ble_eq_true rfl) ⟨⟨rfl, ⟨c_1, c_8⟩⟩, hF⟩ hP hD hK hS hT hE (Nat.le_of_ble_eq_true rfl) (Nat.le_of_ble_eq_true rfl)
