theorem tab_out_1_7 {x : Int32} (h1 : ¬ x = 1) (h2 : ¬ x = 2) (h3 : ¬ x = 3) (h4 : ¬ x = 4) (h5 : ¬ x = 5) (h6 : ¬ x = 6) (h7 : ¬ x = 7) : x.toInt < 1 ∨ 7 < x.toInt := by
  have e1 : x.toInt ≠ 1 := fun h => h1 (Int32.toInt_inj.mp h)
  have e2 : x.toInt ≠ 2 := fun h => h2 (Int32.toInt_inj.mp h)
  have e3 : x.toInt ≠ 3 := fun h => h3 (Int32.toInt_inj.mp h)
  have e4 : x.toInt ≠ 4 := fun h => h4 (Int32.toInt_inj.mp h)
  have e5 : x.toInt ≠ 5 := fun h => h5 (Int32.toInt_inj.mp h)
  have e6 : x.toInt ≠ 6 := fun h => h6 (Int32.toInt_inj.mp h)
  have e7 : x.toInt ≠ 7 := fun h => h7 (Int32.toInt_inj.mp h)
  omega

/-- how many steps may still come -/
noncomputable def pot (fa sg : Int32) : Nat := if fa = 0 then (301 - sg.toInt).toNat else 0
theorem pot_le {fa fb sg : Int32} (h : fb = 0 → fa = 0) : pot fb sg ≤ pot fa sg := by
  unfold pot
  by_cases hb : fb = 0
  · rw [if_pos hb, if_pos (h hb)]; exact Nat.le_refl _
  · rw [if_neg hb]; exact Nat.zero_le _
theorem pot_ne {fa : Int32} (sg : Int32) (h : ¬ fa = 0) : pot fa sg = 0 := if_neg h
theorem pot_pos {fa sg : Int32} (h : fa = 0) (h3 : sg.toInt ≤ 300) : 1 ≤ pot fa sg := by
  rw [pot, if_pos h]; omega
theorem pot_inc {fa sg z : Int32} (hf : fa = 0) (h : sg < 300) (hz : z = sg + 1) : pot fa z + 1 = pot fa sg ∧ z.toInt ≤ 300 := by
  subst hz
  have h1 := inc_toInt h
  rw [Int32.lt_iff_toInt_lt] at h
  have e : (300 : Int32).toInt = 300 := by decide
  constructor
  · rw [pot, pot, if_pos hf, if_pos hf, h1]; omega
  · rw [h1]; omega
theorem lv7 {x : Int32} {d : Nat} (hd : x = nI d) (h : x < 8) (hb : d ≤ 8) : d < 8 := by
  subst hd
  rcases Nat.lt_or_ge d 8 with h1 | h1
  · exact h1
  · have : d = 8 := by omega
    subst this
    exact absurd h (by decide)

/-- the reader's numbers stand at the state q -/
noncomputable def RQ (tt : Nat → Int32) (ln M : Nat) (q : SG) (ax tn fa pw : Int32) : Prop := (∃ j : Nat, ax = nI j ∧ j ≤ M ∧ Sj tt ln j = q.1) ∧ tn = Kp tt ln q.1 ∧ fa = q.2.2.1 ∧ pw = q.2.2.2
/-- the tokens of the text are laid -/
noncomputable def TKS (f : Nat → va_E) (ka sta vaa : Nat) (tt : Nat → Int32) (ln M : Nat) : Prop := TKp f ka sta vaa tt ln (M + 1) ∧ M ≤ 1500 ∧ Sj tt ln M = ln
theorem TKS.go {f f' : Nat → va_E} {ka sta vaa ln M : Nat} {tt : Nat → Int32} (h : TKS f ka sta vaa tt ln M) (h1 : f' ka = f ka) (h2 : f' sta = f sta) (h3 : f' vaa = f vaa) : TKS f' ka sta vaa tt ln M := ⟨h.1.go h1 h2 h3, h.2⟩
section RQS
variable {tt : Nat → Int32} {ln M : Nat} {q : SG} {ax tn fa pw : Int32}
theorem RQ.K (h : RQ tt ln M q ax tn fa pw) : tn = Kp tt ln q.1 := h.2.1
theorem RQ.F (h : RQ tt ln M q ax tn fa pw) : fa = q.2.2.1 := h.2.2.1
/-- a fault -/
theorem RQ.fault {wy fa2 pw2 : Int32} (h : RQ tt ln M q ax tn fa pw) (h0 : fa = 0) (h1 : fa2 = wy) (h2 : pw2 = nI q.1) : RQ tt ln M (grf wy q) ax tn fa2 pw2 := by
  have e : grf wy q = (q.1, q.2.1, wy, nI q.1) := by
    unfold grf gfl
    rw [if_pos (h.F.symm.trans h0)]
  rw [e]
  exact ⟨h.1, h.2.1, h1, h2⟩
theorem RQ.nofault {wy : Int32} (h : RQ tt ln M q ax tn fa pw) (h0 : ¬ fa = 0) : RQ tt ln M (grf wy q) ax tn fa pw := by
  rw [grf_fx (fun g => h0 (h.F.trans g))]
  exact h
theorem RQ.pass1 {wa : Int32} (h : RQ tt ln M q ax tn fa pw) (hn : ¬ tn = wa) {ax2 tn2 fa2 pw2 : Int32} (h2 : RQ tt ln M (grf 1 q) ax2 tn2 fa2 pw2) : RQ tt ln M (gpa (Kp tt ln) (nq tt ln) wa q) ax2 tn2 fa2 pw2 := by
  have e : gpa (Kp tt ln) (nq tt ln) wa q = grf 1 q := by
    unfold gpa grf
    by_cases g : q.2.2.1 = 0
    · rw [if_pos g, if_pos g, if_neg (fun k => hn (h.K.trans k))]
    · rw [if_neg g, if_neg g]
  rw [e]
  exact h2
theorem RQ.pass2 {wa : Int32} (h : RQ tt ln M q ax tn fa pw) (h0 : ¬ fa = 0) : RQ tt ln M (gpa (Kp tt ln) (nq tt ln) wa q) ax tn fa pw := by
  rw [gpa_fx (fun g => h0 (h.F.trans g))]
  exact h
theorem RQ.lt (h : RQ tt ln M q ax tn fa pw) (hS : Sj tt ln M = ln) (hM : M ≤ 1500) {wa : Int32} (hk : tn = wa) (hwa : ¬ wa = 0) : q.1 < ln ∧ ∃ j : Nat, ax = nI j ∧ j + 1 ≤ M ∧ Sj tt ln j = q.1 := by
  obtain ⟨⟨j, h1, h2, h3⟩, h4, -⟩ := h
  have hq : q.1 < ln := by
    rcases Nat.lt_or_ge q.1 ln with g | g
    · exact g
    · exact absurd (hk.symm.trans (h4.trans (Kp_0.mpr g))) hwa
  refine ⟨hq, j, h1, ?_, h3⟩
  rcases Nat.eq_or_lt_of_le h2 with g | g
  · rw [g, hS] at h3; omega
  · exact g
theorem RQ.pass3 {wa ax2 tn2 z : Int32} (h : RQ tt ln M q ax tn fa pw) (hS : Sj tt ln M = ln) (hM : M ≤ 1500) (h0 : fa = 0) (hk : tn = wa) (hwa : ¬ wa = 0) (hz : z = ax + 1) (h1 : ax2 = z) (h2 : ∀ j9 : Nat, j9 ≤ M → z = nI j9 → tn2 = Kp tt ln (Sj tt ln j9)) : RQ tt ln M (gpa (Kp tt ln) (nq tt ln) wa q) ax2 tn2 fa pw := by
  obtain ⟨-, j, g1, g2, g3⟩ := h.lt hS hM hk hwa
  have e : gpa (Kp tt ln) (nq tt ln) wa q = (nq tt ln q.1, q.2) := by
    unfold gpa
    rw [if_pos (h.F.symm.trans h0), if_pos (h.K.symm.trans hk)]
  have ez : z = nI (j + 1) := by rw [hz, g1]; exact nI_1 j
  have es : Sj tt ln (j + 1) = nq tt ln q.1 := by show nq tt ln (Sj tt ln j) = _; rw [g3]
  rw [e]
  exact ⟨⟨j + 1, h1.trans ez, g2, es⟩, by rw [h2 (j + 1) g2 ez, es], h.2.2⟩
theorem gnu_1 {K V : Nat → Int32} {N : Nat → Nat} {lo hi : Int32} {q : SG} (h : K q.1 = -2 ∨ (K q.1 = -1 ∧ (V q.1 < lo ∨ hi < V q.1))) : gnu K V N lo hi q = gpa K N (-1) (grf 2 q) := by
  unfold gnu grf
  by_cases g : q.2.2.1 = 0
  · rw [if_pos g, if_pos h, if_pos g]
    exact (gpa_fx (K := K) (N := N) (s := gfl 2 q) (by show ¬ (2 : Int32) = 0; decide)).symm
  · rw [if_neg g, if_neg g]
    exact (gpa_fx g).symm
theorem gnu_2 {K V : Nat → Int32} {N : Nat → Nat} {lo hi : Int32} {q : SG} (h : ¬ (K q.1 = -2 ∨ (K q.1 = -1 ∧ (V q.1 < lo ∨ hi < V q.1)))) : gnu K V N lo hi q = gpa K N (-1) q := by
  unfold gnu
  by_cases g : q.2.2.1 = 0
  · rw [if_pos g, if_neg h]
  · rw [if_neg g, gpa_fx g]
end RQS

noncomputable abbrev rm_X2_moveTo : Room := { frames := 0, cells := 0, slots := 0, locals := 0 }
theorem inw_X2_moveTo_2 : ∀ w ∈ wsX20, w ∈ wsX2_moveTo := fun _ h => List.mem_cons_of_mem _ (List.mem_append_left _ (List.mem_append_right _ h))
theorem inw_X2_moveTo_6 : ∀ w ∈ wsX60, w ∈ wsX2_moveTo := fun _ h => List.mem_cons_of_mem _ (List.mem_append_right _ h)
set_option maxHeartbeats 800000 in
set_option maxRecDepth 100000 in
theorem t_X2_moveTo (l : Launch) (dC : Nat → ClassId) (dI : Nat → Nat → Nat) (sa : Nat → Nat) (hlt : l.stackTraces = false) (g : Nat → Nat) (L : List Nat) (f : Nat → va_E) (tt : Nat → Int32) (ln : Nat) (M : Nat) (h0 : Nat) (ix : Int32) (tok : Nat) (ka : Nat) (sta : Nat) (vaa : Nat) (zz : Int32) (sz : Nat) (hT : TP g L f [(h0, (0, 2, 0)), (tok, (0, 6, 0)), (ka, (1, g 0, 1501)), (sta, (1, g 5, 1501)), (vaa, (1, g 6, 1501))]) (hm_zz : rd f tok 3 = .int zz) (h_tok : rd f h0 0 = .ref tok) (h_ka : rd f tok 4 = .ref ka) (h_sta : rd f tok 5 = .ref sta) (h_vaa : rd f tok 6 = .ref vaa) (hzz : zz = nI (M + 1)) (hTK : TKS f ka sta vaa tt ln M) : KC l dC dI sa g yX2_moveTo wsX2_moveTo rm_X2_moveTo [.ref h0, .int ix] L f sz (fun r L' f' => (r = none) ∧ Fr [(2, 1), (2, 2)] L f f' ∧ (∃ ax' : Int32, ∃ tn' : Int32, rd f' h0 1 = .int ax' ∧ rd f' h0 2 = .int tn' ∧ (True) ∧ (True) ∧ (ax' = ix ∧ ∀ j9 : Nat, j9 ≤ M → ix = nI j9 → tn' = Kp tt ln (Sj tt ln j9)))) 0 0 := by
  refine CT.start (cc := cX2_moveTo) (maxL := 2) (ret := none) (by decide) rfl (Nat.le_of_ble_eq_true rfl) ?_
  intro p e s m below meth c ls hst hP hK hD hev hS hl
  obtain ⟨hx, hb, hr, hml, hts, hown, hlocks, hin⟩ := hst
  have hown : s.vm.findClass RX2 = some m.cls := hown
  have hin : meth.name = yX2_moveTo.name := hin
  have hA : ∀ q : Nat, s.heap.size ≤ q → va_A (va_pl L f) s.heap.size q := fun _ h => Or.inr h
  have hE : Ext L f L f := Ext.rf
  have hF : Fr [(2, 1), (2, 2)] L f f := Fr.rf
  have hl : lv_has ls 2 [(0, .ref h0), (1, .int ix)] := hl
  have hT0 := hT
  refine lv_aload_n hx hb dX2_moveTo_0 rfl (lv_at hl 0 rfl) ?_
  refine lv_iload_n hx hb dX2_moveTo_1 rfl (lv_at hl 1 rfl) ?_
  have hTo := hT
  refine T_put (ci := 2) (v := .int ix) (ty := .int) (t := tI) (C := RX2) (T := TX2) (N := 6) hx hb hts inw_X2_moveTo_2 tyX2 tyX2_ok nmX2 hown hK hP hD hS hT 0 rfl rfl 1 (by decide) (hts (.fieldLink RX2 101 "VatHouse$Reader" "at" "I") (List.mem_of_getElem? (i := 1) (by exact rfl))) (fun _ h9 => h9) rfl (tyX2_ok 1 (by decide)) rfl rfl rfl ⟨_, rfl⟩ dX2_moveTo_2 (fun f_1 H locs hP hD hS hT hE1 hrd_2 hup_3 => ?_)
  have hF := Fr.put (a := h0) (ci := 2) hF hE ((hE1 h0 (hT.at 0 rfl).1).2.symm.trans (hT.at 0 rfl).2) (by decide) hrd_2 hup_3
  have hE := hE.tr hE1
  have hk_4 : rd f_1 tok 3 = .int zz := ((Fr.put (cs := [(2, 1)]) (a := h0) (ci := 2) Fr.rf Ext.rf (hTo.at 0 rfl).2 (by decide) hrd_2 hup_3).1 tok (hTo.at 1 rfl).1 6 (hTo.at 1 rfl).2 3 (by decide)).trans hm_zz
  have hk_5 : rd f_1 h0 1 = .int ix := (hrd_2 h0 1).trans (if_pos ⟨rfl, rfl⟩)
  refine lv_aload_n hx hb dX2_moveTo_5 rfl (lv_at hl 0 rfl) ?_
  refine lv_iload_n hx hb dX2_moveTo_6 rfl (lv_at hl 1 rfl) ?_
  refine lv_if_lt (tgt := 45) hx hb dX2_moveTo_7 (by decide) (fun c_6 => ?_) (fun c_6 => ?_)
  · refine lv_iconst (v := 0) hx hb dX2_moveTo_45 (by decide) ?_
    have hTo := hT
    refine T_put (ci := 2) (v := .int 0) (ty := .int) (t := tI) (C := RX2) (T := TX2) (N := 6) hx hb hts inw_X2_moveTo_2 tyX2 tyX2_ok nmX2 hown hK hP hD hS hT 0 rfl rfl 2 (by decide) (hts (.fieldLink RX2 44 "VatHouse$Reader" "token" "I") (List.mem_of_getElem? (i := 5) (by exact rfl))) (fun _ h9 => h9) rfl (tyX2_ok 2 (by decide)) rfl rfl rfl ⟨_, rfl⟩ dX2_moveTo_46 (fun f_7 H locs hP hD hS hT hE1 hrd_8 hup_9 => ?_)
    have hF := Fr.put (a := h0) (ci := 2) hF hE ((hE1 h0 (hT.at 0 rfl).1).2.symm.trans (hT.at 0 rfl).2) (by decide) hrd_8 hup_9
    have hE := hE.tr hE1
    have hk_10 : rd f_7 tok 3 = .int zz := ((Fr.put (cs := [(2, 2)]) (a := h0) (ci := 2) Fr.rf Ext.rf (hTo.at 0 rfl).2 (by decide) hrd_8 hup_9).1 tok (hTo.at 1 rfl).1 6 (hTo.at 1 rfl).2 3 (by decide)).trans hk_4
    have hk_11 : rd f_7 h0 1 = .int ix := ((Fr.put (cs := [(2, 2)]) (a := h0) (ci := 2) Fr.rf Ext.rf (hTo.at 0 rfl).2 (by decide) hrd_8 hup_9).1 h0 (hTo.at 0 rfl).1 2 (hTo.at 0 rfl).2 1 (by decide)).trans hk_5
    have hk_12 : rd f_7 h0 2 = .int 0 := (hrd_8 h0 2).trans (if_pos ⟨rfl, rfl⟩)
    exact K_v hx hb hr hlocks hP hD hK hS hT hE ⟨rfl, hF, _, _, hk_11, hk_12, trivial, trivial, ⟨rfl, fun j9 hj9 he9 => absurd c_6 (he9 ▸ nI_pos (by have := hTK.2.1; omega))⟩⟩ (Nat.le_of_ble_eq_true rfl) (Nat.le_of_ble_eq_true rfl) dX2_moveTo_49
  · refine lv_iload_n hx hb dX2_moveTo_10 rfl (lv_at hl 1 rfl) ?_
    refine lv_aload_n hx hb dX2_moveTo_11 rfl (lv_at hl 0 rfl) ?_
    refine T_get (ci := 2) (C := RX2) (T := TX2) (N := 6) (t := (1, 0, 6, 0)) hx hb hts inw_X2_moveTo_2 hown hK hP hT 0 rfl rfl 0 (by decide) (hts (.fieldLink RX2 20 "VatHouse$Reader" "tokens" "LVatHouse$Tokens;") (List.mem_of_getElem? (i := 2) (by exact rfl))) (fun _ h9 => h9) rfl dX2_moveTo_12 (fun v_15 hv_13 hr_14 => ?_)
    obtain rfl : v_15 = .ref tok := hr_14.symm.trans ((hF.1 h0 (hT0.at 0 rfl).1 2 (hT0.at 0 rfl).2 0 (by decide)).trans h_tok)
    refine T_get (ci := 6) (C := RX6) (T := TX6) (N := 7) (t := tI) hx hb hts inw_X2_moveTo_6 hown hK hP hT 1 rfl rfl 3 (by decide) (hts (.fieldLink RX2 108 "VatHouse$Tokens" "size" "I") (List.mem_of_getElem? (i := 3) (by exact rfl))) (fun _ h9 => h9) rfl dX2_moveTo_15 (fun v_18 hv_16 hr_17 => ?_)
    obtain rfl : v_18 = .int zz := hr_17.symm.trans hk_4
    refine lv_icmp_ge (tgt := 45) hx hb dX2_moveTo_18 (by decide) (fun c_19 => ?_) (fun c_19 => ?_)
    · refine lv_iconst (v := 0) hx hb dX2_moveTo_45 (by decide) ?_
      have hTo := hT
      refine T_put (ci := 2) (v := .int 0) (ty := .int) (t := tI) (C := RX2) (T := TX2) (N := 6) hx hb hts inw_X2_moveTo_2 tyX2 tyX2_ok nmX2 hown hK hP hD hS hT 0 rfl rfl 2 (by decide) (hts (.fieldLink RX2 44 "VatHouse$Reader" "token" "I") (List.mem_of_getElem? (i := 5) (by exact rfl))) (fun _ h9 => h9) rfl (tyX2_ok 2 (by decide)) rfl rfl rfl ⟨_, rfl⟩ dX2_moveTo_46 (fun f_20 H locs hP hD hS hT hE1 hrd_21 hup_22 => ?_)
      have hF := Fr.put (a := h0) (ci := 2) hF hE ((hE1 h0 (hT.at 0 rfl).1).2.symm.trans (hT.at 0 rfl).2) (by decide) hrd_21 hup_22
      have hE := hE.tr hE1
      have hk_23 : rd f_20 tok 3 = .int zz := ((Fr.put (cs := [(2, 2)]) (a := h0) (ci := 2) Fr.rf Ext.rf (hTo.at 0 rfl).2 (by decide) hrd_21 hup_22).1 tok (hTo.at 1 rfl).1 6 (hTo.at 1 rfl).2 3 (by decide)).trans hk_4
      have hk_24 : rd f_20 h0 1 = .int ix := ((Fr.put (cs := [(2, 2)]) (a := h0) (ci := 2) Fr.rf Ext.rf (hTo.at 0 rfl).2 (by decide) hrd_21 hup_22).1 h0 (hTo.at 0 rfl).1 2 (hTo.at 0 rfl).2 1 (by decide)).trans hk_5
      have hk_25 : rd f_20 h0 2 = .int 0 := (hrd_21 h0 2).trans (if_pos ⟨rfl, rfl⟩)
      exact K_v hx hb hr hlocks hP hD hK hS hT hE ⟨rfl, hF, _, _, hk_24, hk_25, trivial, trivial, ⟨rfl, fun j9 hj9 he9 => absurd c_19 (by rw [he9, hzz, nI_leI (by have := hTK.2.1; omega) (by have := hTK.2.1; omega)]; omega)⟩⟩ (Nat.le_of_ble_eq_true rfl) (Nat.le_of_ble_eq_true rfl) dX2_moveTo_49
    · refine lv_iload_n hx hb dX2_moveTo_21 rfl (lv_at hl 1 rfl) ?_
      refine lv_aload_n hx hb dX2_moveTo_22 rfl (lv_at hl 0 rfl) ?_
      refine T_get (ci := 2) (C := RX2) (T := TX2) (N := 6) (t := (1, 0, 6, 0)) hx hb hts inw_X2_moveTo_2 hown hK hP hT 0 rfl rfl 0 (by decide) (hts (.fieldLink RX2 20 "VatHouse$Reader" "tokens" "LVatHouse$Tokens;") (List.mem_of_getElem? (i := 2) (by exact rfl))) (fun _ h9 => h9) rfl dX2_moveTo_23 (fun v_28 hv_26 hr_27 => ?_)
      obtain rfl : v_28 = .ref tok := hr_27.symm.trans ((hF.1 h0 (hT0.at 0 rfl).1 2 (hT0.at 0 rfl).2 0 (by decide)).trans h_tok)
      refine T_get (ci := 6) (C := RX6) (T := TX6) (N := 7) (t := (1, 1, g 0, 1501)) hx hb hts inw_X2_moveTo_6 hown hK hP hT 1 rfl rfl 4 (by decide) (hts (.fieldLink RX2 111 "VatHouse$Tokens" "kinds" "[I") (List.mem_of_getElem? (i := 4) (by exact rfl))) (fun _ h9 => h9) rfl dX2_moveTo_26 (fun v_31 hv_29 hr_30 => ?_)
      obtain rfl : v_31 = .ref ka := hr_30.symm.trans ((hF.1 tok (hT0.at 1 rfl).1 6 (hT0.at 1 rfl).2 4 (by decide)).trans h_ka)
      refine T_alen hx hb hK hP hT 2 0 rfl rfl (v := 1501) rfl dX2_moveTo_29 ?_
      refine lv_icmp_ge (tgt := 45) hx hb dX2_moveTo_30 (by decide) (fun c_32 => ?_) (fun c_32 => ?_)
      · refine lv_iconst (v := 0) hx hb dX2_moveTo_45 (by decide) ?_
        have hTo := hT
        refine T_put (ci := 2) (v := .int 0) (ty := .int) (t := tI) (C := RX2) (T := TX2) (N := 6) hx hb hts inw_X2_moveTo_2 tyX2 tyX2_ok nmX2 hown hK hP hD hS hT 0 rfl rfl 2 (by decide) (hts (.fieldLink RX2 44 "VatHouse$Reader" "token" "I") (List.mem_of_getElem? (i := 5) (by exact rfl))) (fun _ h9 => h9) rfl (tyX2_ok 2 (by decide)) rfl rfl rfl ⟨_, rfl⟩ dX2_moveTo_46 (fun f_33 H locs hP hD hS hT hE1 hrd_34 hup_35 => ?_)
        have hF := Fr.put (a := h0) (ci := 2) hF hE ((hE1 h0 (hT.at 0 rfl).1).2.symm.trans (hT.at 0 rfl).2) (by decide) hrd_34 hup_35
        have hE := hE.tr hE1
        have hk_36 : rd f_33 tok 3 = .int zz := ((Fr.put (cs := [(2, 2)]) (a := h0) (ci := 2) Fr.rf Ext.rf (hTo.at 0 rfl).2 (by decide) hrd_34 hup_35).1 tok (hTo.at 1 rfl).1 6 (hTo.at 1 rfl).2 3 (by decide)).trans hk_4
        have hk_37 : rd f_33 h0 1 = .int ix := ((Fr.put (cs := [(2, 2)]) (a := h0) (ci := 2) Fr.rf Ext.rf (hTo.at 0 rfl).2 (by decide) hrd_34 hup_35).1 h0 (hTo.at 0 rfl).1 2 (hTo.at 0 rfl).2 1 (by decide)).trans hk_5
        have hk_38 : rd f_33 h0 2 = .int 0 := (hrd_34 h0 2).trans (if_pos ⟨rfl, rfl⟩)
        exact K_v hx hb hr hlocks hP hD hK hS hT hE ⟨rfl, hF, _, _, hk_37, hk_38, trivial, trivial, ⟨rfl, fun j9 hj9 he9 => absurd (he9 ▸ c_32 : nI 1501 ≤ nI j9) (by rw [nI_leI (by omega) (by have := hTK.2.1; omega)]; have := hTK.2.1; omega)⟩⟩ (Nat.le_of_ble_eq_true rfl) (Nat.le_of_ble_eq_true rfl) dX2_moveTo_49
      · have hka9 := (hF.2 ka (hT0.at 2 rfl).1 0 _ _ (hT0.at 2 rfl).2 (by decide))
        refine lv_aload_n hx hb dX2_moveTo_33 rfl (lv_at hl 0 rfl) ?_
        refine T_get (ci := 2) (C := RX2) (T := TX2) (N := 6) (t := (1, 0, 6, 0)) hx hb hts inw_X2_moveTo_2 hown hK hP hT 0 rfl rfl 0 (by decide) (hts (.fieldLink RX2 20 "VatHouse$Reader" "tokens" "LVatHouse$Tokens;") (List.mem_of_getElem? (i := 2) (by exact rfl))) (fun _ h9 => h9) rfl dX2_moveTo_34 (fun v_41 hv_39 hr_40 => ?_)
        obtain rfl : v_41 = .ref tok := hr_40.symm.trans ((hF.1 h0 (hT0.at 0 rfl).1 2 (hT0.at 0 rfl).2 0 (by decide)).trans h_tok)
        refine T_get (ci := 6) (C := RX6) (T := TX6) (N := 7) (t := (1, 1, g 0, 1501)) hx hb hts inw_X2_moveTo_6 hown hK hP hT 1 rfl rfl 4 (by decide) (hts (.fieldLink RX2 111 "VatHouse$Tokens" "kinds" "[I") (List.mem_of_getElem? (i := 4) (by exact rfl))) (fun _ h9 => h9) rfl dX2_moveTo_37 (fun v_44 hv_42 hr_43 => ?_)
        obtain rfl : v_44 = .ref ka := hr_43.symm.trans ((hF.1 tok (hT0.at 1 rfl).1 6 (hT0.at 1 rfl).2 4 (by decide)).trans h_ka)
        refine lv_iload_n hx hb dX2_moveTo_40 rfl (lv_at hl 1 rfl) ?_
        refine T_iald hx hb hK hP hT 2 0 rfl rfl (vin 1501 (by decide) rfl (by assumption) (by assumption)) dX2_moveTo_41 (fun z_45 ez_45 => ?_)
        refine lv_goto (tgt := 46) hx hb dX2_moveTo_42 (by decide) ?_
        have hTo := hT
        refine T_put (ci := 2) (v := .int z_45) (ty := .int) (t := tI) (C := RX2) (T := TX2) (N := 6) hx hb hts inw_X2_moveTo_2 tyX2 tyX2_ok nmX2 hown hK hP hD hS hT 0 rfl rfl 2 (by decide) (hts (.fieldLink RX2 44 "VatHouse$Reader" "token" "I") (List.mem_of_getElem? (i := 5) (by exact rfl))) (fun _ h9 => h9) rfl (tyX2_ok 2 (by decide)) rfl rfl rfl ⟨_, rfl⟩ dX2_moveTo_46 (fun f_46 H locs hP hD hS hT hE1 hrd_47 hup_48 => ?_)
        have hF := Fr.put (a := h0) (ci := 2) hF hE ((hE1 h0 (hT.at 0 rfl).1).2.symm.trans (hT.at 0 rfl).2) (by decide) hrd_47 hup_48
        have hE := hE.tr hE1
        have hk_49 : rd f_46 tok 3 = .int zz := ((Fr.put (cs := [(2, 2)]) (a := h0) (ci := 2) Fr.rf Ext.rf (hTo.at 0 rfl).2 (by decide) hrd_47 hup_48).1 tok (hTo.at 1 rfl).1 6 (hTo.at 1 rfl).2 3 (by decide)).trans hk_4
        have hk_50 : rd f_46 h0 1 = .int ix := ((Fr.put (cs := [(2, 2)]) (a := h0) (ci := 2) Fr.rf Ext.rf (hTo.at 0 rfl).2 (by decide) hrd_47 hup_48).1 h0 (hTo.at 0 rfl).1 2 (hTo.at 0 rfl).2 1 (by decide)).trans hk_5
        have hk_51 : rd f_46 h0 2 = .int z_45 := (hrd_47 h0 2).trans (if_pos ⟨rfl, rfl⟩)
        exact K_v hx hb hr hlocks hP hD hK hS hT hE ⟨rfl, hF, _, _, hk_50, hk_51, trivial, trivial, ⟨rfl, fun j9 hj9 he9 => by rw [ez_45, he9, nI_clamp (by have := hTK.2.1; omega)]; rw [ia_eq hka9]; exact (hTK.1 j9 (by omega)).1⟩⟩ (Nat.le_of_ble_eq_true rfl) (Nat.le_of_ble_eq_true rfl) dX2_moveTo_49

noncomputable abbrev rm_X2_refuse : Room := { frames := 0, cells := 0, slots := 0, locals := 0 }
theorem inw_X2_refuse_2 : ∀ w ∈ wsX20, w ∈ wsX2_refuse := fun _ h => List.mem_cons_of_mem _ (List.mem_append_left _ (List.mem_append_right _ h))
theorem inw_X2_refuse_6 : ∀ w ∈ wsX60, w ∈ wsX2_refuse := fun _ h => List.mem_cons_of_mem _ (List.mem_append_right _ h)
set_option maxHeartbeats 800000 in
set_option maxRecDepth 100000 in
theorem t_X2_refuse (l : Launch) (dC : Nat → ClassId) (dI : Nat → Nat → Nat) (sa : Nat → Nat) (hlt : l.stackTraces = false) (g : Nat → Nat) (L : List Nat) (f : Nat → va_E) (tt : Nat → Int32) (ln : Nat) (M : Nat) (q : SG) (h0 : Nat) (wy : Int32) (tok : Nat) (ka : Nat) (sta : Nat) (vaa : Nat) (ax : Int32) (tn : Int32) (fa : Int32) (pw : Int32) (sz : Nat) (hT : TP g L f [(h0, (0, 2, 0)), (tok, (0, 6, 0)), (ka, (1, g 0, 1501)), (sta, (1, g 5, 1501)), (vaa, (1, g 6, 1501))]) (hm_ax : rd f h0 1 = .int ax) (hm_tn : rd f h0 2 = .int tn) (hm_fa : rd f h0 3 = .int fa) (hm_pw : rd f h0 4 = .int pw) (h_tok : rd f h0 0 = .ref tok) (h_ka : rd f tok 4 = .ref ka) (h_sta : rd f tok 5 = .ref sta) (h_vaa : rd f tok 6 = .ref vaa) (hwy : ¬ wy = 0) (hTK : TKS f ka sta vaa tt ln M) (hRQ : RQ tt ln M q ax tn fa pw) : KC l dC dI sa g yX2_refuse wsX2_refuse rm_X2_refuse [.ref h0, .int wy] L f sz (fun r L' f' => (r = none) ∧ Fr [(2, 3), (2, 4)] L f f' ∧ (∃ fa' : Int32, ∃ pw' : Int32, rd f' h0 3 = .int fa' ∧ rd f' h0 4 = .int pw' ∧ (¬ fa' = 0) ∧ (True) ∧ (RQ tt ln M (grf wy q) ax tn fa' pw'))) 0 0 := by
  refine CT.start (cc := cX2_refuse) (maxL := 2) (ret := none) (by decide) rfl (Nat.le_of_ble_eq_true rfl) ?_
  intro p e s m below meth c ls hst hP hK hD hev hS hl
  obtain ⟨hx, hb, hr, hml, hts, hown, hlocks, hin⟩ := hst
  have hown : s.vm.findClass RX2 = some m.cls := hown
  have hin : meth.name = yX2_refuse.name := hin
  have hA : ∀ q : Nat, s.heap.size ≤ q → va_A (va_pl L f) s.heap.size q := fun _ h => Or.inr h
  have hE : Ext L f L f := Ext.rf
  have hF : Fr [(2, 3), (2, 4)] L f f := Fr.rf
  have hl : lv_has ls 2 [(0, .ref h0), (1, .int wy)] := hl
  have hT0 := hT
  refine lv_aload_n hx hb dX2_refuse_0 rfl (lv_at hl 0 rfl) ?_
  refine T_get (ci := 2) (C := RX2) (T := TX2) (N := 6) (t := tI) hx hb hts inw_X2_refuse_2 hown hK hP hT 0 rfl rfl 3 (by decide) (hts (.fieldLink RX2 28 "VatHouse$Reader" "fault" "I") (List.mem_of_getElem? (i := 1) (by exact rfl))) (fun _ h9 => h9) rfl dX2_refuse_1 (fun v_3 hv_1 hr_2 => ?_)
  obtain rfl : v_3 = .int fa := hr_2.symm.trans hm_fa
  refine lv_if_ne (tgt := 54) hx hb dX2_refuse_4 (by decide) (fun c_4 => ?_) (fun c_4 => ?_)
  · exact K_v hx hb hr hlocks hP hD hK hS hT hE ⟨rfl, hF, _, _, hm_fa, hm_pw, c_4, trivial, hRQ.nofault c_4⟩ (Nat.le_of_ble_eq_true rfl) (Nat.le_of_ble_eq_true rfl) dX2_refuse_54
  · refine lv_aload_n hx hb dX2_refuse_7 rfl (lv_at hl 0 rfl) ?_
    refine lv_iload_n hx hb dX2_refuse_8 rfl (lv_at hl 1 rfl) ?_
    have hTo := hT
    refine T_put (ci := 2) (v := .int wy) (ty := .int) (t := tI) (C := RX2) (T := TX2) (N := 6) hx hb hts inw_X2_refuse_2 tyX2 tyX2_ok nmX2 hown hK hP hD hS hT 0 rfl rfl 3 (by decide) (hts (.fieldLink RX2 28 "VatHouse$Reader" "fault" "I") (List.mem_of_getElem? (i := 1) (by exact rfl))) (fun _ h9 => h9) rfl (tyX2_ok 3 (by decide)) rfl rfl rfl ⟨_, rfl⟩ dX2_refuse_9 (fun f_5 H locs hP hD hS hT hE1 hrd_6 hup_7 => ?_)
    have hF := Fr.put (a := h0) (ci := 2) hF hE ((hE1 h0 (hT.at 0 rfl).1).2.symm.trans (hT.at 0 rfl).2) (by decide) hrd_6 hup_7
    have hE := hE.tr hE1
    have hk_8 : rd f_5 h0 1 = .int ax := ((Fr.put (cs := [(2, 3)]) (a := h0) (ci := 2) Fr.rf Ext.rf (hTo.at 0 rfl).2 (by decide) hrd_6 hup_7).1 h0 (hTo.at 0 rfl).1 2 (hTo.at 0 rfl).2 1 (by decide)).trans hm_ax
    have hk_9 : rd f_5 h0 2 = .int tn := ((Fr.put (cs := [(2, 3)]) (a := h0) (ci := 2) Fr.rf Ext.rf (hTo.at 0 rfl).2 (by decide) hrd_6 hup_7).1 h0 (hTo.at 0 rfl).1 2 (hTo.at 0 rfl).2 2 (by decide)).trans hm_tn
    have hk_10 : rd f_5 h0 3 = .int wy := (hrd_6 h0 3).trans (if_pos ⟨rfl, rfl⟩)
    have hk_11 : rd f_5 h0 4 = .int pw := ((Fr.put (cs := [(2, 3)]) (a := h0) (ci := 2) Fr.rf Ext.rf (hTo.at 0 rfl).2 (by decide) hrd_6 hup_7).1 h0 (hTo.at 0 rfl).1 2 (hTo.at 0 rfl).2 4 (by decide)).trans hm_pw
    refine lv_aload_n hx hb dX2_refuse_12 rfl (lv_at hl 0 rfl) ?_
    refine lv_aload_n hx hb dX2_refuse_13 rfl (lv_at hl 0 rfl) ?_
    refine T_get (ci := 2) (C := RX2) (T := TX2) (N := 6) (t := tI) hx hb hts inw_X2_refuse_2 hown hK hP hT 0 rfl rfl 1 (by decide) (hts (.fieldLink RX2 101 "VatHouse$Reader" "at" "I") (List.mem_of_getElem? (i := 2) (by exact rfl))) (fun _ h9 => h9) rfl dX2_refuse_14 (fun v_14 hv_12 hr_13 => ?_)
    obtain rfl : v_14 = .int ax := hr_13.symm.trans hk_8
    refine lv_if_lt (tgt := 50) hx hb dX2_refuse_17 (by decide) (fun c_15 => ?_) (fun c_15 => ?_)
    · refine lv_iconst (v := (-1)) hx hb dX2_refuse_50 (by decide) ?_
      have hTo := hT
      refine T_put (ci := 2) (v := .int (-1)) (ty := .int) (t := tI) (C := RX2) (T := TX2) (N := 6) hx hb hts inw_X2_refuse_2 tyX2 tyX2_ok nmX2 hown hK hP hD hS hT 0 rfl rfl 4 (by decide) (hts (.fieldLink RX2 9 "VatHouse$Reader" "place" "I") (List.mem_of_getElem? (i := 5) (by exact rfl))) (fun _ h9 => h9) rfl (tyX2_ok 4 (by decide)) rfl rfl rfl ⟨_, rfl⟩ dX2_refuse_51 (fun f_16 H locs hP hD hS hT hE1 hrd_17 hup_18 => ?_)
      have hF := Fr.put (a := h0) (ci := 2) hF hE ((hE1 h0 (hT.at 0 rfl).1).2.symm.trans (hT.at 0 rfl).2) (by decide) hrd_17 hup_18
      have hE := hE.tr hE1
      have hk_19 : rd f_16 h0 1 = .int ax := ((Fr.put (cs := [(2, 4)]) (a := h0) (ci := 2) Fr.rf Ext.rf (hTo.at 0 rfl).2 (by decide) hrd_17 hup_18).1 h0 (hTo.at 0 rfl).1 2 (hTo.at 0 rfl).2 1 (by decide)).trans hk_8
      have hk_20 : rd f_16 h0 2 = .int tn := ((Fr.put (cs := [(2, 4)]) (a := h0) (ci := 2) Fr.rf Ext.rf (hTo.at 0 rfl).2 (by decide) hrd_17 hup_18).1 h0 (hTo.at 0 rfl).1 2 (hTo.at 0 rfl).2 2 (by decide)).trans hk_9
      have hk_21 : rd f_16 h0 3 = .int wy := ((Fr.put (cs := [(2, 4)]) (a := h0) (ci := 2) Fr.rf Ext.rf (hTo.at 0 rfl).2 (by decide) hrd_17 hup_18).1 h0 (hTo.at 0 rfl).1 2 (hTo.at 0 rfl).2 3 (by decide)).trans hk_10
      have hk_22 : rd f_16 h0 4 = .int (-1) := (hrd_17 h0 4).trans (if_pos ⟨rfl, rfl⟩)
      exact K_v hx hb hr hlocks hP hD hK hS hT hE ⟨rfl, hF, _, _, hk_21, hk_22, hwy, trivial, by obtain ⟨⟨j, h1, h2, -⟩, -⟩ := hRQ; have := hTK.2.1; exact absurd (h1 ▸ c_15) (nI_pos (by omega))⟩ (Nat.le_of_ble_eq_true rfl) (Nat.le_of_ble_eq_true rfl) dX2_refuse_54
    · refine lv_aload_n hx hb dX2_refuse_20 rfl (lv_at hl 0 rfl) ?_
      refine T_get (ci := 2) (C := RX2) (T := TX2) (N := 6) (t := tI) hx hb hts inw_X2_refuse_2 hown hK hP hT 0 rfl rfl 1 (by decide) (hts (.fieldLink RX2 101 "VatHouse$Reader" "at" "I") (List.mem_of_getElem? (i := 2) (by exact rfl))) (fun _ h9 => h9) rfl dX2_refuse_21 (fun v_25 hv_23 hr_24 => ?_)
      obtain rfl : v_25 = .int ax := hr_24.symm.trans hk_8
      refine lv_aload_n hx hb dX2_refuse_24 rfl (lv_at hl 0 rfl) ?_
      refine T_get (ci := 2) (C := RX2) (T := TX2) (N := 6) (t := (1, 0, 6, 0)) hx hb hts inw_X2_refuse_2 hown hK hP hT 0 rfl rfl 0 (by decide) (hts (.fieldLink RX2 20 "VatHouse$Reader" "tokens" "LVatHouse$Tokens;") (List.mem_of_getElem? (i := 3) (by exact rfl))) (fun _ h9 => h9) rfl dX2_refuse_25 (fun v_28 hv_26 hr_27 => ?_)
      obtain rfl : v_28 = .ref tok := hr_27.symm.trans ((hF.1 h0 (hT0.at 0 rfl).1 2 (hT0.at 0 rfl).2 0 (by decide)).trans h_tok)
      refine T_get (ci := 6) (C := RX6) (T := TX6) (N := 7) (t := (1, 1, g 5, 1501)) hx hb hts inw_X2_refuse_6 hown hK hP hT 1 rfl rfl 5 (by decide) (hts (.fieldLink RX2 114 "VatHouse$Tokens" "starts" "[I") (List.mem_of_getElem? (i := 4) (by exact rfl))) (fun _ h9 => h9) rfl dX2_refuse_28 (fun v_31 hv_29 hr_30 => ?_)
      obtain rfl : v_31 = .ref sta := hr_30.symm.trans ((hF.1 tok (hT0.at 1 rfl).1 6 (hT0.at 1 rfl).2 5 (by decide)).trans h_sta)
      refine T_alen hx hb hK hP hT 3 5 rfl rfl (v := 1501) rfl dX2_refuse_31 ?_
      refine lv_icmp_ge (tgt := 50) hx hb dX2_refuse_32 (by decide) (fun c_32 => ?_) (fun c_32 => ?_)
      · refine lv_iconst (v := (-1)) hx hb dX2_refuse_50 (by decide) ?_
        have hTo := hT
        refine T_put (ci := 2) (v := .int (-1)) (ty := .int) (t := tI) (C := RX2) (T := TX2) (N := 6) hx hb hts inw_X2_refuse_2 tyX2 tyX2_ok nmX2 hown hK hP hD hS hT 0 rfl rfl 4 (by decide) (hts (.fieldLink RX2 9 "VatHouse$Reader" "place" "I") (List.mem_of_getElem? (i := 5) (by exact rfl))) (fun _ h9 => h9) rfl (tyX2_ok 4 (by decide)) rfl rfl rfl ⟨_, rfl⟩ dX2_refuse_51 (fun f_33 H locs hP hD hS hT hE1 hrd_34 hup_35 => ?_)
        have hF := Fr.put (a := h0) (ci := 2) hF hE ((hE1 h0 (hT.at 0 rfl).1).2.symm.trans (hT.at 0 rfl).2) (by decide) hrd_34 hup_35
        have hE := hE.tr hE1
        have hk_36 : rd f_33 h0 1 = .int ax := ((Fr.put (cs := [(2, 4)]) (a := h0) (ci := 2) Fr.rf Ext.rf (hTo.at 0 rfl).2 (by decide) hrd_34 hup_35).1 h0 (hTo.at 0 rfl).1 2 (hTo.at 0 rfl).2 1 (by decide)).trans hk_8
        have hk_37 : rd f_33 h0 2 = .int tn := ((Fr.put (cs := [(2, 4)]) (a := h0) (ci := 2) Fr.rf Ext.rf (hTo.at 0 rfl).2 (by decide) hrd_34 hup_35).1 h0 (hTo.at 0 rfl).1 2 (hTo.at 0 rfl).2 2 (by decide)).trans hk_9
        have hk_38 : rd f_33 h0 3 = .int wy := ((Fr.put (cs := [(2, 4)]) (a := h0) (ci := 2) Fr.rf Ext.rf (hTo.at 0 rfl).2 (by decide) hrd_34 hup_35).1 h0 (hTo.at 0 rfl).1 2 (hTo.at 0 rfl).2 3 (by decide)).trans hk_10
        have hk_39 : rd f_33 h0 4 = .int (-1) := (hrd_34 h0 4).trans (if_pos ⟨rfl, rfl⟩)
        exact K_v hx hb hr hlocks hP hD hK hS hT hE ⟨rfl, hF, _, _, hk_38, hk_39, hwy, trivial, by obtain ⟨⟨j, h1, h2, -⟩, -⟩ := hRQ; have := hTK.2.1; exact absurd (h1 ▸ c_32) (show ¬ nI 1501 ≤ nI j by rw [nI_leI (by omega) (by omega)]; omega)⟩ (Nat.le_of_ble_eq_true rfl) (Nat.le_of_ble_eq_true rfl) dX2_refuse_54
      · have hka9 := (hF.2 sta (hT0.at 3 rfl).1 0 _ _ (hT0.at 3 rfl).2 (by decide))
        refine lv_aload_n hx hb dX2_refuse_35 rfl (lv_at hl 0 rfl) ?_
        refine T_get (ci := 2) (C := RX2) (T := TX2) (N := 6) (t := (1, 0, 6, 0)) hx hb hts inw_X2_refuse_2 hown hK hP hT 0 rfl rfl 0 (by decide) (hts (.fieldLink RX2 20 "VatHouse$Reader" "tokens" "LVatHouse$Tokens;") (List.mem_of_getElem? (i := 3) (by exact rfl))) (fun _ h9 => h9) rfl dX2_refuse_36 (fun v_42 hv_40 hr_41 => ?_)
        obtain rfl : v_42 = .ref tok := hr_41.symm.trans ((hF.1 h0 (hT0.at 0 rfl).1 2 (hT0.at 0 rfl).2 0 (by decide)).trans h_tok)
        refine T_get (ci := 6) (C := RX6) (T := TX6) (N := 7) (t := (1, 1, g 5, 1501)) hx hb hts inw_X2_refuse_6 hown hK hP hT 1 rfl rfl 5 (by decide) (hts (.fieldLink RX2 114 "VatHouse$Tokens" "starts" "[I") (List.mem_of_getElem? (i := 4) (by exact rfl))) (fun _ h9 => h9) rfl dX2_refuse_39 (fun v_45 hv_43 hr_44 => ?_)
        obtain rfl : v_45 = .ref sta := hr_44.symm.trans ((hF.1 tok (hT0.at 1 rfl).1 6 (hT0.at 1 rfl).2 5 (by decide)).trans h_sta)
        refine lv_aload_n hx hb dX2_refuse_42 rfl (lv_at hl 0 rfl) ?_
        refine T_get (ci := 2) (C := RX2) (T := TX2) (N := 6) (t := tI) hx hb hts inw_X2_refuse_2 hown hK hP hT 0 rfl rfl 1 (by decide) (hts (.fieldLink RX2 101 "VatHouse$Reader" "at" "I") (List.mem_of_getElem? (i := 2) (by exact rfl))) (fun _ h9 => h9) rfl dX2_refuse_43 (fun v_48 hv_46 hr_47 => ?_)
        obtain rfl : v_48 = .int ax := hr_47.symm.trans hk_8
        refine T_iald hx hb hK hP hT 3 5 rfl rfl (vin 1501 (by decide) rfl (by assumption) (by assumption)) dX2_refuse_46 (fun z_49 ez_49 => ?_)
        refine lv_goto (tgt := 51) hx hb dX2_refuse_47 (by decide) ?_
        have hTo := hT
        refine T_put (ci := 2) (v := .int z_49) (ty := .int) (t := tI) (C := RX2) (T := TX2) (N := 6) hx hb hts inw_X2_refuse_2 tyX2 tyX2_ok nmX2 hown hK hP hD hS hT 0 rfl rfl 4 (by decide) (hts (.fieldLink RX2 9 "VatHouse$Reader" "place" "I") (List.mem_of_getElem? (i := 5) (by exact rfl))) (fun _ h9 => h9) rfl (tyX2_ok 4 (by decide)) rfl rfl rfl ⟨_, rfl⟩ dX2_refuse_51 (fun f_50 H locs hP hD hS hT hE1 hrd_51 hup_52 => ?_)
        have hF := Fr.put (a := h0) (ci := 2) hF hE ((hE1 h0 (hT.at 0 rfl).1).2.symm.trans (hT.at 0 rfl).2) (by decide) hrd_51 hup_52
        have hE := hE.tr hE1
        have hk_53 : rd f_50 h0 1 = .int ax := ((Fr.put (cs := [(2, 4)]) (a := h0) (ci := 2) Fr.rf Ext.rf (hTo.at 0 rfl).2 (by decide) hrd_51 hup_52).1 h0 (hTo.at 0 rfl).1 2 (hTo.at 0 rfl).2 1 (by decide)).trans hk_8
        have hk_54 : rd f_50 h0 2 = .int tn := ((Fr.put (cs := [(2, 4)]) (a := h0) (ci := 2) Fr.rf Ext.rf (hTo.at 0 rfl).2 (by decide) hrd_51 hup_52).1 h0 (hTo.at 0 rfl).1 2 (hTo.at 0 rfl).2 2 (by decide)).trans hk_9
        have hk_55 : rd f_50 h0 3 = .int wy := ((Fr.put (cs := [(2, 4)]) (a := h0) (ci := 2) Fr.rf Ext.rf (hTo.at 0 rfl).2 (by decide) hrd_51 hup_52).1 h0 (hTo.at 0 rfl).1 2 (hTo.at 0 rfl).2 3 (by decide)).trans hk_10
        have hk_56 : rd f_50 h0 4 = .int z_49 := (hrd_51 h0 4).trans (if_pos ⟨rfl, rfl⟩)
        exact K_v hx hb hr hlocks hP hD hK hS hT hE ⟨rfl, hF, _, _, hk_55, hk_56, hwy, trivial, hRQ.fault c_4 rfl (by obtain ⟨⟨j, h1, h2, h3⟩, -⟩ := id hRQ; have h15 := hTK.2.1; rw [ez_49, h1, nI_clamp (by omega), ia_eq hka9, (hTK.1 j (by omega)).2.1, h3])⟩ (Nat.le_of_ble_eq_true rfl) (Nat.le_of_ble_eq_true rfl) dX2_refuse_54

noncomputable abbrev rm_X2_pass : Room := { frames := 1, cells := 0, slots := 0, locals := 21 }
theorem inw_X2_pass_2 : ∀ w ∈ wsX20, w ∈ wsX2_pass := fun _ h => List.mem_cons_of_mem _ (List.mem_append_left _ (List.mem_append_right _ h))
set_option maxHeartbeats 800000 in
set_option maxRecDepth 100000 in
theorem t_X2_pass (l : Launch) (dC : Nat → ClassId) (dI : Nat → Nat → Nat) (sa : Nat → Nat) (hlt : l.stackTraces = false) (g : Nat → Nat) (L : List Nat) (f : Nat → va_E) (tt : Nat → Int32) (ln : Nat) (M : Nat) (q : SG) (h0 : Nat) (wa : Int32) (tok : Nat) (ka : Nat) (sta : Nat) (vaa : Nat) (ax : Int32) (tn : Int32) (fa : Int32) (pw : Int32) (zz : Int32) (sz : Nat) (hT : TP g L f [(h0, (0, 2, 0)), (tok, (0, 6, 0)), (ka, (1, g 0, 1501)), (sta, (1, g 5, 1501)), (vaa, (1, g 6, 1501))]) (hm_ax : rd f h0 1 = .int ax) (hm_tn : rd f h0 2 = .int tn) (hm_fa : rd f h0 3 = .int fa) (hm_pw : rd f h0 4 = .int pw) (hm_zz : rd f tok 3 = .int zz) (h_tok : rd f h0 0 = .ref tok) (h_ka : rd f tok 4 = .ref ka) (h_sta : rd f tok 5 = .ref sta) (h_vaa : rd f tok 6 = .ref vaa) (hzz : zz = nI (M + 1)) (hTK : TKS f ka sta vaa tt ln M) (hRQ : RQ tt ln M q ax tn fa pw) (hwa : ¬ wa = 0 ∨ ¬ fa = 0) : KC l dC dI sa g yX2_pass wsX2_pass rm_X2_pass [.ref h0, .int wa] L f sz (fun r L' f' => (r = none) ∧ Fr [(2, 1), (2, 2), (2, 3), (2, 4)] L f f' ∧ (∃ ax' : Int32, ∃ tn' : Int32, ∃ fa' : Int32, ∃ pw' : Int32, rd f' h0 1 = .int ax' ∧ rd f' h0 2 = .int tn' ∧ rd f' h0 3 = .int fa' ∧ rd f' h0 4 = .int pw' ∧ (True) ∧ (True) ∧ (fa' = 0 → fa = 0 ∧ tn = wa) ∧ (True) ∧ (RQ tt ln M (gpa (Kp tt ln) (nq tt ln) wa q) ax' tn' fa' pw'))) 0 0 := by
  refine CT.start (cc := cX2_pass) (maxL := 2) (ret := none) (by decide) rfl (Nat.le_of_ble_eq_true rfl) ?_
  intro p e s m below meth c ls hst hP hK hD hev hS hl
  obtain ⟨hx, hb, hr, hml, hts, hown, hlocks, hin⟩ := hst
  have hown : s.vm.findClass RX2 = some m.cls := hown
  have hin : meth.name = yX2_pass.name := hin
  have hA : ∀ q : Nat, s.heap.size ≤ q → va_A (va_pl L f) s.heap.size q := fun _ h => Or.inr h
  have hE : Ext L f L f := Ext.rf
  have hF : Fr [(2, 1), (2, 2), (2, 3), (2, 4)] L f f := Fr.rf
  have hl : lv_has ls 2 [(0, .ref h0), (1, .int wa)] := hl
  have hT0 := hT
  refine lv_aload_n hx hb dX2_pass_0 rfl (lv_at hl 0 rfl) ?_
  refine T_get (ci := 2) (C := RX2) (T := TX2) (N := 6) (t := tI) hx hb hts inw_X2_pass_2 hown hK hP hT 0 rfl rfl 2 (by decide) (hts (.fieldLink RX2 44 "VatHouse$Reader" "token" "I") (List.mem_of_getElem? (i := 1) (by exact rfl))) (fun _ h9 => h9) rfl dX2_pass_1 (fun v_3 hv_1 hr_2 => ?_)
  obtain rfl : v_3 = .int tn := hr_2.symm.trans hm_tn
  refine lv_iload_n hx hb dX2_pass_4 rfl (lv_at hl 1 rfl) ?_
  refine lv_icmp_eq (tgt := 13) hx hb dX2_pass_5 (by decide) (fun c_4 => ?_) (fun c_4 => ?_)
  · refine lv_aload_n hx hb dX2_pass_13 rfl (lv_at hl 0 rfl) ?_
    refine T_get (ci := 2) (C := RX2) (T := TX2) (N := 6) (t := tI) hx hb hts inw_X2_pass_2 hown hK hP hT 0 rfl rfl 3 (by decide) (hts (.fieldLink RX2 28 "VatHouse$Reader" "fault" "I") (List.mem_of_getElem? (i := 2) (by exact rfl))) (fun _ h9 => h9) rfl dX2_pass_14 (fun v_7 hv_5 hr_6 => ?_)
    obtain rfl : v_7 = .int fa := hr_6.symm.trans hm_fa
    refine lv_if_ne (tgt := 30) hx hb dX2_pass_17 (by decide) (fun c_8 => ?_) (fun c_8 => ?_)
    · exact K_v hx hb hr hlocks hP hD hK hS hT hE ⟨rfl, hF, _, _, _, _, hm_ax, hm_tn, hm_fa, hm_pw, trivial, trivial, fun h9 => ⟨h9, c_4⟩, trivial, hRQ.pass2 c_8⟩ (Nat.le_of_ble_eq_true rfl) (Nat.le_of_ble_eq_true rfl) dX2_pass_30
    · refine lv_aload_n hx hb dX2_pass_20 rfl (lv_at hl 0 rfl) ?_
      refine lv_aload_n hx hb dX2_pass_21 rfl (lv_at hl 0 rfl) ?_
      refine T_get (ci := 2) (C := RX2) (T := TX2) (N := 6) (t := tI) hx hb hts inw_X2_pass_2 hown hK hP hT 0 rfl rfl 1 (by decide) (hts (.fieldLink RX2 101 "VatHouse$Reader" "at" "I") (List.mem_of_getElem? (i := 3) (by exact rfl))) (fun _ h9 => h9) rfl dX2_pass_22 (fun v_11 hv_9 hr_10 => ?_)
      obtain rfl : v_11 = .int ax := hr_10.symm.trans hm_ax
      refine lv_iconst (v := 1) hx hb dX2_pass_25 (by decide) ?_
      refine lv_iadd hx hb dX2_pass_26 ?_
      refine lv_topi (fun z_12 ez_12 => ?_)
      have hTo := hT
      refine K_V ⟨hx, hb, hml, hown, hts⟩ (t_X2_moveTo l dC dI sa hlt g _ _ tt ln M h0 z_12 tok ka sta vaa zz _ (hT.sub [0, 1, 2, 3, 4] rfl)  hm_zz ((hF.1 h0 (hT0.at 0 rfl).1 2 (hT0.at 0 rfl).2 0 (by decide)).trans h_tok) ((hF.1 tok (hT0.at 1 rfl).1 6 (hT0.at 1 rfl).2 4 (by decide)).trans h_ka) ((hF.1 tok (hT0.at 1 rfl).1 6 (hT0.at 1 rfl).2 5 (by decide)).trans h_sta) ((hF.1 tok (hT0.at 1 rfl).1 6 (hT0.at 1 rfl).2 6 (by decide)).trans h_vaa) hzz (hTK.go (hF.2 ka (hT0.at 2 rfl).1 0 _ _ (hT0.at 2 rfl).2 (by decide)) (hF.2 sta (hT0.at 3 rfl).1 0 _ _ (hT0.at 3 rfl).2 (by decide)) (hF.2 vaa (hT0.at 4 rfl).1 0 _ _ (hT0.at 4 rfl).2 (by decide)))) (cwV 1 hts gX2_pass_X2_moveTo rfl rfl rfl (by decide +kernel) ⟨Nat.le_of_ble_eq_true rfl, Nat.le_of_ble_eq_true rfl⟩) hP hD hK hS hA hev hT 0 2 rfl rfl rfl rfl hl.1 rfl (Nat.le_of_ble_eq_true rfl) dX2_pass_27 ⟨Nat.le_of_ble_eq_true rfl, Nat.le_of_ble_eq_true rfl⟩ (fun r L_13 f_14 H locs hw_15 hP hD hS hT hE1 => ?_)
      have hF := Fr.call hF hE hw_15.2.1 (by decide)
      have hE := hE.tr hE1
      obtain ⟨rfl, hw_15⟩ := hw_15
      obtain ⟨hfr_16, ax_17, tn_18, hk_19, hk_20, hrel_21, hrel_22, hex_23⟩ := hw_15
      have hk_24 : rd f_14 h0 3 = .int fa := (hfr_16.1 h0 (hTo.at 0 rfl).1 2 (hTo.at 0 rfl).2 3 (by decide)).trans hm_fa
      have hk_25 : rd f_14 h0 4 = .int pw := (hfr_16.1 h0 (hTo.at 0 rfl).1 2 (hTo.at 0 rfl).2 4 (by decide)).trans hm_pw
      have hk_26 : rd f_14 tok 3 = .int zz := (hfr_16.1 tok (hTo.at 1 rfl).1 6 (hTo.at 1 rfl).2 3 (by decide)).trans hm_zz
      refine W.eq (g2 := F0 m 30 ls []) rfl ?_
      exact K_v hx hb hr hlocks hP hD hK hS hT hE ⟨rfl, hF, _, _, _, _, hk_19, hk_20, hk_24, hk_25, trivial, trivial, fun h9 => ⟨h9, c_4⟩, trivial, hRQ.pass3 hTK.2.2 hTK.2.1 c_8 c_4 (hwa.resolve_right (fun g9 => g9 c_8)) ez_12 hex_23.1 hex_23.2⟩ (Nat.le_of_ble_eq_true rfl) (Nat.le_of_ble_eq_true rfl) dX2_pass_30
  · refine lv_aload_n hx hb dX2_pass_8 rfl (lv_at hl 0 rfl) ?_
    refine lv_iconst (v := 1) hx hb dX2_pass_9 (by decide) ?_
    have hTo := hT
    refine K_V ⟨hx, hb, hml, hown, hts⟩ (t_X2_refuse l dC dI sa hlt g _ _ tt ln M q h0 1 tok ka sta vaa ax tn fa pw _ (hT.sub [0, 1, 2, 3, 4] rfl)  hm_ax hm_tn hm_fa hm_pw ((hF.1 h0 (hT0.at 0 rfl).1 2 (hT0.at 0 rfl).2 0 (by decide)).trans h_tok) ((hF.1 tok (hT0.at 1 rfl).1 6 (hT0.at 1 rfl).2 4 (by decide)).trans h_ka) ((hF.1 tok (hT0.at 1 rfl).1 6 (hT0.at 1 rfl).2 5 (by decide)).trans h_sta) ((hF.1 tok (hT0.at 1 rfl).1 6 (hT0.at 1 rfl).2 6 (by decide)).trans h_vaa) (by decide) (hTK.go (hF.2 ka (hT0.at 2 rfl).1 0 _ _ (hT0.at 2 rfl).2 (by decide)) (hF.2 sta (hT0.at 3 rfl).1 0 _ _ (hT0.at 3 rfl).2 (by decide)) (hF.2 vaa (hT0.at 4 rfl).1 0 _ _ (hT0.at 4 rfl).2 (by decide))) hRQ) (cwV 1 hts gX2_pass_X2_refuse rfl rfl rfl (by decide +kernel) ⟨Nat.le_of_ble_eq_true rfl, Nat.le_of_ble_eq_true rfl⟩) hP hD hK hS hA hev hT 0 2 rfl rfl rfl rfl hl.1 rfl (Nat.le_of_ble_eq_true rfl) dX2_pass_10 ⟨Nat.le_of_ble_eq_true rfl, Nat.le_of_ble_eq_true rfl⟩ (fun r L_27 f_28 H locs hw_29 hP hD hS hT hE1 => ?_)
    have hF := Fr.call hF hE hw_29.2.1 (by decide)
    have hE := hE.tr hE1
    obtain ⟨rfl, hw_29⟩ := hw_29
    obtain ⟨hfr_30, fa_31, pw_32, hk_33, hk_34, hrel_35, hrel_36, hex_37⟩ := hw_29
    have hk_38 : rd f_28 h0 1 = .int ax := (hfr_30.1 h0 (hTo.at 0 rfl).1 2 (hTo.at 0 rfl).2 1 (by decide)).trans hm_ax
    have hk_39 : rd f_28 h0 2 = .int tn := (hfr_30.1 h0 (hTo.at 0 rfl).1 2 (hTo.at 0 rfl).2 2 (by decide)).trans hm_tn
    have hk_40 : rd f_28 tok 3 = .int zz := (hfr_30.1 tok (hTo.at 1 rfl).1 6 (hTo.at 1 rfl).2 3 (by decide)).trans hm_zz
    have hrq_41 := hex_37
    refine W.eq (g2 := F0 m 13 ls []) rfl ?_
    refine lv_aload_n hx hb dX2_pass_13 rfl (lv_at hl 0 rfl) ?_
    refine T_get (ci := 2) (C := RX2) (T := TX2) (N := 6) (t := tI) hx hb hts inw_X2_pass_2 hown hK hP hT 0 rfl rfl 3 (by decide) (hts (.fieldLink RX2 28 "VatHouse$Reader" "fault" "I") (List.mem_of_getElem? (i := 2) (by exact rfl))) (fun _ h9 => h9) rfl dX2_pass_14 (fun v_44 hv_42 hr_43 => ?_)
    obtain rfl : v_44 = .int fa_31 := hr_43.symm.trans hk_33
    refine lv_if_ne (tgt := 30) hx hb dX2_pass_17 (by decide) (fun c_45 => ?_) (fun c_45 => ?_)
    · exact K_v hx hb hr hlocks hP hD hK hS hT hE ⟨rfl, hF, _, _, _, _, hk_38, hk_39, hk_33, hk_34, trivial, trivial, fun h9 => absurd h9 hrel_35, trivial, hRQ.pass1 c_4 hrq_41⟩ (Nat.le_of_ble_eq_true rfl) (Nat.le_of_ble_eq_true rfl) dX2_pass_30
    · refine lv_aload_n hx hb dX2_pass_20 rfl (lv_at hl 0 rfl) ?_
      refine lv_aload_n hx hb dX2_pass_21 rfl (lv_at hl 0 rfl) ?_
      refine T_get (ci := 2) (C := RX2) (T := TX2) (N := 6) (t := tI) hx hb hts inw_X2_pass_2 hown hK hP hT 0 rfl rfl 1 (by decide) (hts (.fieldLink RX2 101 "VatHouse$Reader" "at" "I") (List.mem_of_getElem? (i := 3) (by exact rfl))) (fun _ h9 => h9) rfl dX2_pass_22 (fun v_48 hv_46 hr_47 => ?_)
      obtain rfl : v_48 = .int ax := hr_47.symm.trans hk_38
      refine lv_iconst (v := 1) hx hb dX2_pass_25 (by decide) ?_
      refine lv_iadd hx hb dX2_pass_26 ?_
      refine lv_topi (fun z_49 ez_49 => ?_)
      have hTo := hT
      refine K_V ⟨hx, hb, hml, hown, hts⟩ (t_X2_moveTo l dC dI sa hlt g _ _ tt ln M h0 z_49 tok ka sta vaa zz _ (hT.sub [0, 1, 2, 3, 4] rfl)  hk_40 ((hF.1 h0 (hT0.at 0 rfl).1 2 (hT0.at 0 rfl).2 0 (by decide)).trans h_tok) ((hF.1 tok (hT0.at 1 rfl).1 6 (hT0.at 1 rfl).2 4 (by decide)).trans h_ka) ((hF.1 tok (hT0.at 1 rfl).1 6 (hT0.at 1 rfl).2 5 (by decide)).trans h_sta) ((hF.1 tok (hT0.at 1 rfl).1 6 (hT0.at 1 rfl).2 6 (by decide)).trans h_vaa) hzz (hTK.go (hF.2 ka (hT0.at 2 rfl).1 0 _ _ (hT0.at 2 rfl).2 (by decide)) (hF.2 sta (hT0.at 3 rfl).1 0 _ _ (hT0.at 3 rfl).2 (by decide)) (hF.2 vaa (hT0.at 4 rfl).1 0 _ _ (hT0.at 4 rfl).2 (by decide)))) (cwV 1 hts gX2_pass_X2_moveTo rfl rfl rfl (by decide +kernel) ⟨Nat.le_of_ble_eq_true rfl, Nat.le_of_ble_eq_true rfl⟩) hP hD hK hS hA hev hT 0 2 rfl rfl rfl rfl hl.1 rfl (Nat.le_of_ble_eq_true rfl) dX2_pass_27 ⟨Nat.le_of_ble_eq_true rfl, Nat.le_of_ble_eq_true rfl⟩ (fun r L_50 f_51 H locs hw_52 hP hD hS hT hE1 => ?_)
      have hF := Fr.call hF hE hw_52.2.1 (by decide)
      have hE := hE.tr hE1
      obtain ⟨rfl, hw_52⟩ := hw_52
      obtain ⟨hfr_53, ax_54, tn_55, hk_56, hk_57, hrel_58, hrel_59, hex_60⟩ := hw_52
      have hk_61 : rd f_51 h0 3 = .int fa_31 := (hfr_53.1 h0 (hTo.at 0 rfl).1 2 (hTo.at 0 rfl).2 3 (by decide)).trans hk_33
      have hk_62 : rd f_51 h0 4 = .int pw_32 := (hfr_53.1 h0 (hTo.at 0 rfl).1 2 (hTo.at 0 rfl).2 4 (by decide)).trans hk_34
      have hk_63 : rd f_51 tok 3 = .int zz := (hfr_53.1 tok (hTo.at 1 rfl).1 6 (hTo.at 1 rfl).2 3 (by decide)).trans hk_40
      refine W.eq (g2 := F0 m 30 ls []) rfl ?_
      exact K_v hx hb hr hlocks hP hD hK hS hT hE ⟨rfl, hF, _, _, _, _, hk_56, hk_57, hk_61, hk_62, trivial, trivial, fun h9 => absurd h9 hrel_35, trivial, (absurd c_45 hrel_35)⟩ (Nat.le_of_ble_eq_true rfl) (Nat.le_of_ble_eq_true rfl) dX2_pass_30

noncomputable abbrev rm_X2_passE : Room := { frames := 1, cells := 0, slots := 0, locals := 21 }
set_option maxHeartbeats 800000 in
set_option maxRecDepth 100000 in
theorem t_X2_passE (l : Launch) (dC : Nat → ClassId) (dI : Nat → Nat → Nat) (sa : Nat → Nat) (hlt : l.stackTraces = false) (g : Nat → Nat) (L : List Nat) (f : Nat → va_E) (tt : Nat → Int32) (ln : Nat) (M : Nat) (q : SG) (h0 : Nat) (wa : Int32) (tok : Nat) (ka : Nat) (sta : Nat) (vaa : Nat) (ax : Int32) (tn : Int32) (fa : Int32) (pw : Int32) (zz : Int32) (sz : Nat) (hT : TP g L f [(h0, (0, 2, 0)), (tok, (0, 6, 0)), (ka, (1, g 0, 1501)), (sta, (1, g 5, 1501)), (vaa, (1, g 6, 1501))]) (hm_ax : rd f h0 1 = .int ax) (hm_tn : rd f h0 2 = .int tn) (hm_fa : rd f h0 3 = .int fa) (hm_pw : rd f h0 4 = .int pw) (hm_zz : rd f tok 3 = .int zz) (h_tok : rd f h0 0 = .ref tok) (h_ka : rd f tok 4 = .ref ka) (h_sta : rd f tok 5 = .ref sta) (h_vaa : rd f tok 6 = .ref vaa) (hzz : zz = nI (M + 1)) (hTK : TKS f ka sta vaa tt ln M) (hRQ : RQ tt ln M q ax tn fa pw) (hwa : wa = 0) : KC l dC dI sa g yX2_pass wsX2_pass rm_X2_passE [.ref h0, .int wa] L f sz (fun r L' f' => (r = none) ∧ Fr [(2, 1), (2, 2), (2, 3), (2, 4)] L f f' ∧ (∃ ax' : Int32, ∃ tn' : Int32, ∃ fa' : Int32, ∃ pw' : Int32, rd f' h0 1 = .int ax' ∧ rd f' h0 2 = .int tn' ∧ rd f' h0 3 = .int fa' ∧ rd f' h0 4 = .int pw' ∧ (True) ∧ (True) ∧ (fa' = 0 → fa = 0 ∧ tn = wa) ∧ (True) ∧ (fa' = (gpa (Kp tt ln) (nq tt ln) wa q).2.2.1 ∧ pw' = (gpa (Kp tt ln) (nq tt ln) wa q).2.2.2))) 0 0 := by
  refine CT.start (cc := cX2_pass) (maxL := 2) (ret := none) (by decide) rfl (Nat.le_of_ble_eq_true rfl) ?_
  intro p e s m below meth c ls hst hP hK hD hev hS hl
  obtain ⟨hx, hb, hr, hml, hts, hown, hlocks, hin⟩ := hst
  have hown : s.vm.findClass RX2 = some m.cls := hown
  have hin : meth.name = yX2_pass.name := hin
  have hA : ∀ q : Nat, s.heap.size ≤ q → va_A (va_pl L f) s.heap.size q := fun _ h => Or.inr h
  have hE : Ext L f L f := Ext.rf
  have hF : Fr [(2, 1), (2, 2), (2, 3), (2, 4)] L f f := Fr.rf
  have hl : lv_has ls 2 [(0, .ref h0), (1, .int wa)] := hl
  have hT0 := hT
  refine lv_aload_n hx hb dX2_pass_0 rfl (lv_at hl 0 rfl) ?_
  refine T_get (ci := 2) (C := RX2) (T := TX2) (N := 6) (t := tI) hx hb hts inw_X2_pass_2 hown hK hP hT 0 rfl rfl 2 (by decide) (hts (.fieldLink RX2 44 "VatHouse$Reader" "token" "I") (List.mem_of_getElem? (i := 1) (by exact rfl))) (fun _ h9 => h9) rfl dX2_pass_1 (fun v_3 hv_1 hr_2 => ?_)
  obtain rfl : v_3 = .int tn := hr_2.symm.trans hm_tn
  refine lv_iload_n hx hb dX2_pass_4 rfl (lv_at hl 1 rfl) ?_
  refine lv_icmp_eq (tgt := 13) hx hb dX2_pass_5 (by decide) (fun c_4 => ?_) (fun c_4 => ?_)
  · refine lv_aload_n hx hb dX2_pass_13 rfl (lv_at hl 0 rfl) ?_
    refine T_get (ci := 2) (C := RX2) (T := TX2) (N := 6) (t := tI) hx hb hts inw_X2_pass_2 hown hK hP hT 0 rfl rfl 3 (by decide) (hts (.fieldLink RX2 28 "VatHouse$Reader" "fault" "I") (List.mem_of_getElem? (i := 2) (by exact rfl))) (fun _ h9 => h9) rfl dX2_pass_14 (fun v_7 hv_5 hr_6 => ?_)
    obtain rfl : v_7 = .int fa := hr_6.symm.trans hm_fa
    refine lv_if_ne (tgt := 30) hx hb dX2_pass_17 (by decide) (fun c_8 => ?_) (fun c_8 => ?_)
    · exact K_v hx hb hr hlocks hP hD hK hS hT hE ⟨rfl, hF, _, _, _, _, hm_ax, hm_tn, hm_fa, hm_pw, trivial, trivial, fun h9 => ⟨h9, c_4⟩, trivial, (hRQ.pass2 c_8).2.2⟩ (Nat.le_of_ble_eq_true rfl) (Nat.le_of_ble_eq_true rfl) dX2_pass_30
    · refine lv_aload_n hx hb dX2_pass_20 rfl (lv_at hl 0 rfl) ?_
      refine lv_aload_n hx hb dX2_pass_21 rfl (lv_at hl 0 rfl) ?_
      refine T_get (ci := 2) (C := RX2) (T := TX2) (N := 6) (t := tI) hx hb hts inw_X2_pass_2 hown hK hP hT 0 rfl rfl 1 (by decide) (hts (.fieldLink RX2 101 "VatHouse$Reader" "at" "I") (List.mem_of_getElem? (i := 3) (by exact rfl))) (fun _ h9 => h9) rfl dX2_pass_22 (fun v_11 hv_9 hr_10 => ?_)
      obtain rfl : v_11 = .int ax := hr_10.symm.trans hm_ax
      refine lv_iconst (v := 1) hx hb dX2_pass_25 (by decide) ?_
      refine lv_iadd hx hb dX2_pass_26 ?_
      refine lv_topi (fun z_12 ez_12 => ?_)
      have hTo := hT
      refine K_V ⟨hx, hb, hml, hown, hts⟩ (t_X2_moveTo l dC dI sa hlt g _ _ tt ln M h0 z_12 tok ka sta vaa zz _ (hT.sub [0, 1, 2, 3, 4] rfl)  hm_zz ((hF.1 h0 (hT0.at 0 rfl).1 2 (hT0.at 0 rfl).2 0 (by decide)).trans h_tok) ((hF.1 tok (hT0.at 1 rfl).1 6 (hT0.at 1 rfl).2 4 (by decide)).trans h_ka) ((hF.1 tok (hT0.at 1 rfl).1 6 (hT0.at 1 rfl).2 5 (by decide)).trans h_sta) ((hF.1 tok (hT0.at 1 rfl).1 6 (hT0.at 1 rfl).2 6 (by decide)).trans h_vaa) hzz (hTK.go (hF.2 ka (hT0.at 2 rfl).1 0 _ _ (hT0.at 2 rfl).2 (by decide)) (hF.2 sta (hT0.at 3 rfl).1 0 _ _ (hT0.at 3 rfl).2 (by decide)) (hF.2 vaa (hT0.at 4 rfl).1 0 _ _ (hT0.at 4 rfl).2 (by decide)))) (cwV 1 hts gX2_pass_X2_moveTo rfl rfl rfl (by decide +kernel) ⟨Nat.le_of_ble_eq_true rfl, Nat.le_of_ble_eq_true rfl⟩) hP hD hK hS hA hev hT 0 2 rfl rfl rfl rfl hl.1 rfl (Nat.le_of_ble_eq_true rfl) dX2_pass_27 ⟨Nat.le_of_ble_eq_true rfl, Nat.le_of_ble_eq_true rfl⟩ (fun r L_13 f_14 H locs hw_15 hP hD hS hT hE1 => ?_)
      have hF := Fr.call hF hE hw_15.2.1 (by decide)
      have hE := hE.tr hE1
      obtain ⟨rfl, hw_15⟩ := hw_15
      obtain ⟨hfr_16, ax_17, tn_18, hk_19, hk_20, hrel_21, hrel_22, hex_23⟩ := hw_15
      have hk_24 : rd f_14 h0 3 = .int fa := (hfr_16.1 h0 (hTo.at 0 rfl).1 2 (hTo.at 0 rfl).2 3 (by decide)).trans hm_fa
      have hk_25 : rd f_14 h0 4 = .int pw := (hfr_16.1 h0 (hTo.at 0 rfl).1 2 (hTo.at 0 rfl).2 4 (by decide)).trans hm_pw
      have hk_26 : rd f_14 tok 3 = .int zz := (hfr_16.1 tok (hTo.at 1 rfl).1 6 (hTo.at 1 rfl).2 3 (by decide)).trans hm_zz
      refine W.eq (g2 := F0 m 30 ls []) rfl ?_
      exact K_v hx hb hr hlocks hP hD hK hS hT hE ⟨rfl, hF, _, _, _, _, hk_19, hk_20, hk_24, hk_25, trivial, trivial, fun h9 => ⟨h9, c_4⟩, trivial, (by have e9 : gpa (Kp tt ln) (nq tt ln) wa q = (nq tt ln q.1, q.2) := (by unfold gpa; rw [if_pos (hRQ.F.symm.trans c_8), if_pos (hRQ.K.symm.trans c_4)]); rw [e9]; exact hRQ.2.2)⟩ (Nat.le_of_ble_eq_true rfl) (Nat.le_of_ble_eq_true rfl) dX2_pass_30
  · refine lv_aload_n hx hb dX2_pass_8 rfl (lv_at hl 0 rfl) ?_
    refine lv_iconst (v := 1) hx hb dX2_pass_9 (by decide) ?_
    have hTo := hT
    refine K_V ⟨hx, hb, hml, hown, hts⟩ (t_X2_refuse l dC dI sa hlt g _ _ tt ln M q h0 1 tok ka sta vaa ax tn fa pw _ (hT.sub [0, 1, 2, 3, 4] rfl)  hm_ax hm_tn hm_fa hm_pw ((hF.1 h0 (hT0.at 0 rfl).1 2 (hT0.at 0 rfl).2 0 (by decide)).trans h_tok) ((hF.1 tok (hT0.at 1 rfl).1 6 (hT0.at 1 rfl).2 4 (by decide)).trans h_ka) ((hF.1 tok (hT0.at 1 rfl).1 6 (hT0.at 1 rfl).2 5 (by decide)).trans h_sta) ((hF.1 tok (hT0.at 1 rfl).1 6 (hT0.at 1 rfl).2 6 (by decide)).trans h_vaa) (by decide) (hTK.go (hF.2 ka (hT0.at 2 rfl).1 0 _ _ (hT0.at 2 rfl).2 (by decide)) (hF.2 sta (hT0.at 3 rfl).1 0 _ _ (hT0.at 3 rfl).2 (by decide)) (hF.2 vaa (hT0.at 4 rfl).1 0 _ _ (hT0.at 4 rfl).2 (by decide))) hRQ) (cwV 1 hts gX2_pass_X2_refuse rfl rfl rfl (by decide +kernel) ⟨Nat.le_of_ble_eq_true rfl, Nat.le_of_ble_eq_true rfl⟩) hP hD hK hS hA hev hT 0 2 rfl rfl rfl rfl hl.1 rfl (Nat.le_of_ble_eq_true rfl) dX2_pass_10 ⟨Nat.le_of_ble_eq_true rfl, Nat.le_of_ble_eq_true rfl⟩ (fun r L_27 f_28 H locs hw_29 hP hD hS hT hE1 => ?_)
    have hF := Fr.call hF hE hw_29.2.1 (by decide)
    have hE := hE.tr hE1
    obtain ⟨rfl, hw_29⟩ := hw_29
    obtain ⟨hfr_30, fa_31, pw_32, hk_33, hk_34, hrel_35, hrel_36, hex_37⟩ := hw_29
    have hk_38 : rd f_28 h0 1 = .int ax := (hfr_30.1 h0 (hTo.at 0 rfl).1 2 (hTo.at 0 rfl).2 1 (by decide)).trans hm_ax
    have hk_39 : rd f_28 h0 2 = .int tn := (hfr_30.1 h0 (hTo.at 0 rfl).1 2 (hTo.at 0 rfl).2 2 (by decide)).trans hm_tn
    have hk_40 : rd f_28 tok 3 = .int zz := (hfr_30.1 tok (hTo.at 1 rfl).1 6 (hTo.at 1 rfl).2 3 (by decide)).trans hm_zz
    have hrq_41 := hex_37
    refine W.eq (g2 := F0 m 13 ls []) rfl ?_
    refine lv_aload_n hx hb dX2_pass_13 rfl (lv_at hl 0 rfl) ?_
    refine T_get (ci := 2) (C := RX2) (T := TX2) (N := 6) (t := tI) hx hb hts inw_X2_pass_2 hown hK hP hT 0 rfl rfl 3 (by decide) (hts (.fieldLink RX2 28 "VatHouse$Reader" "fault" "I") (List.mem_of_getElem? (i := 2) (by exact rfl))) (fun _ h9 => h9) rfl dX2_pass_14 (fun v_44 hv_42 hr_43 => ?_)
    obtain rfl : v_44 = .int fa_31 := hr_43.symm.trans hk_33
    refine lv_if_ne (tgt := 30) hx hb dX2_pass_17 (by decide) (fun c_45 => ?_) (fun c_45 => ?_)
    · exact K_v hx hb hr hlocks hP hD hK hS hT hE ⟨rfl, hF, _, _, _, _, hk_38, hk_39, hk_33, hk_34, trivial, trivial, fun h9 => absurd h9 hrel_35, trivial, (hRQ.pass1 c_4 hrq_41).2.2⟩ (Nat.le_of_ble_eq_true rfl) (Nat.le_of_ble_eq_true rfl) dX2_pass_30
    · refine lv_aload_n hx hb dX2_pass_20 rfl (lv_at hl 0 rfl) ?_
      refine lv_aload_n hx hb dX2_pass_21 rfl (lv_at hl 0 rfl) ?_
      refine T_get (ci := 2) (C := RX2) (T := TX2) (N := 6) (t := tI) hx hb hts inw_X2_pass_2 hown hK hP hT 0 rfl rfl 1 (by decide) (hts (.fieldLink RX2 101 "VatHouse$Reader" "at" "I") (List.mem_of_getElem? (i := 3) (by exact rfl))) (fun _ h9 => h9) rfl dX2_pass_22 (fun v_48 hv_46 hr_47 => ?_)
      obtain rfl : v_48 = .int ax := hr_47.symm.trans hk_38
      refine lv_iconst (v := 1) hx hb dX2_pass_25 (by decide) ?_
      refine lv_iadd hx hb dX2_pass_26 ?_
      refine lv_topi (fun z_49 ez_49 => ?_)
      have hTo := hT
      refine K_V ⟨hx, hb, hml, hown, hts⟩ (t_X2_moveTo l dC dI sa hlt g _ _ tt ln M h0 z_49 tok ka sta vaa zz _ (hT.sub [0, 1, 2, 3, 4] rfl)  hk_40 ((hF.1 h0 (hT0.at 0 rfl).1 2 (hT0.at 0 rfl).2 0 (by decide)).trans h_tok) ((hF.1 tok (hT0.at 1 rfl).1 6 (hT0.at 1 rfl).2 4 (by decide)).trans h_ka) ((hF.1 tok (hT0.at 1 rfl).1 6 (hT0.at 1 rfl).2 5 (by decide)).trans h_sta) ((hF.1 tok (hT0.at 1 rfl).1 6 (hT0.at 1 rfl).2 6 (by decide)).trans h_vaa) hzz (hTK.go (hF.2 ka (hT0.at 2 rfl).1 0 _ _ (hT0.at 2 rfl).2 (by decide)) (hF.2 sta (hT0.at 3 rfl).1 0 _ _ (hT0.at 3 rfl).2 (by decide)) (hF.2 vaa (hT0.at 4 rfl).1 0 _ _ (hT0.at 4 rfl).2 (by decide)))) (cwV 1 hts gX2_pass_X2_moveTo rfl rfl rfl (by decide +kernel) ⟨Nat.le_of_ble_eq_true rfl, Nat.le_of_ble_eq_true rfl⟩) hP hD hK hS hA hev hT 0 2 rfl rfl rfl rfl hl.1 rfl (Nat.le_of_ble_eq_true rfl) dX2_pass_27 ⟨Nat.le_of_ble_eq_true rfl, Nat.le_of_ble_eq_true rfl⟩ (fun r L_50 f_51 H locs hw_52 hP hD hS hT hE1 => ?_)
      have hF := Fr.call hF hE hw_52.2.1 (by decide)
      have hE := hE.tr hE1
      obtain ⟨rfl, hw_52⟩ := hw_52
      obtain ⟨hfr_53, ax_54, tn_55, hk_56, hk_57, hrel_58, hrel_59, hex_60⟩ := hw_52
      have hk_61 : rd f_51 h0 3 = .int fa_31 := (hfr_53.1 h0 (hTo.at 0 rfl).1 2 (hTo.at 0 rfl).2 3 (by decide)).trans hk_33
      have hk_62 : rd f_51 h0 4 = .int pw_32 := (hfr_53.1 h0 (hTo.at 0 rfl).1 2 (hTo.at 0 rfl).2 4 (by decide)).trans hk_34
      have hk_63 : rd f_51 tok 3 = .int zz := (hfr_53.1 tok (hTo.at 1 rfl).1 6 (hTo.at 1 rfl).2 3 (by decide)).trans hk_40
      refine W.eq (g2 := F0 m 30 ls []) rfl ?_
      exact K_v hx hb hr hlocks hP hD hK hS hT hE ⟨rfl, hF, _, _, _, _, hk_56, hk_57, hk_61, hk_62, trivial, trivial, fun h9 => absurd h9 hrel_35, trivial, (absurd c_45 hrel_35)⟩ (Nat.le_of_ble_eq_true rfl) (Nat.le_of_ble_eq_true rfl) dX2_pass_30

theorem nle_lt {a b : Int32} (h : ¬ a ≤ b) : b < a := by
  rw [Int32.le_iff_toInt_le] at h; rw [Int32.lt_iff_toInt_lt]; omega
theorem nlt_of_le {a b : Int32} (h : a ≤ b) : ¬ b < a := by
  rw [Int32.le_iff_toInt_le] at h; rw [Int32.lt_iff_toInt_lt]; omega

noncomputable abbrev rm_X2_readNumber : Room := { frames := 2, cells := 0, slots := 0, locals := 42 }
theorem inw_X2_readNumber_2 : ∀ w ∈ wsX20, w ∈ wsX2_readNumber := fun _ h => List.mem_cons_of_mem _ (List.mem_append_left _ (List.mem_append_right _ h))
theorem inw_X2_readNumber_6 : ∀ w ∈ wsX60, w ∈ wsX2_readNumber := fun _ h => List.mem_cons_of_mem _ (List.mem_append_right _ h)
set_option maxHeartbeats 800000 in
set_option maxRecDepth 100000 in
theorem t_X2_readNumber (l : Launch) (dC : Nat → ClassId) (dI : Nat → Nat → Nat) (sa : Nat → Nat) (hlt : l.stackTraces = false) (g : Nat → Nat) (L : List Nat) (f : Nat → va_E) (tt : Nat → Int32) (ln : Nat) (M : Nat) (q : SG) (h0 : Nat) (lo : Int32) (hi : Int32) (tok : Nat) (ka : Nat) (sta : Nat) (vaa : Nat) (ax : Int32) (tn : Int32) (fa : Int32) (pw : Int32) (zz : Int32) (sz : Nat) (hT : TP g L f [(h0, (0, 2, 0)), (tok, (0, 6, 0)), (ka, (1, g 0, 1501)), (sta, (1, g 5, 1501)), (vaa, (1, g 6, 1501))]) (hm_ax : rd f h0 1 = .int ax) (hm_tn : rd f h0 2 = .int tn) (hm_fa : rd f h0 3 = .int fa) (hm_pw : rd f h0 4 = .int pw) (hm_zz : rd f tok 3 = .int zz) (h_tok : rd f h0 0 = .ref tok) (h_ka : rd f tok 4 = .ref ka) (h_sta : rd f tok 5 = .ref sta) (h_vaa : rd f tok 6 = .ref vaa) (hzz : zz = nI (M + 1)) (hTK : TKS f ka sta vaa tt ln M) (hRQ : RQ tt ln M q ax tn fa pw) : KC l dC dI sa g yX2_readNumber wsX2_readNumber rm_X2_readNumber [.ref h0, .int lo, .int hi] L f sz (fun r L' f' => (∃ z : Int32, r = some (.int z)) ∧ Fr [(2, 1), (2, 2), (2, 3), (2, 4)] L f f' ∧ (∃ ax' : Int32, ∃ tn' : Int32, ∃ fa' : Int32, ∃ pw' : Int32, rd f' h0 1 = .int ax' ∧ rd f' h0 2 = .int tn' ∧ rd f' h0 3 = .int fa' ∧ rd f' h0 4 = .int pw' ∧ (True) ∧ (True) ∧ (fa' = 0 → fa = 0) ∧ (True) ∧ (r = some (.int (Vp tt ln q.1)) ∧ RQ tt ln M (gnu (Kp tt ln) (Vp tt ln) (nq tt ln) lo hi q) ax' tn' fa' pw'))) 0 0 := by
  refine CT.start (cc := cX2_readNumber) (maxL := 4) (ret := (some .int)) (by decide) rfl (Nat.le_of_ble_eq_true rfl) ?_
  intro p e s m below meth c ls hst hP hK hD hev hS hl
  obtain ⟨hx, hb, hr, hml, hts, hown, hlocks, hin⟩ := hst
  have hown : s.vm.findClass RX2 = some m.cls := hown
  have hin : meth.name = yX2_readNumber.name := hin
  have hA : ∀ q : Nat, s.heap.size ≤ q → va_A (va_pl L f) s.heap.size q := fun _ h => Or.inr h
  have hE : Ext L f L f := Ext.rf
  have hF : Fr [(2, 1), (2, 2), (2, 3), (2, 4)] L f f := Fr.rf
  have hl : lv_has ls 4 [(0, .ref h0), (1, .int lo), (2, .int hi)] := hl
  have hT0 := hT
  refine lv_aload_n hx hb dX2_readNumber_0 rfl (lv_at hl 0 rfl) ?_
  refine T_get (ci := 2) (C := RX2) (T := TX2) (N := 6) (t := tI) hx hb hts inw_X2_readNumber_2 hown hK hP hT 0 rfl rfl 1 (by decide) (hts (.fieldLink RX2 101 "VatHouse$Reader" "at" "I") (List.mem_of_getElem? (i := 1) (by exact rfl))) (fun _ h9 => h9) rfl dX2_readNumber_1 (fun v_3 hv_1 hr_2 => ?_)
  obtain rfl : v_3 = .int ax := hr_2.symm.trans hm_ax
  refine lv_if_lt (tgt := 37) hx hb dX2_readNumber_4 (by decide) (fun c_4 => ?_) (fun c_4 => ?_)
  · exact absurd c_4 (by obtain ⟨⟨j, h1, h2, -⟩, -⟩ := hRQ; have := hTK.2.1; rw [h1]; exact nI_pos (by omega))
  · refine lv_aload_n hx hb dX2_readNumber_7 rfl (lv_at hl 0 rfl) ?_
    refine T_get (ci := 2) (C := RX2) (T := TX2) (N := 6) (t := tI) hx hb hts inw_X2_readNumber_2 hown hK hP hT 0 rfl rfl 1 (by decide) (hts (.fieldLink RX2 101 "VatHouse$Reader" "at" "I") (List.mem_of_getElem? (i := 1) (by exact rfl))) (fun _ h9 => h9) rfl dX2_readNumber_8 (fun v_7 hv_5 hr_6 => ?_)
    obtain rfl : v_7 = .int ax := hr_6.symm.trans hm_ax
    refine lv_aload_n hx hb dX2_readNumber_11 rfl (lv_at hl 0 rfl) ?_
    refine T_get (ci := 2) (C := RX2) (T := TX2) (N := 6) (t := (1, 0, 6, 0)) hx hb hts inw_X2_readNumber_2 hown hK hP hT 0 rfl rfl 0 (by decide) (hts (.fieldLink RX2 20 "VatHouse$Reader" "tokens" "LVatHouse$Tokens;") (List.mem_of_getElem? (i := 2) (by exact rfl))) (fun _ h9 => h9) rfl dX2_readNumber_12 (fun v_10 hv_8 hr_9 => ?_)
    obtain rfl : v_10 = .ref tok := hr_9.symm.trans ((hF.1 h0 (hT0.at 0 rfl).1 2 (hT0.at 0 rfl).2 0 (by decide)).trans h_tok)
    refine T_get (ci := 6) (C := RX6) (T := TX6) (N := 7) (t := (1, 1, g 6, 1501)) hx hb hts inw_X2_readNumber_6 hown hK hP hT 1 rfl rfl 6 (by decide) (hts (.fieldLink RX2 104 "VatHouse$Tokens" "values" "[I") (List.mem_of_getElem? (i := 3) (by exact rfl))) (fun _ h9 => h9) rfl dX2_readNumber_15 (fun v_13 hv_11 hr_12 => ?_)
    obtain rfl : v_13 = .ref vaa := hr_12.symm.trans ((hF.1 tok (hT0.at 1 rfl).1 6 (hT0.at 1 rfl).2 6 (by decide)).trans h_vaa)
    refine T_alen hx hb hK hP hT 4 6 rfl rfl (v := 1501) rfl dX2_readNumber_18 ?_
    refine lv_icmp_ge (tgt := 37) hx hb dX2_readNumber_19 (by decide) (fun c_14 => ?_) (fun c_14 => ?_)
    · exact absurd c_14 (by obtain ⟨⟨j, h1, h2, -⟩, -⟩ := hRQ; have := hTK.2.1; rw [h1]; exact (show ¬ nI 1501 ≤ nI j by rw [nI_leI (by omega) (by omega)]; omega))
    · refine lv_aload_n hx hb dX2_readNumber_22 rfl (lv_at hl 0 rfl) ?_
      refine T_get (ci := 2) (C := RX2) (T := TX2) (N := 6) (t := (1, 0, 6, 0)) hx hb hts inw_X2_readNumber_2 hown hK hP hT 0 rfl rfl 0 (by decide) (hts (.fieldLink RX2 20 "VatHouse$Reader" "tokens" "LVatHouse$Tokens;") (List.mem_of_getElem? (i := 2) (by exact rfl))) (fun _ h9 => h9) rfl dX2_readNumber_23 (fun v_17 hv_15 hr_16 => ?_)
      obtain rfl : v_17 = .ref tok := hr_16.symm.trans ((hF.1 h0 (hT0.at 0 rfl).1 2 (hT0.at 0 rfl).2 0 (by decide)).trans h_tok)
      refine T_get (ci := 6) (C := RX6) (T := TX6) (N := 7) (t := (1, 1, g 6, 1501)) hx hb hts inw_X2_readNumber_6 hown hK hP hT 1 rfl rfl 6 (by decide) (hts (.fieldLink RX2 104 "VatHouse$Tokens" "values" "[I") (List.mem_of_getElem? (i := 3) (by exact rfl))) (fun _ h9 => h9) rfl dX2_readNumber_26 (fun v_20 hv_18 hr_19 => ?_)
      obtain rfl : v_20 = .ref vaa := hr_19.symm.trans ((hF.1 tok (hT0.at 1 rfl).1 6 (hT0.at 1 rfl).2 6 (by decide)).trans h_vaa)
      refine lv_aload_n hx hb dX2_readNumber_29 rfl (lv_at hl 0 rfl) ?_
      refine T_get (ci := 2) (C := RX2) (T := TX2) (N := 6) (t := tI) hx hb hts inw_X2_readNumber_2 hown hK hP hT 0 rfl rfl 1 (by decide) (hts (.fieldLink RX2 101 "VatHouse$Reader" "at" "I") (List.mem_of_getElem? (i := 1) (by exact rfl))) (fun _ h9 => h9) rfl dX2_readNumber_30 (fun v_23 hv_21 hr_22 => ?_)
      obtain rfl : v_23 = .int ax := hr_22.symm.trans hm_ax
      refine T_iald hx hb hK hP hT 4 6 rfl rfl (vin 1501 (by decide) rfl (by assumption) (by assumption)) dX2_readNumber_33 (fun z_24 ez_24 => ?_)
      refine lv_goto (tgt := 38) hx hb dX2_readNumber_34 (by decide) ?_
      have hval : z_24 = Vp tt ln q.1 := by obtain ⟨⟨j, h1, h2, h3⟩, -⟩ := id hRQ; have h15 := hTK.2.1; rw [ez_24, h1, nI_clamp (by omega), ia_eq (hF.2 vaa (hT0.at 4 rfl).1 0 _ _ (hT0.at 4 rfl).2 (by decide)), (hTK.1 j (by omega)).2.2, h3]
      refine lv_istore_n (lv' := [(3, .int z_24), (0, .ref h0), (1, .int lo), (2, .int hi)]) hx hb dX2_readNumber_38 rfl hl (by decide) rfl (fun ls hl => ?_)
      refine lv_aload_n hx hb dX2_readNumber_39 rfl (lv_at hl 1 rfl) ?_
      refine T_get (ci := 2) (C := RX2) (T := TX2) (N := 6) (t := tI) hx hb hts inw_X2_readNumber_2 hown hK hP hT 0 rfl rfl 2 (by decide) (hts (.fieldLink RX2 44 "VatHouse$Reader" "token" "I") (List.mem_of_getElem? (i := 4) (by exact rfl))) (fun _ h9 => h9) rfl dX2_readNumber_40 (fun v_27 hv_25 hr_26 => ?_)
      obtain rfl : v_27 = .int tn := hr_26.symm.trans hm_tn
      refine lv_bipush (v := (-2)) hx hb dX2_readNumber_43 (by decide) ?_
      refine lv_icmp_ne (tgt := 56) hx hb dX2_readNumber_45 (by decide) (fun c_28 => ?_) (fun c_28 => ?_)
      · refine lv_aload_n hx hb dX2_readNumber_56 rfl (lv_at hl 1 rfl) ?_
        refine T_get (ci := 2) (C := RX2) (T := TX2) (N := 6) (t := tI) hx hb hts inw_X2_readNumber_2 hown hK hP hT 0 rfl rfl 2 (by decide) (hts (.fieldLink RX2 44 "VatHouse$Reader" "token" "I") (List.mem_of_getElem? (i := 4) (by exact rfl))) (fun _ h9 => h9) rfl dX2_readNumber_57 (fun v_31 hv_29 hr_30 => ?_)
        obtain rfl : v_31 = .int tn := hr_30.symm.trans hm_tn
        refine lv_iconst (v := (-1)) hx hb dX2_readNumber_60 (by decide) ?_
        refine lv_icmp_ne (tgt := 79) hx hb dX2_readNumber_61 (by decide) (fun c_32 => ?_) (fun c_32 => ?_)
        · refine lv_aload_n hx hb dX2_readNumber_79 rfl (lv_at hl 1 rfl) ?_
          refine lv_iconst (v := (-1)) hx hb dX2_readNumber_80 (by decide) ?_
          have hTo := hT
          refine K_V ⟨hx, hb, hml, hown, hts⟩ (t_X2_pass l dC dI sa hlt g _ _ tt ln M q h0 (-1) tok ka sta vaa ax tn fa pw zz _ (hT.sub [0, 1, 2, 3, 4] rfl)  hm_ax hm_tn hm_fa hm_pw hm_zz ((hF.1 h0 (hT0.at 0 rfl).1 2 (hT0.at 0 rfl).2 0 (by decide)).trans h_tok) ((hF.1 tok (hT0.at 1 rfl).1 6 (hT0.at 1 rfl).2 4 (by decide)).trans h_ka) ((hF.1 tok (hT0.at 1 rfl).1 6 (hT0.at 1 rfl).2 5 (by decide)).trans h_sta) ((hF.1 tok (hT0.at 1 rfl).1 6 (hT0.at 1 rfl).2 6 (by decide)).trans h_vaa) hzz (hTK.go (hF.2 ka (hT0.at 2 rfl).1 0 _ _ (hT0.at 2 rfl).2 (by decide)) (hF.2 sta (hT0.at 3 rfl).1 0 _ _ (hT0.at 3 rfl).2 (by decide)) (hF.2 vaa (hT0.at 4 rfl).1 0 _ _ (hT0.at 4 rfl).2 (by decide))) hRQ (Or.inl (by decide))) (cwV 1 hts gX2_readNumber_X2_pass rfl rfl rfl (by decide +kernel) ⟨Nat.le_of_ble_eq_true rfl, Nat.le_of_ble_eq_true rfl⟩) hP hD hK hS hA hev hT 0 2 rfl rfl rfl rfl hl.1 rfl (Nat.le_of_ble_eq_true rfl) dX2_readNumber_81 ⟨Nat.le_of_ble_eq_true rfl, Nat.le_of_ble_eq_true rfl⟩ (fun r L_33 f_34 H locs hw_35 hP hD hS hT hE1 => ?_)
          have hF := Fr.call hF hE hw_35.2.1 (by decide)
          have hE := hE.tr hE1
          obtain ⟨rfl, hw_35⟩ := hw_35
          obtain ⟨hfr_36, ax_37, tn_38, fa_39, pw_40, hk_41, hk_42, hk_43, hk_44, hrel_45, hrel_46, hrel_47, hrel_48, hex_49⟩ := hw_35
          have hk_50 : rd f_34 tok 3 = .int zz := (hfr_36.1 tok (hTo.at 1 rfl).1 6 (hTo.at 1 rfl).2 3 (by decide)).trans hm_zz
          have hrq_51 := hex_49
          refine W.eq (g2 := F0 m 84 ls []) rfl ?_
          refine lv_iload_n hx hb dX2_readNumber_84 rfl (lv_at hl 0 rfl) ?_
          exact K_i hx hb hr hlocks hP hD hK hS hT hE ⟨⟨_, rfl⟩, hF, _, _, _, _, hk_41, hk_42, hk_43, hk_44, trivial, trivial, fun h9 => ((hrel_47 h9).1), trivial, ⟨by rw [hval], (gnu_2 (by rintro (h9 | ⟨h9, -⟩); exact c_28 (hRQ.K.trans h9); exact c_32 (hRQ.K.trans h9)) : gnu (Kp tt ln) (Vp tt ln) (nq tt ln) lo hi q = _) ▸ hrq_51⟩⟩ (Nat.le_of_ble_eq_true rfl) (Nat.le_of_ble_eq_true rfl) dX2_readNumber_85
        · refine lv_iload_n hx hb dX2_readNumber_64 rfl (lv_at hl 0 rfl) ?_
          refine lv_iload_n hx hb dX2_readNumber_65 rfl (lv_at hl 2 rfl) ?_
          refine lv_icmp_lt (tgt := 74) hx hb dX2_readNumber_66 (by decide) (fun c_52 => ?_) (fun c_52 => ?_)
          · refine lv_aload_n hx hb dX2_readNumber_74 rfl (lv_at hl 1 rfl) ?_
            refine lv_iconst (v := 2) hx hb dX2_readNumber_75 (by decide) ?_
            have hTo := hT
            refine K_V ⟨hx, hb, hml, hown, hts⟩ (t_X2_refuse l dC dI sa hlt g _ _ tt ln M q h0 2 tok ka sta vaa ax tn fa pw _ (hT.sub [0, 1, 2, 3, 4] rfl)  hm_ax hm_tn hm_fa hm_pw ((hF.1 h0 (hT0.at 0 rfl).1 2 (hT0.at 0 rfl).2 0 (by decide)).trans h_tok) ((hF.1 tok (hT0.at 1 rfl).1 6 (hT0.at 1 rfl).2 4 (by decide)).trans h_ka) ((hF.1 tok (hT0.at 1 rfl).1 6 (hT0.at 1 rfl).2 5 (by decide)).trans h_sta) ((hF.1 tok (hT0.at 1 rfl).1 6 (hT0.at 1 rfl).2 6 (by decide)).trans h_vaa) (by decide) (hTK.go (hF.2 ka (hT0.at 2 rfl).1 0 _ _ (hT0.at 2 rfl).2 (by decide)) (hF.2 sta (hT0.at 3 rfl).1 0 _ _ (hT0.at 3 rfl).2 (by decide)) (hF.2 vaa (hT0.at 4 rfl).1 0 _ _ (hT0.at 4 rfl).2 (by decide))) hRQ) (cwV 1 hts gX2_readNumber_X2_refuse rfl rfl rfl (by decide +kernel) ⟨Nat.le_of_ble_eq_true rfl, Nat.le_of_ble_eq_true rfl⟩) hP hD hK hS hA hev hT 0 2 rfl rfl rfl rfl hl.1 rfl (Nat.le_of_ble_eq_true rfl) dX2_readNumber_76 ⟨Nat.le_of_ble_eq_true rfl, Nat.le_of_ble_eq_true rfl⟩ (fun r L_53 f_54 H locs hw_55 hP hD hS hT hE1 => ?_)
            have hF := Fr.call hF hE hw_55.2.1 (by decide)
            have hE := hE.tr hE1
            obtain ⟨rfl, hw_55⟩ := hw_55
            obtain ⟨hfr_56, fa_57, pw_58, hk_59, hk_60, hrel_61, hrel_62, hex_63⟩ := hw_55
            have hk_64 : rd f_54 h0 1 = .int ax := (hfr_56.1 h0 (hTo.at 0 rfl).1 2 (hTo.at 0 rfl).2 1 (by decide)).trans hm_ax
            have hk_65 : rd f_54 h0 2 = .int tn := (hfr_56.1 h0 (hTo.at 0 rfl).1 2 (hTo.at 0 rfl).2 2 (by decide)).trans hm_tn
            have hk_66 : rd f_54 tok 3 = .int zz := (hfr_56.1 tok (hTo.at 1 rfl).1 6 (hTo.at 1 rfl).2 3 (by decide)).trans hm_zz
            have hrq_67 := hex_63
            refine W.eq (g2 := F0 m 79 ls []) rfl ?_
            refine lv_aload_n hx hb dX2_readNumber_79 rfl (lv_at hl 1 rfl) ?_
            refine lv_iconst (v := (-1)) hx hb dX2_readNumber_80 (by decide) ?_
            have hTo := hT
            refine K_V ⟨hx, hb, hml, hown, hts⟩ (t_X2_pass l dC dI sa hlt g _ _ tt ln M (grf 2 q) h0 (-1) tok ka sta vaa ax tn fa_57 pw_58 zz _ (hT.sub [0, 1, 2, 3, 4] rfl)  hk_64 hk_65 hk_59 hk_60 hk_66 ((hF.1 h0 (hT0.at 0 rfl).1 2 (hT0.at 0 rfl).2 0 (by decide)).trans h_tok) ((hF.1 tok (hT0.at 1 rfl).1 6 (hT0.at 1 rfl).2 4 (by decide)).trans h_ka) ((hF.1 tok (hT0.at 1 rfl).1 6 (hT0.at 1 rfl).2 5 (by decide)).trans h_sta) ((hF.1 tok (hT0.at 1 rfl).1 6 (hT0.at 1 rfl).2 6 (by decide)).trans h_vaa) hzz (hTK.go (hF.2 ka (hT0.at 2 rfl).1 0 _ _ (hT0.at 2 rfl).2 (by decide)) (hF.2 sta (hT0.at 3 rfl).1 0 _ _ (hT0.at 3 rfl).2 (by decide)) (hF.2 vaa (hT0.at 4 rfl).1 0 _ _ (hT0.at 4 rfl).2 (by decide))) hrq_67 (Or.inl (by decide))) (cwV 1 hts gX2_readNumber_X2_pass rfl rfl rfl (by decide +kernel) ⟨Nat.le_of_ble_eq_true rfl, Nat.le_of_ble_eq_true rfl⟩) hP hD hK hS hA hev hT 0 2 rfl rfl rfl rfl hl.1 rfl (Nat.le_of_ble_eq_true rfl) dX2_readNumber_81 ⟨Nat.le_of_ble_eq_true rfl, Nat.le_of_ble_eq_true rfl⟩ (fun r L_68 f_69 H locs hw_70 hP hD hS hT hE1 => ?_)
            have hF := Fr.call hF hE hw_70.2.1 (by decide)
            have hE := hE.tr hE1
            obtain ⟨rfl, hw_70⟩ := hw_70
            obtain ⟨hfr_71, ax_72, tn_73, fa_74, pw_75, hk_76, hk_77, hk_78, hk_79, hrel_80, hrel_81, hrel_82, hrel_83, hex_84⟩ := hw_70
            have hk_85 : rd f_69 tok 3 = .int zz := (hfr_71.1 tok (hTo.at 1 rfl).1 6 (hTo.at 1 rfl).2 3 (by decide)).trans hk_66
            have hrq_86 := hex_84
            refine W.eq (g2 := F0 m 84 ls []) rfl ?_
            refine lv_iload_n hx hb dX2_readNumber_84 rfl (lv_at hl 0 rfl) ?_
            exact K_i hx hb hr hlocks hP hD hK hS hT hE ⟨⟨_, rfl⟩, hF, _, _, _, _, hk_76, hk_77, hk_78, hk_79, trivial, trivial, fun h9 => (absurd ((hrel_82 h9).1) hrel_61), trivial, ⟨by rw [hval], (gnu_1 (Or.inr ⟨hRQ.K.symm.trans c_32, Or.inl (by rw [← hval]; exact c_52)⟩) : gnu (Kp tt ln) (Vp tt ln) (nq tt ln) lo hi q = _) ▸ hrq_86⟩⟩ (Nat.le_of_ble_eq_true rfl) (Nat.le_of_ble_eq_true rfl) dX2_readNumber_85
          · refine lv_iload_n hx hb dX2_readNumber_69 rfl (lv_at hl 0 rfl) ?_
            refine lv_iload_n hx hb dX2_readNumber_70 rfl (lv_at hl 3 rfl) ?_
            refine lv_icmp_le (tgt := 79) hx hb dX2_readNumber_71 (by decide) (fun c_87 => ?_) (fun c_87 => ?_)
            · refine lv_aload_n hx hb dX2_readNumber_79 rfl (lv_at hl 1 rfl) ?_
              refine lv_iconst (v := (-1)) hx hb dX2_readNumber_80 (by decide) ?_
              have hTo := hT
              refine K_V ⟨hx, hb, hml, hown, hts⟩ (t_X2_pass l dC dI sa hlt g _ _ tt ln M q h0 (-1) tok ka sta vaa ax tn fa pw zz _ (hT.sub [0, 1, 2, 3, 4] rfl)  hm_ax hm_tn hm_fa hm_pw hm_zz ((hF.1 h0 (hT0.at 0 rfl).1 2 (hT0.at 0 rfl).2 0 (by decide)).trans h_tok) ((hF.1 tok (hT0.at 1 rfl).1 6 (hT0.at 1 rfl).2 4 (by decide)).trans h_ka) ((hF.1 tok (hT0.at 1 rfl).1 6 (hT0.at 1 rfl).2 5 (by decide)).trans h_sta) ((hF.1 tok (hT0.at 1 rfl).1 6 (hT0.at 1 rfl).2 6 (by decide)).trans h_vaa) hzz (hTK.go (hF.2 ka (hT0.at 2 rfl).1 0 _ _ (hT0.at 2 rfl).2 (by decide)) (hF.2 sta (hT0.at 3 rfl).1 0 _ _ (hT0.at 3 rfl).2 (by decide)) (hF.2 vaa (hT0.at 4 rfl).1 0 _ _ (hT0.at 4 rfl).2 (by decide))) hRQ (Or.inl (by decide))) (cwV 1 hts gX2_readNumber_X2_pass rfl rfl rfl (by decide +kernel) ⟨Nat.le_of_ble_eq_true rfl, Nat.le_of_ble_eq_true rfl⟩) hP hD hK hS hA hev hT 0 2 rfl rfl rfl rfl hl.1 rfl (Nat.le_of_ble_eq_true rfl) dX2_readNumber_81 ⟨Nat.le_of_ble_eq_true rfl, Nat.le_of_ble_eq_true rfl⟩ (fun r L_88 f_89 H locs hw_90 hP hD hS hT hE1 => ?_)
              have hF := Fr.call hF hE hw_90.2.1 (by decide)
              have hE := hE.tr hE1
              obtain ⟨rfl, hw_90⟩ := hw_90
              obtain ⟨hfr_91, ax_92, tn_93, fa_94, pw_95, hk_96, hk_97, hk_98, hk_99, hrel_100, hrel_101, hrel_102, hrel_103, hex_104⟩ := hw_90
              have hk_105 : rd f_89 tok 3 = .int zz := (hfr_91.1 tok (hTo.at 1 rfl).1 6 (hTo.at 1 rfl).2 3 (by decide)).trans hm_zz
              have hrq_106 := hex_104
              refine W.eq (g2 := F0 m 84 ls []) rfl ?_
              refine lv_iload_n hx hb dX2_readNumber_84 rfl (lv_at hl 0 rfl) ?_
              exact K_i hx hb hr hlocks hP hD hK hS hT hE ⟨⟨_, rfl⟩, hF, _, _, _, _, hk_96, hk_97, hk_98, hk_99, trivial, trivial, fun h9 => ((hrel_102 h9).1), trivial, ⟨by rw [hval], (gnu_2 (by rintro (h9 | ⟨-, h9 | h9⟩); exact c_28 (hRQ.K.trans h9); exact c_52 (by rw [hval]; exact h9); exact nlt_of_le c_87 (by rw [hval]; exact h9)) : gnu (Kp tt ln) (Vp tt ln) (nq tt ln) lo hi q = _) ▸ hrq_106⟩⟩ (Nat.le_of_ble_eq_true rfl) (Nat.le_of_ble_eq_true rfl) dX2_readNumber_85
            · refine lv_aload_n hx hb dX2_readNumber_74 rfl (lv_at hl 1 rfl) ?_
              refine lv_iconst (v := 2) hx hb dX2_readNumber_75 (by decide) ?_
              have hTo := hT
              refine K_V ⟨hx, hb, hml, hown, hts⟩ (t_X2_refuse l dC dI sa hlt g _ _ tt ln M q h0 2 tok ka sta vaa ax tn fa pw _ (hT.sub [0, 1, 2, 3, 4] rfl)  hm_ax hm_tn hm_fa hm_pw ((hF.1 h0 (hT0.at 0 rfl).1 2 (hT0.at 0 rfl).2 0 (by decide)).trans h_tok) ((hF.1 tok (hT0.at 1 rfl).1 6 (hT0.at 1 rfl).2 4 (by decide)).trans h_ka) ((hF.1 tok (hT0.at 1 rfl).1 6 (hT0.at 1 rfl).2 5 (by decide)).trans h_sta) ((hF.1 tok (hT0.at 1 rfl).1 6 (hT0.at 1 rfl).2 6 (by decide)).trans h_vaa) (by decide) (hTK.go (hF.2 ka (hT0.at 2 rfl).1 0 _ _ (hT0.at 2 rfl).2 (by decide)) (hF.2 sta (hT0.at 3 rfl).1 0 _ _ (hT0.at 3 rfl).2 (by decide)) (hF.2 vaa (hT0.at 4 rfl).1 0 _ _ (hT0.at 4 rfl).2 (by decide))) hRQ) (cwV 1 hts gX2_readNumber_X2_refuse rfl rfl rfl (by decide +kernel) ⟨Nat.le_of_ble_eq_true rfl, Nat.le_of_ble_eq_true rfl⟩) hP hD hK hS hA hev hT 0 2 rfl rfl rfl rfl hl.1 rfl (Nat.le_of_ble_eq_true rfl) dX2_readNumber_76 ⟨Nat.le_of_ble_eq_true rfl, Nat.le_of_ble_eq_true rfl⟩ (fun r L_107 f_108 H locs hw_109 hP hD hS hT hE1 => ?_)
              have hF := Fr.call hF hE hw_109.2.1 (by decide)
              have hE := hE.tr hE1
              obtain ⟨rfl, hw_109⟩ := hw_109
              obtain ⟨hfr_110, fa_111, pw_112, hk_113, hk_114, hrel_115, hrel_116, hex_117⟩ := hw_109
              have hk_118 : rd f_108 h0 1 = .int ax := (hfr_110.1 h0 (hTo.at 0 rfl).1 2 (hTo.at 0 rfl).2 1 (by decide)).trans hm_ax
              have hk_119 : rd f_108 h0 2 = .int tn := (hfr_110.1 h0 (hTo.at 0 rfl).1 2 (hTo.at 0 rfl).2 2 (by decide)).trans hm_tn
              have hk_120 : rd f_108 tok 3 = .int zz := (hfr_110.1 tok (hTo.at 1 rfl).1 6 (hTo.at 1 rfl).2 3 (by decide)).trans hm_zz
              have hrq_121 := hex_117
              refine W.eq (g2 := F0 m 79 ls []) rfl ?_
              refine lv_aload_n hx hb dX2_readNumber_79 rfl (lv_at hl 1 rfl) ?_
              refine lv_iconst (v := (-1)) hx hb dX2_readNumber_80 (by decide) ?_
              have hTo := hT
              refine K_V ⟨hx, hb, hml, hown, hts⟩ (t_X2_pass l dC dI sa hlt g _ _ tt ln M (grf 2 q) h0 (-1) tok ka sta vaa ax tn fa_111 pw_112 zz _ (hT.sub [0, 1, 2, 3, 4] rfl)  hk_118 hk_119 hk_113 hk_114 hk_120 ((hF.1 h0 (hT0.at 0 rfl).1 2 (hT0.at 0 rfl).2 0 (by decide)).trans h_tok) ((hF.1 tok (hT0.at 1 rfl).1 6 (hT0.at 1 rfl).2 4 (by decide)).trans h_ka) ((hF.1 tok (hT0.at 1 rfl).1 6 (hT0.at 1 rfl).2 5 (by decide)).trans h_sta) ((hF.1 tok (hT0.at 1 rfl).1 6 (hT0.at 1 rfl).2 6 (by decide)).trans h_vaa) hzz (hTK.go (hF.2 ka (hT0.at 2 rfl).1 0 _ _ (hT0.at 2 rfl).2 (by decide)) (hF.2 sta (hT0.at 3 rfl).1 0 _ _ (hT0.at 3 rfl).2 (by decide)) (hF.2 vaa (hT0.at 4 rfl).1 0 _ _ (hT0.at 4 rfl).2 (by decide))) hrq_121 (Or.inl (by decide))) (cwV 1 hts gX2_readNumber_X2_pass rfl rfl rfl (by decide +kernel) ⟨Nat.le_of_ble_eq_true rfl, Nat.le_of_ble_eq_true rfl⟩) hP hD hK hS hA hev hT 0 2 rfl rfl rfl rfl hl.1 rfl (Nat.le_of_ble_eq_true rfl) dX2_readNumber_81 ⟨Nat.le_of_ble_eq_true rfl, Nat.le_of_ble_eq_true rfl⟩ (fun r L_122 f_123 H locs hw_124 hP hD hS hT hE1 => ?_)
              have hF := Fr.call hF hE hw_124.2.1 (by decide)
              have hE := hE.tr hE1
              obtain ⟨rfl, hw_124⟩ := hw_124
              obtain ⟨hfr_125, ax_126, tn_127, fa_128, pw_129, hk_130, hk_131, hk_132, hk_133, hrel_134, hrel_135, hrel_136, hrel_137, hex_138⟩ := hw_124
              have hk_139 : rd f_123 tok 3 = .int zz := (hfr_125.1 tok (hTo.at 1 rfl).1 6 (hTo.at 1 rfl).2 3 (by decide)).trans hk_120
              have hrq_140 := hex_138
              refine W.eq (g2 := F0 m 84 ls []) rfl ?_
              refine lv_iload_n hx hb dX2_readNumber_84 rfl (lv_at hl 0 rfl) ?_
              exact K_i hx hb hr hlocks hP hD hK hS hT hE ⟨⟨_, rfl⟩, hF, _, _, _, _, hk_130, hk_131, hk_132, hk_133, trivial, trivial, fun h9 => (absurd ((hrel_136 h9).1) hrel_115), trivial, ⟨by rw [hval], (gnu_1 (Or.inr ⟨hRQ.K.symm.trans c_32, Or.inr (by rw [← hval]; exact nle_lt c_87)⟩) : gnu (Kp tt ln) (Vp tt ln) (nq tt ln) lo hi q = _) ▸ hrq_140⟩⟩ (Nat.le_of_ble_eq_true rfl) (Nat.le_of_ble_eq_true rfl) dX2_readNumber_85
      · refine lv_aload_n hx hb dX2_readNumber_48 rfl (lv_at hl 1 rfl) ?_
        refine lv_iconst (v := 2) hx hb dX2_readNumber_49 (by decide) ?_
        have hTo := hT
        refine K_V ⟨hx, hb, hml, hown, hts⟩ (t_X2_refuse l dC dI sa hlt g _ _ tt ln M q h0 2 tok ka sta vaa ax tn fa pw _ (hT.sub [0, 1, 2, 3, 4] rfl)  hm_ax hm_tn hm_fa hm_pw ((hF.1 h0 (hT0.at 0 rfl).1 2 (hT0.at 0 rfl).2 0 (by decide)).trans h_tok) ((hF.1 tok (hT0.at 1 rfl).1 6 (hT0.at 1 rfl).2 4 (by decide)).trans h_ka) ((hF.1 tok (hT0.at 1 rfl).1 6 (hT0.at 1 rfl).2 5 (by decide)).trans h_sta) ((hF.1 tok (hT0.at 1 rfl).1 6 (hT0.at 1 rfl).2 6 (by decide)).trans h_vaa) (by decide) (hTK.go (hF.2 ka (hT0.at 2 rfl).1 0 _ _ (hT0.at 2 rfl).2 (by decide)) (hF.2 sta (hT0.at 3 rfl).1 0 _ _ (hT0.at 3 rfl).2 (by decide)) (hF.2 vaa (hT0.at 4 rfl).1 0 _ _ (hT0.at 4 rfl).2 (by decide))) hRQ) (cwV 1 hts gX2_readNumber_X2_refuse rfl rfl rfl (by decide +kernel) ⟨Nat.le_of_ble_eq_true rfl, Nat.le_of_ble_eq_true rfl⟩) hP hD hK hS hA hev hT 0 2 rfl rfl rfl rfl hl.1 rfl (Nat.le_of_ble_eq_true rfl) dX2_readNumber_50 ⟨Nat.le_of_ble_eq_true rfl, Nat.le_of_ble_eq_true rfl⟩ (fun r L_141 f_142 H locs hw_143 hP hD hS hT hE1 => ?_)
        have hF := Fr.call hF hE hw_143.2.1 (by decide)
        have hE := hE.tr hE1
        obtain ⟨rfl, hw_143⟩ := hw_143
        obtain ⟨hfr_144, fa_145, pw_146, hk_147, hk_148, hrel_149, hrel_150, hex_151⟩ := hw_143
        have hk_152 : rd f_142 h0 1 = .int ax := (hfr_144.1 h0 (hTo.at 0 rfl).1 2 (hTo.at 0 rfl).2 1 (by decide)).trans hm_ax
        have hk_153 : rd f_142 h0 2 = .int tn := (hfr_144.1 h0 (hTo.at 0 rfl).1 2 (hTo.at 0 rfl).2 2 (by decide)).trans hm_tn
        have hk_154 : rd f_142 tok 3 = .int zz := (hfr_144.1 tok (hTo.at 1 rfl).1 6 (hTo.at 1 rfl).2 3 (by decide)).trans hm_zz
        have hrq_155 := hex_151
        refine W.eq (g2 := F0 m 53 ls []) rfl ?_
        refine lv_goto (tgt := 79) hx hb dX2_readNumber_53 (by decide) ?_
        refine lv_aload_n hx hb dX2_readNumber_79 rfl (lv_at hl 1 rfl) ?_
        refine lv_iconst (v := (-1)) hx hb dX2_readNumber_80 (by decide) ?_
        have hTo := hT
        refine K_V ⟨hx, hb, hml, hown, hts⟩ (t_X2_pass l dC dI sa hlt g _ _ tt ln M (grf 2 q) h0 (-1) tok ka sta vaa ax tn fa_145 pw_146 zz _ (hT.sub [0, 1, 2, 3, 4] rfl)  hk_152 hk_153 hk_147 hk_148 hk_154 ((hF.1 h0 (hT0.at 0 rfl).1 2 (hT0.at 0 rfl).2 0 (by decide)).trans h_tok) ((hF.1 tok (hT0.at 1 rfl).1 6 (hT0.at 1 rfl).2 4 (by decide)).trans h_ka) ((hF.1 tok (hT0.at 1 rfl).1 6 (hT0.at 1 rfl).2 5 (by decide)).trans h_sta) ((hF.1 tok (hT0.at 1 rfl).1 6 (hT0.at 1 rfl).2 6 (by decide)).trans h_vaa) hzz (hTK.go (hF.2 ka (hT0.at 2 rfl).1 0 _ _ (hT0.at 2 rfl).2 (by decide)) (hF.2 sta (hT0.at 3 rfl).1 0 _ _ (hT0.at 3 rfl).2 (by decide)) (hF.2 vaa (hT0.at 4 rfl).1 0 _ _ (hT0.at 4 rfl).2 (by decide))) hrq_155 (Or.inl (by decide))) (cwV 1 hts gX2_readNumber_X2_pass rfl rfl rfl (by decide +kernel) ⟨Nat.le_of_ble_eq_true rfl, Nat.le_of_ble_eq_true rfl⟩) hP hD hK hS hA hev hT 0 2 rfl rfl rfl rfl hl.1 rfl (Nat.le_of_ble_eq_true rfl) dX2_readNumber_81 ⟨Nat.le_of_ble_eq_true rfl, Nat.le_of_ble_eq_true rfl⟩ (fun r L_156 f_157 H locs hw_158 hP hD hS hT hE1 => ?_)
        have hF := Fr.call hF hE hw_158.2.1 (by decide)
        have hE := hE.tr hE1
        obtain ⟨rfl, hw_158⟩ := hw_158
        obtain ⟨hfr_159, ax_160, tn_161, fa_162, pw_163, hk_164, hk_165, hk_166, hk_167, hrel_168, hrel_169, hrel_170, hrel_171, hex_172⟩ := hw_158
        have hk_173 : rd f_157 tok 3 = .int zz := (hfr_159.1 tok (hTo.at 1 rfl).1 6 (hTo.at 1 rfl).2 3 (by decide)).trans hk_154
        have hrq_174 := hex_172
        refine W.eq (g2 := F0 m 84 ls []) rfl ?_
        refine lv_iload_n hx hb dX2_readNumber_84 rfl (lv_at hl 0 rfl) ?_
        exact K_i hx hb hr hlocks hP hD hK hS hT hE ⟨⟨_, rfl⟩, hF, _, _, _, _, hk_164, hk_165, hk_166, hk_167, trivial, trivial, fun h9 => (absurd ((hrel_170 h9).1) hrel_149), trivial, ⟨by rw [hval], (gnu_1 (Or.inl (hRQ.K.symm.trans c_28)) : gnu (Kp tt ln) (Vp tt ln) (nq tt ln) lo hi q = _) ▸ hrq_174⟩⟩ (Nat.le_of_ble_eq_true rfl) (Nat.le_of_ble_eq_true rfl) dX2_readNumber_85

theorem inw_X2_readPlain_5 : ∀ w ∈ wsX50, w ∈ wsX2_readPlain := fun _ h => List.mem_cons_of_mem _ (List.mem_append_left _ (List.mem_append_left _ (List.mem_append_right _ h)))

theorem gte_b {tt : Nat → Int32} {ln : Nat} {q q1 q2 : SG} (h1 : (if Kp tt ln q.1 < 15 ∨ 19 < Kp tt ln q.1 then grf 1 q else q) = q1) (h2 : gte2 (Kp tt ln) (Vp tt ln) (nq tt ln) (Kp tt ln q.1) (gpa (Kp tt ln) (nq tt ln) (Kp tt ln q.1) q1) = q2) {b : Int32} (hb : (if Kp tt ln q2.1 = 60 then (60 : Int32) else 61) = b) : gte (Kp tt ln) (Vp tt ln) (nq tt ln) q = gnu (Kp tt ln) (Vp tt ln) (nq tt ln) 0 9999 (gpa (Kp tt ln) (nq tt ln) b q2) := by
  unfold gte gte3 gte1
  rw [h1, h2, hb]

theorem inw_X2_readTest_2 : ∀ w ∈ wsX20, w ∈ wsX2_readTest := fun _ h => List.mem_cons_of_mem _ (List.mem_append_left _ (List.mem_append_left _ (List.mem_append_right _ h)))
theorem inw_X2_readTest_5 : ∀ w ∈ wsX50, w ∈ wsX2_readTest := fun _ h => List.mem_cons_of_mem _ (List.mem_append_left _ (List.mem_append_right _ h))

theorem Fr.fresh {cs : List (Nat × Nat)} {L L1 : List Nat} {f f1 f2 : Nat → va_E} {q : Nat} (hF : Fr cs L f f1) (hE : Ext L f L1 f1) (hq : q ∉ L) (hup : ∀ b ∈ L1, b ≠ q → f2 b = f1 b) : Fr cs L f f2 := by
  have e : ∀ b ∈ L, f2 b = f1 b := fun b hb => hup b (hE b hb).1 (fun h => hq (h ▸ hb))
  refine ⟨fun b hb cb hcb j hn => ?_, fun b hb k cA n hsb hn => ?_⟩
  · rw [← hF.1 b hb cb hcb j hn]
    unfold rd
    rw [e b hb]
  · rw [e b hb]
    exact hF.2 b hb k cA n hsb hn


theorem RQ.gad {tt : Nat → Int32} {ln M : Nat} {q : SG} {ax tn fa pw ax2 tn2 fa2 pw2 w : Int32} (h : RQ tt ln M q ax tn fa pw) (h0 : fa = 0) (hw : w = tn) (h2 : RQ tt ln M (gpa (Kp tt ln) (nq tt ln) w q) ax2 tn2 fa2 pw2) : RQ tt ln M (gad (nq tt ln) q) ax2 tn2 fa2 pw2 := by
  have e : gpa (Kp tt ln) (nq tt ln) w q = (nq tt ln q.1, q.2) := by
    unfold gpa
    rw [if_pos (h.F.symm.trans h0), if_pos (h.K.symm.trans hw.symm)]
  rw [e] at h2
  exact h2
theorem n300 {sg : Int32} {n : Nat} (h : sg = nI n ∧ n ≤ 300) (c : ¬ sg < 300) : 300 ≤ n := by
  rw [h.1] at c
  have c : ¬ nI n < nI 300 := c
  rw [nI_ltI (by omega) (by omega)] at c
  omega
theorem n299 {sg z : Int32} {n : Nat} (h : sg = nI n ∧ n ≤ 300) (c : sg < 300) (hz : z = sg + 1) : (z = nI (n + 1) ∧ n + 1 ≤ 300) ∧ ¬ 300 ≤ n := by
  rw [h.1] at c
  have c : nI n < nI 300 := c
  rw [nI_ltI (by omega) (by omega)] at c
  exact ⟨⟨by rw [hz, h.1]; exact nI_1 n, by omega⟩, by omega⟩
theorem tn_rg {tn k : Int32} (hk : tn = k) (h1 : ¬ tn < 1) (h2 : ¬ 12 < tn) : 1 ≤ k ∧ k ≤ 12 := by
  subst hk
  rw [Int32.lt_iff_toInt_lt] at h1 h2
  rw [Int32.le_iff_toInt_le, Int32.le_iff_toInt_le]
  omega

theorem inw_X2_readBlock_2 : ∀ w ∈ wsX20, w ∈ wsX2_readBlock := fun _ h => List.mem_cons_of_mem _ (List.mem_append_left _ (List.mem_append_left _ (List.mem_append_right _ h)))

theorem inw_X2_readBuilt_2 : ∀ w ∈ wsX20, w ∈ wsX2_readBuilt := fun _ h => List.mem_cons_of_mem _ (List.mem_append_left _ (List.mem_append_left _ (List.mem_append_right _ h)))
theorem inw_X2_readBuilt_5 : ∀ w ∈ wsX50, w ∈ wsX2_readBuilt := fun _ h => List.mem_cons_of_mem _ (List.mem_append_right _ h)

theorem inw_X2_readStep_2 : ∀ w ∈ wsX20, w ∈ wsX2_readStep := fun _ h => List.mem_cons_of_mem _ (List.mem_append_left _ (List.mem_append_left _ (List.mem_append_right _ h)))
theorem inw_X2_readStep_5 : ∀ w ∈ wsX50, w ∈ wsX2_readStep := fun _ h => List.mem_cons_of_mem _ (List.mem_append_right _ h)

theorem ss_cnt {K V : Nat → Int32} {N : Nat → Nat} {d : Nat} {q1 q2 : SG} {ii k3 : Int32} (he : Ev K V N 1 d q1 q2) (h0 : k3 = 0) (hn : q1.2.1 ≤ 300) (hc : k3 = 0 → ∃ a : Nat, ii = nI a ∧ a ≤ q1.2.1 ∧ a ≤ 301) (hf : q2.2.2.1 = 0) : ∃ a : Nat, ii + 1 = nI a ∧ a ≤ q2.2.1 ∧ a ≤ 301 := by
  obtain ⟨a, g1, g2, g3⟩ := hc h0
  have := he.nd.2.1 rfl hf
  exact ⟨a + 1, by rw [g1]; exact nI_1 a, by omega, by omega⟩
theorem ss_301 {q1 : SG} {ii k3 : Int32} (hn : q1.2.1 ≤ 300) (hc : k3 = 0 → ∃ a : Nat, ii = nI a ∧ a ≤ q1.2.1 ∧ a ≤ 301) (hf : k3 = 0) (c : 300 < ii) : False := by
  obtain ⟨a, g1, g2, g3⟩ := hc hf
  rw [g1] at c
  have c : nI 300 < nI a := c
  rw [nI_ltI (by omega) (by omega)] at c
  omega

theorem inw_X2_readSteps_2 : ∀ w ∈ wsX20, w ∈ wsX2_readSteps := fun _ h => List.mem_cons_of_mem _ (List.mem_append_left _ (List.mem_append_left _ (List.mem_append_right _ h)))
theorem inw_X2_readSteps_5 : ∀ w ∈ wsX50, w ∈ wsX2_readSteps := fun _ h => List.mem_cons_of_mem _ (List.mem_append_right _ h)


theorem inw_X2_readRecipe_2 : ∀ w ∈ wsX20, w ∈ wsX2_readRecipe := fun _ h => List.mem_cons_of_mem _ (List.mem_append_left _ (List.mem_append_left _ (List.mem_append_right _ h)))
