theorem tab_out_1_7 {x : Int32} (h1 : ¬ x = 1) (h2 : ¬ x = 2) (h3 : ¬ x = 3) (h4 : ¬ x = 4) (h5 : ¬ x = 5) (h6 : ¬ x = 6) (h7 : ¬ x = 7) : x.toInt < 1 ∨ 7 < x.toInt := by
  have e1 : x.toInt ≠ 1 := fun h => h1 (Int32.toInt_inj.mp h)
  have e2 : x.toInt ≠ 2 := fun h => h2 (Int32.toInt_inj.mp h)
  have e3 : x.toInt ≠ 3 := fun h => h3 (Int32.toInt_inj.mp h)
  have e4 : x.toInt ≠ 4 := fun h => h4 (Int32.toInt_inj.mp h)
  have e5 : x.toInt ≠ 5 := fun h => h5 (Int32.toInt_inj.mp h)
  have e6 : x.toInt ≠ 6 := fun h => h6 (Int32.toInt_inj.mp h)
  have e7 : x.toInt ≠ 7 := fun h => h7 (Int32.toInt_inj.mp h)
  omega

/-- how many steps may still come -/
def pot (fa sg : Int32) : Nat := if fa = 0 then (301 - sg.toInt).toNat else 0
theorem pot_le {fa fb sg : Int32} (h : fb = 0 → fa = 0) : pot fb sg ≤ pot fa sg := by
  unfold pot
  by_cases hb : fb = 0
  · rw [if_pos hb, if_pos (h hb)]; exact Nat.le_refl _
  · rw [if_neg hb]; exact Nat.zero_le _
theorem pot_ne {fa : Int32} (sg : Int32) (h : ¬ fa = 0) : pot fa sg = 0 := if_neg h
theorem pot_pos {fa sg : Int32} (h : fa = 0) (h3 : sg.toInt ≤ 300) : 1 ≤ pot fa sg := by
  rw [pot, if_pos h]; omega
theorem pot_inc {fa sg z : Int32} (hf : fa = 0) (h : sg < 300) (hz : z = sg + 1) : pot fa z + 1 = pot fa sg ∧ z.toInt ≤ 300 := by
  subst hz
  have h1 := inc_toInt h
  rw [Int32.lt_iff_toInt_lt] at h
  have e : (300 : Int32).toInt = 300 := by decide
  constructor
  · rw [pot, pot, if_pos hf, if_pos hf, h1]; omega
  · rw [h1]; omega
theorem lv7 {x : Int32} {d : Nat} (hd : x = nI d) (h : x < 8) (hb : d ≤ 8) : d < 8 := by
  subst hd
  rcases Nat.lt_or_ge d 8 with h1 | h1
  · exact h1
  · have : d = 8 := by omega
    subst this
    exact absurd h (by decide)

/-- the reader's numbers stand at the state q -/
def RQ (tt : Nat → Int32) (ln M : Nat) (q : SG) (ax tn fa pw : Int32) : Prop := (∃ j : Nat, ax = nI j ∧ j ≤ M ∧ Sj tt ln j = q.1) ∧ tn = Kp tt ln q.1 ∧ fa = q.2.2.1 ∧ pw = q.2.2.2
/-- the tokens of the text are laid -/
def TKS (f : Nat → va_E) (ka sta vaa : Nat) (tt : Nat → Int32) (ln M : Nat) : Prop := TKp f ka sta vaa tt ln (M + 1) ∧ M ≤ 1500 ∧ Sj tt ln M = ln
theorem TKS.go {f f' : Nat → va_E} {ka sta vaa ln M : Nat} {tt : Nat → Int32} (h : TKS f ka sta vaa tt ln M) (h1 : f' ka = f ka) (h2 : f' sta = f sta) (h3 : f' vaa = f vaa) : TKS f' ka sta vaa tt ln M := ⟨h.1.go h1 h2 h3, h.2⟩
section RQS
variable {tt : Nat → Int32} {ln M : Nat} {q : SG} {ax tn fa pw : Int32}
theorem RQ.K (h : RQ tt ln M q ax tn fa pw) : tn = Kp tt ln q.1 := h.2.1
theorem RQ.F (h : RQ tt ln M q ax tn fa pw) : fa = q.2.2.1 := h.2.2.1
/-- a fault -/
theorem RQ.fault {wy fa2 pw2 : Int32} (h : RQ tt ln M q ax tn fa pw) (h0 : fa = 0) (h1 : fa2 = wy) (h2 : pw2 = nI q.1) : RQ tt ln M (grf wy q) ax tn fa2 pw2 := by
  have e : grf wy q = (q.1, q.2.1, wy, nI q.1) := by
    unfold grf gfl
    rw [if_pos (h.F.symm.trans h0)]
  rw [e]
  exact ⟨h.1, h.2.1, h1, h2⟩
theorem RQ.nofault {wy : Int32} (h : RQ tt ln M q ax tn fa pw) (h0 : ¬ fa = 0) : RQ tt ln M (grf wy q) ax tn fa pw := by
  rw [grf_fx (fun g => h0 (h.F.trans g))]
  exact h
theorem RQ.pass1 {wa : Int32} (h : RQ tt ln M q ax tn fa pw) (hn : ¬ tn = wa) {ax2 tn2 fa2 pw2 : Int32} (h2 : RQ tt ln M (grf 1 q) ax2 tn2 fa2 pw2) : RQ tt ln M (gpa (Kp tt ln) (nq tt ln) wa q) ax2 tn2 fa2 pw2 := by
  have e : gpa (Kp tt ln) (nq tt ln) wa q = grf 1 q := by
    unfold gpa grf
    by_cases g : q.2.2.1 = 0
    · rw [if_pos g, if_pos g, if_neg (fun k => hn (h.K.trans k))]
    · rw [if_neg g, if_neg g]
  rw [e]
  exact h2
theorem RQ.pass2 {wa : Int32} (h : RQ tt ln M q ax tn fa pw) (h0 : ¬ fa = 0) : RQ tt ln M (gpa (Kp tt ln) (nq tt ln) wa q) ax tn fa pw := by
  rw [gpa_fx (fun g => h0 (h.F.trans g))]
  exact h
theorem RQ.lt (h : RQ tt ln M q ax tn fa pw) (hS : Sj tt ln M = ln) (hM : M ≤ 1500) {wa : Int32} (hk : tn = wa) (hwa : ¬ wa = 0) : q.1 < ln ∧ ∃ j : Nat, ax = nI j ∧ j + 1 ≤ M ∧ Sj tt ln j = q.1 := by
  obtain ⟨⟨j, h1, h2, h3⟩, h4, -⟩ := h
  have hq : q.1 < ln := by
    rcases Nat.lt_or_ge q.1 ln with g | g
    · exact g
    · exact absurd (hk.symm.trans (h4.trans (Kp_0.mpr g))) hwa
  refine ⟨hq, j, h1, ?_, h3⟩
  rcases Nat.eq_or_lt_of_le h2 with g | g
  · rw [g, hS] at h3; omega
  · exact g
theorem RQ.pass3 {wa ax2 tn2 z : Int32} (h : RQ tt ln M q ax tn fa pw) (hS : Sj tt ln M = ln) (hM : M ≤ 1500) (h0 : fa = 0) (hk : tn = wa) (hwa : ¬ wa = 0) (hz : z = ax + 1) (h1 : ax2 = z) (h2 : ∀ j9 : Nat, j9 ≤ M → z = nI j9 → tn2 = Kp tt ln (Sj tt ln j9)) : RQ tt ln M (gpa (Kp tt ln) (nq tt ln) wa q) ax2 tn2 fa pw := by
  obtain ⟨-, j, g1, g2, g3⟩ := h.lt hS hM hk hwa
  have e : gpa (Kp tt ln) (nq tt ln) wa q = (nq tt ln q.1, q.2) := by
    unfold gpa
    rw [if_pos (h.F.symm.trans h0), if_pos (h.K.symm.trans hk)]
  have ez : z = nI (j + 1) := by rw [hz, g1]; exact nI_1 j
  have es : Sj tt ln (j + 1) = nq tt ln q.1 := by show nq tt ln (Sj tt ln j) = _; rw [g3]
  rw [e]
  exact ⟨⟨j + 1, h1.trans ez, g2, es⟩, by rw [h2 (j + 1) g2 ez, es], h.2.2⟩
theorem gnu_1 {K V : Nat → Int32} {N : Nat → Nat} {lo hi : Int32} {q : SG} (h : K q.1 = -2 ∨ (K q.1 = -1 ∧ (V q.1 < lo ∨ hi < V q.1))) : gnu K V N lo hi q = gpa K N (-1) (grf 2 q) := by
  unfold gnu grf
  by_cases g : q.2.2.1 = 0
  · rw [if_pos g, if_pos h, if_pos g]
    exact (gpa_fx (K := K) (N := N) (s := gfl 2 q) (by show ¬ (2 : Int32) = 0; decide)).symm
  · rw [if_neg g, if_neg g]
    exact (gpa_fx g).symm
theorem gnu_2 {K V : Nat → Int32} {N : Nat → Nat} {lo hi : Int32} {q : SG} (h : ¬ (K q.1 = -2 ∨ (K q.1 = -1 ∧ (V q.1 < lo ∨ hi < V q.1)))) : gnu K V N lo hi q = gpa K N (-1) q := by
  unfold gnu
  by_cases g : q.2.2.1 = 0
  · rw [if_pos g, if_neg h]
  · rw [if_neg g, gpa_fx g]
end RQS

abbrev rm_X2_moveTo : Room := { frames := 0, cells := 0, slots := 0, locals := 0 }
theorem inw_X2_moveTo_2 : ∀ w ∈ wsX20, w ∈ wsX2_moveTo := by decide +kernel
theorem inw_X2_moveTo_6 : ∀ w ∈ wsX60, w ∈ wsX2_moveTo := by decide +kernel
set_option maxHeartbeats 800000 in
set_option maxRecDepth 100000 in
theorem t_X2_moveTo (l : Launch) (dC : Nat → ClassId) (dI : Nat → Nat → Nat) (sa : Nat → Nat) (hlt : l.stackTraces = false) (g : Nat → Nat) (L : List Nat) (f : Nat → va_E) (tt : Nat → Int32) (ln : Nat) (M : Nat) (h0 : Nat) (ix : Int32) (tok : Nat) (ka : Nat) (sta : Nat) (vaa : Nat) (zz : Int32) (sz : Nat) (hT : TP g L f [(h0, (0, 2, 0)), (tok, (0, 6, 0)), (ka, (1, g 0, 1501)), (sta, (1, g 5, 1501)), (vaa, (1, g 6, 1501))]) (hm_zz : rd f tok 3 = .int zz) (h_tok : rd f h0 0 = .ref tok) (h_ka : rd f tok 4 = .ref ka) (h_sta : rd f tok 5 = .ref sta) (h_vaa : rd f tok 6 = .ref vaa) (hzz : zz = nI (M + 1)) (hTK : TKS f ka sta vaa tt ln M) : KC l dC dI sa g yX2_moveTo wsX2_moveTo rm_X2_moveTo [.ref h0, .int ix] L f sz (fun r L' f' => (r = none) ∧ Fr [(2, 1), (2, 2)] L f f' ∧ (∃ ax' : Int32, ∃ tn' : Int32, rd f' h0 1 = .int ax' ∧ rd f' h0 2 = .int tn' ∧ (True) ∧ (True) ∧ (ax' = ix ∧ ∀ j9 : Nat, j9 ≤ M → ix = nI j9 → tn' = Kp tt ln (Sj tt ln j9)))) 0 0 := by
  refine CT.start (cc := cX2_moveTo) (maxL := 2) (ret := none) (by decide) rfl (Nat.le_of_ble_eq_true rfl) ?_
  intro p e s m below meth c ls hst hP hK hD hev hS hl
  obtain ⟨hx, hb, hr, hml, hts, hown, hlocks, hin⟩ := hst
  have hown : s.vm.findClass RX2 = some m.cls := hown
  have hin : meth.name = yX2_moveTo.name := hin
  have hA : ∀ q : Nat, s.heap.size ≤ q → va_A (va_pl L f) s.heap.size q := fun _ h => Or.inr h
  have hE : Ext L f L f := Ext.rf
  have hF : Fr [(2, 1), (2, 2)] L f f := Fr.rf
  have hl : lv_has ls 2 [(0, .ref h0), (1, .int ix)] := hl
  have hT0 := hT
  refine lv_aload_n hx hb dX2_moveTo_0 rfl (lv_at hl 0 rfl) ?_
  refine lv_iload_n hx hb dX2_moveTo_1 rfl (lv_at hl 1 rfl) ?_
  have hTo := hT
  refine T_put (ci := 2) (v := .int ix) (ty := .int) (t := tI) (C := RX2) (T := TX2) (N := 6) hx hb hts inw_X2_moveTo_2 tyX2 tyX2_ok nmX2 hown hK hP hD hS hT 0 rfl rfl 1 (by decide) (hts (.fieldLink RX2 101 "VatHouse$Reader" "at" "I") (by decide +kernel)) (fun _ h9 => h9) rfl (by decide +kernel) rfl rfl rfl ⟨_, rfl⟩ dX2_moveTo_2 (fun f_1 H locs hP hD hS hT hE1 hrd_2 hup_3 => ?_)
  have hF := Fr.put (a := h0) (ci := 2) hF hE ((hE1 h0 (hT.at 0 rfl).1).2.symm.trans (hT.at 0 rfl).2) (by decide) hrd_2 hup_3
  have hE := hE.tr hE1
  have hk_4 : rd f_1 tok 3 = .int zz := ((Fr.put (cs := [(2, 1)]) (a := h0) (ci := 2) Fr.rf Ext.rf (hTo.at 0 rfl).2 (by decide) hrd_2 hup_3).1 tok (hTo.at 1 rfl).1 6 (hTo.at 1 rfl).2 3 (by decide)).trans hm_zz
  have hk_5 : rd f_1 h0 1 = .int ix := (hrd_2 h0 1).trans (if_pos ⟨rfl, rfl⟩)
  refine lv_aload_n hx hb dX2_moveTo_5 rfl (lv_at hl 0 rfl) ?_
  refine lv_iload_n hx hb dX2_moveTo_6 rfl (lv_at hl 1 rfl) ?_
  refine lv_if_lt (tgt := 45) hx hb dX2_moveTo_7 (by decide) (fun c_6 => ?_) (fun c_6 => ?_)
  · refine lv_iconst (v := 0) hx hb dX2_moveTo_45 (by decide) ?_
    have hTo := hT
    refine T_put (ci := 2) (v := .int 0) (ty := .int) (t := tI) (C := RX2) (T := TX2) (N := 6) hx hb hts inw_X2_moveTo_2 tyX2 tyX2_ok nmX2 hown hK hP hD hS hT 0 rfl rfl 2 (by decide) (hts (.fieldLink RX2 44 "VatHouse$Reader" "token" "I") (by decide +kernel)) (fun _ h9 => h9) rfl (by decide +kernel) rfl rfl rfl ⟨_, rfl⟩ dX2_moveTo_46 (fun f_7 H locs hP hD hS hT hE1 hrd_8 hup_9 => ?_)
    have hF := Fr.put (a := h0) (ci := 2) hF hE ((hE1 h0 (hT.at 0 rfl).1).2.symm.trans (hT.at 0 rfl).2) (by decide) hrd_8 hup_9
    have hE := hE.tr hE1
    have hk_10 : rd f_7 tok 3 = .int zz := ((Fr.put (cs := [(2, 2)]) (a := h0) (ci := 2) Fr.rf Ext.rf (hTo.at 0 rfl).2 (by decide) hrd_8 hup_9).1 tok (hTo.at 1 rfl).1 6 (hTo.at 1 rfl).2 3 (by decide)).trans hk_4
    have hk_11 : rd f_7 h0 1 = .int ix := ((Fr.put (cs := [(2, 2)]) (a := h0) (ci := 2) Fr.rf Ext.rf (hTo.at 0 rfl).2 (by decide) hrd_8 hup_9).1 h0 (hTo.at 0 rfl).1 2 (hTo.at 0 rfl).2 1 (by decide)).trans hk_5
    have hk_12 : rd f_7 h0 2 = .int 0 := (hrd_8 h0 2).trans (if_pos ⟨rfl, rfl⟩)
    exact K_v hx hb hr hlocks hP hD hK hS hT hE ⟨rfl, hF, _, _, hk_11, hk_12, trivial, trivial, ⟨rfl, fun j9 hj9 he9 => absurd c_6 (he9 ▸ nI_pos (by have := hTK.2.1; omega))⟩⟩ (Nat.le_of_ble_eq_true rfl) (Nat.le_of_ble_eq_true rfl) dX2_moveTo_49
  · refine lv_iload_n hx hb dX2_moveTo_10 rfl (lv_at hl 1 rfl) ?_
    refine lv_aload_n hx hb dX2_moveTo_11 rfl (lv_at hl 0 rfl) ?_
    refine T_get (ci := 2) (C := RX2) (T := TX2) (N := 6) (t := (1, 0, 6, 0)) hx hb hts inw_X2_moveTo_2 hown hK hP hT 0 rfl rfl 0 (by decide) (hts (.fieldLink RX2 20 "VatHouse$Reader" "tokens" "LVatHouse$Tokens;") (by decide +kernel)) (fun _ h9 => h9) rfl dX2_moveTo_12 (fun v_15 hv_13 hr_14 => ?_)
    obtain rfl : v_15 = .ref tok := hr_14.symm.trans ((hF.1 h0 (hT0.at 0 rfl).1 2 (hT0.at 0 rfl).2 0 (by decide)).trans h_tok)
    refine T_get (ci := 6) (C := RX6) (T := TX6) (N := 7) (t := tI) hx hb hts inw_X2_moveTo_6 hown hK hP hT 1 rfl rfl 3 (by decide) (hts (.fieldLink RX2 108 "VatHouse$Tokens" "size" "I") (by decide +kernel)) (fun _ h9 => h9) rfl dX2_moveTo_15 (fun v_18 hv_16 hr_17 => ?_)
    obtain rfl : v_18 = .int zz := hr_17.symm.trans hk_4
    refine lv_icmp_ge (tgt := 45) hx hb dX2_moveTo_18 (by decide) (fun c_19 => ?_) (fun c_19 => ?_)
    · refine lv_iconst (v := 0) hx hb dX2_moveTo_45 (by decide) ?_
      have hTo := hT
      refine T_put (ci := 2) (v := .int 0) (ty := .int) (t := tI) (C := RX2) (T := TX2) (N := 6) hx hb hts inw_X2_moveTo_2 tyX2 tyX2_ok nmX2 hown hK hP hD hS hT 0 rfl rfl 2 (by decide) (hts (.fieldLink RX2 44 "VatHouse$Reader" "token" "I") (by decide +kernel)) (fun _ h9 => h9) rfl (by decide +kernel) rfl rfl rfl ⟨_, rfl⟩ dX2_moveTo_46 (fun f_20 H locs hP hD hS hT hE1 hrd_21 hup_22 => ?_)
      have hF := Fr.put (a := h0) (ci := 2) hF hE ((hE1 h0 (hT.at 0 rfl).1).2.symm.trans (hT.at 0 rfl).2) (by decide) hrd_21 hup_22
      have hE := hE.tr hE1
      have hk_23 : rd f_20 tok 3 = .int zz := ((Fr.put (cs := [(2, 2)]) (a := h0) (ci := 2) Fr.rf Ext.rf (hTo.at 0 rfl).2 (by decide) hrd_21 hup_22).1 tok (hTo.at 1 rfl).1 6 (hTo.at 1 rfl).2 3 (by decide)).trans hk_4
      have hk_24 : rd f_20 h0 1 = .int ix := ((Fr.put (cs := [(2, 2)]) (a := h0) (ci := 2) Fr.rf Ext.rf (hTo.at 0 rfl).2 (by decide) hrd_21 hup_22).1 h0 (hTo.at 0 rfl).1 2 (hTo.at 0 rfl).2 1 (by decide)).trans hk_5
      have hk_25 : rd f_20 h0 2 = .int 0 := (hrd_21 h0 2).trans (if_pos ⟨rfl, rfl⟩)
      exact K_v hx hb hr hlocks hP hD hK hS hT hE ⟨rfl, hF, _, _, hk_24, hk_25, trivial, trivial, ⟨rfl, fun j9 hj9 he9 => absurd c_19 (by rw [he9, hzz, nI_leI (by have := hTK.2.1; omega) (by have := hTK.2.1; omega)]; omega)⟩⟩ (Nat.le_of_ble_eq_true rfl) (Nat.le_of_ble_eq_true rfl) dX2_moveTo_49
    · refine lv_iload_n hx hb dX2_moveTo_21 rfl (lv_at hl 1 rfl) ?_
      refine lv_aload_n hx hb dX2_moveTo_22 rfl (lv_at hl 0 rfl) ?_
      refine T_get (ci := 2) (C := RX2) (T := TX2) (N := 6) (t := (1, 0, 6, 0)) hx hb hts inw_X2_moveTo_2 hown hK hP hT 0 rfl rfl 0 (by decide) (hts (.fieldLink RX2 20 "VatHouse$Reader" "tokens" "LVatHouse$Tokens;") (by decide +kernel)) (fun _ h9 => h9) rfl dX2_moveTo_23 (fun v_28 hv_26 hr_27 => ?_)
      obtain rfl : v_28 = .ref tok := hr_27.symm.trans ((hF.1 h0 (hT0.at 0 rfl).1 2 (hT0.at 0 rfl).2 0 (by decide)).trans h_tok)
      refine T_get (ci := 6) (C := RX6) (T := TX6) (N := 7) (t := (1, 1, g 0, 1501)) hx hb hts inw_X2_moveTo_6 hown hK hP hT 1 rfl rfl 4 (by decide) (hts (.fieldLink RX2 111 "VatHouse$Tokens" "kinds" "[I") (by decide +kernel)) (fun _ h9 => h9) rfl dX2_moveTo_26 (fun v_31 hv_29 hr_30 => ?_)
      obtain rfl : v_31 = .ref ka := hr_30.symm.trans ((hF.1 tok (hT0.at 1 rfl).1 6 (hT0.at 1 rfl).2 4 (by decide)).trans h_ka)
      refine T_alen hx hb hK hP hT 2 0 rfl rfl (v := 1501) rfl dX2_moveTo_29 ?_
      refine lv_icmp_ge (tgt := 45) hx hb dX2_moveTo_30 (by decide) (fun c_32 => ?_) (fun c_32 => ?_)
      · refine lv_iconst (v := 0) hx hb dX2_moveTo_45 (by decide) ?_
        have hTo := hT
        refine T_put (ci := 2) (v := .int 0) (ty := .int) (t := tI) (C := RX2) (T := TX2) (N := 6) hx hb hts inw_X2_moveTo_2 tyX2 tyX2_ok nmX2 hown hK hP hD hS hT 0 rfl rfl 2 (by decide) (hts (.fieldLink RX2 44 "VatHouse$Reader" "token" "I") (by decide +kernel)) (fun _ h9 => h9) rfl (by decide +kernel) rfl rfl rfl ⟨_, rfl⟩ dX2_moveTo_46 (fun f_33 H locs hP hD hS hT hE1 hrd_34 hup_35 => ?_)
        have hF := Fr.put (a := h0) (ci := 2) hF hE ((hE1 h0 (hT.at 0 rfl).1).2.symm.trans (hT.at 0 rfl).2) (by decide) hrd_34 hup_35
        have hE := hE.tr hE1
        have hk_36 : rd f_33 tok 3 = .int zz := ((Fr.put (cs := [(2, 2)]) (a := h0) (ci := 2) Fr.rf Ext.rf (hTo.at 0 rfl).2 (by decide) hrd_34 hup_35).1 tok (hTo.at 1 rfl).1 6 (hTo.at 1 rfl).2 3 (by decide)).trans hk_4
        have hk_37 : rd f_33 h0 1 = .int ix := ((Fr.put (cs := [(2, 2)]) (a := h0) (ci := 2) Fr.rf Ext.rf (hTo.at 0 rfl).2 (by decide) hrd_34 hup_35).1 h0 (hTo.at 0 rfl).1 2 (hTo.at 0 rfl).2 1 (by decide)).trans hk_5
        have hk_38 : rd f_33 h0 2 = .int 0 := (hrd_34 h0 2).trans (if_pos ⟨rfl, rfl⟩)
        exact K_v hx hb hr hlocks hP hD hK hS hT hE ⟨rfl, hF, _, _, hk_37, hk_38, trivial, trivial, ⟨rfl, fun j9 hj9 he9 => absurd (he9 ▸ c_32 : nI 1501 ≤ nI j9) (by rw [nI_leI (by omega) (by have := hTK.2.1; omega)]; have := hTK.2.1; omega)⟩⟩ (Nat.le_of_ble_eq_true rfl) (Nat.le_of_ble_eq_true rfl) dX2_moveTo_49
      · have hka9 := (hF.2 ka (hT0.at 2 rfl).1 0 _ _ (hT0.at 2 rfl).2 (by decide))
        refine lv_aload_n hx hb dX2_moveTo_33 rfl (lv_at hl 0 rfl) ?_
        refine T_get (ci := 2) (C := RX2) (T := TX2) (N := 6) (t := (1, 0, 6, 0)) hx hb hts inw_X2_moveTo_2 hown hK hP hT 0 rfl rfl 0 (by decide) (hts (.fieldLink RX2 20 "VatHouse$Reader" "tokens" "LVatHouse$Tokens;") (by decide +kernel)) (fun _ h9 => h9) rfl dX2_moveTo_34 (fun v_41 hv_39 hr_40 => ?_)
        obtain rfl : v_41 = .ref tok := hr_40.symm.trans ((hF.1 h0 (hT0.at 0 rfl).1 2 (hT0.at 0 rfl).2 0 (by decide)).trans h_tok)
        refine T_get (ci := 6) (C := RX6) (T := TX6) (N := 7) (t := (1, 1, g 0, 1501)) hx hb hts inw_X2_moveTo_6 hown hK hP hT 1 rfl rfl 4 (by decide) (hts (.fieldLink RX2 111 "VatHouse$Tokens" "kinds" "[I") (by decide +kernel)) (fun _ h9 => h9) rfl dX2_moveTo_37 (fun v_44 hv_42 hr_43 => ?_)
        obtain rfl : v_44 = .ref ka := hr_43.symm.trans ((hF.1 tok (hT0.at 1 rfl).1 6 (hT0.at 1 rfl).2 4 (by decide)).trans h_ka)
        refine lv_iload_n hx hb dX2_moveTo_40 rfl (lv_at hl 1 rfl) ?_
        refine T_iald hx hb hK hP hT 2 0 rfl rfl (vin 1501 (by decide) rfl (by assumption) (by assumption)) dX2_moveTo_41 (fun z_45 ez_45 => ?_)
        refine lv_goto (tgt := 46) hx hb dX2_moveTo_42 (by decide) ?_
        have hTo := hT
        refine T_put (ci := 2) (v := .int z_45) (ty := .int) (t := tI) (C := RX2) (T := TX2) (N := 6) hx hb hts inw_X2_moveTo_2 tyX2 tyX2_ok nmX2 hown hK hP hD hS hT 0 rfl rfl 2 (by decide) (hts (.fieldLink RX2 44 "VatHouse$Reader" "token" "I") (by decide +kernel)) (fun _ h9 => h9) rfl (by decide +kernel) rfl rfl rfl ⟨_, rfl⟩ dX2_moveTo_46 (fun f_46 H locs hP hD hS hT hE1 hrd_47 hup_48 => ?_)
        have hF := Fr.put (a := h0) (ci := 2) hF hE ((hE1 h0 (hT.at 0 rfl).1).2.symm.trans (hT.at 0 rfl).2) (by decide) hrd_47 hup_48
        have hE := hE.tr hE1
        have hk_49 : rd f_46 tok 3 = .int zz := ((Fr.put (cs := [(2, 2)]) (a := h0) (ci := 2) Fr.rf Ext.rf (hTo.at 0 rfl).2 (by decide) hrd_47 hup_48).1 tok (hTo.at 1 rfl).1 6 (hTo.at 1 rfl).2 3 (by decide)).trans hk_4
        have hk_50 : rd f_46 h0 1 = .int ix := ((Fr.put (cs := [(2, 2)]) (a := h0) (ci := 2) Fr.rf Ext.rf (hTo.at 0 rfl).2 (by decide) hrd_47 hup_48).1 h0 (hTo.at 0 rfl).1 2 (hTo.at 0 rfl).2 1 (by decide)).trans hk_5
        have hk_51 : rd f_46 h0 2 = .int z_45 := (hrd_47 h0 2).trans (if_pos ⟨rfl, rfl⟩)
        exact K_v hx hb hr hlocks hP hD hK hS hT hE ⟨rfl, hF, _, _, hk_50, hk_51, trivial, trivial, ⟨rfl, fun j9 hj9 he9 => by rw [ez_45, he9, nI_clamp (by have := hTK.2.1; omega)]; rw [ia_eq hka9]; exact (hTK.1 j9 (by omega)).1⟩⟩ (Nat.le_of_ble_eq_true rfl) (Nat.le_of_ble_eq_true rfl) dX2_moveTo_49

abbrev rm_X2_refuse : Room := { frames := 0, cells := 0, slots := 0, locals := 0 }
theorem inw_X2_refuse_2 : ∀ w ∈ wsX20, w ∈ wsX2_refuse := by decide +kernel
theorem inw_X2_refuse_6 : ∀ w ∈ wsX60, w ∈ wsX2_refuse := by decide +kernel
set_option maxHeartbeats 800000 in
set_option maxRecDepth 100000 in
theorem t_X2_refuse (l : Launch) (dC : Nat → ClassId) (dI : Nat → Nat → Nat) (sa : Nat → Nat) (hlt : l.stackTraces = false) (g : Nat → Nat) (L : List Nat) (f : Nat → va_E) (tt : Nat → Int32) (ln : Nat) (M : Nat) (q : SG) (h0 : Nat) (wy : Int32) (tok : Nat) (ka : Nat) (sta : Nat) (vaa : Nat) (ax : Int32) (tn : Int32) (fa : Int32) (pw : Int32) (sz : Nat) (hT : TP g L f [(h0, (0, 2, 0)), (tok, (0, 6, 0)), (ka, (1, g 0, 1501)), (sta, (1, g 5, 1501)), (vaa, (1, g 6, 1501))]) (hm_ax : rd f h0 1 = .int ax) (hm_tn : rd f h0 2 = .int tn) (hm_fa : rd f h0 3 = .int fa) (hm_pw : rd f h0 4 = .int pw) (h_tok : rd f h0 0 = .ref tok) (h_ka : rd f tok 4 = .ref ka) (h_sta : rd f tok 5 = .ref sta) (h_vaa : rd f tok 6 = .ref vaa) (hwy : ¬ wy = 0) (hTK : TKS f ka sta vaa tt ln M) (hRQ : RQ tt ln M q ax tn fa pw) : KC l dC dI sa g yX2_refuse wsX2_refuse rm_X2_refuse [.ref h0, .int wy] L f sz (fun r L' f' => (r = none) ∧ Fr [(2, 3), (2, 4)] L f f' ∧ (∃ fa' : Int32, ∃ pw' : Int32, rd f' h0 3 = .int fa' ∧ rd f' h0 4 = .int pw' ∧ (¬ fa' = 0) ∧ (True) ∧ (RQ tt ln M (grf wy q) ax tn fa' pw'))) 0 0 := by
  refine CT.start (cc := cX2_refuse) (maxL := 2) (ret := none) (by decide) rfl (Nat.le_of_ble_eq_true rfl) ?_
  intro p e s m below meth c ls hst hP hK hD hev hS hl
  obtain ⟨hx, hb, hr, hml, hts, hown, hlocks, hin⟩ := hst
  have hown : s.vm.findClass RX2 = some m.cls := hown
  have hin : meth.name = yX2_refuse.name := hin
  have hA : ∀ q : Nat, s.heap.size ≤ q → va_A (va_pl L f) s.heap.size q := fun _ h => Or.inr h
  have hE : Ext L f L f := Ext.rf
  have hF : Fr [(2, 3), (2, 4)] L f f := Fr.rf
  have hl : lv_has ls 2 [(0, .ref h0), (1, .int wy)] := hl
  have hT0 := hT
  refine lv_aload_n hx hb dX2_refuse_0 rfl (lv_at hl 0 rfl) ?_
  refine T_get (ci := 2) (C := RX2) (T := TX2) (N := 6) (t := tI) hx hb hts inw_X2_refuse_2 hown hK hP hT 0 rfl rfl 3 (by decide) (hts (.fieldLink RX2 28 "VatHouse$Reader" "fault" "I") (by decide +kernel)) (fun _ h9 => h9) rfl dX2_refuse_1 (fun v_3 hv_1 hr_2 => ?_)
  obtain rfl : v_3 = .int fa := hr_2.symm.trans hm_fa
  refine lv_if_ne (tgt := 54) hx hb dX2_refuse_4 (by decide) (fun c_4 => ?_) (fun c_4 => ?_)
  · exact K_v hx hb hr hlocks hP hD hK hS hT hE ⟨rfl, hF, _, _, hm_fa, hm_pw, c_4, trivial, hRQ.nofault c_4⟩ (Nat.le_of_ble_eq_true rfl) (Nat.le_of_ble_eq_true rfl) dX2_refuse_54
  · refine lv_aload_n hx hb dX2_refuse_7 rfl (lv_at hl 0 rfl) ?_
    refine lv_iload_n hx hb dX2_refuse_8 rfl (lv_at hl 1 rfl) ?_
    have hTo := hT
    refine T_put (ci := 2) (v := .int wy) (ty := .int) (t := tI) (C := RX2) (T := TX2) (N := 6) hx hb hts inw_X2_refuse_2 tyX2 tyX2_ok nmX2 hown hK hP hD hS hT 0 rfl rfl 3 (by decide) (hts (.fieldLink RX2 28 "VatHouse$Reader" "fault" "I") (by decide +kernel)) (fun _ h9 => h9) rfl (by decide +kernel) rfl rfl rfl ⟨_, rfl⟩ dX2_refuse_9 (fun f_5 H locs hP hD hS hT hE1 hrd_6 hup_7 => ?_)
    have hF := Fr.put (a := h0) (ci := 2) hF hE ((hE1 h0 (hT.at 0 rfl).1).2.symm.trans (hT.at 0 rfl).2) (by decide) hrd_6 hup_7
    have hE := hE.tr hE1
    have hk_8 : rd f_5 h0 1 = .int ax := ((Fr.put (cs := [(2, 3)]) (a := h0) (ci := 2) Fr.rf Ext.rf (hTo.at 0 rfl).2 (by decide) hrd_6 hup_7).1 h0 (hTo.at 0 rfl).1 2 (hTo.at 0 rfl).2 1 (by decide)).trans hm_ax
    have hk_9 : rd f_5 h0 2 = .int tn := ((Fr.put (cs := [(2, 3)]) (a := h0) (ci := 2) Fr.rf Ext.rf (hTo.at 0 rfl).2 (by decide) hrd_6 hup_7).1 h0 (hTo.at 0 rfl).1 2 (hTo.at 0 rfl).2 2 (by decide)).trans hm_tn
    have hk_10 : rd f_5 h0 3 = .int wy := (hrd_6 h0 3).trans (if_pos ⟨rfl, rfl⟩)
    have hk_11 : rd f_5 h0 4 = .int pw := ((Fr.put (cs := [(2, 3)]) (a := h0) (ci := 2) Fr.rf Ext.rf (hTo.at 0 rfl).2 (by decide) hrd_6 hup_7).1 h0 (hTo.at 0 rfl).1 2 (hTo.at 0 rfl).2 4 (by decide)).trans hm_pw
    refine lv_aload_n hx hb dX2_refuse_12 rfl (lv_at hl 0 rfl) ?_
    refine lv_aload_n hx hb dX2_refuse_13 rfl (lv_at hl 0 rfl) ?_
    refine T_get (ci := 2) (C := RX2) (T := TX2) (N := 6) (t := tI) hx hb hts inw_X2_refuse_2 hown hK hP hT 0 rfl rfl 1 (by decide) (hts (.fieldLink RX2 101 "VatHouse$Reader" "at" "I") (by decide +kernel)) (fun _ h9 => h9) rfl dX2_refuse_14 (fun v_14 hv_12 hr_13 => ?_)
    obtain rfl : v_14 = .int ax := hr_13.symm.trans hk_8
    refine lv_if_lt (tgt := 50) hx hb dX2_refuse_17 (by decide) (fun c_15 => ?_) (fun c_15 => ?_)
    · refine lv_iconst (v := (-1)) hx hb dX2_refuse_50 (by decide) ?_
      have hTo := hT
      refine T_put (ci := 2) (v := .int (-1)) (ty := .int) (t := tI) (C := RX2) (T := TX2) (N := 6) hx hb hts inw_X2_refuse_2 tyX2 tyX2_ok nmX2 hown hK hP hD hS hT 0 rfl rfl 4 (by decide) (hts (.fieldLink RX2 9 "VatHouse$Reader" "place" "I") (by decide +kernel)) (fun _ h9 => h9) rfl (by decide +kernel) rfl rfl rfl ⟨_, rfl⟩ dX2_refuse_51 (fun f_16 H locs hP hD hS hT hE1 hrd_17 hup_18 => ?_)
      have hF := Fr.put (a := h0) (ci := 2) hF hE ((hE1 h0 (hT.at 0 rfl).1).2.symm.trans (hT.at 0 rfl).2) (by decide) hrd_17 hup_18
      have hE := hE.tr hE1
      have hk_19 : rd f_16 h0 1 = .int ax := ((Fr.put (cs := [(2, 4)]) (a := h0) (ci := 2) Fr.rf Ext.rf (hTo.at 0 rfl).2 (by decide) hrd_17 hup_18).1 h0 (hTo.at 0 rfl).1 2 (hTo.at 0 rfl).2 1 (by decide)).trans hk_8
      have hk_20 : rd f_16 h0 2 = .int tn := ((Fr.put (cs := [(2, 4)]) (a := h0) (ci := 2) Fr.rf Ext.rf (hTo.at 0 rfl).2 (by decide) hrd_17 hup_18).1 h0 (hTo.at 0 rfl).1 2 (hTo.at 0 rfl).2 2 (by decide)).trans hk_9
      have hk_21 : rd f_16 h0 3 = .int wy := ((Fr.put (cs := [(2, 4)]) (a := h0) (ci := 2) Fr.rf Ext.rf (hTo.at 0 rfl).2 (by decide) hrd_17 hup_18).1 h0 (hTo.at 0 rfl).1 2 (hTo.at 0 rfl).2 3 (by decide)).trans hk_10
      have hk_22 : rd f_16 h0 4 = .int (-1) := (hrd_17 h0 4).trans (if_pos ⟨rfl, rfl⟩)
      exact K_v hx hb hr hlocks hP hD hK hS hT hE ⟨rfl, hF, _, _, hk_21, hk_22, hwy, trivial, by obtain ⟨⟨j, h1, h2, -⟩, -⟩ := hRQ; have := hTK.2.1; exact absurd (h1 ▸ c_15) (nI_pos (by omega))⟩ (Nat.le_of_ble_eq_true rfl) (Nat.le_of_ble_eq_true rfl) dX2_refuse_54
    · refine lv_aload_n hx hb dX2_refuse_20 rfl (lv_at hl 0 rfl) ?_
      refine T_get (ci := 2) (C := RX2) (T := TX2) (N := 6) (t := tI) hx hb hts inw_X2_refuse_2 hown hK hP hT 0 rfl rfl 1 (by decide) (hts (.fieldLink RX2 101 "VatHouse$Reader" "at" "I") (by decide +kernel)) (fun _ h9 => h9) rfl dX2_refuse_21 (fun v_25 hv_23 hr_24 => ?_)
      obtain rfl : v_25 = .int ax := hr_24.symm.trans hk_8
      refine lv_aload_n hx hb dX2_refuse_24 rfl (lv_at hl 0 rfl) ?_
      refine T_get (ci := 2) (C := RX2) (T := TX2) (N := 6) (t := (1, 0, 6, 0)) hx hb hts inw_X2_refuse_2 hown hK hP hT 0 rfl rfl 0 (by decide) (hts (.fieldLink RX2 20 "VatHouse$Reader" "tokens" "LVatHouse$Tokens;") (by decide +kernel)) (fun _ h9 => h9) rfl dX2_refuse_25 (fun v_28 hv_26 hr_27 => ?_)
      obtain rfl : v_28 = .ref tok := hr_27.symm.trans ((hF.1 h0 (hT0.at 0 rfl).1 2 (hT0.at 0 rfl).2 0 (by decide)).trans h_tok)
      refine T_get (ci := 6) (C := RX6) (T := TX6) (N := 7) (t := (1, 1, g 5, 1501)) hx hb hts inw_X2_refuse_6 hown hK hP hT 1 rfl rfl 5 (by decide) (hts (.fieldLink RX2 114 "VatHouse$Tokens" "starts" "[I") (by decide +kernel)) (fun _ h9 => h9) rfl dX2_refuse_28 (fun v_31 hv_29 hr_30 => ?_)
      obtain rfl : v_31 = .ref sta := hr_30.symm.trans ((hF.1 tok (hT0.at 1 rfl).1 6 (hT0.at 1 rfl).2 5 (by decide)).trans h_sta)
      refine T_alen hx hb hK hP hT 3 5 rfl rfl (v := 1501) rfl dX2_refuse_31 ?_
      refine lv_icmp_ge (tgt := 50) hx hb dX2_refuse_32 (by decide) (fun c_32 => ?_) (fun c_32 => ?_)
      · refine lv_iconst (v := (-1)) hx hb dX2_refuse_50 (by decide) ?_
        have hTo := hT
        refine T_put (ci := 2) (v := .int (-1)) (ty := .int) (t := tI) (C := RX2) (T := TX2) (N := 6) hx hb hts inw_X2_refuse_2 tyX2 tyX2_ok nmX2 hown hK hP hD hS hT 0 rfl rfl 4 (by decide) (hts (.fieldLink RX2 9 "VatHouse$Reader" "place" "I") (by decide +kernel)) (fun _ h9 => h9) rfl (by decide +kernel) rfl rfl rfl ⟨_, rfl⟩ dX2_refuse_51 (fun f_33 H locs hP hD hS hT hE1 hrd_34 hup_35 => ?_)
        have hF := Fr.put (a := h0) (ci := 2) hF hE ((hE1 h0 (hT.at 0 rfl).1).2.symm.trans (hT.at 0 rfl).2) (by decide) hrd_34 hup_35
        have hE := hE.tr hE1
        have hk_36 : rd f_33 h0 1 = .int ax := ((Fr.put (cs := [(2, 4)]) (a := h0) (ci := 2) Fr.rf Ext.rf (hTo.at 0 rfl).2 (by decide) hrd_34 hup_35).1 h0 (hTo.at 0 rfl).1 2 (hTo.at 0 rfl).2 1 (by decide)).trans hk_8
        have hk_37 : rd f_33 h0 2 = .int tn := ((Fr.put (cs := [(2, 4)]) (a := h0) (ci := 2) Fr.rf Ext.rf (hTo.at 0 rfl).2 (by decide) hrd_34 hup_35).1 h0 (hTo.at 0 rfl).1 2 (hTo.at 0 rfl).2 2 (by decide)).trans hk_9
        have hk_38 : rd f_33 h0 3 = .int wy := ((Fr.put (cs := [(2, 4)]) (a := h0) (ci := 2) Fr.rf Ext.rf (hTo.at 0 rfl).2 (by decide) hrd_34 hup_35).1 h0 (hTo.at 0 rfl).1 2 (hTo.at 0 rfl).2 3 (by decide)).trans hk_10
        have hk_39 : rd f_33 h0 4 = .int (-1) := (hrd_34 h0 4).trans (if_pos ⟨rfl, rfl⟩)
        exact K_v hx hb hr hlocks hP hD hK hS hT hE ⟨rfl, hF, _, _, hk_38, hk_39, hwy, trivial, by obtain ⟨⟨j, h1, h2, -⟩, -⟩ := hRQ; have := hTK.2.1; exact absurd (h1 ▸ c_32) (show ¬ nI 1501 ≤ nI j by rw [nI_leI (by omega) (by omega)]; omega)⟩ (Nat.le_of_ble_eq_true rfl) (Nat.le_of_ble_eq_true rfl) dX2_refuse_54
      · have hka9 := (hF.2 sta (hT0.at 3 rfl).1 0 _ _ (hT0.at 3 rfl).2 (by decide))
        refine lv_aload_n hx hb dX2_refuse_35 rfl (lv_at hl 0 rfl) ?_
        refine T_get (ci := 2) (C := RX2) (T := TX2) (N := 6) (t := (1, 0, 6, 0)) hx hb hts inw_X2_refuse_2 hown hK hP hT 0 rfl rfl 0 (by decide) (hts (.fieldLink RX2 20 "VatHouse$Reader" "tokens" "LVatHouse$Tokens;") (by decide +kernel)) (fun _ h9 => h9) rfl dX2_refuse_36 (fun v_42 hv_40 hr_41 => ?_)
        obtain rfl : v_42 = .ref tok := hr_41.symm.trans ((hF.1 h0 (hT0.at 0 rfl).1 2 (hT0.at 0 rfl).2 0 (by decide)).trans h_tok)
        refine T_get (ci := 6) (C := RX6) (T := TX6) (N := 7) (t := (1, 1, g 5, 1501)) hx hb hts inw_X2_refuse_6 hown hK hP hT 1 rfl rfl 5 (by decide) (hts (.fieldLink RX2 114 "VatHouse$Tokens" "starts" "[I") (by decide +kernel)) (fun _ h9 => h9) rfl dX2_refuse_39 (fun v_45 hv_43 hr_44 => ?_)
        obtain rfl : v_45 = .ref sta := hr_44.symm.trans ((hF.1 tok (hT0.at 1 rfl).1 6 (hT0.at 1 rfl).2 5 (by decide)).trans h_sta)
        refine lv_aload_n hx hb dX2_refuse_42 rfl (lv_at hl 0 rfl) ?_
        refine T_get (ci := 2) (C := RX2) (T := TX2) (N := 6) (t := tI) hx hb hts inw_X2_refuse_2 hown hK hP hT 0 rfl rfl 1 (by decide) (hts (.fieldLink RX2 101 "VatHouse$Reader" "at" "I") (by decide +kernel)) (fun _ h9 => h9) rfl dX2_refuse_43 (fun v_48 hv_46 hr_47 => ?_)
        obtain rfl : v_48 = .int ax := hr_47.symm.trans hk_8
        refine T_iald hx hb hK hP hT 3 5 rfl rfl (vin 1501 (by decide) rfl (by assumption) (by assumption)) dX2_refuse_46 (fun z_49 ez_49 => ?_)
        refine lv_goto (tgt := 51) hx hb dX2_refuse_47 (by decide) ?_
        have hTo := hT
        refine T_put (ci := 2) (v := .int z_49) (ty := .int) (t := tI) (C := RX2) (T := TX2) (N := 6) hx hb hts inw_X2_refuse_2 tyX2 tyX2_ok nmX2 hown hK hP hD hS hT 0 rfl rfl 4 (by decide) (hts (.fieldLink RX2 9 "VatHouse$Reader" "place" "I") (by decide +kernel)) (fun _ h9 => h9) rfl (by decide +kernel) rfl rfl rfl ⟨_, rfl⟩ dX2_refuse_51 (fun f_50 H locs hP hD hS hT hE1 hrd_51 hup_52 => ?_)
        have hF := Fr.put (a := h0) (ci := 2) hF hE ((hE1 h0 (hT.at 0 rfl).1).2.symm.trans (hT.at 0 rfl).2) (by decide) hrd_51 hup_52
        have hE := hE.tr hE1
        have hk_53 : rd f_50 h0 1 = .int ax := ((Fr.put (cs := [(2, 4)]) (a := h0) (ci := 2) Fr.rf Ext.rf (hTo.at 0 rfl).2 (by decide) hrd_51 hup_52).1 h0 (hTo.at 0 rfl).1 2 (hTo.at 0 rfl).2 1 (by decide)).trans hk_8
        have hk_54 : rd f_50 h0 2 = .int tn := ((Fr.put (cs := [(2, 4)]) (a := h0) (ci := 2) Fr.rf Ext.rf (hTo.at 0 rfl).2 (by decide) hrd_51 hup_52).1 h0 (hTo.at 0 rfl).1 2 (hTo.at 0 rfl).2 2 (by decide)).trans hk_9
        have hk_55 : rd f_50 h0 3 = .int wy := ((Fr.put (cs := [(2, 4)]) (a := h0) (ci := 2) Fr.rf Ext.rf (hTo.at 0 rfl).2 (by decide) hrd_51 hup_52).1 h0 (hTo.at 0 rfl).1 2 (hTo.at 0 rfl).2 3 (by decide)).trans hk_10
        have hk_56 : rd f_50 h0 4 = .int z_49 := (hrd_51 h0 4).trans (if_pos ⟨rfl, rfl⟩)
        exact K_v hx hb hr hlocks hP hD hK hS hT hE ⟨rfl, hF, _, _, hk_55, hk_56, hwy, trivial, hRQ.fault c_4 rfl (by obtain ⟨⟨j, h1, h2, h3⟩, -⟩ := id hRQ; have h15 := hTK.2.1; rw [ez_49, h1, nI_clamp (by omega), ia_eq hka9, (hTK.1 j (by omega)).2.1, h3])⟩ (Nat.le_of_ble_eq_true rfl) (Nat.le_of_ble_eq_true rfl) dX2_refuse_54

abbrev rm_X2_pass : Room := { frames := 1, cells := 0, slots := 0, locals := 21 }
theorem inw_X2_pass_2 : ∀ w ∈ wsX20, w ∈ wsX2_pass := by decide +kernel
set_option maxHeartbeats 800000 in
set_option maxRecDepth 100000 in
theorem t_X2_pass (l : Launch) (dC : Nat → ClassId) (dI : Nat → Nat → Nat) (sa : Nat → Nat) (hlt : l.stackTraces = false) (g : Nat → Nat) (L : List Nat) (f : Nat → va_E) (tt : Nat → Int32) (ln : Nat) (M : Nat) (q : SG) (h0 : Nat) (wa : Int32) (tok : Nat) (ka : Nat) (sta : Nat) (vaa : Nat) (ax : Int32) (tn : Int32) (fa : Int32) (pw : Int32) (zz : Int32) (sz : Nat) (hT : TP g L f [(h0, (0, 2, 0)), (tok, (0, 6, 0)), (ka, (1, g 0, 1501)), (sta, (1, g 5, 1501)), (vaa, (1, g 6, 1501))]) (hm_ax : rd f h0 1 = .int ax) (hm_tn : rd f h0 2 = .int tn) (hm_fa : rd f h0 3 = .int fa) (hm_pw : rd f h0 4 = .int pw) (hm_zz : rd f tok 3 = .int zz) (h_tok : rd f h0 0 = .ref tok) (h_ka : rd f tok 4 = .ref ka) (h_sta : rd f tok 5 = .ref sta) (h_vaa : rd f tok 6 = .ref vaa) (hzz : zz = nI (M + 1)) (hTK : TKS f ka sta vaa tt ln M) (hRQ : RQ tt ln M q ax tn fa pw) (hwa : ¬ wa = 0 ∨ ¬ fa = 0) : KC l dC dI sa g yX2_pass wsX2_pass rm_X2_pass [.ref h0, .int wa] L f sz (fun r L' f' => (r = none) ∧ Fr [(2, 1), (2, 2), (2, 3), (2, 4)] L f f' ∧ (∃ ax' : Int32, ∃ tn' : Int32, ∃ fa' : Int32, ∃ pw' : Int32, rd f' h0 1 = .int ax' ∧ rd f' h0 2 = .int tn' ∧ rd f' h0 3 = .int fa' ∧ rd f' h0 4 = .int pw' ∧ (True) ∧ (True) ∧ (fa' = 0 → fa = 0 ∧ tn = wa) ∧ (True) ∧ (RQ tt ln M (gpa (Kp tt ln) (nq tt ln) wa q) ax' tn' fa' pw'))) 0 0 := by
  refine CT.start (cc := cX2_pass) (maxL := 2) (ret := none) (by decide) rfl (Nat.le_of_ble_eq_true rfl) ?_
  intro p e s m below meth c ls hst hP hK hD hev hS hl
  obtain ⟨hx, hb, hr, hml, hts, hown, hlocks, hin⟩ := hst
  have hown : s.vm.findClass RX2 = some m.cls := hown
  have hin : meth.name = yX2_pass.name := hin
  have hA : ∀ q : Nat, s.heap.size ≤ q → va_A (va_pl L f) s.heap.size q := fun _ h => Or.inr h
  have hE : Ext L f L f := Ext.rf
  have hF : Fr [(2, 1), (2, 2), (2, 3), (2, 4)] L f f := Fr.rf
  have hl : lv_has ls 2 [(0, .ref h0), (1, .int wa)] := hl
  have hT0 := hT
  refine lv_aload_n hx hb dX2_pass_0 rfl (lv_at hl 0 rfl) ?_
  refine T_get (ci := 2) (C := RX2) (T := TX2) (N := 6) (t := tI) hx hb hts inw_X2_pass_2 hown hK hP hT 0 rfl rfl 2 (by decide) (hts (.fieldLink RX2 44 "VatHouse$Reader" "token" "I") (by decide +kernel)) (fun _ h9 => h9) rfl dX2_pass_1 (fun v_3 hv_1 hr_2 => ?_)
  obtain rfl : v_3 = .int tn := hr_2.symm.trans hm_tn
  refine lv_iload_n hx hb dX2_pass_4 rfl (lv_at hl 1 rfl) ?_
  refine lv_icmp_eq (tgt := 13) hx hb dX2_pass_5 (by decide) (fun c_4 => ?_) (fun c_4 => ?_)
  · refine lv_aload_n hx hb dX2_pass_13 rfl (lv_at hl 0 rfl) ?_
    refine T_get (ci := 2) (C := RX2) (T := TX2) (N := 6) (t := tI) hx hb hts inw_X2_pass_2 hown hK hP hT 0 rfl rfl 3 (by decide) (hts (.fieldLink RX2 28 "VatHouse$Reader" "fault" "I") (by decide +kernel)) (fun _ h9 => h9) rfl dX2_pass_14 (fun v_7 hv_5 hr_6 => ?_)
    obtain rfl : v_7 = .int fa := hr_6.symm.trans hm_fa
    refine lv_if_ne (tgt := 30) hx hb dX2_pass_17 (by decide) (fun c_8 => ?_) (fun c_8 => ?_)
    · exact K_v hx hb hr hlocks hP hD hK hS hT hE ⟨rfl, hF, _, _, _, _, hm_ax, hm_tn, hm_fa, hm_pw, trivial, trivial, fun h9 => ⟨h9, c_4⟩, trivial, hRQ.pass2 c_8⟩ (Nat.le_of_ble_eq_true rfl) (Nat.le_of_ble_eq_true rfl) dX2_pass_30
    · refine lv_aload_n hx hb dX2_pass_20 rfl (lv_at hl 0 rfl) ?_
      refine lv_aload_n hx hb dX2_pass_21 rfl (lv_at hl 0 rfl) ?_
      refine T_get (ci := 2) (C := RX2) (T := TX2) (N := 6) (t := tI) hx hb hts inw_X2_pass_2 hown hK hP hT 0 rfl rfl 1 (by decide) (hts (.fieldLink RX2 101 "VatHouse$Reader" "at" "I") (by decide +kernel)) (fun _ h9 => h9) rfl dX2_pass_22 (fun v_11 hv_9 hr_10 => ?_)
      obtain rfl : v_11 = .int ax := hr_10.symm.trans hm_ax
      refine lv_iconst (v := 1) hx hb dX2_pass_25 (by decide) ?_
      refine lv_iadd hx hb dX2_pass_26 ?_
      refine lv_topi (fun z_12 ez_12 => ?_)
      have hTo := hT
      refine K_V ⟨hx, hb, hml, hown, hts⟩ (t_X2_moveTo l dC dI sa hlt g _ _ tt ln M h0 z_12 tok ka sta vaa zz _ (hT.sub [0, 1, 2, 3, 4] rfl)  hm_zz ((hF.1 h0 (hT0.at 0 rfl).1 2 (hT0.at 0 rfl).2 0 (by decide)).trans h_tok) ((hF.1 tok (hT0.at 1 rfl).1 6 (hT0.at 1 rfl).2 4 (by decide)).trans h_ka) ((hF.1 tok (hT0.at 1 rfl).1 6 (hT0.at 1 rfl).2 5 (by decide)).trans h_sta) ((hF.1 tok (hT0.at 1 rfl).1 6 (hT0.at 1 rfl).2 6 (by decide)).trans h_vaa) hzz (hTK.go (hF.2 ka (hT0.at 2 rfl).1 0 _ _ (hT0.at 2 rfl).2 (by decide)) (hF.2 sta (hT0.at 3 rfl).1 0 _ _ (hT0.at 3 rfl).2 (by decide)) (hF.2 vaa (hT0.at 4 rfl).1 0 _ _ (hT0.at 4 rfl).2 (by decide)))) (cwV 1 hts gX2_pass_X2_moveTo rfl rfl rfl (by decide +kernel) ⟨Nat.le_of_ble_eq_true rfl, Nat.le_of_ble_eq_true rfl⟩) hP hD hK hS hA hev hT 0 2 rfl rfl rfl rfl hl.1 rfl (Nat.le_of_ble_eq_true rfl) dX2_pass_27 ⟨Nat.le_of_ble_eq_true rfl, Nat.le_of_ble_eq_true rfl⟩ (fun r L_13 f_14 H locs hw_15 hP hD hS hT hE1 => ?_)
      have hF := Fr.call hF hE hw_15.2.1 (by decide)
      have hE := hE.tr hE1
      obtain ⟨rfl, hw_15⟩ := hw_15
      obtain ⟨hfr_16, ax_17, tn_18, hk_19, hk_20, hrel_21, hrel_22, hex_23⟩ := hw_15
      have hk_24 : rd f_14 h0 3 = .int fa := (hfr_16.1 h0 (hTo.at 0 rfl).1 2 (hTo.at 0 rfl).2 3 (by decide)).trans hm_fa
      have hk_25 : rd f_14 h0 4 = .int pw := (hfr_16.1 h0 (hTo.at 0 rfl).1 2 (hTo.at 0 rfl).2 4 (by decide)).trans hm_pw
      have hk_26 : rd f_14 tok 3 = .int zz := (hfr_16.1 tok (hTo.at 1 rfl).1 6 (hTo.at 1 rfl).2 3 (by decide)).trans hm_zz
      refine W.eq (g2 := F0 m 30 ls []) rfl ?_
      exact K_v hx hb hr hlocks hP hD hK hS hT hE ⟨rfl, hF, _, _, _, _, hk_19, hk_20, hk_24, hk_25, trivial, trivial, fun h9 => ⟨h9, c_4⟩, trivial, hRQ.pass3 hTK.2.2 hTK.2.1 c_8 c_4 (hwa.resolve_right (fun g9 => g9 c_8)) ez_12 hex_23.1 hex_23.2⟩ (Nat.le_of_ble_eq_true rfl) (Nat.le_of_ble_eq_true rfl) dX2_pass_30
  · refine lv_aload_n hx hb dX2_pass_8 rfl (lv_at hl 0 rfl) ?_
    refine lv_iconst (v := 1) hx hb dX2_pass_9 (by decide) ?_
    have hTo := hT
    refine K_V ⟨hx, hb, hml, hown, hts⟩ (t_X2_refuse l dC dI sa hlt g _ _ tt ln M q h0 1 tok ka sta vaa ax tn fa pw _ (hT.sub [0, 1, 2, 3, 4] rfl)  hm_ax hm_tn hm_fa hm_pw ((hF.1 h0 (hT0.at 0 rfl).1 2 (hT0.at 0 rfl).2 0 (by decide)).trans h_tok) ((hF.1 tok (hT0.at 1 rfl).1 6 (hT0.at 1 rfl).2 4 (by decide)).trans h_ka) ((hF.1 tok (hT0.at 1 rfl).1 6 (hT0.at 1 rfl).2 5 (by decide)).trans h_sta) ((hF.1 tok (hT0.at 1 rfl).1 6 (hT0.at 1 rfl).2 6 (by decide)).trans h_vaa) (by decide) (hTK.go (hF.2 ka (hT0.at 2 rfl).1 0 _ _ (hT0.at 2 rfl).2 (by decide)) (hF.2 sta (hT0.at 3 rfl).1 0 _ _ (hT0.at 3 rfl).2 (by decide)) (hF.2 vaa (hT0.at 4 rfl).1 0 _ _ (hT0.at 4 rfl).2 (by decide))) hRQ) (cwV 1 hts gX2_pass_X2_refuse rfl rfl rfl (by decide +kernel) ⟨Nat.le_of_ble_eq_true rfl, Nat.le_of_ble_eq_true rfl⟩) hP hD hK hS hA hev hT 0 2 rfl rfl rfl rfl hl.1 rfl (Nat.le_of_ble_eq_true rfl) dX2_pass_10 ⟨Nat.le_of_ble_eq_true rfl, Nat.le_of_ble_eq_true rfl⟩ (fun r L_27 f_28 H locs hw_29 hP hD hS hT hE1 => ?_)
    have hF := Fr.call hF hE hw_29.2.1 (by decide)
    have hE := hE.tr hE1
    obtain ⟨rfl, hw_29⟩ := hw_29
    obtain ⟨hfr_30, fa_31, pw_32, hk_33, hk_34, hrel_35, hrel_36, hex_37⟩ := hw_29
    have hk_38 : rd f_28 h0 1 = .int ax := (hfr_30.1 h0 (hTo.at 0 rfl).1 2 (hTo.at 0 rfl).2 1 (by decide)).trans hm_ax
    have hk_39 : rd f_28 h0 2 = .int tn := (hfr_30.1 h0 (hTo.at 0 rfl).1 2 (hTo.at 0 rfl).2 2 (by decide)).trans hm_tn
    have hk_40 : rd f_28 tok 3 = .int zz := (hfr_30.1 tok (hTo.at 1 rfl).1 6 (hTo.at 1 rfl).2 3 (by decide)).trans hm_zz
    have hrq_41 := hex_37
    refine W.eq (g2 := F0 m 13 ls []) rfl ?_
    refine lv_aload_n hx hb dX2_pass_13 rfl (lv_at hl 0 rfl) ?_
    refine T_get (ci := 2) (C := RX2) (T := TX2) (N := 6) (t := tI) hx hb hts inw_X2_pass_2 hown hK hP hT 0 rfl rfl 3 (by decide) (hts (.fieldLink RX2 28 "VatHouse$Reader" "fault" "I") (by decide +kernel)) (fun _ h9 => h9) rfl dX2_pass_14 (fun v_44 hv_42 hr_43 => ?_)
    obtain rfl : v_44 = .int fa_31 := hr_43.symm.trans hk_33
    refine lv_if_ne (tgt := 30) hx hb dX2_pass_17 (by decide) (fun c_45 => ?_) (fun c_45 => ?_)
    · exact K_v hx hb hr hlocks hP hD hK hS hT hE ⟨rfl, hF, _, _, _, _, hk_38, hk_39, hk_33, hk_34, trivial, trivial, fun h9 => absurd h9 hrel_35, trivial, hRQ.pass1 c_4 hrq_41⟩ (Nat.le_of_ble_eq_true rfl) (Nat.le_of_ble_eq_true rfl) dX2_pass_30
    · refine lv_aload_n hx hb dX2_pass_20 rfl (lv_at hl 0 rfl) ?_
      refine lv_aload_n hx hb dX2_pass_21 rfl (lv_at hl 0 rfl) ?_
      refine T_get (ci := 2) (C := RX2) (T := TX2) (N := 6) (t := tI) hx hb hts inw_X2_pass_2 hown hK hP hT 0 rfl rfl 1 (by decide) (hts (.fieldLink RX2 101 "VatHouse$Reader" "at" "I") (by decide +kernel)) (fun _ h9 => h9) rfl dX2_pass_22 (fun v_48 hv_46 hr_47 => ?_)
      obtain rfl : v_48 = .int ax := hr_47.symm.trans hk_38
      refine lv_iconst (v := 1) hx hb dX2_pass_25 (by decide) ?_
      refine lv_iadd hx hb dX2_pass_26 ?_
      refine lv_topi (fun z_49 ez_49 => ?_)
      have hTo := hT
      refine K_V ⟨hx, hb, hml, hown, hts⟩ (t_X2_moveTo l dC dI sa hlt g _ _ tt ln M h0 z_49 tok ka sta vaa zz _ (hT.sub [0, 1, 2, 3, 4] rfl)  hk_40 ((hF.1 h0 (hT0.at 0 rfl).1 2 (hT0.at 0 rfl).2 0 (by decide)).trans h_tok) ((hF.1 tok (hT0.at 1 rfl).1 6 (hT0.at 1 rfl).2 4 (by decide)).trans h_ka) ((hF.1 tok (hT0.at 1 rfl).1 6 (hT0.at 1 rfl).2 5 (by decide)).trans h_sta) ((hF.1 tok (hT0.at 1 rfl).1 6 (hT0.at 1 rfl).2 6 (by decide)).trans h_vaa) hzz (hTK.go (hF.2 ka (hT0.at 2 rfl).1 0 _ _ (hT0.at 2 rfl).2 (by decide)) (hF.2 sta (hT0.at 3 rfl).1 0 _ _ (hT0.at 3 rfl).2 (by decide)) (hF.2 vaa (hT0.at 4 rfl).1 0 _ _ (hT0.at 4 rfl).2 (by decide)))) (cwV 1 hts gX2_pass_X2_moveTo rfl rfl rfl (by decide +kernel) ⟨Nat.le_of_ble_eq_true rfl, Nat.le_of_ble_eq_true rfl⟩) hP hD hK hS hA hev hT 0 2 rfl rfl rfl rfl hl.1 rfl (Nat.le_of_ble_eq_true rfl) dX2_pass_27 ⟨Nat.le_of_ble_eq_true rfl, Nat.le_of_ble_eq_true rfl⟩ (fun r L_50 f_51 H locs hw_52 hP hD hS hT hE1 => ?_)
      have hF := Fr.call hF hE hw_52.2.1 (by decide)
      have hE := hE.tr hE1
      obtain ⟨rfl, hw_52⟩ := hw_52
      obtain ⟨hfr_53, ax_54, tn_55, hk_56, hk_57, hrel_58, hrel_59, hex_60⟩ := hw_52
      have hk_61 : rd f_51 h0 3 = .int fa_31 := (hfr_53.1 h0 (hTo.at 0 rfl).1 2 (hTo.at 0 rfl).2 3 (by decide)).trans hk_33
      have hk_62 : rd f_51 h0 4 = .int pw_32 := (hfr_53.1 h0 (hTo.at 0 rfl).1 2 (hTo.at 0 rfl).2 4 (by decide)).trans hk_34
      have hk_63 : rd f_51 tok 3 = .int zz := (hfr_53.1 tok (hTo.at 1 rfl).1 6 (hTo.at 1 rfl).2 3 (by decide)).trans hk_40
      refine W.eq (g2 := F0 m 30 ls []) rfl ?_
      exact K_v hx hb hr hlocks hP hD hK hS hT hE ⟨rfl, hF, _, _, _, _, hk_56, hk_57, hk_61, hk_62, trivial, trivial, fun h9 => absurd h9 hrel_35, trivial, (absurd c_45 hrel_35)⟩ (Nat.le_of_ble_eq_true rfl) (Nat.le_of_ble_eq_true rfl) dX2_pass_30

abbrev rm_X2_passE : Room := { frames := 1, cells := 0, slots := 0, locals := 21 }
set_option maxHeartbeats 800000 in
set_option maxRecDepth 100000 in
theorem t_X2_passE (l : Launch) (dC : Nat → ClassId) (dI : Nat → Nat → Nat) (sa : Nat → Nat) (hlt : l.stackTraces = false) (g : Nat → Nat) (L : List Nat) (f : Nat → va_E) (tt : Nat → Int32) (ln : Nat) (M : Nat) (q : SG) (h0 : Nat) (wa : Int32) (tok : Nat) (ka : Nat) (sta : Nat) (vaa : Nat) (ax : Int32) (tn : Int32) (fa : Int32) (pw : Int32) (zz : Int32) (sz : Nat) (hT : TP g L f [(h0, (0, 2, 0)), (tok, (0, 6, 0)), (ka, (1, g 0, 1501)), (sta, (1, g 5, 1501)), (vaa, (1, g 6, 1501))]) (hm_ax : rd f h0 1 = .int ax) (hm_tn : rd f h0 2 = .int tn) (hm_fa : rd f h0 3 = .int fa) (hm_pw : rd f h0 4 = .int pw) (hm_zz : rd f tok 3 = .int zz) (h_tok : rd f h0 0 = .ref tok) (h_ka : rd f tok 4 = .ref ka) (h_sta : rd f tok 5 = .ref sta) (h_vaa : rd f tok 6 = .ref vaa) (hzz : zz = nI (M + 1)) (hTK : TKS f ka sta vaa tt ln M) (hRQ : RQ tt ln M q ax tn fa pw) (hwa : wa = 0) : KC l dC dI sa g yX2_pass wsX2_pass rm_X2_passE [.ref h0, .int wa] L f sz (fun r L' f' => (r = none) ∧ Fr [(2, 1), (2, 2), (2, 3), (2, 4)] L f f' ∧ (∃ ax' : Int32, ∃ tn' : Int32, ∃ fa' : Int32, ∃ pw' : Int32, rd f' h0 1 = .int ax' ∧ rd f' h0 2 = .int tn' ∧ rd f' h0 3 = .int fa' ∧ rd f' h0 4 = .int pw' ∧ (True) ∧ (True) ∧ (fa' = 0 → fa = 0 ∧ tn = wa) ∧ (True) ∧ (fa' = (gpa (Kp tt ln) (nq tt ln) wa q).2.2.1 ∧ pw' = (gpa (Kp tt ln) (nq tt ln) wa q).2.2.2))) 0 0 := by
  refine CT.start (cc := cX2_pass) (maxL := 2) (ret := none) (by decide) rfl (Nat.le_of_ble_eq_true rfl) ?_
  intro p e s m below meth c ls hst hP hK hD hev hS hl
  obtain ⟨hx, hb, hr, hml, hts, hown, hlocks, hin⟩ := hst
  have hown : s.vm.findClass RX2 = some m.cls := hown
  have hin : meth.name = yX2_pass.name := hin
  have hA : ∀ q : Nat, s.heap.size ≤ q → va_A (va_pl L f) s.heap.size q := fun _ h => Or.inr h
  have hE : Ext L f L f := Ext.rf
  have hF : Fr [(2, 1), (2, 2), (2, 3), (2, 4)] L f f := Fr.rf
  have hl : lv_has ls 2 [(0, .ref h0), (1, .int wa)] := hl
  have hT0 := hT
  refine lv_aload_n hx hb dX2_pass_0 rfl (lv_at hl 0 rfl) ?_
  refine T_get (ci := 2) (C := RX2) (T := TX2) (N := 6) (t := tI) hx hb hts inw_X2_pass_2 hown hK hP hT 0 rfl rfl 2 (by decide) (hts (.fieldLink RX2 44 "VatHouse$Reader" "token" "I") (by decide +kernel)) (fun _ h9 => h9) rfl dX2_pass_1 (fun v_3 hv_1 hr_2 => ?_)
  obtain rfl : v_3 = .int tn := hr_2.symm.trans hm_tn
  refine lv_iload_n hx hb dX2_pass_4 rfl (lv_at hl 1 rfl) ?_
  refine lv_icmp_eq (tgt := 13) hx hb dX2_pass_5 (by decide) (fun c_4 => ?_) (fun c_4 => ?_)
  · refine lv_aload_n hx hb dX2_pass_13 rfl (lv_at hl 0 rfl) ?_
    refine T_get (ci := 2) (C := RX2) (T := TX2) (N := 6) (t := tI) hx hb hts inw_X2_pass_2 hown hK hP hT 0 rfl rfl 3 (by decide) (hts (.fieldLink RX2 28 "VatHouse$Reader" "fault" "I") (by decide +kernel)) (fun _ h9 => h9) rfl dX2_pass_14 (fun v_7 hv_5 hr_6 => ?_)
    obtain rfl : v_7 = .int fa := hr_6.symm.trans hm_fa
    refine lv_if_ne (tgt := 30) hx hb dX2_pass_17 (by decide) (fun c_8 => ?_) (fun c_8 => ?_)
    · exact K_v hx hb hr hlocks hP hD hK hS hT hE ⟨rfl, hF, _, _, _, _, hm_ax, hm_tn, hm_fa, hm_pw, trivial, trivial, fun h9 => ⟨h9, c_4⟩, trivial, (hRQ.pass2 c_8).2.2⟩ (Nat.le_of_ble_eq_true rfl) (Nat.le_of_ble_eq_true rfl) dX2_pass_30
    · refine lv_aload_n hx hb dX2_pass_20 rfl (lv_at hl 0 rfl) ?_
      refine lv_aload_n hx hb dX2_pass_21 rfl (lv_at hl 0 rfl) ?_
      refine T_get (ci := 2) (C := RX2) (T := TX2) (N := 6) (t := tI) hx hb hts inw_X2_pass_2 hown hK hP hT 0 rfl rfl 1 (by decide) (hts (.fieldLink RX2 101 "VatHouse$Reader" "at" "I") (by decide +kernel)) (fun _ h9 => h9) rfl dX2_pass_22 (fun v_11 hv_9 hr_10 => ?_)
      obtain rfl : v_11 = .int ax := hr_10.symm.trans hm_ax
      refine lv_iconst (v := 1) hx hb dX2_pass_25 (by decide) ?_
      refine lv_iadd hx hb dX2_pass_26 ?_
      refine lv_topi (fun z_12 ez_12 => ?_)
      have hTo := hT
      refine K_V ⟨hx, hb, hml, hown, hts⟩ (t_X2_moveTo l dC dI sa hlt g _ _ tt ln M h0 z_12 tok ka sta vaa zz _ (hT.sub [0, 1, 2, 3, 4] rfl)  hm_zz ((hF.1 h0 (hT0.at 0 rfl).1 2 (hT0.at 0 rfl).2 0 (by decide)).trans h_tok) ((hF.1 tok (hT0.at 1 rfl).1 6 (hT0.at 1 rfl).2 4 (by decide)).trans h_ka) ((hF.1 tok (hT0.at 1 rfl).1 6 (hT0.at 1 rfl).2 5 (by decide)).trans h_sta) ((hF.1 tok (hT0.at 1 rfl).1 6 (hT0.at 1 rfl).2 6 (by decide)).trans h_vaa) hzz (hTK.go (hF.2 ka (hT0.at 2 rfl).1 0 _ _ (hT0.at 2 rfl).2 (by decide)) (hF.2 sta (hT0.at 3 rfl).1 0 _ _ (hT0.at 3 rfl).2 (by decide)) (hF.2 vaa (hT0.at 4 rfl).1 0 _ _ (hT0.at 4 rfl).2 (by decide)))) (cwV 1 hts gX2_pass_X2_moveTo rfl rfl rfl (by decide +kernel) ⟨Nat.le_of_ble_eq_true rfl, Nat.le_of_ble_eq_true rfl⟩) hP hD hK hS hA hev hT 0 2 rfl rfl rfl rfl hl.1 rfl (Nat.le_of_ble_eq_true rfl) dX2_pass_27 ⟨Nat.le_of_ble_eq_true rfl, Nat.le_of_ble_eq_true rfl⟩ (fun r L_13 f_14 H locs hw_15 hP hD hS hT hE1 => ?_)
      have hF := Fr.call hF hE hw_15.2.1 (by decide)
      have hE := hE.tr hE1
      obtain ⟨rfl, hw_15⟩ := hw_15
      obtain ⟨hfr_16, ax_17, tn_18, hk_19, hk_20, hrel_21, hrel_22, hex_23⟩ := hw_15
      have hk_24 : rd f_14 h0 3 = .int fa := (hfr_16.1 h0 (hTo.at 0 rfl).1 2 (hTo.at 0 rfl).2 3 (by decide)).trans hm_fa
      have hk_25 : rd f_14 h0 4 = .int pw := (hfr_16.1 h0 (hTo.at 0 rfl).1 2 (hTo.at 0 rfl).2 4 (by decide)).trans hm_pw
      have hk_26 : rd f_14 tok 3 = .int zz := (hfr_16.1 tok (hTo.at 1 rfl).1 6 (hTo.at 1 rfl).2 3 (by decide)).trans hm_zz
      refine W.eq (g2 := F0 m 30 ls []) rfl ?_
      exact K_v hx hb hr hlocks hP hD hK hS hT hE ⟨rfl, hF, _, _, _, _, hk_19, hk_20, hk_24, hk_25, trivial, trivial, fun h9 => ⟨h9, c_4⟩, trivial, (by have e9 : gpa (Kp tt ln) (nq tt ln) wa q = (nq tt ln q.1, q.2) := (by unfold gpa; rw [if_pos (hRQ.F.symm.trans c_8), if_pos (hRQ.K.symm.trans c_4)]); rw [e9]; exact hRQ.2.2)⟩ (Nat.le_of_ble_eq_true rfl) (Nat.le_of_ble_eq_true rfl) dX2_pass_30
  · refine lv_aload_n hx hb dX2_pass_8 rfl (lv_at hl 0 rfl) ?_
    refine lv_iconst (v := 1) hx hb dX2_pass_9 (by decide) ?_
    have hTo := hT
    refine K_V ⟨hx, hb, hml, hown, hts⟩ (t_X2_refuse l dC dI sa hlt g _ _ tt ln M q h0 1 tok ka sta vaa ax tn fa pw _ (hT.sub [0, 1, 2, 3, 4] rfl)  hm_ax hm_tn hm_fa hm_pw ((hF.1 h0 (hT0.at 0 rfl).1 2 (hT0.at 0 rfl).2 0 (by decide)).trans h_tok) ((hF.1 tok (hT0.at 1 rfl).1 6 (hT0.at 1 rfl).2 4 (by decide)).trans h_ka) ((hF.1 tok (hT0.at 1 rfl).1 6 (hT0.at 1 rfl).2 5 (by decide)).trans h_sta) ((hF.1 tok (hT0.at 1 rfl).1 6 (hT0.at 1 rfl).2 6 (by decide)).trans h_vaa) (by decide) (hTK.go (hF.2 ka (hT0.at 2 rfl).1 0 _ _ (hT0.at 2 rfl).2 (by decide)) (hF.2 sta (hT0.at 3 rfl).1 0 _ _ (hT0.at 3 rfl).2 (by decide)) (hF.2 vaa (hT0.at 4 rfl).1 0 _ _ (hT0.at 4 rfl).2 (by decide))) hRQ) (cwV 1 hts gX2_pass_X2_refuse rfl rfl rfl (by decide +kernel) ⟨Nat.le_of_ble_eq_true rfl, Nat.le_of_ble_eq_true rfl⟩) hP hD hK hS hA hev hT 0 2 rfl rfl rfl rfl hl.1 rfl (Nat.le_of_ble_eq_true rfl) dX2_pass_10 ⟨Nat.le_of_ble_eq_true rfl, Nat.le_of_ble_eq_true rfl⟩ (fun r L_27 f_28 H locs hw_29 hP hD hS hT hE1 => ?_)
    have hF := Fr.call hF hE hw_29.2.1 (by decide)
    have hE := hE.tr hE1
    obtain ⟨rfl, hw_29⟩ := hw_29
    obtain ⟨hfr_30, fa_31, pw_32, hk_33, hk_34, hrel_35, hrel_36, hex_37⟩ := hw_29
    have hk_38 : rd f_28 h0 1 = .int ax := (hfr_30.1 h0 (hTo.at 0 rfl).1 2 (hTo.at 0 rfl).2 1 (by decide)).trans hm_ax
    have hk_39 : rd f_28 h0 2 = .int tn := (hfr_30.1 h0 (hTo.at 0 rfl).1 2 (hTo.at 0 rfl).2 2 (by decide)).trans hm_tn
    have hk_40 : rd f_28 tok 3 = .int zz := (hfr_30.1 tok (hTo.at 1 rfl).1 6 (hTo.at 1 rfl).2 3 (by decide)).trans hm_zz
    have hrq_41 := hex_37
    refine W.eq (g2 := F0 m 13 ls []) rfl ?_
    refine lv_aload_n hx hb dX2_pass_13 rfl (lv_at hl 0 rfl) ?_
    refine T_get (ci := 2) (C := RX2) (T := TX2) (N := 6) (t := tI) hx hb hts inw_X2_pass_2 hown hK hP hT 0 rfl rfl 3 (by decide) (hts (.fieldLink RX2 28 "VatHouse$Reader" "fault" "I") (by decide +kernel)) (fun _ h9 => h9) rfl dX2_pass_14 (fun v_44 hv_42 hr_43 => ?_)
    obtain rfl : v_44 = .int fa_31 := hr_43.symm.trans hk_33
    refine lv_if_ne (tgt := 30) hx hb dX2_pass_17 (by decide) (fun c_45 => ?_) (fun c_45 => ?_)
    · exact K_v hx hb hr hlocks hP hD hK hS hT hE ⟨rfl, hF, _, _, _, _, hk_38, hk_39, hk_33, hk_34, trivial, trivial, fun h9 => absurd h9 hrel_35, trivial, (hRQ.pass1 c_4 hrq_41).2.2⟩ (Nat.le_of_ble_eq_true rfl) (Nat.le_of_ble_eq_true rfl) dX2_pass_30
    · refine lv_aload_n hx hb dX2_pass_20 rfl (lv_at hl 0 rfl) ?_
      refine lv_aload_n hx hb dX2_pass_21 rfl (lv_at hl 0 rfl) ?_
      refine T_get (ci := 2) (C := RX2) (T := TX2) (N := 6) (t := tI) hx hb hts inw_X2_pass_2 hown hK hP hT 0 rfl rfl 1 (by decide) (hts (.fieldLink RX2 101 "VatHouse$Reader" "at" "I") (by decide +kernel)) (fun _ h9 => h9) rfl dX2_pass_22 (fun v_48 hv_46 hr_47 => ?_)
      obtain rfl : v_48 = .int ax := hr_47.symm.trans hk_38
      refine lv_iconst (v := 1) hx hb dX2_pass_25 (by decide) ?_
      refine lv_iadd hx hb dX2_pass_26 ?_
      refine lv_topi (fun z_49 ez_49 => ?_)
      have hTo := hT
      refine K_V ⟨hx, hb, hml, hown, hts⟩ (t_X2_moveTo l dC dI sa hlt g _ _ tt ln M h0 z_49 tok ka sta vaa zz _ (hT.sub [0, 1, 2, 3, 4] rfl)  hk_40 ((hF.1 h0 (hT0.at 0 rfl).1 2 (hT0.at 0 rfl).2 0 (by decide)).trans h_tok) ((hF.1 tok (hT0.at 1 rfl).1 6 (hT0.at 1 rfl).2 4 (by decide)).trans h_ka) ((hF.1 tok (hT0.at 1 rfl).1 6 (hT0.at 1 rfl).2 5 (by decide)).trans h_sta) ((hF.1 tok (hT0.at 1 rfl).1 6 (hT0.at 1 rfl).2 6 (by decide)).trans h_vaa) hzz (hTK.go (hF.2 ka (hT0.at 2 rfl).1 0 _ _ (hT0.at 2 rfl).2 (by decide)) (hF.2 sta (hT0.at 3 rfl).1 0 _ _ (hT0.at 3 rfl).2 (by decide)) (hF.2 vaa (hT0.at 4 rfl).1 0 _ _ (hT0.at 4 rfl).2 (by decide)))) (cwV 1 hts gX2_pass_X2_moveTo rfl rfl rfl (by decide +kernel) ⟨Nat.le_of_ble_eq_true rfl, Nat.le_of_ble_eq_true rfl⟩) hP hD hK hS hA hev hT 0 2 rfl rfl rfl rfl hl.1 rfl (Nat.le_of_ble_eq_true rfl) dX2_pass_27 ⟨Nat.le_of_ble_eq_true rfl, Nat.le_of_ble_eq_true rfl⟩ (fun r L_50 f_51 H locs hw_52 hP hD hS hT hE1 => ?_)
      have hF := Fr.call hF hE hw_52.2.1 (by decide)
      have hE := hE.tr hE1
      obtain ⟨rfl, hw_52⟩ := hw_52
      obtain ⟨hfr_53, ax_54, tn_55, hk_56, hk_57, hrel_58, hrel_59, hex_60⟩ := hw_52
      have hk_61 : rd f_51 h0 3 = .int fa_31 := (hfr_53.1 h0 (hTo.at 0 rfl).1 2 (hTo.at 0 rfl).2 3 (by decide)).trans hk_33
      have hk_62 : rd f_51 h0 4 = .int pw_32 := (hfr_53.1 h0 (hTo.at 0 rfl).1 2 (hTo.at 0 rfl).2 4 (by decide)).trans hk_34
      have hk_63 : rd f_51 tok 3 = .int zz := (hfr_53.1 tok (hTo.at 1 rfl).1 6 (hTo.at 1 rfl).2 3 (by decide)).trans hk_40
      refine W.eq (g2 := F0 m 30 ls []) rfl ?_
      exact K_v hx hb hr hlocks hP hD hK hS hT hE ⟨rfl, hF, _, _, _, _, hk_56, hk_57, hk_61, hk_62, trivial, trivial, fun h9 => absurd h9 hrel_35, trivial, (absurd c_45 hrel_35)⟩ (Nat.le_of_ble_eq_true rfl) (Nat.le_of_ble_eq_true rfl) dX2_pass_30

theorem nle_lt {a b : Int32} (h : ¬ a ≤ b) : b < a := by
  rw [Int32.le_iff_toInt_le] at h; rw [Int32.lt_iff_toInt_lt]; omega
theorem nlt_of_le {a b : Int32} (h : a ≤ b) : ¬ b < a := by
  rw [Int32.le_iff_toInt_le] at h; rw [Int32.lt_iff_toInt_lt]; omega

abbrev rm_X2_readNumber : Room := { frames := 2, cells := 0, slots := 0, locals := 42 }
theorem inw_X2_readNumber_2 : ∀ w ∈ wsX20, w ∈ wsX2_readNumber := by decide +kernel
theorem inw_X2_readNumber_6 : ∀ w ∈ wsX60, w ∈ wsX2_readNumber := by decide +kernel
set_option maxHeartbeats 800000 in
set_option maxRecDepth 100000 in
theorem t_X2_readNumber (l : Launch) (dC : Nat → ClassId) (dI : Nat → Nat → Nat) (sa : Nat → Nat) (hlt : l.stackTraces = false) (g : Nat → Nat) (L : List Nat) (f : Nat → va_E) (tt : Nat → Int32) (ln : Nat) (M : Nat) (q : SG) (h0 : Nat) (lo : Int32) (hi : Int32) (tok : Nat) (ka : Nat) (sta : Nat) (vaa : Nat) (ax : Int32) (tn : Int32) (fa : Int32) (pw : Int32) (zz : Int32) (sz : Nat) (hT : TP g L f [(h0, (0, 2, 0)), (tok, (0, 6, 0)), (ka, (1, g 0, 1501)), (sta, (1, g 5, 1501)), (vaa, (1, g 6, 1501))]) (hm_ax : rd f h0 1 = .int ax) (hm_tn : rd f h0 2 = .int tn) (hm_fa : rd f h0 3 = .int fa) (hm_pw : rd f h0 4 = .int pw) (hm_zz : rd f tok 3 = .int zz) (h_tok : rd f h0 0 = .ref tok) (h_ka : rd f tok 4 = .ref ka) (h_sta : rd f tok 5 = .ref sta) (h_vaa : rd f tok 6 = .ref vaa) (hzz : zz = nI (M + 1)) (hTK : TKS f ka sta vaa tt ln M) (hRQ : RQ tt ln M q ax tn fa pw) : KC l dC dI sa g yX2_readNumber wsX2_readNumber rm_X2_readNumber [.ref h0, .int lo, .int hi] L f sz (fun r L' f' => (∃ z : Int32, r = some (.int z)) ∧ Fr [(2, 1), (2, 2), (2, 3), (2, 4)] L f f' ∧ (∃ ax' : Int32, ∃ tn' : Int32, ∃ fa' : Int32, ∃ pw' : Int32, rd f' h0 1 = .int ax' ∧ rd f' h0 2 = .int tn' ∧ rd f' h0 3 = .int fa' ∧ rd f' h0 4 = .int pw' ∧ (True) ∧ (True) ∧ (fa' = 0 → fa = 0) ∧ (True) ∧ (r = some (.int (Vp tt ln q.1)) ∧ RQ tt ln M (gnu (Kp tt ln) (Vp tt ln) (nq tt ln) lo hi q) ax' tn' fa' pw'))) 0 0 := by
  refine CT.start (cc := cX2_readNumber) (maxL := 4) (ret := (some .int)) (by decide) rfl (Nat.le_of_ble_eq_true rfl) ?_
  intro p e s m below meth c ls hst hP hK hD hev hS hl
  obtain ⟨hx, hb, hr, hml, hts, hown, hlocks, hin⟩ := hst
  have hown : s.vm.findClass RX2 = some m.cls := hown
  have hin : meth.name = yX2_readNumber.name := hin
  have hA : ∀ q : Nat, s.heap.size ≤ q → va_A (va_pl L f) s.heap.size q := fun _ h => Or.inr h
  have hE : Ext L f L f := Ext.rf
  have hF : Fr [(2, 1), (2, 2), (2, 3), (2, 4)] L f f := Fr.rf
  have hl : lv_has ls 4 [(0, .ref h0), (1, .int lo), (2, .int hi)] := hl
  have hT0 := hT
  refine lv_aload_n hx hb dX2_readNumber_0 rfl (lv_at hl 0 rfl) ?_
  refine T_get (ci := 2) (C := RX2) (T := TX2) (N := 6) (t := tI) hx hb hts inw_X2_readNumber_2 hown hK hP hT 0 rfl rfl 1 (by decide) (hts (.fieldLink RX2 101 "VatHouse$Reader" "at" "I") (by decide +kernel)) (fun _ h9 => h9) rfl dX2_readNumber_1 (fun v_3 hv_1 hr_2 => ?_)
  obtain rfl : v_3 = .int ax := hr_2.symm.trans hm_ax
  refine lv_if_lt (tgt := 37) hx hb dX2_readNumber_4 (by decide) (fun c_4 => ?_) (fun c_4 => ?_)
  · exact absurd c_4 (by obtain ⟨⟨j, h1, h2, -⟩, -⟩ := hRQ; have := hTK.2.1; rw [h1]; exact nI_pos (by omega))
  · refine lv_aload_n hx hb dX2_readNumber_7 rfl (lv_at hl 0 rfl) ?_
    refine T_get (ci := 2) (C := RX2) (T := TX2) (N := 6) (t := tI) hx hb hts inw_X2_readNumber_2 hown hK hP hT 0 rfl rfl 1 (by decide) (hts (.fieldLink RX2 101 "VatHouse$Reader" "at" "I") (by decide +kernel)) (fun _ h9 => h9) rfl dX2_readNumber_8 (fun v_7 hv_5 hr_6 => ?_)
    obtain rfl : v_7 = .int ax := hr_6.symm.trans hm_ax
    refine lv_aload_n hx hb dX2_readNumber_11 rfl (lv_at hl 0 rfl) ?_
    refine T_get (ci := 2) (C := RX2) (T := TX2) (N := 6) (t := (1, 0, 6, 0)) hx hb hts inw_X2_readNumber_2 hown hK hP hT 0 rfl rfl 0 (by decide) (hts (.fieldLink RX2 20 "VatHouse$Reader" "tokens" "LVatHouse$Tokens;") (by decide +kernel)) (fun _ h9 => h9) rfl dX2_readNumber_12 (fun v_10 hv_8 hr_9 => ?_)
    obtain rfl : v_10 = .ref tok := hr_9.symm.trans ((hF.1 h0 (hT0.at 0 rfl).1 2 (hT0.at 0 rfl).2 0 (by decide)).trans h_tok)
    refine T_get (ci := 6) (C := RX6) (T := TX6) (N := 7) (t := (1, 1, g 6, 1501)) hx hb hts inw_X2_readNumber_6 hown hK hP hT 1 rfl rfl 6 (by decide) (hts (.fieldLink RX2 104 "VatHouse$Tokens" "values" "[I") (by decide +kernel)) (fun _ h9 => h9) rfl dX2_readNumber_15 (fun v_13 hv_11 hr_12 => ?_)
    obtain rfl : v_13 = .ref vaa := hr_12.symm.trans ((hF.1 tok (hT0.at 1 rfl).1 6 (hT0.at 1 rfl).2 6 (by decide)).trans h_vaa)
    refine T_alen hx hb hK hP hT 4 6 rfl rfl (v := 1501) rfl dX2_readNumber_18 ?_
    refine lv_icmp_ge (tgt := 37) hx hb dX2_readNumber_19 (by decide) (fun c_14 => ?_) (fun c_14 => ?_)
    · exact absurd c_14 (by obtain ⟨⟨j, h1, h2, -⟩, -⟩ := hRQ; have := hTK.2.1; rw [h1]; exact (show ¬ nI 1501 ≤ nI j by rw [nI_leI (by omega) (by omega)]; omega))
    · refine lv_aload_n hx hb dX2_readNumber_22 rfl (lv_at hl 0 rfl) ?_
      refine T_get (ci := 2) (C := RX2) (T := TX2) (N := 6) (t := (1, 0, 6, 0)) hx hb hts inw_X2_readNumber_2 hown hK hP hT 0 rfl rfl 0 (by decide) (hts (.fieldLink RX2 20 "VatHouse$Reader" "tokens" "LVatHouse$Tokens;") (by decide +kernel)) (fun _ h9 => h9) rfl dX2_readNumber_23 (fun v_17 hv_15 hr_16 => ?_)
      obtain rfl : v_17 = .ref tok := hr_16.symm.trans ((hF.1 h0 (hT0.at 0 rfl).1 2 (hT0.at 0 rfl).2 0 (by decide)).trans h_tok)
      refine T_get (ci := 6) (C := RX6) (T := TX6) (N := 7) (t := (1, 1, g 6, 1501)) hx hb hts inw_X2_readNumber_6 hown hK hP hT 1 rfl rfl 6 (by decide) (hts (.fieldLink RX2 104 "VatHouse$Tokens" "values" "[I") (by decide +kernel)) (fun _ h9 => h9) rfl dX2_readNumber_26 (fun v_20 hv_18 hr_19 => ?_)
      obtain rfl : v_20 = .ref vaa := hr_19.symm.trans ((hF.1 tok (hT0.at 1 rfl).1 6 (hT0.at 1 rfl).2 6 (by decide)).trans h_vaa)
      refine lv_aload_n hx hb dX2_readNumber_29 rfl (lv_at hl 0 rfl) ?_
      refine T_get (ci := 2) (C := RX2) (T := TX2) (N := 6) (t := tI) hx hb hts inw_X2_readNumber_2 hown hK hP hT 0 rfl rfl 1 (by decide) (hts (.fieldLink RX2 101 "VatHouse$Reader" "at" "I") (by decide +kernel)) (fun _ h9 => h9) rfl dX2_readNumber_30 (fun v_23 hv_21 hr_22 => ?_)
      obtain rfl : v_23 = .int ax := hr_22.symm.trans hm_ax
      refine T_iald hx hb hK hP hT 4 6 rfl rfl (vin 1501 (by decide) rfl (by assumption) (by assumption)) dX2_readNumber_33 (fun z_24 ez_24 => ?_)
      refine lv_goto (tgt := 38) hx hb dX2_readNumber_34 (by decide) ?_
      have hval : z_24 = Vp tt ln q.1 := by obtain ⟨⟨j, h1, h2, h3⟩, -⟩ := id hRQ; have h15 := hTK.2.1; rw [ez_24, h1, nI_clamp (by omega), ia_eq (hF.2 vaa (hT0.at 4 rfl).1 0 _ _ (hT0.at 4 rfl).2 (by decide)), (hTK.1 j (by omega)).2.2, h3]
      refine lv_istore_n (lv' := [(3, .int z_24), (0, .ref h0), (1, .int lo), (2, .int hi)]) hx hb dX2_readNumber_38 rfl hl (by decide) rfl (fun ls hl => ?_)
      refine lv_aload_n hx hb dX2_readNumber_39 rfl (lv_at hl 1 rfl) ?_
      refine T_get (ci := 2) (C := RX2) (T := TX2) (N := 6) (t := tI) hx hb hts inw_X2_readNumber_2 hown hK hP hT 0 rfl rfl 2 (by decide) (hts (.fieldLink RX2 44 "VatHouse$Reader" "token" "I") (by decide +kernel)) (fun _ h9 => h9) rfl dX2_readNumber_40 (fun v_27 hv_25 hr_26 => ?_)
      obtain rfl : v_27 = .int tn := hr_26.symm.trans hm_tn
      refine lv_bipush (v := (-2)) hx hb dX2_readNumber_43 (by decide) ?_
      refine lv_icmp_ne (tgt := 56) hx hb dX2_readNumber_45 (by decide) (fun c_28 => ?_) (fun c_28 => ?_)
      · refine lv_aload_n hx hb dX2_readNumber_56 rfl (lv_at hl 1 rfl) ?_
        refine T_get (ci := 2) (C := RX2) (T := TX2) (N := 6) (t := tI) hx hb hts inw_X2_readNumber_2 hown hK hP hT 0 rfl rfl 2 (by decide) (hts (.fieldLink RX2 44 "VatHouse$Reader" "token" "I") (by decide +kernel)) (fun _ h9 => h9) rfl dX2_readNumber_57 (fun v_31 hv_29 hr_30 => ?_)
        obtain rfl : v_31 = .int tn := hr_30.symm.trans hm_tn
        refine lv_iconst (v := (-1)) hx hb dX2_readNumber_60 (by decide) ?_
        refine lv_icmp_ne (tgt := 79) hx hb dX2_readNumber_61 (by decide) (fun c_32 => ?_) (fun c_32 => ?_)
        · refine lv_aload_n hx hb dX2_readNumber_79 rfl (lv_at hl 1 rfl) ?_
          refine lv_iconst (v := (-1)) hx hb dX2_readNumber_80 (by decide) ?_
          have hTo := hT
          refine K_V ⟨hx, hb, hml, hown, hts⟩ (t_X2_pass l dC dI sa hlt g _ _ tt ln M q h0 (-1) tok ka sta vaa ax tn fa pw zz _ (hT.sub [0, 1, 2, 3, 4] rfl)  hm_ax hm_tn hm_fa hm_pw hm_zz ((hF.1 h0 (hT0.at 0 rfl).1 2 (hT0.at 0 rfl).2 0 (by decide)).trans h_tok) ((hF.1 tok (hT0.at 1 rfl).1 6 (hT0.at 1 rfl).2 4 (by decide)).trans h_ka) ((hF.1 tok (hT0.at 1 rfl).1 6 (hT0.at 1 rfl).2 5 (by decide)).trans h_sta) ((hF.1 tok (hT0.at 1 rfl).1 6 (hT0.at 1 rfl).2 6 (by decide)).trans h_vaa) hzz (hTK.go (hF.2 ka (hT0.at 2 rfl).1 0 _ _ (hT0.at 2 rfl).2 (by decide)) (hF.2 sta (hT0.at 3 rfl).1 0 _ _ (hT0.at 3 rfl).2 (by decide)) (hF.2 vaa (hT0.at 4 rfl).1 0 _ _ (hT0.at 4 rfl).2 (by decide))) hRQ (Or.inl (by decide))) (cwV 1 hts gX2_readNumber_X2_pass rfl rfl rfl (by decide +kernel) ⟨Nat.le_of_ble_eq_true rfl, Nat.le_of_ble_eq_true rfl⟩) hP hD hK hS hA hev hT 0 2 rfl rfl rfl rfl hl.1 rfl (Nat.le_of_ble_eq_true rfl) dX2_readNumber_81 ⟨Nat.le_of_ble_eq_true rfl, Nat.le_of_ble_eq_true rfl⟩ (fun r L_33 f_34 H locs hw_35 hP hD hS hT hE1 => ?_)
          have hF := Fr.call hF hE hw_35.2.1 (by decide)
          have hE := hE.tr hE1
          obtain ⟨rfl, hw_35⟩ := hw_35
          obtain ⟨hfr_36, ax_37, tn_38, fa_39, pw_40, hk_41, hk_42, hk_43, hk_44, hrel_45, hrel_46, hrel_47, hrel_48, hex_49⟩ := hw_35
          have hk_50 : rd f_34 tok 3 = .int zz := (hfr_36.1 tok (hTo.at 1 rfl).1 6 (hTo.at 1 rfl).2 3 (by decide)).trans hm_zz
          have hrq_51 := hex_49
          refine W.eq (g2 := F0 m 84 ls []) rfl ?_
          refine lv_iload_n hx hb dX2_readNumber_84 rfl (lv_at hl 0 rfl) ?_
          exact K_i hx hb hr hlocks hP hD hK hS hT hE ⟨⟨_, rfl⟩, hF, _, _, _, _, hk_41, hk_42, hk_43, hk_44, trivial, trivial, fun h9 => ((hrel_47 h9).1), trivial, ⟨by rw [hval], (gnu_2 (by rintro (h9 | ⟨h9, -⟩); exact c_28 (hRQ.K.trans h9); exact c_32 (hRQ.K.trans h9)) : gnu (Kp tt ln) (Vp tt ln) (nq tt ln) lo hi q = _) ▸ hrq_51⟩⟩ (Nat.le_of_ble_eq_true rfl) (Nat.le_of_ble_eq_true rfl) dX2_readNumber_85
        · refine lv_iload_n hx hb dX2_readNumber_64 rfl (lv_at hl 0 rfl) ?_
          refine lv_iload_n hx hb dX2_readNumber_65 rfl (lv_at hl 2 rfl) ?_
          refine lv_icmp_lt (tgt := 74) hx hb dX2_readNumber_66 (by decide) (fun c_52 => ?_) (fun c_52 => ?_)
          · refine lv_aload_n hx hb dX2_readNumber_74 rfl (lv_at hl 1 rfl) ?_
            refine lv_iconst (v := 2) hx hb dX2_readNumber_75 (by decide) ?_
            have hTo := hT
            refine K_V ⟨hx, hb, hml, hown, hts⟩ (t_X2_refuse l dC dI sa hlt g _ _ tt ln M q h0 2 tok ka sta vaa ax tn fa pw _ (hT.sub [0, 1, 2, 3, 4] rfl)  hm_ax hm_tn hm_fa hm_pw ((hF.1 h0 (hT0.at 0 rfl).1 2 (hT0.at 0 rfl).2 0 (by decide)).trans h_tok) ((hF.1 tok (hT0.at 1 rfl).1 6 (hT0.at 1 rfl).2 4 (by decide)).trans h_ka) ((hF.1 tok (hT0.at 1 rfl).1 6 (hT0.at 1 rfl).2 5 (by decide)).trans h_sta) ((hF.1 tok (hT0.at 1 rfl).1 6 (hT0.at 1 rfl).2 6 (by decide)).trans h_vaa) (by decide) (hTK.go (hF.2 ka (hT0.at 2 rfl).1 0 _ _ (hT0.at 2 rfl).2 (by decide)) (hF.2 sta (hT0.at 3 rfl).1 0 _ _ (hT0.at 3 rfl).2 (by decide)) (hF.2 vaa (hT0.at 4 rfl).1 0 _ _ (hT0.at 4 rfl).2 (by decide))) hRQ) (cwV 1 hts gX2_readNumber_X2_refuse rfl rfl rfl (by decide +kernel) ⟨Nat.le_of_ble_eq_true rfl, Nat.le_of_ble_eq_true rfl⟩) hP hD hK hS hA hev hT 0 2 rfl rfl rfl rfl hl.1 rfl (Nat.le_of_ble_eq_true rfl) dX2_readNumber_76 ⟨Nat.le_of_ble_eq_true rfl, Nat.le_of_ble_eq_true rfl⟩ (fun r L_53 f_54 H locs hw_55 hP hD hS hT hE1 => ?_)
            have hF := Fr.call hF hE hw_55.2.1 (by decide)
            have hE := hE.tr hE1
            obtain ⟨rfl, hw_55⟩ := hw_55
            obtain ⟨hfr_56, fa_57, pw_58, hk_59, hk_60, hrel_61, hrel_62, hex_63⟩ := hw_55
            have hk_64 : rd f_54 h0 1 = .int ax := (hfr_56.1 h0 (hTo.at 0 rfl).1 2 (hTo.at 0 rfl).2 1 (by decide)).trans hm_ax
            have hk_65 : rd f_54 h0 2 = .int tn := (hfr_56.1 h0 (hTo.at 0 rfl).1 2 (hTo.at 0 rfl).2 2 (by decide)).trans hm_tn
            have hk_66 : rd f_54 tok 3 = .int zz := (hfr_56.1 tok (hTo.at 1 rfl).1 6 (hTo.at 1 rfl).2 3 (by decide)).trans hm_zz
            have hrq_67 := hex_63
            refine W.eq (g2 := F0 m 79 ls []) rfl ?_
            refine lv_aload_n hx hb dX2_readNumber_79 rfl (lv_at hl 1 rfl) ?_
            refine lv_iconst (v := (-1)) hx hb dX2_readNumber_80 (by decide) ?_
            have hTo := hT
            refine K_V ⟨hx, hb, hml, hown, hts⟩ (t_X2_pass l dC dI sa hlt g _ _ tt ln M (grf 2 q) h0 (-1) tok ka sta vaa ax tn fa_57 pw_58 zz _ (hT.sub [0, 1, 2, 3, 4] rfl)  hk_64 hk_65 hk_59 hk_60 hk_66 ((hF.1 h0 (hT0.at 0 rfl).1 2 (hT0.at 0 rfl).2 0 (by decide)).trans h_tok) ((hF.1 tok (hT0.at 1 rfl).1 6 (hT0.at 1 rfl).2 4 (by decide)).trans h_ka) ((hF.1 tok (hT0.at 1 rfl).1 6 (hT0.at 1 rfl).2 5 (by decide)).trans h_sta) ((hF.1 tok (hT0.at 1 rfl).1 6 (hT0.at 1 rfl).2 6 (by decide)).trans h_vaa) hzz (hTK.go (hF.2 ka (hT0.at 2 rfl).1 0 _ _ (hT0.at 2 rfl).2 (by decide)) (hF.2 sta (hT0.at 3 rfl).1 0 _ _ (hT0.at 3 rfl).2 (by decide)) (hF.2 vaa (hT0.at 4 rfl).1 0 _ _ (hT0.at 4 rfl).2 (by decide))) hrq_67 (Or.inl (by decide))) (cwV 1 hts gX2_readNumber_X2_pass rfl rfl rfl (by decide +kernel) ⟨Nat.le_of_ble_eq_true rfl, Nat.le_of_ble_eq_true rfl⟩) hP hD hK hS hA hev hT 0 2 rfl rfl rfl rfl hl.1 rfl (Nat.le_of_ble_eq_true rfl) dX2_readNumber_81 ⟨Nat.le_of_ble_eq_true rfl, Nat.le_of_ble_eq_true rfl⟩ (fun r L_68 f_69 H locs hw_70 hP hD hS hT hE1 => ?_)
            have hF := Fr.call hF hE hw_70.2.1 (by decide)
            have hE := hE.tr hE1
            obtain ⟨rfl, hw_70⟩ := hw_70
            obtain ⟨hfr_71, ax_72, tn_73, fa_74, pw_75, hk_76, hk_77, hk_78, hk_79, hrel_80, hrel_81, hrel_82, hrel_83, hex_84⟩ := hw_70
            have hk_85 : rd f_69 tok 3 = .int zz := (hfr_71.1 tok (hTo.at 1 rfl).1 6 (hTo.at 1 rfl).2 3 (by decide)).trans hk_66
            have hrq_86 := hex_84
            refine W.eq (g2 := F0 m 84 ls []) rfl ?_
            refine lv_iload_n hx hb dX2_readNumber_84 rfl (lv_at hl 0 rfl) ?_
            exact K_i hx hb hr hlocks hP hD hK hS hT hE ⟨⟨_, rfl⟩, hF, _, _, _, _, hk_76, hk_77, hk_78, hk_79, trivial, trivial, fun h9 => (absurd ((hrel_82 h9).1) hrel_61), trivial, ⟨by rw [hval], (gnu_1 (Or.inr ⟨hRQ.K.symm.trans c_32, Or.inl (by rw [← hval]; exact c_52)⟩) : gnu (Kp tt ln) (Vp tt ln) (nq tt ln) lo hi q = _) ▸ hrq_86⟩⟩ (Nat.le_of_ble_eq_true rfl) (Nat.le_of_ble_eq_true rfl) dX2_readNumber_85
          · refine lv_iload_n hx hb dX2_readNumber_69 rfl (lv_at hl 0 rfl) ?_
            refine lv_iload_n hx hb dX2_readNumber_70 rfl (lv_at hl 3 rfl) ?_
            refine lv_icmp_le (tgt := 79) hx hb dX2_readNumber_71 (by decide) (fun c_87 => ?_) (fun c_87 => ?_)
            · refine lv_aload_n hx hb dX2_readNumber_79 rfl (lv_at hl 1 rfl) ?_
              refine lv_iconst (v := (-1)) hx hb dX2_readNumber_80 (by decide) ?_
              have hTo := hT
              refine K_V ⟨hx, hb, hml, hown, hts⟩ (t_X2_pass l dC dI sa hlt g _ _ tt ln M q h0 (-1) tok ka sta vaa ax tn fa pw zz _ (hT.sub [0, 1, 2, 3, 4] rfl)  hm_ax hm_tn hm_fa hm_pw hm_zz ((hF.1 h0 (hT0.at 0 rfl).1 2 (hT0.at 0 rfl).2 0 (by decide)).trans h_tok) ((hF.1 tok (hT0.at 1 rfl).1 6 (hT0.at 1 rfl).2 4 (by decide)).trans h_ka) ((hF.1 tok (hT0.at 1 rfl).1 6 (hT0.at 1 rfl).2 5 (by decide)).trans h_sta) ((hF.1 tok (hT0.at 1 rfl).1 6 (hT0.at 1 rfl).2 6 (by decide)).trans h_vaa) hzz (hTK.go (hF.2 ka (hT0.at 2 rfl).1 0 _ _ (hT0.at 2 rfl).2 (by decide)) (hF.2 sta (hT0.at 3 rfl).1 0 _ _ (hT0.at 3 rfl).2 (by decide)) (hF.2 vaa (hT0.at 4 rfl).1 0 _ _ (hT0.at 4 rfl).2 (by decide))) hRQ (Or.inl (by decide))) (cwV 1 hts gX2_readNumber_X2_pass rfl rfl rfl (by decide +kernel) ⟨Nat.le_of_ble_eq_true rfl, Nat.le_of_ble_eq_true rfl⟩) hP hD hK hS hA hev hT 0 2 rfl rfl rfl rfl hl.1 rfl (Nat.le_of_ble_eq_true rfl) dX2_readNumber_81 ⟨Nat.le_of_ble_eq_true rfl, Nat.le_of_ble_eq_true rfl⟩ (fun r L_88 f_89 H locs hw_90 hP hD hS hT hE1 => ?_)
              have hF := Fr.call hF hE hw_90.2.1 (by decide)
              have hE := hE.tr hE1
              obtain ⟨rfl, hw_90⟩ := hw_90
              obtain ⟨hfr_91, ax_92, tn_93, fa_94, pw_95, hk_96, hk_97, hk_98, hk_99, hrel_100, hrel_101, hrel_102, hrel_103, hex_104⟩ := hw_90
              have hk_105 : rd f_89 tok 3 = .int zz := (hfr_91.1 tok (hTo.at 1 rfl).1 6 (hTo.at 1 rfl).2 3 (by decide)).trans hm_zz
              have hrq_106 := hex_104
              refine W.eq (g2 := F0 m 84 ls []) rfl ?_
              refine lv_iload_n hx hb dX2_readNumber_84 rfl (lv_at hl 0 rfl) ?_
              exact K_i hx hb hr hlocks hP hD hK hS hT hE ⟨⟨_, rfl⟩, hF, _, _, _, _, hk_96, hk_97, hk_98, hk_99, trivial, trivial, fun h9 => ((hrel_102 h9).1), trivial, ⟨by rw [hval], (gnu_2 (by rintro (h9 | ⟨-, h9 | h9⟩); exact c_28 (hRQ.K.trans h9); exact c_52 (by rw [hval]; exact h9); exact nlt_of_le c_87 (by rw [hval]; exact h9)) : gnu (Kp tt ln) (Vp tt ln) (nq tt ln) lo hi q = _) ▸ hrq_106⟩⟩ (Nat.le_of_ble_eq_true rfl) (Nat.le_of_ble_eq_true rfl) dX2_readNumber_85
            · refine lv_aload_n hx hb dX2_readNumber_74 rfl (lv_at hl 1 rfl) ?_
              refine lv_iconst (v := 2) hx hb dX2_readNumber_75 (by decide) ?_
              have hTo := hT
              refine K_V ⟨hx, hb, hml, hown, hts⟩ (t_X2_refuse l dC dI sa hlt g _ _ tt ln M q h0 2 tok ka sta vaa ax tn fa pw _ (hT.sub [0, 1, 2, 3, 4] rfl)  hm_ax hm_tn hm_fa hm_pw ((hF.1 h0 (hT0.at 0 rfl).1 2 (hT0.at 0 rfl).2 0 (by decide)).trans h_tok) ((hF.1 tok (hT0.at 1 rfl).1 6 (hT0.at 1 rfl).2 4 (by decide)).trans h_ka) ((hF.1 tok (hT0.at 1 rfl).1 6 (hT0.at 1 rfl).2 5 (by decide)).trans h_sta) ((hF.1 tok (hT0.at 1 rfl).1 6 (hT0.at 1 rfl).2 6 (by decide)).trans h_vaa) (by decide) (hTK.go (hF.2 ka (hT0.at 2 rfl).1 0 _ _ (hT0.at 2 rfl).2 (by decide)) (hF.2 sta (hT0.at 3 rfl).1 0 _ _ (hT0.at 3 rfl).2 (by decide)) (hF.2 vaa (hT0.at 4 rfl).1 0 _ _ (hT0.at 4 rfl).2 (by decide))) hRQ) (cwV 1 hts gX2_readNumber_X2_refuse rfl rfl rfl (by decide +kernel) ⟨Nat.le_of_ble_eq_true rfl, Nat.le_of_ble_eq_true rfl⟩) hP hD hK hS hA hev hT 0 2 rfl rfl rfl rfl hl.1 rfl (Nat.le_of_ble_eq_true rfl) dX2_readNumber_76 ⟨Nat.le_of_ble_eq_true rfl, Nat.le_of_ble_eq_true rfl⟩ (fun r L_107 f_108 H locs hw_109 hP hD hS hT hE1 => ?_)
              have hF := Fr.call hF hE hw_109.2.1 (by decide)
              have hE := hE.tr hE1
              obtain ⟨rfl, hw_109⟩ := hw_109
              obtain ⟨hfr_110, fa_111, pw_112, hk_113, hk_114, hrel_115, hrel_116, hex_117⟩ := hw_109
              have hk_118 : rd f_108 h0 1 = .int ax := (hfr_110.1 h0 (hTo.at 0 rfl).1 2 (hTo.at 0 rfl).2 1 (by decide)).trans hm_ax
              have hk_119 : rd f_108 h0 2 = .int tn := (hfr_110.1 h0 (hTo.at 0 rfl).1 2 (hTo.at 0 rfl).2 2 (by decide)).trans hm_tn
              have hk_120 : rd f_108 tok 3 = .int zz := (hfr_110.1 tok (hTo.at 1 rfl).1 6 (hTo.at 1 rfl).2 3 (by decide)).trans hm_zz
              have hrq_121 := hex_117
              refine W.eq (g2 := F0 m 79 ls []) rfl ?_
              refine lv_aload_n hx hb dX2_readNumber_79 rfl (lv_at hl 1 rfl) ?_
              refine lv_iconst (v := (-1)) hx hb dX2_readNumber_80 (by decide) ?_
              have hTo := hT
              refine K_V ⟨hx, hb, hml, hown, hts⟩ (t_X2_pass l dC dI sa hlt g _ _ tt ln M (grf 2 q) h0 (-1) tok ka sta vaa ax tn fa_111 pw_112 zz _ (hT.sub [0, 1, 2, 3, 4] rfl)  hk_118 hk_119 hk_113 hk_114 hk_120 ((hF.1 h0 (hT0.at 0 rfl).1 2 (hT0.at 0 rfl).2 0 (by decide)).trans h_tok) ((hF.1 tok (hT0.at 1 rfl).1 6 (hT0.at 1 rfl).2 4 (by decide)).trans h_ka) ((hF.1 tok (hT0.at 1 rfl).1 6 (hT0.at 1 rfl).2 5 (by decide)).trans h_sta) ((hF.1 tok (hT0.at 1 rfl).1 6 (hT0.at 1 rfl).2 6 (by decide)).trans h_vaa) hzz (hTK.go (hF.2 ka (hT0.at 2 rfl).1 0 _ _ (hT0.at 2 rfl).2 (by decide)) (hF.2 sta (hT0.at 3 rfl).1 0 _ _ (hT0.at 3 rfl).2 (by decide)) (hF.2 vaa (hT0.at 4 rfl).1 0 _ _ (hT0.at 4 rfl).2 (by decide))) hrq_121 (Or.inl (by decide))) (cwV 1 hts gX2_readNumber_X2_pass rfl rfl rfl (by decide +kernel) ⟨Nat.le_of_ble_eq_true rfl, Nat.le_of_ble_eq_true rfl⟩) hP hD hK hS hA hev hT 0 2 rfl rfl rfl rfl hl.1 rfl (Nat.le_of_ble_eq_true rfl) dX2_readNumber_81 ⟨Nat.le_of_ble_eq_true rfl, Nat.le_of_ble_eq_true rfl⟩ (fun r L_122 f_123 H locs hw_124 hP hD hS hT hE1 => ?_)
              have hF := Fr.call hF hE hw_124.2.1 (by decide)
              have hE := hE.tr hE1
              obtain ⟨rfl, hw_124⟩ := hw_124
              obtain ⟨hfr_125, ax_126, tn_127, fa_128, pw_129, hk_130, hk_131, hk_132, hk_133, hrel_134, hrel_135, hrel_136, hrel_137, hex_138⟩ := hw_124
              have hk_139 : rd f_123 tok 3 = .int zz := (hfr_125.1 tok (hTo.at 1 rfl).1 6 (hTo.at 1 rfl).2 3 (by decide)).trans hk_120
              have hrq_140 := hex_138
              refine W.eq (g2 := F0 m 84 ls []) rfl ?_
              refine lv_iload_n hx hb dX2_readNumber_84 rfl (lv_at hl 0 rfl) ?_
              exact K_i hx hb hr hlocks hP hD hK hS hT hE ⟨⟨_, rfl⟩, hF, _, _, _, _, hk_130, hk_131, hk_132, hk_133, trivial, trivial, fun h9 => (absurd ((hrel_136 h9).1) hrel_115), trivial, ⟨by rw [hval], (gnu_1 (Or.inr ⟨hRQ.K.symm.trans c_32, Or.inr (by rw [← hval]; exact nle_lt c_87)⟩) : gnu (Kp tt ln) (Vp tt ln) (nq tt ln) lo hi q = _) ▸ hrq_140⟩⟩ (Nat.le_of_ble_eq_true rfl) (Nat.le_of_ble_eq_true rfl) dX2_readNumber_85
      · refine lv_aload_n hx hb dX2_readNumber_48 rfl (lv_at hl 1 rfl) ?_
        refine lv_iconst (v := 2) hx hb dX2_readNumber_49 (by decide) ?_
        have hTo := hT
        refine K_V ⟨hx, hb, hml, hown, hts⟩ (t_X2_refuse l dC dI sa hlt g _ _ tt ln M q h0 2 tok ka sta vaa ax tn fa pw _ (hT.sub [0, 1, 2, 3, 4] rfl)  hm_ax hm_tn hm_fa hm_pw ((hF.1 h0 (hT0.at 0 rfl).1 2 (hT0.at 0 rfl).2 0 (by decide)).trans h_tok) ((hF.1 tok (hT0.at 1 rfl).1 6 (hT0.at 1 rfl).2 4 (by decide)).trans h_ka) ((hF.1 tok (hT0.at 1 rfl).1 6 (hT0.at 1 rfl).2 5 (by decide)).trans h_sta) ((hF.1 tok (hT0.at 1 rfl).1 6 (hT0.at 1 rfl).2 6 (by decide)).trans h_vaa) (by decide) (hTK.go (hF.2 ka (hT0.at 2 rfl).1 0 _ _ (hT0.at 2 rfl).2 (by decide)) (hF.2 sta (hT0.at 3 rfl).1 0 _ _ (hT0.at 3 rfl).2 (by decide)) (hF.2 vaa (hT0.at 4 rfl).1 0 _ _ (hT0.at 4 rfl).2 (by decide))) hRQ) (cwV 1 hts gX2_readNumber_X2_refuse rfl rfl rfl (by decide +kernel) ⟨Nat.le_of_ble_eq_true rfl, Nat.le_of_ble_eq_true rfl⟩) hP hD hK hS hA hev hT 0 2 rfl rfl rfl rfl hl.1 rfl (Nat.le_of_ble_eq_true rfl) dX2_readNumber_50 ⟨Nat.le_of_ble_eq_true rfl, Nat.le_of_ble_eq_true rfl⟩ (fun r L_141 f_142 H locs hw_143 hP hD hS hT hE1 => ?_)
        have hF := Fr.call hF hE hw_143.2.1 (by decide)
        have hE := hE.tr hE1
        obtain ⟨rfl, hw_143⟩ := hw_143
        obtain ⟨hfr_144, fa_145, pw_146, hk_147, hk_148, hrel_149, hrel_150, hex_151⟩ := hw_143
        have hk_152 : rd f_142 h0 1 = .int ax := (hfr_144.1 h0 (hTo.at 0 rfl).1 2 (hTo.at 0 rfl).2 1 (by decide)).trans hm_ax
        have hk_153 : rd f_142 h0 2 = .int tn := (hfr_144.1 h0 (hTo.at 0 rfl).1 2 (hTo.at 0 rfl).2 2 (by decide)).trans hm_tn
        have hk_154 : rd f_142 tok 3 = .int zz := (hfr_144.1 tok (hTo.at 1 rfl).1 6 (hTo.at 1 rfl).2 3 (by decide)).trans hm_zz
        have hrq_155 := hex_151
        refine W.eq (g2 := F0 m 53 ls []) rfl ?_
        refine lv_goto (tgt := 79) hx hb dX2_readNumber_53 (by decide) ?_
        refine lv_aload_n hx hb dX2_readNumber_79 rfl (lv_at hl 1 rfl) ?_
        refine lv_iconst (v := (-1)) hx hb dX2_readNumber_80 (by decide) ?_
        have hTo := hT
        refine K_V ⟨hx, hb, hml, hown, hts⟩ (t_X2_pass l dC dI sa hlt g _ _ tt ln M (grf 2 q) h0 (-1) tok ka sta vaa ax tn fa_145 pw_146 zz _ (hT.sub [0, 1, 2, 3, 4] rfl)  hk_152 hk_153 hk_147 hk_148 hk_154 ((hF.1 h0 (hT0.at 0 rfl).1 2 (hT0.at 0 rfl).2 0 (by decide)).trans h_tok) ((hF.1 tok (hT0.at 1 rfl).1 6 (hT0.at 1 rfl).2 4 (by decide)).trans h_ka) ((hF.1 tok (hT0.at 1 rfl).1 6 (hT0.at 1 rfl).2 5 (by decide)).trans h_sta) ((hF.1 tok (hT0.at 1 rfl).1 6 (hT0.at 1 rfl).2 6 (by decide)).trans h_vaa) hzz (hTK.go (hF.2 ka (hT0.at 2 rfl).1 0 _ _ (hT0.at 2 rfl).2 (by decide)) (hF.2 sta (hT0.at 3 rfl).1 0 _ _ (hT0.at 3 rfl).2 (by decide)) (hF.2 vaa (hT0.at 4 rfl).1 0 _ _ (hT0.at 4 rfl).2 (by decide))) hrq_155 (Or.inl (by decide))) (cwV 1 hts gX2_readNumber_X2_pass rfl rfl rfl (by decide +kernel) ⟨Nat.le_of_ble_eq_true rfl, Nat.le_of_ble_eq_true rfl⟩) hP hD hK hS hA hev hT 0 2 rfl rfl rfl rfl hl.1 rfl (Nat.le_of_ble_eq_true rfl) dX2_readNumber_81 ⟨Nat.le_of_ble_eq_true rfl, Nat.le_of_ble_eq_true rfl⟩ (fun r L_156 f_157 H locs hw_158 hP hD hS hT hE1 => ?_)
        have hF := Fr.call hF hE hw_158.2.1 (by decide)
        have hE := hE.tr hE1
        obtain ⟨rfl, hw_158⟩ := hw_158
        obtain ⟨hfr_159, ax_160, tn_161, fa_162, pw_163, hk_164, hk_165, hk_166, hk_167, hrel_168, hrel_169, hrel_170, hrel_171, hex_172⟩ := hw_158
        have hk_173 : rd f_157 tok 3 = .int zz := (hfr_159.1 tok (hTo.at 1 rfl).1 6 (hTo.at 1 rfl).2 3 (by decide)).trans hk_154
        have hrq_174 := hex_172
        refine W.eq (g2 := F0 m 84 ls []) rfl ?_
        refine lv_iload_n hx hb dX2_readNumber_84 rfl (lv_at hl 0 rfl) ?_
        exact K_i hx hb hr hlocks hP hD hK hS hT hE ⟨⟨_, rfl⟩, hF, _, _, _, _, hk_164, hk_165, hk_166, hk_167, trivial, trivial, fun h9 => (absurd ((hrel_170 h9).1) hrel_149), trivial, ⟨by rw [hval], (gnu_1 (Or.inl (hRQ.K.symm.trans c_28)) : gnu (Kp tt ln) (Vp tt ln) (nq tt ln) lo hi q = _) ▸ hrq_174⟩⟩ (Nat.le_of_ble_eq_true rfl) (Nat.le_of_ble_eq_true rfl) dX2_readNumber_85

abbrev rm_X2_readPlain : Room := { frames := 3, cells := 0, slots := 0, locals := 65 }
theorem inw_X2_readPlain_5 : ∀ w ∈ wsX50, w ∈ wsX2_readPlain := by decide +kernel
set_option maxHeartbeats 800000 in
set_option maxRecDepth 100000 in
theorem t_X2_readPlain (l : Launch) (dC : Nat → ClassId) (dI : Nat → Nat → Nat) (sa : Nat → Nat) (hlt : l.stackTraces = false) (g : Nat → Nat) (L : List Nat) (f : Nat → va_E) (tt : Nat → Int32) (ln : Nat) (M : Nat) (q : SG) (h0 : Nat) (o : Nat) (tok : Nat) (ka : Nat) (sta : Nat) (vaa : Nat) (ax : Int32) (tn : Int32) (fa : Int32) (pw : Int32) (wd : Int32) (zz : Int32) (sz : Nat) (hT : TP g L f [(h0, (0, 2, 0)), (o, (0, 5, 0)), (tok, (0, 6, 0)), (ka, (1, g 0, 1501)), (sta, (1, g 5, 1501)), (vaa, (1, g 6, 1501))]) (hm_ax : rd f h0 1 = .int ax) (hm_tn : rd f h0 2 = .int tn) (hm_fa : rd f h0 3 = .int fa) (hm_pw : rd f h0 4 = .int pw) (hm_wd : rd f o 0 = .int wd) (hm_zz : rd f tok 3 = .int zz) (h_tok : rd f h0 0 = .ref tok) (h_ka : rd f tok 4 = .ref ka) (h_sta : rd f tok 5 = .ref sta) (h_vaa : rd f tok 6 = .ref vaa) (hzz : zz = nI (M + 1)) (hTK : TKS f ka sta vaa tt ln M) (hRQ : RQ tt ln M q ax tn fa pw) : KC l dC dI sa g yX2_readPlain wsX2_readPlain rm_X2_readPlain [.ref h0, .ref o] L f sz (fun r L' f' => (r = none) ∧ Fr [(2, 1), (2, 2), (2, 3), (2, 4), (5, 1), (5, 2), (5, 3), (5, 4), (5, 5), (5, 6), (5, 7)] L f f' ∧ (∃ ax' : Int32, ∃ tn' : Int32, ∃ fa' : Int32, ∃ pw' : Int32, rd f' h0 1 = .int ax' ∧ rd f' h0 2 = .int tn' ∧ rd f' h0 3 = .int fa' ∧ rd f' h0 4 = .int pw' ∧ (True) ∧ (True) ∧ (fa' = 0 → fa = 0) ∧ (True) ∧ (RQ tt ln M (gpl (Kp tt ln) (Vp tt ln) (nq tt ln) wd q) ax' tn' fa' pw'))) 0 0 := by
  refine CT.start (cc := cX2_readPlain) (maxL := 2) (ret := none) (by decide) rfl (Nat.le_of_ble_eq_true rfl) ?_
  intro p e s m below meth c ls hst hP hK hD hev hS hl
  obtain ⟨hx, hb, hr, hml, hts, hown, hlocks, hin⟩ := hst
  have hown : s.vm.findClass RX2 = some m.cls := hown
  have hin : meth.name = yX2_readPlain.name := hin
  have hA : ∀ q : Nat, s.heap.size ≤ q → va_A (va_pl L f) s.heap.size q := fun _ h => Or.inr h
  have hE : Ext L f L f := Ext.rf
  have hF : Fr [(2, 1), (2, 2), (2, 3), (2, 4), (5, 1), (5, 2), (5, 3), (5, 4), (5, 5), (5, 6), (5, 7)] L f f := Fr.rf
  have hl : lv_has ls 2 [(0, .ref h0), (1, .ref o)] := hl
  have hT0 := hT
  refine lv_aload_n hx hb dX2_readPlain_0 rfl (lv_at hl 1 rfl) ?_
  refine T_get (ci := 5) (C := RX5) (T := TX5) (N := 8) (t := tI) hx hb hts inw_X2_readPlain_5 hown hK hP hT 1 rfl rfl 0 (by decide) (hts (.fieldLink RX2 61 "VatHouse$Step" "word" "I") (by decide +kernel)) (fun _ h9 => h9) rfl dX2_readPlain_1 (fun v_3 hv_1 hr_2 => ?_)
  obtain rfl : v_3 = .int wd := hr_2.symm.trans hm_wd
  by_cases c_4 : wd = 1
  · refine lv_tableIn (tgt := 48) hx hb dX2_readPlain_4 (by rw [c_4]; decide) (by rw [c_4]; decide) (by rw [c_4]; rfl) (by decide) ?_
    refine lv_aload_n hx hb dX2_readPlain_48 rfl (lv_at hl 1 rfl) ?_
    refine lv_aload_n hx hb dX2_readPlain_49 rfl (lv_at hl 0 rfl) ?_
    refine lv_iconst (v := 0) hx hb dX2_readPlain_50 (by decide) ?_
    refine lv_iconst (v := 5) hx hb dX2_readPlain_51 (by decide) ?_
    have hTo := hT
    refine K_V ⟨hx, hb, hml, hown, hts⟩ (t_X2_readNumber l dC dI sa hlt g _ _ tt ln M q h0 0 5 tok ka sta vaa ax tn fa pw zz _ (hT.sub [0, 2, 3, 4, 5] rfl)  hm_ax hm_tn hm_fa hm_pw hm_zz ((hF.1 h0 (hT0.at 0 rfl).1 2 (hT0.at 0 rfl).2 0 (by decide)).trans h_tok) ((hF.1 tok (hT0.at 2 rfl).1 6 (hT0.at 2 rfl).2 4 (by decide)).trans h_ka) ((hF.1 tok (hT0.at 2 rfl).1 6 (hT0.at 2 rfl).2 5 (by decide)).trans h_sta) ((hF.1 tok (hT0.at 2 rfl).1 6 (hT0.at 2 rfl).2 6 (by decide)).trans h_vaa) hzz (hTK.go (hF.2 ka (hT0.at 3 rfl).1 0 _ _ (hT0.at 3 rfl).2 (by decide)) (hF.2 sta (hT0.at 4 rfl).1 0 _ _ (hT0.at 4 rfl).2 (by decide)) (hF.2 vaa (hT0.at 5 rfl).1 0 _ _ (hT0.at 5 rfl).2 (by decide))) hRQ) (cwV 2 hts gX2_readPlain_X2_readNumber rfl rfl rfl (by decide +kernel) ⟨Nat.le_of_ble_eq_true rfl, Nat.le_of_ble_eq_true rfl⟩) hP hD hK hS hA hev hT 0 2 rfl rfl rfl rfl hl.1 rfl (Nat.le_of_ble_eq_true rfl) dX2_readPlain_52 ⟨Nat.le_of_ble_eq_true rfl, Nat.le_of_ble_eq_true rfl⟩ (fun r L_5 f_6 H locs hw_7 hP hD hS hT hE1 => ?_)
    have hF := Fr.call hF hE hw_7.2.1 (by decide)
    have hE := hE.tr hE1
    obtain ⟨⟨z_8, rfl⟩, hw_7⟩ := hw_7
    obtain ⟨hfr_9, ax_10, tn_11, fa_12, pw_13, hk_14, hk_15, hk_16, hk_17, hrel_18, hrel_19, hrel_20, hrel_21, hex_22⟩ := hw_7
    have hk_23 : rd f_6 o 0 = .int wd := (hfr_9.1 o (hTo.at 1 rfl).1 5 (hTo.at 1 rfl).2 0 (by decide)).trans hm_wd
    have hk_24 : rd f_6 tok 3 = .int zz := (hfr_9.1 tok (hTo.at 2 rfl).1 6 (hTo.at 2 rfl).2 3 (by decide)).trans hm_zz
    have hrq_25 := hex_22.2
    refine W.eq (g2 := F0 m 55 ls [.int z_8, .ref o]) rfl ?_
    have hTo := hT
    refine T_put (ci := 5) (v := .int z_8) (ty := .int) (t := tI) (C := RX5) (T := TX5) (N := 8) hx hb hts inw_X2_readPlain_5 tyX5 tyX5_ok nmX5 hown hK hP hD hS hT 1 rfl rfl 1 (by decide) (hts (.fieldLink RX2 76 "VatHouse$Step" "vat" "I") (by decide +kernel)) (fun _ h9 => h9) rfl (by decide +kernel) rfl rfl rfl ⟨_, rfl⟩ dX2_readPlain_55 (fun f_26 H locs hP hD hS hT hE1 hrd_27 hup_28 => ?_)
    have hF := Fr.put (a := o) (ci := 5) hF hE ((hE1 o (hT.at 1 rfl).1).2.symm.trans (hT.at 1 rfl).2) (by decide) hrd_27 hup_28
    have hE := hE.tr hE1
    have hk_29 : rd f_26 h0 1 = .int ax_10 := ((Fr.put (cs := [(5, 1)]) (a := o) (ci := 5) Fr.rf Ext.rf (hTo.at 1 rfl).2 (by decide) hrd_27 hup_28).1 h0 (hTo.at 0 rfl).1 2 (hTo.at 0 rfl).2 1 (by decide)).trans hk_14
    have hk_30 : rd f_26 h0 2 = .int tn_11 := ((Fr.put (cs := [(5, 1)]) (a := o) (ci := 5) Fr.rf Ext.rf (hTo.at 1 rfl).2 (by decide) hrd_27 hup_28).1 h0 (hTo.at 0 rfl).1 2 (hTo.at 0 rfl).2 2 (by decide)).trans hk_15
    have hk_31 : rd f_26 h0 3 = .int fa_12 := ((Fr.put (cs := [(5, 1)]) (a := o) (ci := 5) Fr.rf Ext.rf (hTo.at 1 rfl).2 (by decide) hrd_27 hup_28).1 h0 (hTo.at 0 rfl).1 2 (hTo.at 0 rfl).2 3 (by decide)).trans hk_16
    have hk_32 : rd f_26 h0 4 = .int pw_13 := ((Fr.put (cs := [(5, 1)]) (a := o) (ci := 5) Fr.rf Ext.rf (hTo.at 1 rfl).2 (by decide) hrd_27 hup_28).1 h0 (hTo.at 0 rfl).1 2 (hTo.at 0 rfl).2 4 (by decide)).trans hk_17
    have hk_33 : rd f_26 o 0 = .int wd := ((Fr.put (cs := [(5, 1)]) (a := o) (ci := 5) Fr.rf Ext.rf (hTo.at 1 rfl).2 (by decide) hrd_27 hup_28).1 o (hTo.at 1 rfl).1 5 (hTo.at 1 rfl).2 0 (by decide)).trans hk_23
    have hk_34 : rd f_26 tok 3 = .int zz := ((Fr.put (cs := [(5, 1)]) (a := o) (ci := 5) Fr.rf Ext.rf (hTo.at 1 rfl).2 (by decide) hrd_27 hup_28).1 tok (hTo.at 2 rfl).1 6 (hTo.at 2 rfl).2 3 (by decide)).trans hk_24
    refine lv_aload_n hx hb dX2_readPlain_58 rfl (lv_at hl 1 rfl) ?_
    refine lv_aload_n hx hb dX2_readPlain_59 rfl (lv_at hl 0 rfl) ?_
    refine lv_iconst (v := 1) hx hb dX2_readPlain_60 (by decide) ?_
    refine lv_bipush (v := 20) hx hb dX2_readPlain_61 (by decide) ?_
    have hTo := hT
    refine K_V ⟨hx, hb, hml, hown, hts⟩ (t_X2_readNumber l dC dI sa hlt g _ _ tt ln M (gnu (Kp tt ln) (Vp tt ln) (nq tt ln) 0 5 q) h0 1 20 tok ka sta vaa ax_10 tn_11 fa_12 pw_13 zz _ (hT.sub [0, 2, 3, 4, 5] rfl)  hk_29 hk_30 hk_31 hk_32 hk_34 ((hF.1 h0 (hT0.at 0 rfl).1 2 (hT0.at 0 rfl).2 0 (by decide)).trans h_tok) ((hF.1 tok (hT0.at 2 rfl).1 6 (hT0.at 2 rfl).2 4 (by decide)).trans h_ka) ((hF.1 tok (hT0.at 2 rfl).1 6 (hT0.at 2 rfl).2 5 (by decide)).trans h_sta) ((hF.1 tok (hT0.at 2 rfl).1 6 (hT0.at 2 rfl).2 6 (by decide)).trans h_vaa) hzz (hTK.go (hF.2 ka (hT0.at 3 rfl).1 0 _ _ (hT0.at 3 rfl).2 (by decide)) (hF.2 sta (hT0.at 4 rfl).1 0 _ _ (hT0.at 4 rfl).2 (by decide)) (hF.2 vaa (hT0.at 5 rfl).1 0 _ _ (hT0.at 5 rfl).2 (by decide))) hrq_25) (cwV 2 hts gX2_readPlain_X2_readNumber rfl rfl rfl (by decide +kernel) ⟨Nat.le_of_ble_eq_true rfl, Nat.le_of_ble_eq_true rfl⟩) hP hD hK hS hA hev hT 0 2 rfl rfl rfl rfl hl.1 rfl (Nat.le_of_ble_eq_true rfl) dX2_readPlain_63 ⟨Nat.le_of_ble_eq_true rfl, Nat.le_of_ble_eq_true rfl⟩ (fun r L_35 f_36 H locs hw_37 hP hD hS hT hE1 => ?_)
    have hF := Fr.call hF hE hw_37.2.1 (by decide)
    have hE := hE.tr hE1
    obtain ⟨⟨z_38, rfl⟩, hw_37⟩ := hw_37
    obtain ⟨hfr_39, ax_40, tn_41, fa_42, pw_43, hk_44, hk_45, hk_46, hk_47, hrel_48, hrel_49, hrel_50, hrel_51, hex_52⟩ := hw_37
    have hk_53 : rd f_36 o 0 = .int wd := (hfr_39.1 o (hTo.at 1 rfl).1 5 (hTo.at 1 rfl).2 0 (by decide)).trans hk_33
    have hk_54 : rd f_36 tok 3 = .int zz := (hfr_39.1 tok (hTo.at 2 rfl).1 6 (hTo.at 2 rfl).2 3 (by decide)).trans hk_34
    have hrq_55 := hex_52.2
    refine W.eq (g2 := F0 m 66 ls [.int z_38, .ref o]) rfl ?_
    have hTo := hT
    refine T_put (ci := 5) (v := .int z_38) (ty := .int) (t := tI) (C := RX5) (T := TX5) (N := 8) hx hb hts inw_X2_readPlain_5 tyX5 tyX5_ok nmX5 hown hK hP hD hS hT 1 rfl rfl 2 (by decide) (hts (.fieldLink RX2 79 "VatHouse$Step" "number" "I") (by decide +kernel)) (fun _ h9 => h9) rfl (by decide +kernel) rfl rfl rfl ⟨_, rfl⟩ dX2_readPlain_66 (fun f_56 H locs hP hD hS hT hE1 hrd_57 hup_58 => ?_)
    have hF := Fr.put (a := o) (ci := 5) hF hE ((hE1 o (hT.at 1 rfl).1).2.symm.trans (hT.at 1 rfl).2) (by decide) hrd_57 hup_58
    have hE := hE.tr hE1
    have hk_59 : rd f_56 h0 1 = .int ax_40 := ((Fr.put (cs := [(5, 2)]) (a := o) (ci := 5) Fr.rf Ext.rf (hTo.at 1 rfl).2 (by decide) hrd_57 hup_58).1 h0 (hTo.at 0 rfl).1 2 (hTo.at 0 rfl).2 1 (by decide)).trans hk_44
    have hk_60 : rd f_56 h0 2 = .int tn_41 := ((Fr.put (cs := [(5, 2)]) (a := o) (ci := 5) Fr.rf Ext.rf (hTo.at 1 rfl).2 (by decide) hrd_57 hup_58).1 h0 (hTo.at 0 rfl).1 2 (hTo.at 0 rfl).2 2 (by decide)).trans hk_45
    have hk_61 : rd f_56 h0 3 = .int fa_42 := ((Fr.put (cs := [(5, 2)]) (a := o) (ci := 5) Fr.rf Ext.rf (hTo.at 1 rfl).2 (by decide) hrd_57 hup_58).1 h0 (hTo.at 0 rfl).1 2 (hTo.at 0 rfl).2 3 (by decide)).trans hk_46
    have hk_62 : rd f_56 h0 4 = .int pw_43 := ((Fr.put (cs := [(5, 2)]) (a := o) (ci := 5) Fr.rf Ext.rf (hTo.at 1 rfl).2 (by decide) hrd_57 hup_58).1 h0 (hTo.at 0 rfl).1 2 (hTo.at 0 rfl).2 4 (by decide)).trans hk_47
    have hk_63 : rd f_56 o 0 = .int wd := ((Fr.put (cs := [(5, 2)]) (a := o) (ci := 5) Fr.rf Ext.rf (hTo.at 1 rfl).2 (by decide) hrd_57 hup_58).1 o (hTo.at 1 rfl).1 5 (hTo.at 1 rfl).2 0 (by decide)).trans hk_53
    have hk_64 : rd f_56 tok 3 = .int zz := ((Fr.put (cs := [(5, 2)]) (a := o) (ci := 5) Fr.rf Ext.rf (hTo.at 1 rfl).2 (by decide) hrd_57 hup_58).1 tok (hTo.at 2 rfl).1 6 (hTo.at 2 rfl).2 3 (by decide)).trans hk_54
    refine lv_goto (tgt := 139) hx hb dX2_readPlain_69 (by decide) ?_
    exact K_v hx hb hr hlocks hP hD hK hS hT hE ⟨rfl, hF, _, _, _, _, hk_59, hk_60, hk_61, hk_62, trivial, trivial, fun h9 => (hrel_20 (hrel_50 h9)), trivial, (by have e9 : gpl (Kp tt ln) (Vp tt ln) (nq tt ln) wd q = (gnu (Kp tt ln) (Vp tt ln) (nq tt ln) 1 20 (gnu (Kp tt ln) (Vp tt ln) (nq tt ln) 0 5 q)) := (by rw [c_4]; rfl); rw [e9]; exact hrq_55)⟩ (Nat.le_of_ble_eq_true rfl) (Nat.le_of_ble_eq_true rfl) dX2_readPlain_139
  by_cases c_65 : wd = 2
  · refine lv_tableIn (tgt := 139) hx hb dX2_readPlain_4 (by rw [c_65]; decide) (by rw [c_65]; decide) (by rw [c_65]; rfl) (by decide) ?_
    exact K_v hx hb hr hlocks hP hD hK hS hT hE ⟨rfl, hF, _, _, _, _, hm_ax, hm_tn, hm_fa, hm_pw, trivial, trivial, fun h9 => h9, trivial, (by have e9 : gpl (Kp tt ln) (Vp tt ln) (nq tt ln) wd q = q := (by rw [c_65]; rfl); rw [e9]; exact hRQ)⟩ (Nat.le_of_ble_eq_true rfl) (Nat.le_of_ble_eq_true rfl) dX2_readPlain_139
  by_cases c_66 : wd = 3
  · refine lv_tableIn (tgt := 139) hx hb dX2_readPlain_4 (by rw [c_66]; decide) (by rw [c_66]; decide) (by rw [c_66]; rfl) (by decide) ?_
    exact K_v hx hb hr hlocks hP hD hK hS hT hE ⟨rfl, hF, _, _, _, _, hm_ax, hm_tn, hm_fa, hm_pw, trivial, trivial, fun h9 => h9, trivial, (by have e9 : gpl (Kp tt ln) (Vp tt ln) (nq tt ln) wd q = q := (by rw [c_66]; rfl); rw [e9]; exact hRQ)⟩ (Nat.le_of_ble_eq_true rfl) (Nat.le_of_ble_eq_true rfl) dX2_readPlain_139
  by_cases c_67 : wd = 4
  · refine lv_tableIn (tgt := 72) hx hb dX2_readPlain_4 (by rw [c_67]; decide) (by rw [c_67]; decide) (by rw [c_67]; rfl) (by decide) ?_
    refine lv_aload_n hx hb dX2_readPlain_72 rfl (lv_at hl 1 rfl) ?_
    refine lv_aload_n hx hb dX2_readPlain_73 rfl (lv_at hl 0 rfl) ?_
    refine lv_iconst (v := 1) hx hb dX2_readPlain_74 (by decide) ?_
    refine lv_sipush (v := 200) hx hb dX2_readPlain_75 (by decide) ?_
    have hTo := hT
    refine K_V ⟨hx, hb, hml, hown, hts⟩ (t_X2_readNumber l dC dI sa hlt g _ _ tt ln M q h0 1 200 tok ka sta vaa ax tn fa pw zz _ (hT.sub [0, 2, 3, 4, 5] rfl)  hm_ax hm_tn hm_fa hm_pw hm_zz ((hF.1 h0 (hT0.at 0 rfl).1 2 (hT0.at 0 rfl).2 0 (by decide)).trans h_tok) ((hF.1 tok (hT0.at 2 rfl).1 6 (hT0.at 2 rfl).2 4 (by decide)).trans h_ka) ((hF.1 tok (hT0.at 2 rfl).1 6 (hT0.at 2 rfl).2 5 (by decide)).trans h_sta) ((hF.1 tok (hT0.at 2 rfl).1 6 (hT0.at 2 rfl).2 6 (by decide)).trans h_vaa) hzz (hTK.go (hF.2 ka (hT0.at 3 rfl).1 0 _ _ (hT0.at 3 rfl).2 (by decide)) (hF.2 sta (hT0.at 4 rfl).1 0 _ _ (hT0.at 4 rfl).2 (by decide)) (hF.2 vaa (hT0.at 5 rfl).1 0 _ _ (hT0.at 5 rfl).2 (by decide))) hRQ) (cwV 2 hts gX2_readPlain_X2_readNumber rfl rfl rfl (by decide +kernel) ⟨Nat.le_of_ble_eq_true rfl, Nat.le_of_ble_eq_true rfl⟩) hP hD hK hS hA hev hT 0 2 rfl rfl rfl rfl hl.1 rfl (Nat.le_of_ble_eq_true rfl) dX2_readPlain_78 ⟨Nat.le_of_ble_eq_true rfl, Nat.le_of_ble_eq_true rfl⟩ (fun r L_68 f_69 H locs hw_70 hP hD hS hT hE1 => ?_)
    have hF := Fr.call hF hE hw_70.2.1 (by decide)
    have hE := hE.tr hE1
    obtain ⟨⟨z_71, rfl⟩, hw_70⟩ := hw_70
    obtain ⟨hfr_72, ax_73, tn_74, fa_75, pw_76, hk_77, hk_78, hk_79, hk_80, hrel_81, hrel_82, hrel_83, hrel_84, hex_85⟩ := hw_70
    have hk_86 : rd f_69 o 0 = .int wd := (hfr_72.1 o (hTo.at 1 rfl).1 5 (hTo.at 1 rfl).2 0 (by decide)).trans hm_wd
    have hk_87 : rd f_69 tok 3 = .int zz := (hfr_72.1 tok (hTo.at 2 rfl).1 6 (hTo.at 2 rfl).2 3 (by decide)).trans hm_zz
    have hrq_88 := hex_85.2
    refine W.eq (g2 := F0 m 81 ls [.int z_71, .ref o]) rfl ?_
    have hTo := hT
    refine T_put (ci := 5) (v := .int z_71) (ty := .int) (t := tI) (C := RX5) (T := TX5) (N := 8) hx hb hts inw_X2_readPlain_5 tyX5 tyX5_ok nmX5 hown hK hP hD hS hT 1 rfl rfl 2 (by decide) (hts (.fieldLink RX2 79 "VatHouse$Step" "number" "I") (by decide +kernel)) (fun _ h9 => h9) rfl (by decide +kernel) rfl rfl rfl ⟨_, rfl⟩ dX2_readPlain_81 (fun f_89 H locs hP hD hS hT hE1 hrd_90 hup_91 => ?_)
    have hF := Fr.put (a := o) (ci := 5) hF hE ((hE1 o (hT.at 1 rfl).1).2.symm.trans (hT.at 1 rfl).2) (by decide) hrd_90 hup_91
    have hE := hE.tr hE1
    have hk_92 : rd f_89 h0 1 = .int ax_73 := ((Fr.put (cs := [(5, 2)]) (a := o) (ci := 5) Fr.rf Ext.rf (hTo.at 1 rfl).2 (by decide) hrd_90 hup_91).1 h0 (hTo.at 0 rfl).1 2 (hTo.at 0 rfl).2 1 (by decide)).trans hk_77
    have hk_93 : rd f_89 h0 2 = .int tn_74 := ((Fr.put (cs := [(5, 2)]) (a := o) (ci := 5) Fr.rf Ext.rf (hTo.at 1 rfl).2 (by decide) hrd_90 hup_91).1 h0 (hTo.at 0 rfl).1 2 (hTo.at 0 rfl).2 2 (by decide)).trans hk_78
    have hk_94 : rd f_89 h0 3 = .int fa_75 := ((Fr.put (cs := [(5, 2)]) (a := o) (ci := 5) Fr.rf Ext.rf (hTo.at 1 rfl).2 (by decide) hrd_90 hup_91).1 h0 (hTo.at 0 rfl).1 2 (hTo.at 0 rfl).2 3 (by decide)).trans hk_79
    have hk_95 : rd f_89 h0 4 = .int pw_76 := ((Fr.put (cs := [(5, 2)]) (a := o) (ci := 5) Fr.rf Ext.rf (hTo.at 1 rfl).2 (by decide) hrd_90 hup_91).1 h0 (hTo.at 0 rfl).1 2 (hTo.at 0 rfl).2 4 (by decide)).trans hk_80
    have hk_96 : rd f_89 o 0 = .int wd := ((Fr.put (cs := [(5, 2)]) (a := o) (ci := 5) Fr.rf Ext.rf (hTo.at 1 rfl).2 (by decide) hrd_90 hup_91).1 o (hTo.at 1 rfl).1 5 (hTo.at 1 rfl).2 0 (by decide)).trans hk_86
    have hk_97 : rd f_89 tok 3 = .int zz := ((Fr.put (cs := [(5, 2)]) (a := o) (ci := 5) Fr.rf Ext.rf (hTo.at 1 rfl).2 (by decide) hrd_90 hup_91).1 tok (hTo.at 2 rfl).1 6 (hTo.at 2 rfl).2 3 (by decide)).trans hk_87
    refine lv_goto (tgt := 139) hx hb dX2_readPlain_84 (by decide) ?_
    exact K_v hx hb hr hlocks hP hD hK hS hT hE ⟨rfl, hF, _, _, _, _, hk_92, hk_93, hk_94, hk_95, trivial, trivial, fun h9 => (hrel_83 h9), trivial, (by have e9 : gpl (Kp tt ln) (Vp tt ln) (nq tt ln) wd q = (gnu (Kp tt ln) (Vp tt ln) (nq tt ln) 1 200 q) := (by rw [c_67]; rfl); rw [e9]; exact hrq_88)⟩ (Nat.le_of_ble_eq_true rfl) (Nat.le_of_ble_eq_true rfl) dX2_readPlain_139
  by_cases c_98 : wd = 5
  · refine lv_tableIn (tgt := 87) hx hb dX2_readPlain_4 (by rw [c_98]; decide) (by rw [c_98]; decide) (by rw [c_98]; rfl) (by decide) ?_
    refine lv_aload_n hx hb dX2_readPlain_87 rfl (lv_at hl 1 rfl) ?_
    refine lv_aload_n hx hb dX2_readPlain_88 rfl (lv_at hl 0 rfl) ?_
    refine lv_iconst (v := 0) hx hb dX2_readPlain_89 (by decide) ?_
    refine lv_iconst (v := 5) hx hb dX2_readPlain_90 (by decide) ?_
    have hTo := hT
    refine K_V ⟨hx, hb, hml, hown, hts⟩ (t_X2_readNumber l dC dI sa hlt g _ _ tt ln M q h0 0 5 tok ka sta vaa ax tn fa pw zz _ (hT.sub [0, 2, 3, 4, 5] rfl)  hm_ax hm_tn hm_fa hm_pw hm_zz ((hF.1 h0 (hT0.at 0 rfl).1 2 (hT0.at 0 rfl).2 0 (by decide)).trans h_tok) ((hF.1 tok (hT0.at 2 rfl).1 6 (hT0.at 2 rfl).2 4 (by decide)).trans h_ka) ((hF.1 tok (hT0.at 2 rfl).1 6 (hT0.at 2 rfl).2 5 (by decide)).trans h_sta) ((hF.1 tok (hT0.at 2 rfl).1 6 (hT0.at 2 rfl).2 6 (by decide)).trans h_vaa) hzz (hTK.go (hF.2 ka (hT0.at 3 rfl).1 0 _ _ (hT0.at 3 rfl).2 (by decide)) (hF.2 sta (hT0.at 4 rfl).1 0 _ _ (hT0.at 4 rfl).2 (by decide)) (hF.2 vaa (hT0.at 5 rfl).1 0 _ _ (hT0.at 5 rfl).2 (by decide))) hRQ) (cwV 2 hts gX2_readPlain_X2_readNumber rfl rfl rfl (by decide +kernel) ⟨Nat.le_of_ble_eq_true rfl, Nat.le_of_ble_eq_true rfl⟩) hP hD hK hS hA hev hT 0 2 rfl rfl rfl rfl hl.1 rfl (Nat.le_of_ble_eq_true rfl) dX2_readPlain_91 ⟨Nat.le_of_ble_eq_true rfl, Nat.le_of_ble_eq_true rfl⟩ (fun r L_99 f_100 H locs hw_101 hP hD hS hT hE1 => ?_)
    have hF := Fr.call hF hE hw_101.2.1 (by decide)
    have hE := hE.tr hE1
    obtain ⟨⟨z_102, rfl⟩, hw_101⟩ := hw_101
    obtain ⟨hfr_103, ax_104, tn_105, fa_106, pw_107, hk_108, hk_109, hk_110, hk_111, hrel_112, hrel_113, hrel_114, hrel_115, hex_116⟩ := hw_101
    have hk_117 : rd f_100 o 0 = .int wd := (hfr_103.1 o (hTo.at 1 rfl).1 5 (hTo.at 1 rfl).2 0 (by decide)).trans hm_wd
    have hk_118 : rd f_100 tok 3 = .int zz := (hfr_103.1 tok (hTo.at 2 rfl).1 6 (hTo.at 2 rfl).2 3 (by decide)).trans hm_zz
    have hrq_119 := hex_116.2
    refine W.eq (g2 := F0 m 94 ls [.int z_102, .ref o]) rfl ?_
    have hTo := hT
    refine T_put (ci := 5) (v := .int z_102) (ty := .int) (t := tI) (C := RX5) (T := TX5) (N := 8) hx hb hts inw_X2_readPlain_5 tyX5 tyX5_ok nmX5 hown hK hP hD hS hT 1 rfl rfl 1 (by decide) (hts (.fieldLink RX2 76 "VatHouse$Step" "vat" "I") (by decide +kernel)) (fun _ h9 => h9) rfl (by decide +kernel) rfl rfl rfl ⟨_, rfl⟩ dX2_readPlain_94 (fun f_120 H locs hP hD hS hT hE1 hrd_121 hup_122 => ?_)
    have hF := Fr.put (a := o) (ci := 5) hF hE ((hE1 o (hT.at 1 rfl).1).2.symm.trans (hT.at 1 rfl).2) (by decide) hrd_121 hup_122
    have hE := hE.tr hE1
    have hk_123 : rd f_120 h0 1 = .int ax_104 := ((Fr.put (cs := [(5, 1)]) (a := o) (ci := 5) Fr.rf Ext.rf (hTo.at 1 rfl).2 (by decide) hrd_121 hup_122).1 h0 (hTo.at 0 rfl).1 2 (hTo.at 0 rfl).2 1 (by decide)).trans hk_108
    have hk_124 : rd f_120 h0 2 = .int tn_105 := ((Fr.put (cs := [(5, 1)]) (a := o) (ci := 5) Fr.rf Ext.rf (hTo.at 1 rfl).2 (by decide) hrd_121 hup_122).1 h0 (hTo.at 0 rfl).1 2 (hTo.at 0 rfl).2 2 (by decide)).trans hk_109
    have hk_125 : rd f_120 h0 3 = .int fa_106 := ((Fr.put (cs := [(5, 1)]) (a := o) (ci := 5) Fr.rf Ext.rf (hTo.at 1 rfl).2 (by decide) hrd_121 hup_122).1 h0 (hTo.at 0 rfl).1 2 (hTo.at 0 rfl).2 3 (by decide)).trans hk_110
    have hk_126 : rd f_120 h0 4 = .int pw_107 := ((Fr.put (cs := [(5, 1)]) (a := o) (ci := 5) Fr.rf Ext.rf (hTo.at 1 rfl).2 (by decide) hrd_121 hup_122).1 h0 (hTo.at 0 rfl).1 2 (hTo.at 0 rfl).2 4 (by decide)).trans hk_111
    have hk_127 : rd f_120 o 0 = .int wd := ((Fr.put (cs := [(5, 1)]) (a := o) (ci := 5) Fr.rf Ext.rf (hTo.at 1 rfl).2 (by decide) hrd_121 hup_122).1 o (hTo.at 1 rfl).1 5 (hTo.at 1 rfl).2 0 (by decide)).trans hk_117
    have hk_128 : rd f_120 tok 3 = .int zz := ((Fr.put (cs := [(5, 1)]) (a := o) (ci := 5) Fr.rf Ext.rf (hTo.at 1 rfl).2 (by decide) hrd_121 hup_122).1 tok (hTo.at 2 rfl).1 6 (hTo.at 2 rfl).2 3 (by decide)).trans hk_118
    refine lv_aload_n hx hb dX2_readPlain_97 rfl (lv_at hl 1 rfl) ?_
    refine lv_aload_n hx hb dX2_readPlain_98 rfl (lv_at hl 0 rfl) ?_
    refine lv_iconst (v := 1) hx hb dX2_readPlain_99 (by decide) ?_
    refine lv_sipush (v := 1000) hx hb dX2_readPlain_100 (by decide) ?_
    have hTo := hT
    refine K_V ⟨hx, hb, hml, hown, hts⟩ (t_X2_readNumber l dC dI sa hlt g _ _ tt ln M (gnu (Kp tt ln) (Vp tt ln) (nq tt ln) 0 5 q) h0 1 1000 tok ka sta vaa ax_104 tn_105 fa_106 pw_107 zz _ (hT.sub [0, 2, 3, 4, 5] rfl)  hk_123 hk_124 hk_125 hk_126 hk_128 ((hF.1 h0 (hT0.at 0 rfl).1 2 (hT0.at 0 rfl).2 0 (by decide)).trans h_tok) ((hF.1 tok (hT0.at 2 rfl).1 6 (hT0.at 2 rfl).2 4 (by decide)).trans h_ka) ((hF.1 tok (hT0.at 2 rfl).1 6 (hT0.at 2 rfl).2 5 (by decide)).trans h_sta) ((hF.1 tok (hT0.at 2 rfl).1 6 (hT0.at 2 rfl).2 6 (by decide)).trans h_vaa) hzz (hTK.go (hF.2 ka (hT0.at 3 rfl).1 0 _ _ (hT0.at 3 rfl).2 (by decide)) (hF.2 sta (hT0.at 4 rfl).1 0 _ _ (hT0.at 4 rfl).2 (by decide)) (hF.2 vaa (hT0.at 5 rfl).1 0 _ _ (hT0.at 5 rfl).2 (by decide))) hrq_119) (cwV 2 hts gX2_readPlain_X2_readNumber rfl rfl rfl (by decide +kernel) ⟨Nat.le_of_ble_eq_true rfl, Nat.le_of_ble_eq_true rfl⟩) hP hD hK hS hA hev hT 0 2 rfl rfl rfl rfl hl.1 rfl (Nat.le_of_ble_eq_true rfl) dX2_readPlain_103 ⟨Nat.le_of_ble_eq_true rfl, Nat.le_of_ble_eq_true rfl⟩ (fun r L_129 f_130 H locs hw_131 hP hD hS hT hE1 => ?_)
    have hF := Fr.call hF hE hw_131.2.1 (by decide)
    have hE := hE.tr hE1
    obtain ⟨⟨z_132, rfl⟩, hw_131⟩ := hw_131
    obtain ⟨hfr_133, ax_134, tn_135, fa_136, pw_137, hk_138, hk_139, hk_140, hk_141, hrel_142, hrel_143, hrel_144, hrel_145, hex_146⟩ := hw_131
    have hk_147 : rd f_130 o 0 = .int wd := (hfr_133.1 o (hTo.at 1 rfl).1 5 (hTo.at 1 rfl).2 0 (by decide)).trans hk_127
    have hk_148 : rd f_130 tok 3 = .int zz := (hfr_133.1 tok (hTo.at 2 rfl).1 6 (hTo.at 2 rfl).2 3 (by decide)).trans hk_128
    have hrq_149 := hex_146.2
    refine W.eq (g2 := F0 m 106 ls [.int z_132, .ref o]) rfl ?_
    have hTo := hT
    refine T_put (ci := 5) (v := .int z_132) (ty := .int) (t := tI) (C := RX5) (T := TX5) (N := 8) hx hb hts inw_X2_readPlain_5 tyX5 tyX5_ok nmX5 hown hK hP hD hS hT 1 rfl rfl 2 (by decide) (hts (.fieldLink RX2 79 "VatHouse$Step" "number" "I") (by decide +kernel)) (fun _ h9 => h9) rfl (by decide +kernel) rfl rfl rfl ⟨_, rfl⟩ dX2_readPlain_106 (fun f_150 H locs hP hD hS hT hE1 hrd_151 hup_152 => ?_)
    have hF := Fr.put (a := o) (ci := 5) hF hE ((hE1 o (hT.at 1 rfl).1).2.symm.trans (hT.at 1 rfl).2) (by decide) hrd_151 hup_152
    have hE := hE.tr hE1
    have hk_153 : rd f_150 h0 1 = .int ax_134 := ((Fr.put (cs := [(5, 2)]) (a := o) (ci := 5) Fr.rf Ext.rf (hTo.at 1 rfl).2 (by decide) hrd_151 hup_152).1 h0 (hTo.at 0 rfl).1 2 (hTo.at 0 rfl).2 1 (by decide)).trans hk_138
    have hk_154 : rd f_150 h0 2 = .int tn_135 := ((Fr.put (cs := [(5, 2)]) (a := o) (ci := 5) Fr.rf Ext.rf (hTo.at 1 rfl).2 (by decide) hrd_151 hup_152).1 h0 (hTo.at 0 rfl).1 2 (hTo.at 0 rfl).2 2 (by decide)).trans hk_139
    have hk_155 : rd f_150 h0 3 = .int fa_136 := ((Fr.put (cs := [(5, 2)]) (a := o) (ci := 5) Fr.rf Ext.rf (hTo.at 1 rfl).2 (by decide) hrd_151 hup_152).1 h0 (hTo.at 0 rfl).1 2 (hTo.at 0 rfl).2 3 (by decide)).trans hk_140
    have hk_156 : rd f_150 h0 4 = .int pw_137 := ((Fr.put (cs := [(5, 2)]) (a := o) (ci := 5) Fr.rf Ext.rf (hTo.at 1 rfl).2 (by decide) hrd_151 hup_152).1 h0 (hTo.at 0 rfl).1 2 (hTo.at 0 rfl).2 4 (by decide)).trans hk_141
    have hk_157 : rd f_150 o 0 = .int wd := ((Fr.put (cs := [(5, 2)]) (a := o) (ci := 5) Fr.rf Ext.rf (hTo.at 1 rfl).2 (by decide) hrd_151 hup_152).1 o (hTo.at 1 rfl).1 5 (hTo.at 1 rfl).2 0 (by decide)).trans hk_147
    have hk_158 : rd f_150 tok 3 = .int zz := ((Fr.put (cs := [(5, 2)]) (a := o) (ci := 5) Fr.rf Ext.rf (hTo.at 1 rfl).2 (by decide) hrd_151 hup_152).1 tok (hTo.at 2 rfl).1 6 (hTo.at 2 rfl).2 3 (by decide)).trans hk_148
    refine lv_goto (tgt := 139) hx hb dX2_readPlain_109 (by decide) ?_
    exact K_v hx hb hr hlocks hP hD hK hS hT hE ⟨rfl, hF, _, _, _, _, hk_153, hk_154, hk_155, hk_156, trivial, trivial, fun h9 => (hrel_114 (hrel_144 h9)), trivial, (by have e9 : gpl (Kp tt ln) (Vp tt ln) (nq tt ln) wd q = (gnu (Kp tt ln) (Vp tt ln) (nq tt ln) 1 1000 (gnu (Kp tt ln) (Vp tt ln) (nq tt ln) 0 5 q)) := (by rw [c_98]; rfl); rw [e9]; exact hrq_149)⟩ (Nat.le_of_ble_eq_true rfl) (Nat.le_of_ble_eq_true rfl) dX2_readPlain_139
  by_cases c_159 : wd = 6
  · refine lv_tableIn (tgt := 112) hx hb dX2_readPlain_4 (by rw [c_159]; decide) (by rw [c_159]; decide) (by rw [c_159]; rfl) (by decide) ?_
    refine lv_aload_n hx hb dX2_readPlain_112 rfl (lv_at hl 1 rfl) ?_
    refine lv_aload_n hx hb dX2_readPlain_113 rfl (lv_at hl 0 rfl) ?_
    refine lv_iconst (v := 0) hx hb dX2_readPlain_114 (by decide) ?_
    refine lv_iconst (v := 5) hx hb dX2_readPlain_115 (by decide) ?_
    have hTo := hT
    refine K_V ⟨hx, hb, hml, hown, hts⟩ (t_X2_readNumber l dC dI sa hlt g _ _ tt ln M q h0 0 5 tok ka sta vaa ax tn fa pw zz _ (hT.sub [0, 2, 3, 4, 5] rfl)  hm_ax hm_tn hm_fa hm_pw hm_zz ((hF.1 h0 (hT0.at 0 rfl).1 2 (hT0.at 0 rfl).2 0 (by decide)).trans h_tok) ((hF.1 tok (hT0.at 2 rfl).1 6 (hT0.at 2 rfl).2 4 (by decide)).trans h_ka) ((hF.1 tok (hT0.at 2 rfl).1 6 (hT0.at 2 rfl).2 5 (by decide)).trans h_sta) ((hF.1 tok (hT0.at 2 rfl).1 6 (hT0.at 2 rfl).2 6 (by decide)).trans h_vaa) hzz (hTK.go (hF.2 ka (hT0.at 3 rfl).1 0 _ _ (hT0.at 3 rfl).2 (by decide)) (hF.2 sta (hT0.at 4 rfl).1 0 _ _ (hT0.at 4 rfl).2 (by decide)) (hF.2 vaa (hT0.at 5 rfl).1 0 _ _ (hT0.at 5 rfl).2 (by decide))) hRQ) (cwV 2 hts gX2_readPlain_X2_readNumber rfl rfl rfl (by decide +kernel) ⟨Nat.le_of_ble_eq_true rfl, Nat.le_of_ble_eq_true rfl⟩) hP hD hK hS hA hev hT 0 2 rfl rfl rfl rfl hl.1 rfl (Nat.le_of_ble_eq_true rfl) dX2_readPlain_116 ⟨Nat.le_of_ble_eq_true rfl, Nat.le_of_ble_eq_true rfl⟩ (fun r L_160 f_161 H locs hw_162 hP hD hS hT hE1 => ?_)
    have hF := Fr.call hF hE hw_162.2.1 (by decide)
    have hE := hE.tr hE1
    obtain ⟨⟨z_163, rfl⟩, hw_162⟩ := hw_162
    obtain ⟨hfr_164, ax_165, tn_166, fa_167, pw_168, hk_169, hk_170, hk_171, hk_172, hrel_173, hrel_174, hrel_175, hrel_176, hex_177⟩ := hw_162
    have hk_178 : rd f_161 o 0 = .int wd := (hfr_164.1 o (hTo.at 1 rfl).1 5 (hTo.at 1 rfl).2 0 (by decide)).trans hm_wd
    have hk_179 : rd f_161 tok 3 = .int zz := (hfr_164.1 tok (hTo.at 2 rfl).1 6 (hTo.at 2 rfl).2 3 (by decide)).trans hm_zz
    have hrq_180 := hex_177.2
    refine W.eq (g2 := F0 m 119 ls [.int z_163, .ref o]) rfl ?_
    have hTo := hT
    refine T_put (ci := 5) (v := .int z_163) (ty := .int) (t := tI) (C := RX5) (T := TX5) (N := 8) hx hb hts inw_X2_readPlain_5 tyX5 tyX5_ok nmX5 hown hK hP hD hS hT 1 rfl rfl 1 (by decide) (hts (.fieldLink RX2 76 "VatHouse$Step" "vat" "I") (by decide +kernel)) (fun _ h9 => h9) rfl (by decide +kernel) rfl rfl rfl ⟨_, rfl⟩ dX2_readPlain_119 (fun f_181 H locs hP hD hS hT hE1 hrd_182 hup_183 => ?_)
    have hF := Fr.put (a := o) (ci := 5) hF hE ((hE1 o (hT.at 1 rfl).1).2.symm.trans (hT.at 1 rfl).2) (by decide) hrd_182 hup_183
    have hE := hE.tr hE1
    have hk_184 : rd f_181 h0 1 = .int ax_165 := ((Fr.put (cs := [(5, 1)]) (a := o) (ci := 5) Fr.rf Ext.rf (hTo.at 1 rfl).2 (by decide) hrd_182 hup_183).1 h0 (hTo.at 0 rfl).1 2 (hTo.at 0 rfl).2 1 (by decide)).trans hk_169
    have hk_185 : rd f_181 h0 2 = .int tn_166 := ((Fr.put (cs := [(5, 1)]) (a := o) (ci := 5) Fr.rf Ext.rf (hTo.at 1 rfl).2 (by decide) hrd_182 hup_183).1 h0 (hTo.at 0 rfl).1 2 (hTo.at 0 rfl).2 2 (by decide)).trans hk_170
    have hk_186 : rd f_181 h0 3 = .int fa_167 := ((Fr.put (cs := [(5, 1)]) (a := o) (ci := 5) Fr.rf Ext.rf (hTo.at 1 rfl).2 (by decide) hrd_182 hup_183).1 h0 (hTo.at 0 rfl).1 2 (hTo.at 0 rfl).2 3 (by decide)).trans hk_171
    have hk_187 : rd f_181 h0 4 = .int pw_168 := ((Fr.put (cs := [(5, 1)]) (a := o) (ci := 5) Fr.rf Ext.rf (hTo.at 1 rfl).2 (by decide) hrd_182 hup_183).1 h0 (hTo.at 0 rfl).1 2 (hTo.at 0 rfl).2 4 (by decide)).trans hk_172
    have hk_188 : rd f_181 o 0 = .int wd := ((Fr.put (cs := [(5, 1)]) (a := o) (ci := 5) Fr.rf Ext.rf (hTo.at 1 rfl).2 (by decide) hrd_182 hup_183).1 o (hTo.at 1 rfl).1 5 (hTo.at 1 rfl).2 0 (by decide)).trans hk_178
    have hk_189 : rd f_181 tok 3 = .int zz := ((Fr.put (cs := [(5, 1)]) (a := o) (ci := 5) Fr.rf Ext.rf (hTo.at 1 rfl).2 (by decide) hrd_182 hup_183).1 tok (hTo.at 2 rfl).1 6 (hTo.at 2 rfl).2 3 (by decide)).trans hk_179
    refine lv_goto (tgt := 139) hx hb dX2_readPlain_122 (by decide) ?_
    exact K_v hx hb hr hlocks hP hD hK hS hT hE ⟨rfl, hF, _, _, _, _, hk_184, hk_185, hk_186, hk_187, trivial, trivial, fun h9 => (hrel_175 h9), trivial, (by have e9 : gpl (Kp tt ln) (Vp tt ln) (nq tt ln) wd q = (gnu (Kp tt ln) (Vp tt ln) (nq tt ln) 0 5 q) := (by rw [c_159]; rfl); rw [e9]; exact hrq_180)⟩ (Nat.le_of_ble_eq_true rfl) (Nat.le_of_ble_eq_true rfl) dX2_readPlain_139
  by_cases c_190 : wd = 7
  · refine lv_tableIn (tgt := 125) hx hb dX2_readPlain_4 (by rw [c_190]; decide) (by rw [c_190]; decide) (by rw [c_190]; rfl) (by decide) ?_
    refine lv_aload_n hx hb dX2_readPlain_125 rfl (lv_at hl 1 rfl) ?_
    refine lv_aload_n hx hb dX2_readPlain_126 rfl (lv_at hl 0 rfl) ?_
    refine lv_iconst (v := 1) hx hb dX2_readPlain_127 (by decide) ?_
    refine lv_bipush (v := 99) hx hb dX2_readPlain_128 (by decide) ?_
    have hTo := hT
    refine K_V ⟨hx, hb, hml, hown, hts⟩ (t_X2_readNumber l dC dI sa hlt g _ _ tt ln M q h0 1 99 tok ka sta vaa ax tn fa pw zz _ (hT.sub [0, 2, 3, 4, 5] rfl)  hm_ax hm_tn hm_fa hm_pw hm_zz ((hF.1 h0 (hT0.at 0 rfl).1 2 (hT0.at 0 rfl).2 0 (by decide)).trans h_tok) ((hF.1 tok (hT0.at 2 rfl).1 6 (hT0.at 2 rfl).2 4 (by decide)).trans h_ka) ((hF.1 tok (hT0.at 2 rfl).1 6 (hT0.at 2 rfl).2 5 (by decide)).trans h_sta) ((hF.1 tok (hT0.at 2 rfl).1 6 (hT0.at 2 rfl).2 6 (by decide)).trans h_vaa) hzz (hTK.go (hF.2 ka (hT0.at 3 rfl).1 0 _ _ (hT0.at 3 rfl).2 (by decide)) (hF.2 sta (hT0.at 4 rfl).1 0 _ _ (hT0.at 4 rfl).2 (by decide)) (hF.2 vaa (hT0.at 5 rfl).1 0 _ _ (hT0.at 5 rfl).2 (by decide))) hRQ) (cwV 2 hts gX2_readPlain_X2_readNumber rfl rfl rfl (by decide +kernel) ⟨Nat.le_of_ble_eq_true rfl, Nat.le_of_ble_eq_true rfl⟩) hP hD hK hS hA hev hT 0 2 rfl rfl rfl rfl hl.1 rfl (Nat.le_of_ble_eq_true rfl) dX2_readPlain_130 ⟨Nat.le_of_ble_eq_true rfl, Nat.le_of_ble_eq_true rfl⟩ (fun r L_191 f_192 H locs hw_193 hP hD hS hT hE1 => ?_)
    have hF := Fr.call hF hE hw_193.2.1 (by decide)
    have hE := hE.tr hE1
    obtain ⟨⟨z_194, rfl⟩, hw_193⟩ := hw_193
    obtain ⟨hfr_195, ax_196, tn_197, fa_198, pw_199, hk_200, hk_201, hk_202, hk_203, hrel_204, hrel_205, hrel_206, hrel_207, hex_208⟩ := hw_193
    have hk_209 : rd f_192 o 0 = .int wd := (hfr_195.1 o (hTo.at 1 rfl).1 5 (hTo.at 1 rfl).2 0 (by decide)).trans hm_wd
    have hk_210 : rd f_192 tok 3 = .int zz := (hfr_195.1 tok (hTo.at 2 rfl).1 6 (hTo.at 2 rfl).2 3 (by decide)).trans hm_zz
    have hrq_211 := hex_208.2
    refine W.eq (g2 := F0 m 133 ls [.int z_194, .ref o]) rfl ?_
    have hTo := hT
    refine T_put (ci := 5) (v := .int z_194) (ty := .int) (t := tI) (C := RX5) (T := TX5) (N := 8) hx hb hts inw_X2_readPlain_5 tyX5 tyX5_ok nmX5 hown hK hP hD hS hT 1 rfl rfl 2 (by decide) (hts (.fieldLink RX2 79 "VatHouse$Step" "number" "I") (by decide +kernel)) (fun _ h9 => h9) rfl (by decide +kernel) rfl rfl rfl ⟨_, rfl⟩ dX2_readPlain_133 (fun f_212 H locs hP hD hS hT hE1 hrd_213 hup_214 => ?_)
    have hF := Fr.put (a := o) (ci := 5) hF hE ((hE1 o (hT.at 1 rfl).1).2.symm.trans (hT.at 1 rfl).2) (by decide) hrd_213 hup_214
    have hE := hE.tr hE1
    have hk_215 : rd f_212 h0 1 = .int ax_196 := ((Fr.put (cs := [(5, 2)]) (a := o) (ci := 5) Fr.rf Ext.rf (hTo.at 1 rfl).2 (by decide) hrd_213 hup_214).1 h0 (hTo.at 0 rfl).1 2 (hTo.at 0 rfl).2 1 (by decide)).trans hk_200
    have hk_216 : rd f_212 h0 2 = .int tn_197 := ((Fr.put (cs := [(5, 2)]) (a := o) (ci := 5) Fr.rf Ext.rf (hTo.at 1 rfl).2 (by decide) hrd_213 hup_214).1 h0 (hTo.at 0 rfl).1 2 (hTo.at 0 rfl).2 2 (by decide)).trans hk_201
    have hk_217 : rd f_212 h0 3 = .int fa_198 := ((Fr.put (cs := [(5, 2)]) (a := o) (ci := 5) Fr.rf Ext.rf (hTo.at 1 rfl).2 (by decide) hrd_213 hup_214).1 h0 (hTo.at 0 rfl).1 2 (hTo.at 0 rfl).2 3 (by decide)).trans hk_202
    have hk_218 : rd f_212 h0 4 = .int pw_199 := ((Fr.put (cs := [(5, 2)]) (a := o) (ci := 5) Fr.rf Ext.rf (hTo.at 1 rfl).2 (by decide) hrd_213 hup_214).1 h0 (hTo.at 0 rfl).1 2 (hTo.at 0 rfl).2 4 (by decide)).trans hk_203
    have hk_219 : rd f_212 o 0 = .int wd := ((Fr.put (cs := [(5, 2)]) (a := o) (ci := 5) Fr.rf Ext.rf (hTo.at 1 rfl).2 (by decide) hrd_213 hup_214).1 o (hTo.at 1 rfl).1 5 (hTo.at 1 rfl).2 0 (by decide)).trans hk_209
    have hk_220 : rd f_212 tok 3 = .int zz := ((Fr.put (cs := [(5, 2)]) (a := o) (ci := 5) Fr.rf Ext.rf (hTo.at 1 rfl).2 (by decide) hrd_213 hup_214).1 tok (hTo.at 2 rfl).1 6 (hTo.at 2 rfl).2 3 (by decide)).trans hk_210
    refine lv_goto (tgt := 139) hx hb dX2_readPlain_136 (by decide) ?_
    exact K_v hx hb hr hlocks hP hD hK hS hT hE ⟨rfl, hF, _, _, _, _, hk_215, hk_216, hk_217, hk_218, trivial, trivial, fun h9 => (hrel_206 h9), trivial, (by have e9 : gpl (Kp tt ln) (Vp tt ln) (nq tt ln) wd q = (gnu (Kp tt ln) (Vp tt ln) (nq tt ln) 1 99 q) := (by rw [c_190]; rfl); rw [e9]; exact hrq_211)⟩ (Nat.le_of_ble_eq_true rfl) (Nat.le_of_ble_eq_true rfl) dX2_readPlain_139
  refine lv_tableOut (tgt := 139) hx hb dX2_readPlain_4 (tab_out_1_7 c_4 c_65 c_66 c_67 c_98 c_159 c_190) (by decide) ?_
  exact K_v hx hb hr hlocks hP hD hK hS hT hE ⟨rfl, hF, _, _, _, _, hm_ax, hm_tn, hm_fa, hm_pw, trivial, trivial, fun h9 => h9, trivial, (by have e9 : gpl (Kp tt ln) (Vp tt ln) (nq tt ln) wd q = q := (by unfold gpl; rw [if_neg c_4, if_neg c_67, if_neg c_98, if_neg c_159, if_neg c_190]); rw [e9]; exact hRQ)⟩ (Nat.le_of_ble_eq_true rfl) (Nat.le_of_ble_eq_true rfl) dX2_readPlain_139

theorem gte_b {tt : Nat → Int32} {ln : Nat} {q q1 q2 : SG} (h1 : (if Kp tt ln q.1 < 15 ∨ 19 < Kp tt ln q.1 then grf 1 q else q) = q1) (h2 : gte2 (Kp tt ln) (Vp tt ln) (nq tt ln) (Kp tt ln q.1) (gpa (Kp tt ln) (nq tt ln) (Kp tt ln q.1) q1) = q2) {b : Int32} (hb : (if Kp tt ln q2.1 = 60 then (60 : Int32) else 61) = b) : gte (Kp tt ln) (Vp tt ln) (nq tt ln) q = gnu (Kp tt ln) (Vp tt ln) (nq tt ln) 0 9999 (gpa (Kp tt ln) (nq tt ln) b q2) := by
  unfold gte gte3 gte1
  rw [h1, h2, hb]

abbrev rm_X2_readTest : Room := { frames := 3, cells := 0, slots := 0, locals := 65 }
theorem inw_X2_readTest_2 : ∀ w ∈ wsX20, w ∈ wsX2_readTest := by decide +kernel
theorem inw_X2_readTest_5 : ∀ w ∈ wsX50, w ∈ wsX2_readTest := by decide +kernel
set_option maxHeartbeats 800000 in
set_option maxRecDepth 100000 in
theorem t_X2_readTest (l : Launch) (dC : Nat → ClassId) (dI : Nat → Nat → Nat) (sa : Nat → Nat) (hlt : l.stackTraces = false) (g : Nat → Nat) (L : List Nat) (f : Nat → va_E) (tt : Nat → Int32) (ln : Nat) (M : Nat) (q : SG) (h0 : Nat) (o : Nat) (tok : Nat) (ka : Nat) (sta : Nat) (vaa : Nat) (ax : Int32) (tn : Int32) (fa : Int32) (pw : Int32) (zz : Int32) (sz : Nat) (hT : TP g L f [(h0, (0, 2, 0)), (o, (0, 5, 0)), (tok, (0, 6, 0)), (ka, (1, g 0, 1501)), (sta, (1, g 5, 1501)), (vaa, (1, g 6, 1501))]) (hm_ax : rd f h0 1 = .int ax) (hm_tn : rd f h0 2 = .int tn) (hm_fa : rd f h0 3 = .int fa) (hm_pw : rd f h0 4 = .int pw) (hm_zz : rd f tok 3 = .int zz) (h_tok : rd f h0 0 = .ref tok) (h_ka : rd f tok 4 = .ref ka) (h_sta : rd f tok 5 = .ref sta) (h_vaa : rd f tok 6 = .ref vaa) (hzz : zz = nI (M + 1)) (hTK : TKS f ka sta vaa tt ln M) (hRQ : RQ tt ln M q ax tn fa pw) : KC l dC dI sa g yX2_readTest wsX2_readTest rm_X2_readTest [.ref h0, .ref o] L f sz (fun r L' f' => (r = none) ∧ Fr [(2, 1), (2, 2), (2, 3), (2, 4), (5, 1), (5, 2), (5, 3), (5, 4), (5, 5), (5, 6), (5, 7)] L f f' ∧ (∃ ax' : Int32, ∃ tn' : Int32, ∃ fa' : Int32, ∃ pw' : Int32, rd f' h0 1 = .int ax' ∧ rd f' h0 2 = .int tn' ∧ rd f' h0 3 = .int fa' ∧ rd f' h0 4 = .int pw' ∧ (True) ∧ (True) ∧ (fa' = 0 → fa = 0) ∧ (True) ∧ (RQ tt ln M (gte (Kp tt ln) (Vp tt ln) (nq tt ln) q) ax' tn' fa' pw'))) 0 0 := by
  refine CT.start (cc := cX2_readTest) (maxL := 2) (ret := none) (by decide) rfl (Nat.le_of_ble_eq_true rfl) ?_
  intro p e s m below meth c ls hst hP hK hD hev hS hl
  obtain ⟨hx, hb, hr, hml, hts, hown, hlocks, hin⟩ := hst
  have hown : s.vm.findClass RX2 = some m.cls := hown
  have hin : meth.name = yX2_readTest.name := hin
  have hA : ∀ q : Nat, s.heap.size ≤ q → va_A (va_pl L f) s.heap.size q := fun _ h => Or.inr h
  have hE : Ext L f L f := Ext.rf
  have hF : Fr [(2, 1), (2, 2), (2, 3), (2, 4), (5, 1), (5, 2), (5, 3), (5, 4), (5, 5), (5, 6), (5, 7)] L f f := Fr.rf
  have hl : lv_has ls 2 [(0, .ref h0), (1, .ref o)] := hl
  have hT0 := hT
  refine lv_aload_n hx hb dX2_readTest_0 rfl (lv_at hl 0 rfl) ?_
  refine T_get (ci := 2) (C := RX2) (T := TX2) (N := 6) (t := tI) hx hb hts inw_X2_readTest_2 hown hK hP hT 0 rfl rfl 2 (by decide) (hts (.fieldLink RX2 44 "VatHouse$Reader" "token" "I") (by decide +kernel)) (fun _ h9 => h9) rfl dX2_readTest_1 (fun v_3 hv_1 hr_2 => ?_)
  obtain rfl : v_3 = .int tn := hr_2.symm.trans hm_tn
  refine lv_bipush (v := 15) hx hb dX2_readTest_4 (by decide) ?_
  refine lv_icmp_lt (tgt := 18) hx hb dX2_readTest_6 (by decide) (fun c_4 => ?_) (fun c_4 => ?_)
  · refine lv_aload_n hx hb dX2_readTest_18 rfl (lv_at hl 0 rfl) ?_
    refine lv_iconst (v := 1) hx hb dX2_readTest_19 (by decide) ?_
    have hTo := hT
    refine K_V ⟨hx, hb, hml, hown, hts⟩ (t_X2_refuse l dC dI sa hlt g _ _ tt ln M q h0 1 tok ka sta vaa ax tn fa pw _ (hT.sub [0, 2, 3, 4, 5] rfl)  hm_ax hm_tn hm_fa hm_pw ((hF.1 h0 (hT0.at 0 rfl).1 2 (hT0.at 0 rfl).2 0 (by decide)).trans h_tok) ((hF.1 tok (hT0.at 2 rfl).1 6 (hT0.at 2 rfl).2 4 (by decide)).trans h_ka) ((hF.1 tok (hT0.at 2 rfl).1 6 (hT0.at 2 rfl).2 5 (by decide)).trans h_sta) ((hF.1 tok (hT0.at 2 rfl).1 6 (hT0.at 2 rfl).2 6 (by decide)).trans h_vaa) (by decide) (hTK.go (hF.2 ka (hT0.at 3 rfl).1 0 _ _ (hT0.at 3 rfl).2 (by decide)) (hF.2 sta (hT0.at 4 rfl).1 0 _ _ (hT0.at 4 rfl).2 (by decide)) (hF.2 vaa (hT0.at 5 rfl).1 0 _ _ (hT0.at 5 rfl).2 (by decide))) hRQ) (cwV 1 hts gX2_readTest_X2_refuse rfl rfl rfl (by decide +kernel) ⟨Nat.le_of_ble_eq_true rfl, Nat.le_of_ble_eq_true rfl⟩) hP hD hK hS hA hev hT 0 2 rfl rfl rfl rfl hl.1 rfl (Nat.le_of_ble_eq_true rfl) dX2_readTest_20 ⟨Nat.le_of_ble_eq_true rfl, Nat.le_of_ble_eq_true rfl⟩ (fun r L_5 f_6 H locs hw_7 hP hD hS hT hE1 => ?_)
    have hF := Fr.call hF hE hw_7.2.1 (by decide)
    have hE := hE.tr hE1
    obtain ⟨rfl, hw_7⟩ := hw_7
    obtain ⟨hfr_8, fa_9, pw_10, hk_11, hk_12, hrel_13, hrel_14, hex_15⟩ := hw_7
    have hk_16 : rd f_6 h0 1 = .int ax := (hfr_8.1 h0 (hTo.at 0 rfl).1 2 (hTo.at 0 rfl).2 1 (by decide)).trans hm_ax
    have hk_17 : rd f_6 h0 2 = .int tn := (hfr_8.1 h0 (hTo.at 0 rfl).1 2 (hTo.at 0 rfl).2 2 (by decide)).trans hm_tn
    have hk_18 : rd f_6 tok 3 = .int zz := (hfr_8.1 tok (hTo.at 2 rfl).1 6 (hTo.at 2 rfl).2 3 (by decide)).trans hm_zz
    have hrq_19 := hex_15
    refine W.eq (g2 := F0 m 23 ls []) rfl ?_
    have hg1 : (if Kp tt ln q.1 < 15 ∨ 19 < Kp tt ln q.1 then grf 1 q else q) = (grf 1 q) := if_pos (Or.inl (by rw [← hRQ.K]; exact c_4))
    refine lv_aload_n hx hb dX2_readTest_23 rfl (lv_at hl 1 rfl) ?_
    refine lv_aload_n hx hb dX2_readTest_24 rfl (lv_at hl 0 rfl) ?_
    refine T_get (ci := 2) (C := RX2) (T := TX2) (N := 6) (t := tI) hx hb hts inw_X2_readTest_2 hown hK hP hT 0 rfl rfl 2 (by decide) (hts (.fieldLink RX2 44 "VatHouse$Reader" "token" "I") (by decide +kernel)) (fun _ h9 => h9) rfl dX2_readTest_25 (fun v_22 hv_20 hr_21 => ?_)
    obtain rfl : v_22 = .int tn := hr_21.symm.trans hk_17
    have hTo := hT
    refine T_put (ci := 5) (v := .int tn) (ty := .int) (t := tI) (C := RX5) (T := TX5) (N := 8) hx hb hts inw_X2_readTest_5 tyX5 tyX5_ok nmX5 hown hK hP hD hS hT 1 rfl rfl 3 (by decide) (hts (.fieldLink RX2 94 "VatHouse$Step" "look" "I") (by decide +kernel)) (fun _ h9 => h9) rfl (by decide +kernel) rfl rfl rfl ⟨_, rfl⟩ dX2_readTest_28 (fun f_23 H locs hP hD hS hT hE1 hrd_24 hup_25 => ?_)
    have hF := Fr.put (a := o) (ci := 5) hF hE ((hE1 o (hT.at 1 rfl).1).2.symm.trans (hT.at 1 rfl).2) (by decide) hrd_24 hup_25
    have hE := hE.tr hE1
    have hk_26 : rd f_23 h0 1 = .int ax := ((Fr.put (cs := [(5, 3)]) (a := o) (ci := 5) Fr.rf Ext.rf (hTo.at 1 rfl).2 (by decide) hrd_24 hup_25).1 h0 (hTo.at 0 rfl).1 2 (hTo.at 0 rfl).2 1 (by decide)).trans hk_16
    have hk_27 : rd f_23 h0 2 = .int tn := ((Fr.put (cs := [(5, 3)]) (a := o) (ci := 5) Fr.rf Ext.rf (hTo.at 1 rfl).2 (by decide) hrd_24 hup_25).1 h0 (hTo.at 0 rfl).1 2 (hTo.at 0 rfl).2 2 (by decide)).trans hk_17
    have hk_28 : rd f_23 h0 3 = .int fa_9 := ((Fr.put (cs := [(5, 3)]) (a := o) (ci := 5) Fr.rf Ext.rf (hTo.at 1 rfl).2 (by decide) hrd_24 hup_25).1 h0 (hTo.at 0 rfl).1 2 (hTo.at 0 rfl).2 3 (by decide)).trans hk_11
    have hk_29 : rd f_23 h0 4 = .int pw_10 := ((Fr.put (cs := [(5, 3)]) (a := o) (ci := 5) Fr.rf Ext.rf (hTo.at 1 rfl).2 (by decide) hrd_24 hup_25).1 h0 (hTo.at 0 rfl).1 2 (hTo.at 0 rfl).2 4 (by decide)).trans hk_12
    have hk_30 : rd f_23 tok 3 = .int zz := ((Fr.put (cs := [(5, 3)]) (a := o) (ci := 5) Fr.rf Ext.rf (hTo.at 1 rfl).2 (by decide) hrd_24 hup_25).1 tok (hTo.at 2 rfl).1 6 (hTo.at 2 rfl).2 3 (by decide)).trans hk_18
    have hk_31 : rd f_23 o 3 = .int tn := (hrd_24 o 3).trans (if_pos ⟨rfl, rfl⟩)
    refine lv_aload_n hx hb dX2_readTest_31 rfl (lv_at hl 0 rfl) ?_
    refine lv_aload_n hx hb dX2_readTest_32 rfl (lv_at hl 0 rfl) ?_
    refine T_get (ci := 2) (C := RX2) (T := TX2) (N := 6) (t := tI) hx hb hts inw_X2_readTest_2 hown hK hP hT 0 rfl rfl 2 (by decide) (hts (.fieldLink RX2 44 "VatHouse$Reader" "token" "I") (by decide +kernel)) (fun _ h9 => h9) rfl dX2_readTest_33 (fun v_34 hv_32 hr_33 => ?_)
    obtain rfl : v_34 = .int tn := hr_33.symm.trans hk_27
    have hTo := hT
    refine K_V ⟨hx, hb, hml, hown, hts⟩ (t_X2_pass l dC dI sa hlt g _ _ tt ln M (grf 1 q) h0 tn tok ka sta vaa ax tn fa_9 pw_10 zz _ (hT.sub [0, 2, 3, 4, 5] rfl)  hk_26 hk_27 hk_28 hk_29 hk_30 ((hF.1 h0 (hT0.at 0 rfl).1 2 (hT0.at 0 rfl).2 0 (by decide)).trans h_tok) ((hF.1 tok (hT0.at 2 rfl).1 6 (hT0.at 2 rfl).2 4 (by decide)).trans h_ka) ((hF.1 tok (hT0.at 2 rfl).1 6 (hT0.at 2 rfl).2 5 (by decide)).trans h_sta) ((hF.1 tok (hT0.at 2 rfl).1 6 (hT0.at 2 rfl).2 6 (by decide)).trans h_vaa) hzz (hTK.go (hF.2 ka (hT0.at 3 rfl).1 0 _ _ (hT0.at 3 rfl).2 (by decide)) (hF.2 sta (hT0.at 4 rfl).1 0 _ _ (hT0.at 4 rfl).2 (by decide)) (hF.2 vaa (hT0.at 5 rfl).1 0 _ _ (hT0.at 5 rfl).2 (by decide))) hrq_19 (Or.inr hrel_13)) (cwV 1 hts gX2_readTest_X2_pass rfl rfl rfl (by decide +kernel) ⟨Nat.le_of_ble_eq_true rfl, Nat.le_of_ble_eq_true rfl⟩) hP hD hK hS hA hev hT 0 2 rfl rfl rfl rfl hl.1 rfl (Nat.le_of_ble_eq_true rfl) dX2_readTest_36 ⟨Nat.le_of_ble_eq_true rfl, Nat.le_of_ble_eq_true rfl⟩ (fun r L_35 f_36 H locs hw_37 hP hD hS hT hE1 => ?_)
    have hF := Fr.call hF hE hw_37.2.1 (by decide)
    have hE := hE.tr hE1
    obtain ⟨rfl, hw_37⟩ := hw_37
    obtain ⟨hfr_38, ax_39, tn_40, fa_41, pw_42, hk_43, hk_44, hk_45, hk_46, hrel_47, hrel_48, hrel_49, hrel_50, hex_51⟩ := hw_37
    have hk_52 : rd f_36 tok 3 = .int zz := (hfr_38.1 tok (hTo.at 2 rfl).1 6 (hTo.at 2 rfl).2 3 (by decide)).trans hk_30
    have hk_53 : rd f_36 o 3 = .int tn := (hfr_38.1 o (hTo.at 1 rfl).1 5 (hTo.at 1 rfl).2 3 (by decide)).trans hk_31
    have hrq_54 : RQ tt ln M (gpa (Kp tt ln) (nq tt ln) (Kp tt ln q.1) (grf 1 q)) ax_39 tn_40 fa_41 pw_42 := hRQ.K ▸ hex_51
    refine W.eq (g2 := F0 m 39 ls []) rfl ?_
    refine lv_aload_n hx hb dX2_readTest_39 rfl (lv_at hl 1 rfl) ?_
    refine T_get (ci := 5) (C := RX5) (T := TX5) (N := 8) (t := tI) hx hb hts inw_X2_readTest_5 hown hK hP hT 1 rfl rfl 3 (by decide) (hts (.fieldLink RX2 94 "VatHouse$Step" "look" "I") (by decide +kernel)) (fun _ h9 => h9) rfl dX2_readTest_40 (fun v_57 hv_55 hr_56 => ?_)
    obtain rfl : v_57 = .int tn := hr_56.symm.trans hk_53
    refine lv_bipush (v := 17) hx hb dX2_readTest_43 (by decide) ?_
    refine lv_icmp_eq (tgt := 57) hx hb dX2_readTest_45 (by decide) (fun c_58 => ?_) (fun c_58 => ?_)
    · refine lv_aload_n hx hb dX2_readTest_57 rfl (lv_at hl 1 rfl) ?_
      refine lv_aload_n hx hb dX2_readTest_58 rfl (lv_at hl 0 rfl) ?_
      refine lv_iconst (v := 0) hx hb dX2_readTest_59 (by decide) ?_
      refine lv_iconst (v := 5) hx hb dX2_readTest_60 (by decide) ?_
      have hTo := hT
      refine K_V ⟨hx, hb, hml, hown, hts⟩ (t_X2_readNumber l dC dI sa hlt g _ _ tt ln M (gpa (Kp tt ln) (nq tt ln) (Kp tt ln q.1) (grf 1 q)) h0 0 5 tok ka sta vaa ax_39 tn_40 fa_41 pw_42 zz _ (hT.sub [0, 2, 3, 4, 5] rfl)  hk_43 hk_44 hk_45 hk_46 hk_52 ((hF.1 h0 (hT0.at 0 rfl).1 2 (hT0.at 0 rfl).2 0 (by decide)).trans h_tok) ((hF.1 tok (hT0.at 2 rfl).1 6 (hT0.at 2 rfl).2 4 (by decide)).trans h_ka) ((hF.1 tok (hT0.at 2 rfl).1 6 (hT0.at 2 rfl).2 5 (by decide)).trans h_sta) ((hF.1 tok (hT0.at 2 rfl).1 6 (hT0.at 2 rfl).2 6 (by decide)).trans h_vaa) hzz (hTK.go (hF.2 ka (hT0.at 3 rfl).1 0 _ _ (hT0.at 3 rfl).2 (by decide)) (hF.2 sta (hT0.at 4 rfl).1 0 _ _ (hT0.at 4 rfl).2 (by decide)) (hF.2 vaa (hT0.at 5 rfl).1 0 _ _ (hT0.at 5 rfl).2 (by decide))) hrq_54) (cwV 2 hts gX2_readTest_X2_readNumber rfl rfl rfl (by decide +kernel) ⟨Nat.le_of_ble_eq_true rfl, Nat.le_of_ble_eq_true rfl⟩) hP hD hK hS hA hev hT 0 2 rfl rfl rfl rfl hl.1 rfl (Nat.le_of_ble_eq_true rfl) dX2_readTest_61 ⟨Nat.le_of_ble_eq_true rfl, Nat.le_of_ble_eq_true rfl⟩ (fun r L_59 f_60 H locs hw_61 hP hD hS hT hE1 => ?_)
      have hF := Fr.call hF hE hw_61.2.1 (by decide)
      have hE := hE.tr hE1
      obtain ⟨⟨z_62, rfl⟩, hw_61⟩ := hw_61
      obtain ⟨hfr_63, ax_64, tn_65, fa_66, pw_67, hk_68, hk_69, hk_70, hk_71, hrel_72, hrel_73, hrel_74, hrel_75, hex_76⟩ := hw_61
      have hk_77 : rd f_60 tok 3 = .int zz := (hfr_63.1 tok (hTo.at 2 rfl).1 6 (hTo.at 2 rfl).2 3 (by decide)).trans hk_52
      have hk_78 : rd f_60 o 3 = .int tn := (hfr_63.1 o (hTo.at 1 rfl).1 5 (hTo.at 1 rfl).2 3 (by decide)).trans hk_53
      have hrq_79 := hex_76.2
      refine W.eq (g2 := F0 m 64 ls [.int z_62, .ref o]) rfl ?_
      have hTo := hT
      refine T_put (ci := 5) (v := .int z_62) (ty := .int) (t := tI) (C := RX5) (T := TX5) (N := 8) hx hb hts inw_X2_readTest_5 tyX5 tyX5_ok nmX5 hown hK hP hD hS hT 1 rfl rfl 1 (by decide) (hts (.fieldLink RX2 76 "VatHouse$Step" "vat" "I") (by decide +kernel)) (fun _ h9 => h9) rfl (by decide +kernel) rfl rfl rfl ⟨_, rfl⟩ dX2_readTest_64 (fun f_80 H locs hP hD hS hT hE1 hrd_81 hup_82 => ?_)
      have hF := Fr.put (a := o) (ci := 5) hF hE ((hE1 o (hT.at 1 rfl).1).2.symm.trans (hT.at 1 rfl).2) (by decide) hrd_81 hup_82
      have hE := hE.tr hE1
      have hk_83 : rd f_80 h0 1 = .int ax_64 := ((Fr.put (cs := [(5, 1)]) (a := o) (ci := 5) Fr.rf Ext.rf (hTo.at 1 rfl).2 (by decide) hrd_81 hup_82).1 h0 (hTo.at 0 rfl).1 2 (hTo.at 0 rfl).2 1 (by decide)).trans hk_68
      have hk_84 : rd f_80 h0 2 = .int tn_65 := ((Fr.put (cs := [(5, 1)]) (a := o) (ci := 5) Fr.rf Ext.rf (hTo.at 1 rfl).2 (by decide) hrd_81 hup_82).1 h0 (hTo.at 0 rfl).1 2 (hTo.at 0 rfl).2 2 (by decide)).trans hk_69
      have hk_85 : rd f_80 h0 3 = .int fa_66 := ((Fr.put (cs := [(5, 1)]) (a := o) (ci := 5) Fr.rf Ext.rf (hTo.at 1 rfl).2 (by decide) hrd_81 hup_82).1 h0 (hTo.at 0 rfl).1 2 (hTo.at 0 rfl).2 3 (by decide)).trans hk_70
      have hk_86 : rd f_80 h0 4 = .int pw_67 := ((Fr.put (cs := [(5, 1)]) (a := o) (ci := 5) Fr.rf Ext.rf (hTo.at 1 rfl).2 (by decide) hrd_81 hup_82).1 h0 (hTo.at 0 rfl).1 2 (hTo.at 0 rfl).2 4 (by decide)).trans hk_71
      have hk_87 : rd f_80 tok 3 = .int zz := ((Fr.put (cs := [(5, 1)]) (a := o) (ci := 5) Fr.rf Ext.rf (hTo.at 1 rfl).2 (by decide) hrd_81 hup_82).1 tok (hTo.at 2 rfl).1 6 (hTo.at 2 rfl).2 3 (by decide)).trans hk_77
      have hk_88 : rd f_80 o 3 = .int tn := ((Fr.put (cs := [(5, 1)]) (a := o) (ci := 5) Fr.rf Ext.rf (hTo.at 1 rfl).2 (by decide) hrd_81 hup_82).1 o (hTo.at 1 rfl).1 5 (hTo.at 1 rfl).2 3 (by decide)).trans hk_78
      have hg2 : gte2 (Kp tt ln) (Vp tt ln) (nq tt ln) (Kp tt ln q.1) (gpa (Kp tt ln) (nq tt ln) (Kp tt ln q.1) (grf 1 q)) = (gnu (Kp tt ln) (Vp tt ln) (nq tt ln) 0 5 (gpa (Kp tt ln) (nq tt ln) (Kp tt ln q.1) (grf 1 q))) := if_pos (Or.inl (by rw [← hRQ.K]; exact c_58))
      refine lv_aload_n hx hb dX2_readTest_67 rfl (lv_at hl 1 rfl) ?_
      refine lv_aload_n hx hb dX2_readTest_68 rfl (lv_at hl 0 rfl) ?_
      refine T_get (ci := 2) (C := RX2) (T := TX2) (N := 6) (t := tI) hx hb hts inw_X2_readTest_2 hown hK hP hT 0 rfl rfl 2 (by decide) (hts (.fieldLink RX2 44 "VatHouse$Reader" "token" "I") (by decide +kernel)) (fun _ h9 => h9) rfl dX2_readTest_69 (fun v_91 hv_89 hr_90 => ?_)
      obtain rfl : v_91 = .int tn_65 := hr_90.symm.trans hk_84
      refine lv_bipush (v := 60) hx hb dX2_readTest_72 (by decide) ?_
      refine lv_icmp_ne (tgt := 81) hx hb dX2_readTest_74 (by decide) (fun c_92 => ?_) (fun c_92 => ?_)
      · refine lv_iconst (v := 0) hx hb dX2_readTest_81 (by decide) ?_
        have hTo := hT
        refine T_put (ci := 5) (v := .int 0) (ty := .boolean) (t := tI) (C := RX5) (T := TX5) (N := 8) hx hb hts inw_X2_readTest_5 tyX5 tyX5_ok nmX5 hown hK hP hD hS hT 1 rfl rfl 4 (by decide) (hts (.fieldLink RX2 97 "VatHouse$Step" "below" "Z") (by decide +kernel)) (fun _ h9 => h9) rfl (by decide +kernel) rfl rfl rfl ⟨_, rfl⟩ dX2_readTest_82 (fun f_93 H locs hP hD hS hT hE1 hrd_94 hup_95 => ?_)
        have hF := Fr.put (a := o) (ci := 5) hF hE ((hE1 o (hT.at 1 rfl).1).2.symm.trans (hT.at 1 rfl).2) (by decide) hrd_94 hup_95
        have hE := hE.tr hE1
        have hk_96 : rd f_93 h0 1 = .int ax_64 := ((Fr.put (cs := [(5, 4)]) (a := o) (ci := 5) Fr.rf Ext.rf (hTo.at 1 rfl).2 (by decide) hrd_94 hup_95).1 h0 (hTo.at 0 rfl).1 2 (hTo.at 0 rfl).2 1 (by decide)).trans hk_83
        have hk_97 : rd f_93 h0 2 = .int tn_65 := ((Fr.put (cs := [(5, 4)]) (a := o) (ci := 5) Fr.rf Ext.rf (hTo.at 1 rfl).2 (by decide) hrd_94 hup_95).1 h0 (hTo.at 0 rfl).1 2 (hTo.at 0 rfl).2 2 (by decide)).trans hk_84
        have hk_98 : rd f_93 h0 3 = .int fa_66 := ((Fr.put (cs := [(5, 4)]) (a := o) (ci := 5) Fr.rf Ext.rf (hTo.at 1 rfl).2 (by decide) hrd_94 hup_95).1 h0 (hTo.at 0 rfl).1 2 (hTo.at 0 rfl).2 3 (by decide)).trans hk_85
        have hk_99 : rd f_93 h0 4 = .int pw_67 := ((Fr.put (cs := [(5, 4)]) (a := o) (ci := 5) Fr.rf Ext.rf (hTo.at 1 rfl).2 (by decide) hrd_94 hup_95).1 h0 (hTo.at 0 rfl).1 2 (hTo.at 0 rfl).2 4 (by decide)).trans hk_86
        have hk_100 : rd f_93 tok 3 = .int zz := ((Fr.put (cs := [(5, 4)]) (a := o) (ci := 5) Fr.rf Ext.rf (hTo.at 1 rfl).2 (by decide) hrd_94 hup_95).1 tok (hTo.at 2 rfl).1 6 (hTo.at 2 rfl).2 3 (by decide)).trans hk_87
        have hk_101 : rd f_93 o 3 = .int tn := ((Fr.put (cs := [(5, 4)]) (a := o) (ci := 5) Fr.rf Ext.rf (hTo.at 1 rfl).2 (by decide) hrd_94 hup_95).1 o (hTo.at 1 rfl).1 5 (hTo.at 1 rfl).2 3 (by decide)).trans hk_88
        have hk_102 : rd f_93 o 4 = .int 0 := (hrd_94 o 4).trans (if_pos ⟨rfl, rfl⟩)
        have hg3 : (if Kp tt ln (gnu (Kp tt ln) (Vp tt ln) (nq tt ln) 0 5 (gpa (Kp tt ln) (nq tt ln) (Kp tt ln q.1) (grf 1 q))).1 = 60 then (60 : Int32) else 61) = 61 := if_neg (by rw [← hrq_79.K]; exact c_92)
        refine lv_aload_n hx hb dX2_readTest_85 rfl (lv_at hl 0 rfl) ?_
        refine lv_aload_n hx hb dX2_readTest_86 rfl (lv_at hl 1 rfl) ?_
        refine T_get (ci := 5) (C := RX5) (T := TX5) (N := 8) (t := tI) hx hb hts inw_X2_readTest_5 hown hK hP hT 1 rfl rfl 4 (by decide) (hts (.fieldLink RX2 97 "VatHouse$Step" "below" "Z") (by decide +kernel)) (fun _ h9 => h9) rfl dX2_readTest_87 (fun v_105 hv_103 hr_104 => ?_)
        obtain rfl : v_105 = .int 0 := hr_104.symm.trans hk_102
        refine lv_if_eq (tgt := 98) hx hb dX2_readTest_90 (by decide) (fun c_106 => ?_) (fun c_106 => ?_)
        rotate_left
        · exact absurd c_106 (by decide)
        refine lv_bipush (v := 61) hx hb dX2_readTest_98 (by decide) ?_
        have hTo := hT
        refine K_V ⟨hx, hb, hml, hown, hts⟩ (t_X2_pass l dC dI sa hlt g _ _ tt ln M (gnu (Kp tt ln) (Vp tt ln) (nq tt ln) 0 5 (gpa (Kp tt ln) (nq tt ln) (Kp tt ln q.1) (grf 1 q))) h0 61 tok ka sta vaa ax_64 tn_65 fa_66 pw_67 zz _ (hT.sub [0, 2, 3, 4, 5] rfl)  hk_96 hk_97 hk_98 hk_99 hk_100 ((hF.1 h0 (hT0.at 0 rfl).1 2 (hT0.at 0 rfl).2 0 (by decide)).trans h_tok) ((hF.1 tok (hT0.at 2 rfl).1 6 (hT0.at 2 rfl).2 4 (by decide)).trans h_ka) ((hF.1 tok (hT0.at 2 rfl).1 6 (hT0.at 2 rfl).2 5 (by decide)).trans h_sta) ((hF.1 tok (hT0.at 2 rfl).1 6 (hT0.at 2 rfl).2 6 (by decide)).trans h_vaa) hzz (hTK.go (hF.2 ka (hT0.at 3 rfl).1 0 _ _ (hT0.at 3 rfl).2 (by decide)) (hF.2 sta (hT0.at 4 rfl).1 0 _ _ (hT0.at 4 rfl).2 (by decide)) (hF.2 vaa (hT0.at 5 rfl).1 0 _ _ (hT0.at 5 rfl).2 (by decide))) hrq_79 (Or.inl (by decide))) (cwV 1 hts gX2_readTest_X2_pass rfl rfl rfl (by decide +kernel) ⟨Nat.le_of_ble_eq_true rfl, Nat.le_of_ble_eq_true rfl⟩) hP hD hK hS hA hev hT 0 2 rfl rfl rfl rfl hl.1 rfl (Nat.le_of_ble_eq_true rfl) dX2_readTest_100 ⟨Nat.le_of_ble_eq_true rfl, Nat.le_of_ble_eq_true rfl⟩ (fun r L_107 f_108 H locs hw_109 hP hD hS hT hE1 => ?_)
        have hF := Fr.call hF hE hw_109.2.1 (by decide)
        have hE := hE.tr hE1
        obtain ⟨rfl, hw_109⟩ := hw_109
        obtain ⟨hfr_110, ax_111, tn_112, fa_113, pw_114, hk_115, hk_116, hk_117, hk_118, hrel_119, hrel_120, hrel_121, hrel_122, hex_123⟩ := hw_109
        have hk_124 : rd f_108 tok 3 = .int zz := (hfr_110.1 tok (hTo.at 2 rfl).1 6 (hTo.at 2 rfl).2 3 (by decide)).trans hk_100
        have hk_125 : rd f_108 o 3 = .int tn := (hfr_110.1 o (hTo.at 1 rfl).1 5 (hTo.at 1 rfl).2 3 (by decide)).trans hk_101
        have hk_126 : rd f_108 o 4 = .int 0 := (hfr_110.1 o (hTo.at 1 rfl).1 5 (hTo.at 1 rfl).2 4 (by decide)).trans hk_102
        have hrq_127 := hex_123
        refine W.eq (g2 := F0 m 103 ls []) rfl ?_
        refine lv_aload_n hx hb dX2_readTest_103 rfl (lv_at hl 1 rfl) ?_
        refine lv_aload_n hx hb dX2_readTest_104 rfl (lv_at hl 0 rfl) ?_
        refine lv_iconst (v := 0) hx hb dX2_readTest_105 (by decide) ?_
        refine lv_sipush (v := 9999) hx hb dX2_readTest_106 (by decide) ?_
        have hTo := hT
        refine K_V ⟨hx, hb, hml, hown, hts⟩ (t_X2_readNumber l dC dI sa hlt g _ _ tt ln M (gpa (Kp tt ln) (nq tt ln) 61 (gnu (Kp tt ln) (Vp tt ln) (nq tt ln) 0 5 (gpa (Kp tt ln) (nq tt ln) (Kp tt ln q.1) (grf 1 q)))) h0 0 9999 tok ka sta vaa ax_111 tn_112 fa_113 pw_114 zz _ (hT.sub [0, 2, 3, 4, 5] rfl)  hk_115 hk_116 hk_117 hk_118 hk_124 ((hF.1 h0 (hT0.at 0 rfl).1 2 (hT0.at 0 rfl).2 0 (by decide)).trans h_tok) ((hF.1 tok (hT0.at 2 rfl).1 6 (hT0.at 2 rfl).2 4 (by decide)).trans h_ka) ((hF.1 tok (hT0.at 2 rfl).1 6 (hT0.at 2 rfl).2 5 (by decide)).trans h_sta) ((hF.1 tok (hT0.at 2 rfl).1 6 (hT0.at 2 rfl).2 6 (by decide)).trans h_vaa) hzz (hTK.go (hF.2 ka (hT0.at 3 rfl).1 0 _ _ (hT0.at 3 rfl).2 (by decide)) (hF.2 sta (hT0.at 4 rfl).1 0 _ _ (hT0.at 4 rfl).2 (by decide)) (hF.2 vaa (hT0.at 5 rfl).1 0 _ _ (hT0.at 5 rfl).2 (by decide))) hrq_127) (cwV 2 hts gX2_readTest_X2_readNumber rfl rfl rfl (by decide +kernel) ⟨Nat.le_of_ble_eq_true rfl, Nat.le_of_ble_eq_true rfl⟩) hP hD hK hS hA hev hT 0 2 rfl rfl rfl rfl hl.1 rfl (Nat.le_of_ble_eq_true rfl) dX2_readTest_109 ⟨Nat.le_of_ble_eq_true rfl, Nat.le_of_ble_eq_true rfl⟩ (fun r L_128 f_129 H locs hw_130 hP hD hS hT hE1 => ?_)
        have hF := Fr.call hF hE hw_130.2.1 (by decide)
        have hE := hE.tr hE1
        obtain ⟨⟨z_131, rfl⟩, hw_130⟩ := hw_130
        obtain ⟨hfr_132, ax_133, tn_134, fa_135, pw_136, hk_137, hk_138, hk_139, hk_140, hrel_141, hrel_142, hrel_143, hrel_144, hex_145⟩ := hw_130
        have hk_146 : rd f_129 tok 3 = .int zz := (hfr_132.1 tok (hTo.at 2 rfl).1 6 (hTo.at 2 rfl).2 3 (by decide)).trans hk_124
        have hk_147 : rd f_129 o 3 = .int tn := (hfr_132.1 o (hTo.at 1 rfl).1 5 (hTo.at 1 rfl).2 3 (by decide)).trans hk_125
        have hk_148 : rd f_129 o 4 = .int 0 := (hfr_132.1 o (hTo.at 1 rfl).1 5 (hTo.at 1 rfl).2 4 (by decide)).trans hk_126
        have hrq_149 := hex_145.2
        refine W.eq (g2 := F0 m 112 ls [.int z_131, .ref o]) rfl ?_
        have hTo := hT
        refine T_put (ci := 5) (v := .int z_131) (ty := .int) (t := tI) (C := RX5) (T := TX5) (N := 8) hx hb hts inw_X2_readTest_5 tyX5 tyX5_ok nmX5 hown hK hP hD hS hT 1 rfl rfl 2 (by decide) (hts (.fieldLink RX2 79 "VatHouse$Step" "number" "I") (by decide +kernel)) (fun _ h9 => h9) rfl (by decide +kernel) rfl rfl rfl ⟨_, rfl⟩ dX2_readTest_112 (fun f_150 H locs hP hD hS hT hE1 hrd_151 hup_152 => ?_)
        have hF := Fr.put (a := o) (ci := 5) hF hE ((hE1 o (hT.at 1 rfl).1).2.symm.trans (hT.at 1 rfl).2) (by decide) hrd_151 hup_152
        have hE := hE.tr hE1
        have hk_153 : rd f_150 h0 1 = .int ax_133 := ((Fr.put (cs := [(5, 2)]) (a := o) (ci := 5) Fr.rf Ext.rf (hTo.at 1 rfl).2 (by decide) hrd_151 hup_152).1 h0 (hTo.at 0 rfl).1 2 (hTo.at 0 rfl).2 1 (by decide)).trans hk_137
        have hk_154 : rd f_150 h0 2 = .int tn_134 := ((Fr.put (cs := [(5, 2)]) (a := o) (ci := 5) Fr.rf Ext.rf (hTo.at 1 rfl).2 (by decide) hrd_151 hup_152).1 h0 (hTo.at 0 rfl).1 2 (hTo.at 0 rfl).2 2 (by decide)).trans hk_138
        have hk_155 : rd f_150 h0 3 = .int fa_135 := ((Fr.put (cs := [(5, 2)]) (a := o) (ci := 5) Fr.rf Ext.rf (hTo.at 1 rfl).2 (by decide) hrd_151 hup_152).1 h0 (hTo.at 0 rfl).1 2 (hTo.at 0 rfl).2 3 (by decide)).trans hk_139
        have hk_156 : rd f_150 h0 4 = .int pw_136 := ((Fr.put (cs := [(5, 2)]) (a := o) (ci := 5) Fr.rf Ext.rf (hTo.at 1 rfl).2 (by decide) hrd_151 hup_152).1 h0 (hTo.at 0 rfl).1 2 (hTo.at 0 rfl).2 4 (by decide)).trans hk_140
        have hk_157 : rd f_150 tok 3 = .int zz := ((Fr.put (cs := [(5, 2)]) (a := o) (ci := 5) Fr.rf Ext.rf (hTo.at 1 rfl).2 (by decide) hrd_151 hup_152).1 tok (hTo.at 2 rfl).1 6 (hTo.at 2 rfl).2 3 (by decide)).trans hk_146
        have hk_158 : rd f_150 o 3 = .int tn := ((Fr.put (cs := [(5, 2)]) (a := o) (ci := 5) Fr.rf Ext.rf (hTo.at 1 rfl).2 (by decide) hrd_151 hup_152).1 o (hTo.at 1 rfl).1 5 (hTo.at 1 rfl).2 3 (by decide)).trans hk_147
        have hk_159 : rd f_150 o 4 = .int 0 := ((Fr.put (cs := [(5, 2)]) (a := o) (ci := 5) Fr.rf Ext.rf (hTo.at 1 rfl).2 (by decide) hrd_151 hup_152).1 o (hTo.at 1 rfl).1 5 (hTo.at 1 rfl).2 4 (by decide)).trans hk_148
        exact K_v hx hb hr hlocks hP hD hK hS hT hE ⟨rfl, hF, _, _, _, _, hk_153, hk_154, hk_155, hk_156, trivial, trivial, fun h9 => (absurd ((hrel_49 (hrel_74 ((hrel_121 (hrel_143 h9)).1))).1) hrel_13), trivial, (gte_b hg1 hg2 hg3) ▸ hrq_149⟩ (Nat.le_of_ble_eq_true rfl) (Nat.le_of_ble_eq_true rfl) dX2_readTest_115
      · refine lv_iconst (v := 1) hx hb dX2_readTest_77 (by decide) ?_
        refine lv_goto (tgt := 82) hx hb dX2_readTest_78 (by decide) ?_
        have hTo := hT
        refine T_put (ci := 5) (v := .int 1) (ty := .boolean) (t := tI) (C := RX5) (T := TX5) (N := 8) hx hb hts inw_X2_readTest_5 tyX5 tyX5_ok nmX5 hown hK hP hD hS hT 1 rfl rfl 4 (by decide) (hts (.fieldLink RX2 97 "VatHouse$Step" "below" "Z") (by decide +kernel)) (fun _ h9 => h9) rfl (by decide +kernel) rfl rfl rfl ⟨_, rfl⟩ dX2_readTest_82 (fun f_160 H locs hP hD hS hT hE1 hrd_161 hup_162 => ?_)
        have hF := Fr.put (a := o) (ci := 5) hF hE ((hE1 o (hT.at 1 rfl).1).2.symm.trans (hT.at 1 rfl).2) (by decide) hrd_161 hup_162
        have hE := hE.tr hE1
        have hk_163 : rd f_160 h0 1 = .int ax_64 := ((Fr.put (cs := [(5, 4)]) (a := o) (ci := 5) Fr.rf Ext.rf (hTo.at 1 rfl).2 (by decide) hrd_161 hup_162).1 h0 (hTo.at 0 rfl).1 2 (hTo.at 0 rfl).2 1 (by decide)).trans hk_83
        have hk_164 : rd f_160 h0 2 = .int tn_65 := ((Fr.put (cs := [(5, 4)]) (a := o) (ci := 5) Fr.rf Ext.rf (hTo.at 1 rfl).2 (by decide) hrd_161 hup_162).1 h0 (hTo.at 0 rfl).1 2 (hTo.at 0 rfl).2 2 (by decide)).trans hk_84
        have hk_165 : rd f_160 h0 3 = .int fa_66 := ((Fr.put (cs := [(5, 4)]) (a := o) (ci := 5) Fr.rf Ext.rf (hTo.at 1 rfl).2 (by decide) hrd_161 hup_162).1 h0 (hTo.at 0 rfl).1 2 (hTo.at 0 rfl).2 3 (by decide)).trans hk_85
        have hk_166 : rd f_160 h0 4 = .int pw_67 := ((Fr.put (cs := [(5, 4)]) (a := o) (ci := 5) Fr.rf Ext.rf (hTo.at 1 rfl).2 (by decide) hrd_161 hup_162).1 h0 (hTo.at 0 rfl).1 2 (hTo.at 0 rfl).2 4 (by decide)).trans hk_86
        have hk_167 : rd f_160 tok 3 = .int zz := ((Fr.put (cs := [(5, 4)]) (a := o) (ci := 5) Fr.rf Ext.rf (hTo.at 1 rfl).2 (by decide) hrd_161 hup_162).1 tok (hTo.at 2 rfl).1 6 (hTo.at 2 rfl).2 3 (by decide)).trans hk_87
        have hk_168 : rd f_160 o 3 = .int tn := ((Fr.put (cs := [(5, 4)]) (a := o) (ci := 5) Fr.rf Ext.rf (hTo.at 1 rfl).2 (by decide) hrd_161 hup_162).1 o (hTo.at 1 rfl).1 5 (hTo.at 1 rfl).2 3 (by decide)).trans hk_88
        have hk_169 : rd f_160 o 4 = .int 1 := (hrd_161 o 4).trans (if_pos ⟨rfl, rfl⟩)
        have hg3 : (if Kp tt ln (gnu (Kp tt ln) (Vp tt ln) (nq tt ln) 0 5 (gpa (Kp tt ln) (nq tt ln) (Kp tt ln q.1) (grf 1 q))).1 = 60 then (60 : Int32) else 61) = 60 := if_pos (by rw [← hrq_79.K]; exact c_92)
        refine lv_aload_n hx hb dX2_readTest_85 rfl (lv_at hl 0 rfl) ?_
        refine lv_aload_n hx hb dX2_readTest_86 rfl (lv_at hl 1 rfl) ?_
        refine T_get (ci := 5) (C := RX5) (T := TX5) (N := 8) (t := tI) hx hb hts inw_X2_readTest_5 hown hK hP hT 1 rfl rfl 4 (by decide) (hts (.fieldLink RX2 97 "VatHouse$Step" "below" "Z") (by decide +kernel)) (fun _ h9 => h9) rfl dX2_readTest_87 (fun v_172 hv_170 hr_171 => ?_)
        obtain rfl : v_172 = .int 1 := hr_171.symm.trans hk_169
        refine lv_if_eq (tgt := 98) hx hb dX2_readTest_90 (by decide) (fun c_173 => ?_) (fun c_173 => ?_)
        · exact absurd c_173 (by decide)
        refine lv_bipush (v := 60) hx hb dX2_readTest_93 (by decide) ?_
        refine lv_goto (tgt := 100) hx hb dX2_readTest_95 (by decide) ?_
        have hTo := hT
        refine K_V ⟨hx, hb, hml, hown, hts⟩ (t_X2_pass l dC dI sa hlt g _ _ tt ln M (gnu (Kp tt ln) (Vp tt ln) (nq tt ln) 0 5 (gpa (Kp tt ln) (nq tt ln) (Kp tt ln q.1) (grf 1 q))) h0 60 tok ka sta vaa ax_64 tn_65 fa_66 pw_67 zz _ (hT.sub [0, 2, 3, 4, 5] rfl)  hk_163 hk_164 hk_165 hk_166 hk_167 ((hF.1 h0 (hT0.at 0 rfl).1 2 (hT0.at 0 rfl).2 0 (by decide)).trans h_tok) ((hF.1 tok (hT0.at 2 rfl).1 6 (hT0.at 2 rfl).2 4 (by decide)).trans h_ka) ((hF.1 tok (hT0.at 2 rfl).1 6 (hT0.at 2 rfl).2 5 (by decide)).trans h_sta) ((hF.1 tok (hT0.at 2 rfl).1 6 (hT0.at 2 rfl).2 6 (by decide)).trans h_vaa) hzz (hTK.go (hF.2 ka (hT0.at 3 rfl).1 0 _ _ (hT0.at 3 rfl).2 (by decide)) (hF.2 sta (hT0.at 4 rfl).1 0 _ _ (hT0.at 4 rfl).2 (by decide)) (hF.2 vaa (hT0.at 5 rfl).1 0 _ _ (hT0.at 5 rfl).2 (by decide))) hrq_79 (Or.inl (by decide))) (cwV 1 hts gX2_readTest_X2_pass rfl rfl rfl (by decide +kernel) ⟨Nat.le_of_ble_eq_true rfl, Nat.le_of_ble_eq_true rfl⟩) hP hD hK hS hA hev hT 0 2 rfl rfl rfl rfl hl.1 rfl (Nat.le_of_ble_eq_true rfl) dX2_readTest_100 ⟨Nat.le_of_ble_eq_true rfl, Nat.le_of_ble_eq_true rfl⟩ (fun r L_174 f_175 H locs hw_176 hP hD hS hT hE1 => ?_)
        have hF := Fr.call hF hE hw_176.2.1 (by decide)
        have hE := hE.tr hE1
        obtain ⟨rfl, hw_176⟩ := hw_176
        obtain ⟨hfr_177, ax_178, tn_179, fa_180, pw_181, hk_182, hk_183, hk_184, hk_185, hrel_186, hrel_187, hrel_188, hrel_189, hex_190⟩ := hw_176
        have hk_191 : rd f_175 tok 3 = .int zz := (hfr_177.1 tok (hTo.at 2 rfl).1 6 (hTo.at 2 rfl).2 3 (by decide)).trans hk_167
        have hk_192 : rd f_175 o 3 = .int tn := (hfr_177.1 o (hTo.at 1 rfl).1 5 (hTo.at 1 rfl).2 3 (by decide)).trans hk_168
        have hk_193 : rd f_175 o 4 = .int 1 := (hfr_177.1 o (hTo.at 1 rfl).1 5 (hTo.at 1 rfl).2 4 (by decide)).trans hk_169
        have hrq_194 := hex_190
        refine W.eq (g2 := F0 m 103 ls []) rfl ?_
        refine lv_aload_n hx hb dX2_readTest_103 rfl (lv_at hl 1 rfl) ?_
        refine lv_aload_n hx hb dX2_readTest_104 rfl (lv_at hl 0 rfl) ?_
        refine lv_iconst (v := 0) hx hb dX2_readTest_105 (by decide) ?_
        refine lv_sipush (v := 9999) hx hb dX2_readTest_106 (by decide) ?_
        have hTo := hT
        refine K_V ⟨hx, hb, hml, hown, hts⟩ (t_X2_readNumber l dC dI sa hlt g _ _ tt ln M (gpa (Kp tt ln) (nq tt ln) 60 (gnu (Kp tt ln) (Vp tt ln) (nq tt ln) 0 5 (gpa (Kp tt ln) (nq tt ln) (Kp tt ln q.1) (grf 1 q)))) h0 0 9999 tok ka sta vaa ax_178 tn_179 fa_180 pw_181 zz _ (hT.sub [0, 2, 3, 4, 5] rfl)  hk_182 hk_183 hk_184 hk_185 hk_191 ((hF.1 h0 (hT0.at 0 rfl).1 2 (hT0.at 0 rfl).2 0 (by decide)).trans h_tok) ((hF.1 tok (hT0.at 2 rfl).1 6 (hT0.at 2 rfl).2 4 (by decide)).trans h_ka) ((hF.1 tok (hT0.at 2 rfl).1 6 (hT0.at 2 rfl).2 5 (by decide)).trans h_sta) ((hF.1 tok (hT0.at 2 rfl).1 6 (hT0.at 2 rfl).2 6 (by decide)).trans h_vaa) hzz (hTK.go (hF.2 ka (hT0.at 3 rfl).1 0 _ _ (hT0.at 3 rfl).2 (by decide)) (hF.2 sta (hT0.at 4 rfl).1 0 _ _ (hT0.at 4 rfl).2 (by decide)) (hF.2 vaa (hT0.at 5 rfl).1 0 _ _ (hT0.at 5 rfl).2 (by decide))) hrq_194) (cwV 2 hts gX2_readTest_X2_readNumber rfl rfl rfl (by decide +kernel) ⟨Nat.le_of_ble_eq_true rfl, Nat.le_of_ble_eq_true rfl⟩) hP hD hK hS hA hev hT 0 2 rfl rfl rfl rfl hl.1 rfl (Nat.le_of_ble_eq_true rfl) dX2_readTest_109 ⟨Nat.le_of_ble_eq_true rfl, Nat.le_of_ble_eq_true rfl⟩ (fun r L_195 f_196 H locs hw_197 hP hD hS hT hE1 => ?_)
        have hF := Fr.call hF hE hw_197.2.1 (by decide)
        have hE := hE.tr hE1
        obtain ⟨⟨z_198, rfl⟩, hw_197⟩ := hw_197
        obtain ⟨hfr_199, ax_200, tn_201, fa_202, pw_203, hk_204, hk_205, hk_206, hk_207, hrel_208, hrel_209, hrel_210, hrel_211, hex_212⟩ := hw_197
        have hk_213 : rd f_196 tok 3 = .int zz := (hfr_199.1 tok (hTo.at 2 rfl).1 6 (hTo.at 2 rfl).2 3 (by decide)).trans hk_191
        have hk_214 : rd f_196 o 3 = .int tn := (hfr_199.1 o (hTo.at 1 rfl).1 5 (hTo.at 1 rfl).2 3 (by decide)).trans hk_192
        have hk_215 : rd f_196 o 4 = .int 1 := (hfr_199.1 o (hTo.at 1 rfl).1 5 (hTo.at 1 rfl).2 4 (by decide)).trans hk_193
        have hrq_216 := hex_212.2
        refine W.eq (g2 := F0 m 112 ls [.int z_198, .ref o]) rfl ?_
        have hTo := hT
        refine T_put (ci := 5) (v := .int z_198) (ty := .int) (t := tI) (C := RX5) (T := TX5) (N := 8) hx hb hts inw_X2_readTest_5 tyX5 tyX5_ok nmX5 hown hK hP hD hS hT 1 rfl rfl 2 (by decide) (hts (.fieldLink RX2 79 "VatHouse$Step" "number" "I") (by decide +kernel)) (fun _ h9 => h9) rfl (by decide +kernel) rfl rfl rfl ⟨_, rfl⟩ dX2_readTest_112 (fun f_217 H locs hP hD hS hT hE1 hrd_218 hup_219 => ?_)
        have hF := Fr.put (a := o) (ci := 5) hF hE ((hE1 o (hT.at 1 rfl).1).2.symm.trans (hT.at 1 rfl).2) (by decide) hrd_218 hup_219
        have hE := hE.tr hE1
        have hk_220 : rd f_217 h0 1 = .int ax_200 := ((Fr.put (cs := [(5, 2)]) (a := o) (ci := 5) Fr.rf Ext.rf (hTo.at 1 rfl).2 (by decide) hrd_218 hup_219).1 h0 (hTo.at 0 rfl).1 2 (hTo.at 0 rfl).2 1 (by decide)).trans hk_204
        have hk_221 : rd f_217 h0 2 = .int tn_201 := ((Fr.put (cs := [(5, 2)]) (a := o) (ci := 5) Fr.rf Ext.rf (hTo.at 1 rfl).2 (by decide) hrd_218 hup_219).1 h0 (hTo.at 0 rfl).1 2 (hTo.at 0 rfl).2 2 (by decide)).trans hk_205
        have hk_222 : rd f_217 h0 3 = .int fa_202 := ((Fr.put (cs := [(5, 2)]) (a := o) (ci := 5) Fr.rf Ext.rf (hTo.at 1 rfl).2 (by decide) hrd_218 hup_219).1 h0 (hTo.at 0 rfl).1 2 (hTo.at 0 rfl).2 3 (by decide)).trans hk_206
        have hk_223 : rd f_217 h0 4 = .int pw_203 := ((Fr.put (cs := [(5, 2)]) (a := o) (ci := 5) Fr.rf Ext.rf (hTo.at 1 rfl).2 (by decide) hrd_218 hup_219).1 h0 (hTo.at 0 rfl).1 2 (hTo.at 0 rfl).2 4 (by decide)).trans hk_207
        have hk_224 : rd f_217 tok 3 = .int zz := ((Fr.put (cs := [(5, 2)]) (a := o) (ci := 5) Fr.rf Ext.rf (hTo.at 1 rfl).2 (by decide) hrd_218 hup_219).1 tok (hTo.at 2 rfl).1 6 (hTo.at 2 rfl).2 3 (by decide)).trans hk_213
        have hk_225 : rd f_217 o 3 = .int tn := ((Fr.put (cs := [(5, 2)]) (a := o) (ci := 5) Fr.rf Ext.rf (hTo.at 1 rfl).2 (by decide) hrd_218 hup_219).1 o (hTo.at 1 rfl).1 5 (hTo.at 1 rfl).2 3 (by decide)).trans hk_214
        have hk_226 : rd f_217 o 4 = .int 1 := ((Fr.put (cs := [(5, 2)]) (a := o) (ci := 5) Fr.rf Ext.rf (hTo.at 1 rfl).2 (by decide) hrd_218 hup_219).1 o (hTo.at 1 rfl).1 5 (hTo.at 1 rfl).2 4 (by decide)).trans hk_215
        exact K_v hx hb hr hlocks hP hD hK hS hT hE ⟨rfl, hF, _, _, _, _, hk_220, hk_221, hk_222, hk_223, trivial, trivial, fun h9 => (absurd ((hrel_49 (hrel_74 ((hrel_188 (hrel_210 h9)).1))).1) hrel_13), trivial, (gte_b hg1 hg2 hg3) ▸ hrq_216⟩ (Nat.le_of_ble_eq_true rfl) (Nat.le_of_ble_eq_true rfl) dX2_readTest_115
    · refine lv_aload_n hx hb dX2_readTest_48 rfl (lv_at hl 1 rfl) ?_
      refine T_get (ci := 5) (C := RX5) (T := TX5) (N := 8) (t := tI) hx hb hts inw_X2_readTest_5 hown hK hP hT 1 rfl rfl 3 (by decide) (hts (.fieldLink RX2 94 "VatHouse$Step" "look" "I") (by decide +kernel)) (fun _ h9 => h9) rfl dX2_readTest_49 (fun v_229 hv_227 hr_228 => ?_)
      obtain rfl : v_229 = .int tn := hr_228.symm.trans hk_53
      refine lv_bipush (v := 18) hx hb dX2_readTest_52 (by decide) ?_
      refine lv_icmp_ne (tgt := 67) hx hb dX2_readTest_54 (by decide) (fun c_230 => ?_) (fun c_230 => ?_)
      · have hg2 : gte2 (Kp tt ln) (Vp tt ln) (nq tt ln) (Kp tt ln q.1) (gpa (Kp tt ln) (nq tt ln) (Kp tt ln q.1) (grf 1 q)) = (gpa (Kp tt ln) (nq tt ln) (Kp tt ln q.1) (grf 1 q)) := if_neg (by rw [← hRQ.K]; rintro (h9 | h9); exact c_58 h9; exact c_230 h9)
        refine lv_aload_n hx hb dX2_readTest_67 rfl (lv_at hl 1 rfl) ?_
        refine lv_aload_n hx hb dX2_readTest_68 rfl (lv_at hl 0 rfl) ?_
        refine T_get (ci := 2) (C := RX2) (T := TX2) (N := 6) (t := tI) hx hb hts inw_X2_readTest_2 hown hK hP hT 0 rfl rfl 2 (by decide) (hts (.fieldLink RX2 44 "VatHouse$Reader" "token" "I") (by decide +kernel)) (fun _ h9 => h9) rfl dX2_readTest_69 (fun v_233 hv_231 hr_232 => ?_)
        obtain rfl : v_233 = .int tn_40 := hr_232.symm.trans hk_44
        refine lv_bipush (v := 60) hx hb dX2_readTest_72 (by decide) ?_
        refine lv_icmp_ne (tgt := 81) hx hb dX2_readTest_74 (by decide) (fun c_234 => ?_) (fun c_234 => ?_)
        · refine lv_iconst (v := 0) hx hb dX2_readTest_81 (by decide) ?_
          have hTo := hT
          refine T_put (ci := 5) (v := .int 0) (ty := .boolean) (t := tI) (C := RX5) (T := TX5) (N := 8) hx hb hts inw_X2_readTest_5 tyX5 tyX5_ok nmX5 hown hK hP hD hS hT 1 rfl rfl 4 (by decide) (hts (.fieldLink RX2 97 "VatHouse$Step" "below" "Z") (by decide +kernel)) (fun _ h9 => h9) rfl (by decide +kernel) rfl rfl rfl ⟨_, rfl⟩ dX2_readTest_82 (fun f_235 H locs hP hD hS hT hE1 hrd_236 hup_237 => ?_)
          have hF := Fr.put (a := o) (ci := 5) hF hE ((hE1 o (hT.at 1 rfl).1).2.symm.trans (hT.at 1 rfl).2) (by decide) hrd_236 hup_237
          have hE := hE.tr hE1
          have hk_238 : rd f_235 h0 1 = .int ax_39 := ((Fr.put (cs := [(5, 4)]) (a := o) (ci := 5) Fr.rf Ext.rf (hTo.at 1 rfl).2 (by decide) hrd_236 hup_237).1 h0 (hTo.at 0 rfl).1 2 (hTo.at 0 rfl).2 1 (by decide)).trans hk_43
          have hk_239 : rd f_235 h0 2 = .int tn_40 := ((Fr.put (cs := [(5, 4)]) (a := o) (ci := 5) Fr.rf Ext.rf (hTo.at 1 rfl).2 (by decide) hrd_236 hup_237).1 h0 (hTo.at 0 rfl).1 2 (hTo.at 0 rfl).2 2 (by decide)).trans hk_44
          have hk_240 : rd f_235 h0 3 = .int fa_41 := ((Fr.put (cs := [(5, 4)]) (a := o) (ci := 5) Fr.rf Ext.rf (hTo.at 1 rfl).2 (by decide) hrd_236 hup_237).1 h0 (hTo.at 0 rfl).1 2 (hTo.at 0 rfl).2 3 (by decide)).trans hk_45
          have hk_241 : rd f_235 h0 4 = .int pw_42 := ((Fr.put (cs := [(5, 4)]) (a := o) (ci := 5) Fr.rf Ext.rf (hTo.at 1 rfl).2 (by decide) hrd_236 hup_237).1 h0 (hTo.at 0 rfl).1 2 (hTo.at 0 rfl).2 4 (by decide)).trans hk_46
          have hk_242 : rd f_235 tok 3 = .int zz := ((Fr.put (cs := [(5, 4)]) (a := o) (ci := 5) Fr.rf Ext.rf (hTo.at 1 rfl).2 (by decide) hrd_236 hup_237).1 tok (hTo.at 2 rfl).1 6 (hTo.at 2 rfl).2 3 (by decide)).trans hk_52
          have hk_243 : rd f_235 o 3 = .int tn := ((Fr.put (cs := [(5, 4)]) (a := o) (ci := 5) Fr.rf Ext.rf (hTo.at 1 rfl).2 (by decide) hrd_236 hup_237).1 o (hTo.at 1 rfl).1 5 (hTo.at 1 rfl).2 3 (by decide)).trans hk_53
          have hk_244 : rd f_235 o 4 = .int 0 := (hrd_236 o 4).trans (if_pos ⟨rfl, rfl⟩)
          have hg3 : (if Kp tt ln (gpa (Kp tt ln) (nq tt ln) (Kp tt ln q.1) (grf 1 q)).1 = 60 then (60 : Int32) else 61) = 61 := if_neg (by rw [← hrq_54.K]; exact c_234)
          refine lv_aload_n hx hb dX2_readTest_85 rfl (lv_at hl 0 rfl) ?_
          refine lv_aload_n hx hb dX2_readTest_86 rfl (lv_at hl 1 rfl) ?_
          refine T_get (ci := 5) (C := RX5) (T := TX5) (N := 8) (t := tI) hx hb hts inw_X2_readTest_5 hown hK hP hT 1 rfl rfl 4 (by decide) (hts (.fieldLink RX2 97 "VatHouse$Step" "below" "Z") (by decide +kernel)) (fun _ h9 => h9) rfl dX2_readTest_87 (fun v_247 hv_245 hr_246 => ?_)
          obtain rfl : v_247 = .int 0 := hr_246.symm.trans hk_244
          refine lv_if_eq (tgt := 98) hx hb dX2_readTest_90 (by decide) (fun c_248 => ?_) (fun c_248 => ?_)
          rotate_left
          · exact absurd c_248 (by decide)
          refine lv_bipush (v := 61) hx hb dX2_readTest_98 (by decide) ?_
          have hTo := hT
          refine K_V ⟨hx, hb, hml, hown, hts⟩ (t_X2_pass l dC dI sa hlt g _ _ tt ln M (gpa (Kp tt ln) (nq tt ln) (Kp tt ln q.1) (grf 1 q)) h0 61 tok ka sta vaa ax_39 tn_40 fa_41 pw_42 zz _ (hT.sub [0, 2, 3, 4, 5] rfl)  hk_238 hk_239 hk_240 hk_241 hk_242 ((hF.1 h0 (hT0.at 0 rfl).1 2 (hT0.at 0 rfl).2 0 (by decide)).trans h_tok) ((hF.1 tok (hT0.at 2 rfl).1 6 (hT0.at 2 rfl).2 4 (by decide)).trans h_ka) ((hF.1 tok (hT0.at 2 rfl).1 6 (hT0.at 2 rfl).2 5 (by decide)).trans h_sta) ((hF.1 tok (hT0.at 2 rfl).1 6 (hT0.at 2 rfl).2 6 (by decide)).trans h_vaa) hzz (hTK.go (hF.2 ka (hT0.at 3 rfl).1 0 _ _ (hT0.at 3 rfl).2 (by decide)) (hF.2 sta (hT0.at 4 rfl).1 0 _ _ (hT0.at 4 rfl).2 (by decide)) (hF.2 vaa (hT0.at 5 rfl).1 0 _ _ (hT0.at 5 rfl).2 (by decide))) hrq_54 (Or.inl (by decide))) (cwV 1 hts gX2_readTest_X2_pass rfl rfl rfl (by decide +kernel) ⟨Nat.le_of_ble_eq_true rfl, Nat.le_of_ble_eq_true rfl⟩) hP hD hK hS hA hev hT 0 2 rfl rfl rfl rfl hl.1 rfl (Nat.le_of_ble_eq_true rfl) dX2_readTest_100 ⟨Nat.le_of_ble_eq_true rfl, Nat.le_of_ble_eq_true rfl⟩ (fun r L_249 f_250 H locs hw_251 hP hD hS hT hE1 => ?_)
          have hF := Fr.call hF hE hw_251.2.1 (by decide)
          have hE := hE.tr hE1
          obtain ⟨rfl, hw_251⟩ := hw_251
          obtain ⟨hfr_252, ax_253, tn_254, fa_255, pw_256, hk_257, hk_258, hk_259, hk_260, hrel_261, hrel_262, hrel_263, hrel_264, hex_265⟩ := hw_251
          have hk_266 : rd f_250 tok 3 = .int zz := (hfr_252.1 tok (hTo.at 2 rfl).1 6 (hTo.at 2 rfl).2 3 (by decide)).trans hk_242
          have hk_267 : rd f_250 o 3 = .int tn := (hfr_252.1 o (hTo.at 1 rfl).1 5 (hTo.at 1 rfl).2 3 (by decide)).trans hk_243
          have hk_268 : rd f_250 o 4 = .int 0 := (hfr_252.1 o (hTo.at 1 rfl).1 5 (hTo.at 1 rfl).2 4 (by decide)).trans hk_244
          have hrq_269 := hex_265
          refine W.eq (g2 := F0 m 103 ls []) rfl ?_
          refine lv_aload_n hx hb dX2_readTest_103 rfl (lv_at hl 1 rfl) ?_
          refine lv_aload_n hx hb dX2_readTest_104 rfl (lv_at hl 0 rfl) ?_
          refine lv_iconst (v := 0) hx hb dX2_readTest_105 (by decide) ?_
          refine lv_sipush (v := 9999) hx hb dX2_readTest_106 (by decide) ?_
          have hTo := hT
          refine K_V ⟨hx, hb, hml, hown, hts⟩ (t_X2_readNumber l dC dI sa hlt g _ _ tt ln M (gpa (Kp tt ln) (nq tt ln) 61 (gpa (Kp tt ln) (nq tt ln) (Kp tt ln q.1) (grf 1 q))) h0 0 9999 tok ka sta vaa ax_253 tn_254 fa_255 pw_256 zz _ (hT.sub [0, 2, 3, 4, 5] rfl)  hk_257 hk_258 hk_259 hk_260 hk_266 ((hF.1 h0 (hT0.at 0 rfl).1 2 (hT0.at 0 rfl).2 0 (by decide)).trans h_tok) ((hF.1 tok (hT0.at 2 rfl).1 6 (hT0.at 2 rfl).2 4 (by decide)).trans h_ka) ((hF.1 tok (hT0.at 2 rfl).1 6 (hT0.at 2 rfl).2 5 (by decide)).trans h_sta) ((hF.1 tok (hT0.at 2 rfl).1 6 (hT0.at 2 rfl).2 6 (by decide)).trans h_vaa) hzz (hTK.go (hF.2 ka (hT0.at 3 rfl).1 0 _ _ (hT0.at 3 rfl).2 (by decide)) (hF.2 sta (hT0.at 4 rfl).1 0 _ _ (hT0.at 4 rfl).2 (by decide)) (hF.2 vaa (hT0.at 5 rfl).1 0 _ _ (hT0.at 5 rfl).2 (by decide))) hrq_269) (cwV 2 hts gX2_readTest_X2_readNumber rfl rfl rfl (by decide +kernel) ⟨Nat.le_of_ble_eq_true rfl, Nat.le_of_ble_eq_true rfl⟩) hP hD hK hS hA hev hT 0 2 rfl rfl rfl rfl hl.1 rfl (Nat.le_of_ble_eq_true rfl) dX2_readTest_109 ⟨Nat.le_of_ble_eq_true rfl, Nat.le_of_ble_eq_true rfl⟩ (fun r L_270 f_271 H locs hw_272 hP hD hS hT hE1 => ?_)
          have hF := Fr.call hF hE hw_272.2.1 (by decide)
          have hE := hE.tr hE1
          obtain ⟨⟨z_273, rfl⟩, hw_272⟩ := hw_272
          obtain ⟨hfr_274, ax_275, tn_276, fa_277, pw_278, hk_279, hk_280, hk_281, hk_282, hrel_283, hrel_284, hrel_285, hrel_286, hex_287⟩ := hw_272
          have hk_288 : rd f_271 tok 3 = .int zz := (hfr_274.1 tok (hTo.at 2 rfl).1 6 (hTo.at 2 rfl).2 3 (by decide)).trans hk_266
          have hk_289 : rd f_271 o 3 = .int tn := (hfr_274.1 o (hTo.at 1 rfl).1 5 (hTo.at 1 rfl).2 3 (by decide)).trans hk_267
          have hk_290 : rd f_271 o 4 = .int 0 := (hfr_274.1 o (hTo.at 1 rfl).1 5 (hTo.at 1 rfl).2 4 (by decide)).trans hk_268
          have hrq_291 := hex_287.2
          refine W.eq (g2 := F0 m 112 ls [.int z_273, .ref o]) rfl ?_
          have hTo := hT
          refine T_put (ci := 5) (v := .int z_273) (ty := .int) (t := tI) (C := RX5) (T := TX5) (N := 8) hx hb hts inw_X2_readTest_5 tyX5 tyX5_ok nmX5 hown hK hP hD hS hT 1 rfl rfl 2 (by decide) (hts (.fieldLink RX2 79 "VatHouse$Step" "number" "I") (by decide +kernel)) (fun _ h9 => h9) rfl (by decide +kernel) rfl rfl rfl ⟨_, rfl⟩ dX2_readTest_112 (fun f_292 H locs hP hD hS hT hE1 hrd_293 hup_294 => ?_)
          have hF := Fr.put (a := o) (ci := 5) hF hE ((hE1 o (hT.at 1 rfl).1).2.symm.trans (hT.at 1 rfl).2) (by decide) hrd_293 hup_294
          have hE := hE.tr hE1
          have hk_295 : rd f_292 h0 1 = .int ax_275 := ((Fr.put (cs := [(5, 2)]) (a := o) (ci := 5) Fr.rf Ext.rf (hTo.at 1 rfl).2 (by decide) hrd_293 hup_294).1 h0 (hTo.at 0 rfl).1 2 (hTo.at 0 rfl).2 1 (by decide)).trans hk_279
          have hk_296 : rd f_292 h0 2 = .int tn_276 := ((Fr.put (cs := [(5, 2)]) (a := o) (ci := 5) Fr.rf Ext.rf (hTo.at 1 rfl).2 (by decide) hrd_293 hup_294).1 h0 (hTo.at 0 rfl).1 2 (hTo.at 0 rfl).2 2 (by decide)).trans hk_280
          have hk_297 : rd f_292 h0 3 = .int fa_277 := ((Fr.put (cs := [(5, 2)]) (a := o) (ci := 5) Fr.rf Ext.rf (hTo.at 1 rfl).2 (by decide) hrd_293 hup_294).1 h0 (hTo.at 0 rfl).1 2 (hTo.at 0 rfl).2 3 (by decide)).trans hk_281
          have hk_298 : rd f_292 h0 4 = .int pw_278 := ((Fr.put (cs := [(5, 2)]) (a := o) (ci := 5) Fr.rf Ext.rf (hTo.at 1 rfl).2 (by decide) hrd_293 hup_294).1 h0 (hTo.at 0 rfl).1 2 (hTo.at 0 rfl).2 4 (by decide)).trans hk_282
          have hk_299 : rd f_292 tok 3 = .int zz := ((Fr.put (cs := [(5, 2)]) (a := o) (ci := 5) Fr.rf Ext.rf (hTo.at 1 rfl).2 (by decide) hrd_293 hup_294).1 tok (hTo.at 2 rfl).1 6 (hTo.at 2 rfl).2 3 (by decide)).trans hk_288
          have hk_300 : rd f_292 o 3 = .int tn := ((Fr.put (cs := [(5, 2)]) (a := o) (ci := 5) Fr.rf Ext.rf (hTo.at 1 rfl).2 (by decide) hrd_293 hup_294).1 o (hTo.at 1 rfl).1 5 (hTo.at 1 rfl).2 3 (by decide)).trans hk_289
          have hk_301 : rd f_292 o 4 = .int 0 := ((Fr.put (cs := [(5, 2)]) (a := o) (ci := 5) Fr.rf Ext.rf (hTo.at 1 rfl).2 (by decide) hrd_293 hup_294).1 o (hTo.at 1 rfl).1 5 (hTo.at 1 rfl).2 4 (by decide)).trans hk_290
          exact K_v hx hb hr hlocks hP hD hK hS hT hE ⟨rfl, hF, _, _, _, _, hk_295, hk_296, hk_297, hk_298, trivial, trivial, fun h9 => (absurd ((hrel_49 ((hrel_263 (hrel_285 h9)).1)).1) hrel_13), trivial, (gte_b hg1 hg2 hg3) ▸ hrq_291⟩ (Nat.le_of_ble_eq_true rfl) (Nat.le_of_ble_eq_true rfl) dX2_readTest_115
        · refine lv_iconst (v := 1) hx hb dX2_readTest_77 (by decide) ?_
          refine lv_goto (tgt := 82) hx hb dX2_readTest_78 (by decide) ?_
          have hTo := hT
          refine T_put (ci := 5) (v := .int 1) (ty := .boolean) (t := tI) (C := RX5) (T := TX5) (N := 8) hx hb hts inw_X2_readTest_5 tyX5 tyX5_ok nmX5 hown hK hP hD hS hT 1 rfl rfl 4 (by decide) (hts (.fieldLink RX2 97 "VatHouse$Step" "below" "Z") (by decide +kernel)) (fun _ h9 => h9) rfl (by decide +kernel) rfl rfl rfl ⟨_, rfl⟩ dX2_readTest_82 (fun f_302 H locs hP hD hS hT hE1 hrd_303 hup_304 => ?_)
          have hF := Fr.put (a := o) (ci := 5) hF hE ((hE1 o (hT.at 1 rfl).1).2.symm.trans (hT.at 1 rfl).2) (by decide) hrd_303 hup_304
          have hE := hE.tr hE1
          have hk_305 : rd f_302 h0 1 = .int ax_39 := ((Fr.put (cs := [(5, 4)]) (a := o) (ci := 5) Fr.rf Ext.rf (hTo.at 1 rfl).2 (by decide) hrd_303 hup_304).1 h0 (hTo.at 0 rfl).1 2 (hTo.at 0 rfl).2 1 (by decide)).trans hk_43
          have hk_306 : rd f_302 h0 2 = .int tn_40 := ((Fr.put (cs := [(5, 4)]) (a := o) (ci := 5) Fr.rf Ext.rf (hTo.at 1 rfl).2 (by decide) hrd_303 hup_304).1 h0 (hTo.at 0 rfl).1 2 (hTo.at 0 rfl).2 2 (by decide)).trans hk_44
          have hk_307 : rd f_302 h0 3 = .int fa_41 := ((Fr.put (cs := [(5, 4)]) (a := o) (ci := 5) Fr.rf Ext.rf (hTo.at 1 rfl).2 (by decide) hrd_303 hup_304).1 h0 (hTo.at 0 rfl).1 2 (hTo.at 0 rfl).2 3 (by decide)).trans hk_45
          have hk_308 : rd f_302 h0 4 = .int pw_42 := ((Fr.put (cs := [(5, 4)]) (a := o) (ci := 5) Fr.rf Ext.rf (hTo.at 1 rfl).2 (by decide) hrd_303 hup_304).1 h0 (hTo.at 0 rfl).1 2 (hTo.at 0 rfl).2 4 (by decide)).trans hk_46
          have hk_309 : rd f_302 tok 3 = .int zz := ((Fr.put (cs := [(5, 4)]) (a := o) (ci := 5) Fr.rf Ext.rf (hTo.at 1 rfl).2 (by decide) hrd_303 hup_304).1 tok (hTo.at 2 rfl).1 6 (hTo.at 2 rfl).2 3 (by decide)).trans hk_52
          have hk_310 : rd f_302 o 3 = .int tn := ((Fr.put (cs := [(5, 4)]) (a := o) (ci := 5) Fr.rf Ext.rf (hTo.at 1 rfl).2 (by decide) hrd_303 hup_304).1 o (hTo.at 1 rfl).1 5 (hTo.at 1 rfl).2 3 (by decide)).trans hk_53
          have hk_311 : rd f_302 o 4 = .int 1 := (hrd_303 o 4).trans (if_pos ⟨rfl, rfl⟩)
          have hg3 : (if Kp tt ln (gpa (Kp tt ln) (nq tt ln) (Kp tt ln q.1) (grf 1 q)).1 = 60 then (60 : Int32) else 61) = 60 := if_pos (by rw [← hrq_54.K]; exact c_234)
          refine lv_aload_n hx hb dX2_readTest_85 rfl (lv_at hl 0 rfl) ?_
          refine lv_aload_n hx hb dX2_readTest_86 rfl (lv_at hl 1 rfl) ?_
          refine T_get (ci := 5) (C := RX5) (T := TX5) (N := 8) (t := tI) hx hb hts inw_X2_readTest_5 hown hK hP hT 1 rfl rfl 4 (by decide) (hts (.fieldLink RX2 97 "VatHouse$Step" "below" "Z") (by decide +kernel)) (fun _ h9 => h9) rfl dX2_readTest_87 (fun v_314 hv_312 hr_313 => ?_)
          obtain rfl : v_314 = .int 1 := hr_313.symm.trans hk_311
          refine lv_if_eq (tgt := 98) hx hb dX2_readTest_90 (by decide) (fun c_315 => ?_) (fun c_315 => ?_)
          · exact absurd c_315 (by decide)
          refine lv_bipush (v := 60) hx hb dX2_readTest_93 (by decide) ?_
          refine lv_goto (tgt := 100) hx hb dX2_readTest_95 (by decide) ?_
          have hTo := hT
          refine K_V ⟨hx, hb, hml, hown, hts⟩ (t_X2_pass l dC dI sa hlt g _ _ tt ln M (gpa (Kp tt ln) (nq tt ln) (Kp tt ln q.1) (grf 1 q)) h0 60 tok ka sta vaa ax_39 tn_40 fa_41 pw_42 zz _ (hT.sub [0, 2, 3, 4, 5] rfl)  hk_305 hk_306 hk_307 hk_308 hk_309 ((hF.1 h0 (hT0.at 0 rfl).1 2 (hT0.at 0 rfl).2 0 (by decide)).trans h_tok) ((hF.1 tok (hT0.at 2 rfl).1 6 (hT0.at 2 rfl).2 4 (by decide)).trans h_ka) ((hF.1 tok (hT0.at 2 rfl).1 6 (hT0.at 2 rfl).2 5 (by decide)).trans h_sta) ((hF.1 tok (hT0.at 2 rfl).1 6 (hT0.at 2 rfl).2 6 (by decide)).trans h_vaa) hzz (hTK.go (hF.2 ka (hT0.at 3 rfl).1 0 _ _ (hT0.at 3 rfl).2 (by decide)) (hF.2 sta (hT0.at 4 rfl).1 0 _ _ (hT0.at 4 rfl).2 (by decide)) (hF.2 vaa (hT0.at 5 rfl).1 0 _ _ (hT0.at 5 rfl).2 (by decide))) hrq_54 (Or.inl (by decide))) (cwV 1 hts gX2_readTest_X2_pass rfl rfl rfl (by decide +kernel) ⟨Nat.le_of_ble_eq_true rfl, Nat.le_of_ble_eq_true rfl⟩) hP hD hK hS hA hev hT 0 2 rfl rfl rfl rfl hl.1 rfl (Nat.le_of_ble_eq_true rfl) dX2_readTest_100 ⟨Nat.le_of_ble_eq_true rfl, Nat.le_of_ble_eq_true rfl⟩ (fun r L_316 f_317 H locs hw_318 hP hD hS hT hE1 => ?_)
          have hF := Fr.call hF hE hw_318.2.1 (by decide)
          have hE := hE.tr hE1
          obtain ⟨rfl, hw_318⟩ := hw_318
          obtain ⟨hfr_319, ax_320, tn_321, fa_322, pw_323, hk_324, hk_325, hk_326, hk_327, hrel_328, hrel_329, hrel_330, hrel_331, hex_332⟩ := hw_318
          have hk_333 : rd f_317 tok 3 = .int zz := (hfr_319.1 tok (hTo.at 2 rfl).1 6 (hTo.at 2 rfl).2 3 (by decide)).trans hk_309
          have hk_334 : rd f_317 o 3 = .int tn := (hfr_319.1 o (hTo.at 1 rfl).1 5 (hTo.at 1 rfl).2 3 (by decide)).trans hk_310
          have hk_335 : rd f_317 o 4 = .int 1 := (hfr_319.1 o (hTo.at 1 rfl).1 5 (hTo.at 1 rfl).2 4 (by decide)).trans hk_311
          have hrq_336 := hex_332
          refine W.eq (g2 := F0 m 103 ls []) rfl ?_
          refine lv_aload_n hx hb dX2_readTest_103 rfl (lv_at hl 1 rfl) ?_
          refine lv_aload_n hx hb dX2_readTest_104 rfl (lv_at hl 0 rfl) ?_
          refine lv_iconst (v := 0) hx hb dX2_readTest_105 (by decide) ?_
          refine lv_sipush (v := 9999) hx hb dX2_readTest_106 (by decide) ?_
          have hTo := hT
          refine K_V ⟨hx, hb, hml, hown, hts⟩ (t_X2_readNumber l dC dI sa hlt g _ _ tt ln M (gpa (Kp tt ln) (nq tt ln) 60 (gpa (Kp tt ln) (nq tt ln) (Kp tt ln q.1) (grf 1 q))) h0 0 9999 tok ka sta vaa ax_320 tn_321 fa_322 pw_323 zz _ (hT.sub [0, 2, 3, 4, 5] rfl)  hk_324 hk_325 hk_326 hk_327 hk_333 ((hF.1 h0 (hT0.at 0 rfl).1 2 (hT0.at 0 rfl).2 0 (by decide)).trans h_tok) ((hF.1 tok (hT0.at 2 rfl).1 6 (hT0.at 2 rfl).2 4 (by decide)).trans h_ka) ((hF.1 tok (hT0.at 2 rfl).1 6 (hT0.at 2 rfl).2 5 (by decide)).trans h_sta) ((hF.1 tok (hT0.at 2 rfl).1 6 (hT0.at 2 rfl).2 6 (by decide)).trans h_vaa) hzz (hTK.go (hF.2 ka (hT0.at 3 rfl).1 0 _ _ (hT0.at 3 rfl).2 (by decide)) (hF.2 sta (hT0.at 4 rfl).1 0 _ _ (hT0.at 4 rfl).2 (by decide)) (hF.2 vaa (hT0.at 5 rfl).1 0 _ _ (hT0.at 5 rfl).2 (by decide))) hrq_336) (cwV 2 hts gX2_readTest_X2_readNumber rfl rfl rfl (by decide +kernel) ⟨Nat.le_of_ble_eq_true rfl, Nat.le_of_ble_eq_true rfl⟩) hP hD hK hS hA hev hT 0 2 rfl rfl rfl rfl hl.1 rfl (Nat.le_of_ble_eq_true rfl) dX2_readTest_109 ⟨Nat.le_of_ble_eq_true rfl, Nat.le_of_ble_eq_true rfl⟩ (fun r L_337 f_338 H locs hw_339 hP hD hS hT hE1 => ?_)
          have hF := Fr.call hF hE hw_339.2.1 (by decide)
          have hE := hE.tr hE1
          obtain ⟨⟨z_340, rfl⟩, hw_339⟩ := hw_339
          obtain ⟨hfr_341, ax_342, tn_343, fa_344, pw_345, hk_346, hk_347, hk_348, hk_349, hrel_350, hrel_351, hrel_352, hrel_353, hex_354⟩ := hw_339
          have hk_355 : rd f_338 tok 3 = .int zz := (hfr_341.1 tok (hTo.at 2 rfl).1 6 (hTo.at 2 rfl).2 3 (by decide)).trans hk_333
          have hk_356 : rd f_338 o 3 = .int tn := (hfr_341.1 o (hTo.at 1 rfl).1 5 (hTo.at 1 rfl).2 3 (by decide)).trans hk_334
          have hk_357 : rd f_338 o 4 = .int 1 := (hfr_341.1 o (hTo.at 1 rfl).1 5 (hTo.at 1 rfl).2 4 (by decide)).trans hk_335
          have hrq_358 := hex_354.2
          refine W.eq (g2 := F0 m 112 ls [.int z_340, .ref o]) rfl ?_
          have hTo := hT
          refine T_put (ci := 5) (v := .int z_340) (ty := .int) (t := tI) (C := RX5) (T := TX5) (N := 8) hx hb hts inw_X2_readTest_5 tyX5 tyX5_ok nmX5 hown hK hP hD hS hT 1 rfl rfl 2 (by decide) (hts (.fieldLink RX2 79 "VatHouse$Step" "number" "I") (by decide +kernel)) (fun _ h9 => h9) rfl (by decide +kernel) rfl rfl rfl ⟨_, rfl⟩ dX2_readTest_112 (fun f_359 H locs hP hD hS hT hE1 hrd_360 hup_361 => ?_)
          have hF := Fr.put (a := o) (ci := 5) hF hE ((hE1 o (hT.at 1 rfl).1).2.symm.trans (hT.at 1 rfl).2) (by decide) hrd_360 hup_361
          have hE := hE.tr hE1
          have hk_362 : rd f_359 h0 1 = .int ax_342 := ((Fr.put (cs := [(5, 2)]) (a := o) (ci := 5) Fr.rf Ext.rf (hTo.at 1 rfl).2 (by decide) hrd_360 hup_361).1 h0 (hTo.at 0 rfl).1 2 (hTo.at 0 rfl).2 1 (by decide)).trans hk_346
          have hk_363 : rd f_359 h0 2 = .int tn_343 := ((Fr.put (cs := [(5, 2)]) (a := o) (ci := 5) Fr.rf Ext.rf (hTo.at 1 rfl).2 (by decide) hrd_360 hup_361).1 h0 (hTo.at 0 rfl).1 2 (hTo.at 0 rfl).2 2 (by decide)).trans hk_347
          have hk_364 : rd f_359 h0 3 = .int fa_344 := ((Fr.put (cs := [(5, 2)]) (a := o) (ci := 5) Fr.rf Ext.rf (hTo.at 1 rfl).2 (by decide) hrd_360 hup_361).1 h0 (hTo.at 0 rfl).1 2 (hTo.at 0 rfl).2 3 (by decide)).trans hk_348
          have hk_365 : rd f_359 h0 4 = .int pw_345 := ((Fr.put (cs := [(5, 2)]) (a := o) (ci := 5) Fr.rf Ext.rf (hTo.at 1 rfl).2 (by decide) hrd_360 hup_361).1 h0 (hTo.at 0 rfl).1 2 (hTo.at 0 rfl).2 4 (by decide)).trans hk_349
          have hk_366 : rd f_359 tok 3 = .int zz := ((Fr.put (cs := [(5, 2)]) (a := o) (ci := 5) Fr.rf Ext.rf (hTo.at 1 rfl).2 (by decide) hrd_360 hup_361).1 tok (hTo.at 2 rfl).1 6 (hTo.at 2 rfl).2 3 (by decide)).trans hk_355
          have hk_367 : rd f_359 o 3 = .int tn := ((Fr.put (cs := [(5, 2)]) (a := o) (ci := 5) Fr.rf Ext.rf (hTo.at 1 rfl).2 (by decide) hrd_360 hup_361).1 o (hTo.at 1 rfl).1 5 (hTo.at 1 rfl).2 3 (by decide)).trans hk_356
          have hk_368 : rd f_359 o 4 = .int 1 := ((Fr.put (cs := [(5, 2)]) (a := o) (ci := 5) Fr.rf Ext.rf (hTo.at 1 rfl).2 (by decide) hrd_360 hup_361).1 o (hTo.at 1 rfl).1 5 (hTo.at 1 rfl).2 4 (by decide)).trans hk_357
          exact K_v hx hb hr hlocks hP hD hK hS hT hE ⟨rfl, hF, _, _, _, _, hk_362, hk_363, hk_364, hk_365, trivial, trivial, fun h9 => (absurd ((hrel_49 ((hrel_330 (hrel_352 h9)).1)).1) hrel_13), trivial, (gte_b hg1 hg2 hg3) ▸ hrq_358⟩ (Nat.le_of_ble_eq_true rfl) (Nat.le_of_ble_eq_true rfl) dX2_readTest_115
      · refine lv_aload_n hx hb dX2_readTest_57 rfl (lv_at hl 1 rfl) ?_
        refine lv_aload_n hx hb dX2_readTest_58 rfl (lv_at hl 0 rfl) ?_
        refine lv_iconst (v := 0) hx hb dX2_readTest_59 (by decide) ?_
        refine lv_iconst (v := 5) hx hb dX2_readTest_60 (by decide) ?_
        have hTo := hT
        refine K_V ⟨hx, hb, hml, hown, hts⟩ (t_X2_readNumber l dC dI sa hlt g _ _ tt ln M (gpa (Kp tt ln) (nq tt ln) (Kp tt ln q.1) (grf 1 q)) h0 0 5 tok ka sta vaa ax_39 tn_40 fa_41 pw_42 zz _ (hT.sub [0, 2, 3, 4, 5] rfl)  hk_43 hk_44 hk_45 hk_46 hk_52 ((hF.1 h0 (hT0.at 0 rfl).1 2 (hT0.at 0 rfl).2 0 (by decide)).trans h_tok) ((hF.1 tok (hT0.at 2 rfl).1 6 (hT0.at 2 rfl).2 4 (by decide)).trans h_ka) ((hF.1 tok (hT0.at 2 rfl).1 6 (hT0.at 2 rfl).2 5 (by decide)).trans h_sta) ((hF.1 tok (hT0.at 2 rfl).1 6 (hT0.at 2 rfl).2 6 (by decide)).trans h_vaa) hzz (hTK.go (hF.2 ka (hT0.at 3 rfl).1 0 _ _ (hT0.at 3 rfl).2 (by decide)) (hF.2 sta (hT0.at 4 rfl).1 0 _ _ (hT0.at 4 rfl).2 (by decide)) (hF.2 vaa (hT0.at 5 rfl).1 0 _ _ (hT0.at 5 rfl).2 (by decide))) hrq_54) (cwV 2 hts gX2_readTest_X2_readNumber rfl rfl rfl (by decide +kernel) ⟨Nat.le_of_ble_eq_true rfl, Nat.le_of_ble_eq_true rfl⟩) hP hD hK hS hA hev hT 0 2 rfl rfl rfl rfl hl.1 rfl (Nat.le_of_ble_eq_true rfl) dX2_readTest_61 ⟨Nat.le_of_ble_eq_true rfl, Nat.le_of_ble_eq_true rfl⟩ (fun r L_369 f_370 H locs hw_371 hP hD hS hT hE1 => ?_)
        have hF := Fr.call hF hE hw_371.2.1 (by decide)
        have hE := hE.tr hE1
        obtain ⟨⟨z_372, rfl⟩, hw_371⟩ := hw_371
        obtain ⟨hfr_373, ax_374, tn_375, fa_376, pw_377, hk_378, hk_379, hk_380, hk_381, hrel_382, hrel_383, hrel_384, hrel_385, hex_386⟩ := hw_371
        have hk_387 : rd f_370 tok 3 = .int zz := (hfr_373.1 tok (hTo.at 2 rfl).1 6 (hTo.at 2 rfl).2 3 (by decide)).trans hk_52
        have hk_388 : rd f_370 o 3 = .int tn := (hfr_373.1 o (hTo.at 1 rfl).1 5 (hTo.at 1 rfl).2 3 (by decide)).trans hk_53
        have hrq_389 := hex_386.2
        refine W.eq (g2 := F0 m 64 ls [.int z_372, .ref o]) rfl ?_
        have hTo := hT
        refine T_put (ci := 5) (v := .int z_372) (ty := .int) (t := tI) (C := RX5) (T := TX5) (N := 8) hx hb hts inw_X2_readTest_5 tyX5 tyX5_ok nmX5 hown hK hP hD hS hT 1 rfl rfl 1 (by decide) (hts (.fieldLink RX2 76 "VatHouse$Step" "vat" "I") (by decide +kernel)) (fun _ h9 => h9) rfl (by decide +kernel) rfl rfl rfl ⟨_, rfl⟩ dX2_readTest_64 (fun f_390 H locs hP hD hS hT hE1 hrd_391 hup_392 => ?_)
        have hF := Fr.put (a := o) (ci := 5) hF hE ((hE1 o (hT.at 1 rfl).1).2.symm.trans (hT.at 1 rfl).2) (by decide) hrd_391 hup_392
        have hE := hE.tr hE1
        have hk_393 : rd f_390 h0 1 = .int ax_374 := ((Fr.put (cs := [(5, 1)]) (a := o) (ci := 5) Fr.rf Ext.rf (hTo.at 1 rfl).2 (by decide) hrd_391 hup_392).1 h0 (hTo.at 0 rfl).1 2 (hTo.at 0 rfl).2 1 (by decide)).trans hk_378
        have hk_394 : rd f_390 h0 2 = .int tn_375 := ((Fr.put (cs := [(5, 1)]) (a := o) (ci := 5) Fr.rf Ext.rf (hTo.at 1 rfl).2 (by decide) hrd_391 hup_392).1 h0 (hTo.at 0 rfl).1 2 (hTo.at 0 rfl).2 2 (by decide)).trans hk_379
        have hk_395 : rd f_390 h0 3 = .int fa_376 := ((Fr.put (cs := [(5, 1)]) (a := o) (ci := 5) Fr.rf Ext.rf (hTo.at 1 rfl).2 (by decide) hrd_391 hup_392).1 h0 (hTo.at 0 rfl).1 2 (hTo.at 0 rfl).2 3 (by decide)).trans hk_380
        have hk_396 : rd f_390 h0 4 = .int pw_377 := ((Fr.put (cs := [(5, 1)]) (a := o) (ci := 5) Fr.rf Ext.rf (hTo.at 1 rfl).2 (by decide) hrd_391 hup_392).1 h0 (hTo.at 0 rfl).1 2 (hTo.at 0 rfl).2 4 (by decide)).trans hk_381
        have hk_397 : rd f_390 tok 3 = .int zz := ((Fr.put (cs := [(5, 1)]) (a := o) (ci := 5) Fr.rf Ext.rf (hTo.at 1 rfl).2 (by decide) hrd_391 hup_392).1 tok (hTo.at 2 rfl).1 6 (hTo.at 2 rfl).2 3 (by decide)).trans hk_387
        have hk_398 : rd f_390 o 3 = .int tn := ((Fr.put (cs := [(5, 1)]) (a := o) (ci := 5) Fr.rf Ext.rf (hTo.at 1 rfl).2 (by decide) hrd_391 hup_392).1 o (hTo.at 1 rfl).1 5 (hTo.at 1 rfl).2 3 (by decide)).trans hk_388
        have hg2 : gte2 (Kp tt ln) (Vp tt ln) (nq tt ln) (Kp tt ln q.1) (gpa (Kp tt ln) (nq tt ln) (Kp tt ln q.1) (grf 1 q)) = (gnu (Kp tt ln) (Vp tt ln) (nq tt ln) 0 5 (gpa (Kp tt ln) (nq tt ln) (Kp tt ln q.1) (grf 1 q))) := if_pos (Or.inr (by rw [← hRQ.K]; exact c_230))
        refine lv_aload_n hx hb dX2_readTest_67 rfl (lv_at hl 1 rfl) ?_
        refine lv_aload_n hx hb dX2_readTest_68 rfl (lv_at hl 0 rfl) ?_
        refine T_get (ci := 2) (C := RX2) (T := TX2) (N := 6) (t := tI) hx hb hts inw_X2_readTest_2 hown hK hP hT 0 rfl rfl 2 (by decide) (hts (.fieldLink RX2 44 "VatHouse$Reader" "token" "I") (by decide +kernel)) (fun _ h9 => h9) rfl dX2_readTest_69 (fun v_401 hv_399 hr_400 => ?_)
        obtain rfl : v_401 = .int tn_375 := hr_400.symm.trans hk_394
        refine lv_bipush (v := 60) hx hb dX2_readTest_72 (by decide) ?_
        refine lv_icmp_ne (tgt := 81) hx hb dX2_readTest_74 (by decide) (fun c_402 => ?_) (fun c_402 => ?_)
        · refine lv_iconst (v := 0) hx hb dX2_readTest_81 (by decide) ?_
          have hTo := hT
          refine T_put (ci := 5) (v := .int 0) (ty := .boolean) (t := tI) (C := RX5) (T := TX5) (N := 8) hx hb hts inw_X2_readTest_5 tyX5 tyX5_ok nmX5 hown hK hP hD hS hT 1 rfl rfl 4 (by decide) (hts (.fieldLink RX2 97 "VatHouse$Step" "below" "Z") (by decide +kernel)) (fun _ h9 => h9) rfl (by decide +kernel) rfl rfl rfl ⟨_, rfl⟩ dX2_readTest_82 (fun f_403 H locs hP hD hS hT hE1 hrd_404 hup_405 => ?_)
          have hF := Fr.put (a := o) (ci := 5) hF hE ((hE1 o (hT.at 1 rfl).1).2.symm.trans (hT.at 1 rfl).2) (by decide) hrd_404 hup_405
          have hE := hE.tr hE1
          have hk_406 : rd f_403 h0 1 = .int ax_374 := ((Fr.put (cs := [(5, 4)]) (a := o) (ci := 5) Fr.rf Ext.rf (hTo.at 1 rfl).2 (by decide) hrd_404 hup_405).1 h0 (hTo.at 0 rfl).1 2 (hTo.at 0 rfl).2 1 (by decide)).trans hk_393
          have hk_407 : rd f_403 h0 2 = .int tn_375 := ((Fr.put (cs := [(5, 4)]) (a := o) (ci := 5) Fr.rf Ext.rf (hTo.at 1 rfl).2 (by decide) hrd_404 hup_405).1 h0 (hTo.at 0 rfl).1 2 (hTo.at 0 rfl).2 2 (by decide)).trans hk_394
          have hk_408 : rd f_403 h0 3 = .int fa_376 := ((Fr.put (cs := [(5, 4)]) (a := o) (ci := 5) Fr.rf Ext.rf (hTo.at 1 rfl).2 (by decide) hrd_404 hup_405).1 h0 (hTo.at 0 rfl).1 2 (hTo.at 0 rfl).2 3 (by decide)).trans hk_395
          have hk_409 : rd f_403 h0 4 = .int pw_377 := ((Fr.put (cs := [(5, 4)]) (a := o) (ci := 5) Fr.rf Ext.rf (hTo.at 1 rfl).2 (by decide) hrd_404 hup_405).1 h0 (hTo.at 0 rfl).1 2 (hTo.at 0 rfl).2 4 (by decide)).trans hk_396
          have hk_410 : rd f_403 tok 3 = .int zz := ((Fr.put (cs := [(5, 4)]) (a := o) (ci := 5) Fr.rf Ext.rf (hTo.at 1 rfl).2 (by decide) hrd_404 hup_405).1 tok (hTo.at 2 rfl).1 6 (hTo.at 2 rfl).2 3 (by decide)).trans hk_397
          have hk_411 : rd f_403 o 3 = .int tn := ((Fr.put (cs := [(5, 4)]) (a := o) (ci := 5) Fr.rf Ext.rf (hTo.at 1 rfl).2 (by decide) hrd_404 hup_405).1 o (hTo.at 1 rfl).1 5 (hTo.at 1 rfl).2 3 (by decide)).trans hk_398
          have hk_412 : rd f_403 o 4 = .int 0 := (hrd_404 o 4).trans (if_pos ⟨rfl, rfl⟩)
          have hg3 : (if Kp tt ln (gnu (Kp tt ln) (Vp tt ln) (nq tt ln) 0 5 (gpa (Kp tt ln) (nq tt ln) (Kp tt ln q.1) (grf 1 q))).1 = 60 then (60 : Int32) else 61) = 61 := if_neg (by rw [← hrq_389.K]; exact c_402)
          refine lv_aload_n hx hb dX2_readTest_85 rfl (lv_at hl 0 rfl) ?_
          refine lv_aload_n hx hb dX2_readTest_86 rfl (lv_at hl 1 rfl) ?_
          refine T_get (ci := 5) (C := RX5) (T := TX5) (N := 8) (t := tI) hx hb hts inw_X2_readTest_5 hown hK hP hT 1 rfl rfl 4 (by decide) (hts (.fieldLink RX2 97 "VatHouse$Step" "below" "Z") (by decide +kernel)) (fun _ h9 => h9) rfl dX2_readTest_87 (fun v_415 hv_413 hr_414 => ?_)
          obtain rfl : v_415 = .int 0 := hr_414.symm.trans hk_412
          refine lv_if_eq (tgt := 98) hx hb dX2_readTest_90 (by decide) (fun c_416 => ?_) (fun c_416 => ?_)
          rotate_left
          · exact absurd c_416 (by decide)
          refine lv_bipush (v := 61) hx hb dX2_readTest_98 (by decide) ?_
          have hTo := hT
          refine K_V ⟨hx, hb, hml, hown, hts⟩ (t_X2_pass l dC dI sa hlt g _ _ tt ln M (gnu (Kp tt ln) (Vp tt ln) (nq tt ln) 0 5 (gpa (Kp tt ln) (nq tt ln) (Kp tt ln q.1) (grf 1 q))) h0 61 tok ka sta vaa ax_374 tn_375 fa_376 pw_377 zz _ (hT.sub [0, 2, 3, 4, 5] rfl)  hk_406 hk_407 hk_408 hk_409 hk_410 ((hF.1 h0 (hT0.at 0 rfl).1 2 (hT0.at 0 rfl).2 0 (by decide)).trans h_tok) ((hF.1 tok (hT0.at 2 rfl).1 6 (hT0.at 2 rfl).2 4 (by decide)).trans h_ka) ((hF.1 tok (hT0.at 2 rfl).1 6 (hT0.at 2 rfl).2 5 (by decide)).trans h_sta) ((hF.1 tok (hT0.at 2 rfl).1 6 (hT0.at 2 rfl).2 6 (by decide)).trans h_vaa) hzz (hTK.go (hF.2 ka (hT0.at 3 rfl).1 0 _ _ (hT0.at 3 rfl).2 (by decide)) (hF.2 sta (hT0.at 4 rfl).1 0 _ _ (hT0.at 4 rfl).2 (by decide)) (hF.2 vaa (hT0.at 5 rfl).1 0 _ _ (hT0.at 5 rfl).2 (by decide))) hrq_389 (Or.inl (by decide))) (cwV 1 hts gX2_readTest_X2_pass rfl rfl rfl (by decide +kernel) ⟨Nat.le_of_ble_eq_true rfl, Nat.le_of_ble_eq_true rfl⟩) hP hD hK hS hA hev hT 0 2 rfl rfl rfl rfl hl.1 rfl (Nat.le_of_ble_eq_true rfl) dX2_readTest_100 ⟨Nat.le_of_ble_eq_true rfl, Nat.le_of_ble_eq_true rfl⟩ (fun r L_417 f_418 H locs hw_419 hP hD hS hT hE1 => ?_)
          have hF := Fr.call hF hE hw_419.2.1 (by decide)
          have hE := hE.tr hE1
          obtain ⟨rfl, hw_419⟩ := hw_419
          obtain ⟨hfr_420, ax_421, tn_422, fa_423, pw_424, hk_425, hk_426, hk_427, hk_428, hrel_429, hrel_430, hrel_431, hrel_432, hex_433⟩ := hw_419
          have hk_434 : rd f_418 tok 3 = .int zz := (hfr_420.1 tok (hTo.at 2 rfl).1 6 (hTo.at 2 rfl).2 3 (by decide)).trans hk_410
          have hk_435 : rd f_418 o 3 = .int tn := (hfr_420.1 o (hTo.at 1 rfl).1 5 (hTo.at 1 rfl).2 3 (by decide)).trans hk_411
          have hk_436 : rd f_418 o 4 = .int 0 := (hfr_420.1 o (hTo.at 1 rfl).1 5 (hTo.at 1 rfl).2 4 (by decide)).trans hk_412
          have hrq_437 := hex_433
          refine W.eq (g2 := F0 m 103 ls []) rfl ?_
          refine lv_aload_n hx hb dX2_readTest_103 rfl (lv_at hl 1 rfl) ?_
          refine lv_aload_n hx hb dX2_readTest_104 rfl (lv_at hl 0 rfl) ?_
          refine lv_iconst (v := 0) hx hb dX2_readTest_105 (by decide) ?_
          refine lv_sipush (v := 9999) hx hb dX2_readTest_106 (by decide) ?_
          have hTo := hT
          refine K_V ⟨hx, hb, hml, hown, hts⟩ (t_X2_readNumber l dC dI sa hlt g _ _ tt ln M (gpa (Kp tt ln) (nq tt ln) 61 (gnu (Kp tt ln) (Vp tt ln) (nq tt ln) 0 5 (gpa (Kp tt ln) (nq tt ln) (Kp tt ln q.1) (grf 1 q)))) h0 0 9999 tok ka sta vaa ax_421 tn_422 fa_423 pw_424 zz _ (hT.sub [0, 2, 3, 4, 5] rfl)  hk_425 hk_426 hk_427 hk_428 hk_434 ((hF.1 h0 (hT0.at 0 rfl).1 2 (hT0.at 0 rfl).2 0 (by decide)).trans h_tok) ((hF.1 tok (hT0.at 2 rfl).1 6 (hT0.at 2 rfl).2 4 (by decide)).trans h_ka) ((hF.1 tok (hT0.at 2 rfl).1 6 (hT0.at 2 rfl).2 5 (by decide)).trans h_sta) ((hF.1 tok (hT0.at 2 rfl).1 6 (hT0.at 2 rfl).2 6 (by decide)).trans h_vaa) hzz (hTK.go (hF.2 ka (hT0.at 3 rfl).1 0 _ _ (hT0.at 3 rfl).2 (by decide)) (hF.2 sta (hT0.at 4 rfl).1 0 _ _ (hT0.at 4 rfl).2 (by decide)) (hF.2 vaa (hT0.at 5 rfl).1 0 _ _ (hT0.at 5 rfl).2 (by decide))) hrq_437) (cwV 2 hts gX2_readTest_X2_readNumber rfl rfl rfl (by decide +kernel) ⟨Nat.le_of_ble_eq_true rfl, Nat.le_of_ble_eq_true rfl⟩) hP hD hK hS hA hev hT 0 2 rfl rfl rfl rfl hl.1 rfl (Nat.le_of_ble_eq_true rfl) dX2_readTest_109 ⟨Nat.le_of_ble_eq_true rfl, Nat.le_of_ble_eq_true rfl⟩ (fun r L_438 f_439 H locs hw_440 hP hD hS hT hE1 => ?_)
          have hF := Fr.call hF hE hw_440.2.1 (by decide)
          have hE := hE.tr hE1
          obtain ⟨⟨z_441, rfl⟩, hw_440⟩ := hw_440
          obtain ⟨hfr_442, ax_443, tn_444, fa_445, pw_446, hk_447, hk_448, hk_449, hk_450, hrel_451, hrel_452, hrel_453, hrel_454, hex_455⟩ := hw_440
          have hk_456 : rd f_439 tok 3 = .int zz := (hfr_442.1 tok (hTo.at 2 rfl).1 6 (hTo.at 2 rfl).2 3 (by decide)).trans hk_434
          have hk_457 : rd f_439 o 3 = .int tn := (hfr_442.1 o (hTo.at 1 rfl).1 5 (hTo.at 1 rfl).2 3 (by decide)).trans hk_435
          have hk_458 : rd f_439 o 4 = .int 0 := (hfr_442.1 o (hTo.at 1 rfl).1 5 (hTo.at 1 rfl).2 4 (by decide)).trans hk_436
          have hrq_459 := hex_455.2
          refine W.eq (g2 := F0 m 112 ls [.int z_441, .ref o]) rfl ?_
          have hTo := hT
          refine T_put (ci := 5) (v := .int z_441) (ty := .int) (t := tI) (C := RX5) (T := TX5) (N := 8) hx hb hts inw_X2_readTest_5 tyX5 tyX5_ok nmX5 hown hK hP hD hS hT 1 rfl rfl 2 (by decide) (hts (.fieldLink RX2 79 "VatHouse$Step" "number" "I") (by decide +kernel)) (fun _ h9 => h9) rfl (by decide +kernel) rfl rfl rfl ⟨_, rfl⟩ dX2_readTest_112 (fun f_460 H locs hP hD hS hT hE1 hrd_461 hup_462 => ?_)
          have hF := Fr.put (a := o) (ci := 5) hF hE ((hE1 o (hT.at 1 rfl).1).2.symm.trans (hT.at 1 rfl).2) (by decide) hrd_461 hup_462
          have hE := hE.tr hE1
          have hk_463 : rd f_460 h0 1 = .int ax_443 := ((Fr.put (cs := [(5, 2)]) (a := o) (ci := 5) Fr.rf Ext.rf (hTo.at 1 rfl).2 (by decide) hrd_461 hup_462).1 h0 (hTo.at 0 rfl).1 2 (hTo.at 0 rfl).2 1 (by decide)).trans hk_447
          have hk_464 : rd f_460 h0 2 = .int tn_444 := ((Fr.put (cs := [(5, 2)]) (a := o) (ci := 5) Fr.rf Ext.rf (hTo.at 1 rfl).2 (by decide) hrd_461 hup_462).1 h0 (hTo.at 0 rfl).1 2 (hTo.at 0 rfl).2 2 (by decide)).trans hk_448
          have hk_465 : rd f_460 h0 3 = .int fa_445 := ((Fr.put (cs := [(5, 2)]) (a := o) (ci := 5) Fr.rf Ext.rf (hTo.at 1 rfl).2 (by decide) hrd_461 hup_462).1 h0 (hTo.at 0 rfl).1 2 (hTo.at 0 rfl).2 3 (by decide)).trans hk_449
          have hk_466 : rd f_460 h0 4 = .int pw_446 := ((Fr.put (cs := [(5, 2)]) (a := o) (ci := 5) Fr.rf Ext.rf (hTo.at 1 rfl).2 (by decide) hrd_461 hup_462).1 h0 (hTo.at 0 rfl).1 2 (hTo.at 0 rfl).2 4 (by decide)).trans hk_450
          have hk_467 : rd f_460 tok 3 = .int zz := ((Fr.put (cs := [(5, 2)]) (a := o) (ci := 5) Fr.rf Ext.rf (hTo.at 1 rfl).2 (by decide) hrd_461 hup_462).1 tok (hTo.at 2 rfl).1 6 (hTo.at 2 rfl).2 3 (by decide)).trans hk_456
          have hk_468 : rd f_460 o 3 = .int tn := ((Fr.put (cs := [(5, 2)]) (a := o) (ci := 5) Fr.rf Ext.rf (hTo.at 1 rfl).2 (by decide) hrd_461 hup_462).1 o (hTo.at 1 rfl).1 5 (hTo.at 1 rfl).2 3 (by decide)).trans hk_457
          have hk_469 : rd f_460 o 4 = .int 0 := ((Fr.put (cs := [(5, 2)]) (a := o) (ci := 5) Fr.rf Ext.rf (hTo.at 1 rfl).2 (by decide) hrd_461 hup_462).1 o (hTo.at 1 rfl).1 5 (hTo.at 1 rfl).2 4 (by decide)).trans hk_458
          exact K_v hx hb hr hlocks hP hD hK hS hT hE ⟨rfl, hF, _, _, _, _, hk_463, hk_464, hk_465, hk_466, trivial, trivial, fun h9 => (absurd ((hrel_49 (hrel_384 ((hrel_431 (hrel_453 h9)).1))).1) hrel_13), trivial, (gte_b hg1 hg2 hg3) ▸ hrq_459⟩ (Nat.le_of_ble_eq_true rfl) (Nat.le_of_ble_eq_true rfl) dX2_readTest_115
        · refine lv_iconst (v := 1) hx hb dX2_readTest_77 (by decide) ?_
          refine lv_goto (tgt := 82) hx hb dX2_readTest_78 (by decide) ?_
          have hTo := hT
          refine T_put (ci := 5) (v := .int 1) (ty := .boolean) (t := tI) (C := RX5) (T := TX5) (N := 8) hx hb hts inw_X2_readTest_5 tyX5 tyX5_ok nmX5 hown hK hP hD hS hT 1 rfl rfl 4 (by decide) (hts (.fieldLink RX2 97 "VatHouse$Step" "below" "Z") (by decide +kernel)) (fun _ h9 => h9) rfl (by decide +kernel) rfl rfl rfl ⟨_, rfl⟩ dX2_readTest_82 (fun f_470 H locs hP hD hS hT hE1 hrd_471 hup_472 => ?_)
          have hF := Fr.put (a := o) (ci := 5) hF hE ((hE1 o (hT.at 1 rfl).1).2.symm.trans (hT.at 1 rfl).2) (by decide) hrd_471 hup_472
          have hE := hE.tr hE1
          have hk_473 : rd f_470 h0 1 = .int ax_374 := ((Fr.put (cs := [(5, 4)]) (a := o) (ci := 5) Fr.rf Ext.rf (hTo.at 1 rfl).2 (by decide) hrd_471 hup_472).1 h0 (hTo.at 0 rfl).1 2 (hTo.at 0 rfl).2 1 (by decide)).trans hk_393
          have hk_474 : rd f_470 h0 2 = .int tn_375 := ((Fr.put (cs := [(5, 4)]) (a := o) (ci := 5) Fr.rf Ext.rf (hTo.at 1 rfl).2 (by decide) hrd_471 hup_472).1 h0 (hTo.at 0 rfl).1 2 (hTo.at 0 rfl).2 2 (by decide)).trans hk_394
          have hk_475 : rd f_470 h0 3 = .int fa_376 := ((Fr.put (cs := [(5, 4)]) (a := o) (ci := 5) Fr.rf Ext.rf (hTo.at 1 rfl).2 (by decide) hrd_471 hup_472).1 h0 (hTo.at 0 rfl).1 2 (hTo.at 0 rfl).2 3 (by decide)).trans hk_395
          have hk_476 : rd f_470 h0 4 = .int pw_377 := ((Fr.put (cs := [(5, 4)]) (a := o) (ci := 5) Fr.rf Ext.rf (hTo.at 1 rfl).2 (by decide) hrd_471 hup_472).1 h0 (hTo.at 0 rfl).1 2 (hTo.at 0 rfl).2 4 (by decide)).trans hk_396
          have hk_477 : rd f_470 tok 3 = .int zz := ((Fr.put (cs := [(5, 4)]) (a := o) (ci := 5) Fr.rf Ext.rf (hTo.at 1 rfl).2 (by decide) hrd_471 hup_472).1 tok (hTo.at 2 rfl).1 6 (hTo.at 2 rfl).2 3 (by decide)).trans hk_397
          have hk_478 : rd f_470 o 3 = .int tn := ((Fr.put (cs := [(5, 4)]) (a := o) (ci := 5) Fr.rf Ext.rf (hTo.at 1 rfl).2 (by decide) hrd_471 hup_472).1 o (hTo.at 1 rfl).1 5 (hTo.at 1 rfl).2 3 (by decide)).trans hk_398
          have hk_479 : rd f_470 o 4 = .int 1 := (hrd_471 o 4).trans (if_pos ⟨rfl, rfl⟩)
          have hg3 : (if Kp tt ln (gnu (Kp tt ln) (Vp tt ln) (nq tt ln) 0 5 (gpa (Kp tt ln) (nq tt ln) (Kp tt ln q.1) (grf 1 q))).1 = 60 then (60 : Int32) else 61) = 60 := if_pos (by rw [← hrq_389.K]; exact c_402)
          refine lv_aload_n hx hb dX2_readTest_85 rfl (lv_at hl 0 rfl) ?_
          refine lv_aload_n hx hb dX2_readTest_86 rfl (lv_at hl 1 rfl) ?_
          refine T_get (ci := 5) (C := RX5) (T := TX5) (N := 8) (t := tI) hx hb hts inw_X2_readTest_5 hown hK hP hT 1 rfl rfl 4 (by decide) (hts (.fieldLink RX2 97 "VatHouse$Step" "below" "Z") (by decide +kernel)) (fun _ h9 => h9) rfl dX2_readTest_87 (fun v_482 hv_480 hr_481 => ?_)
          obtain rfl : v_482 = .int 1 := hr_481.symm.trans hk_479
          refine lv_if_eq (tgt := 98) hx hb dX2_readTest_90 (by decide) (fun c_483 => ?_) (fun c_483 => ?_)
          · exact absurd c_483 (by decide)
          refine lv_bipush (v := 60) hx hb dX2_readTest_93 (by decide) ?_
          refine lv_goto (tgt := 100) hx hb dX2_readTest_95 (by decide) ?_
          have hTo := hT
          refine K_V ⟨hx, hb, hml, hown, hts⟩ (t_X2_pass l dC dI sa hlt g _ _ tt ln M (gnu (Kp tt ln) (Vp tt ln) (nq tt ln) 0 5 (gpa (Kp tt ln) (nq tt ln) (Kp tt ln q.1) (grf 1 q))) h0 60 tok ka sta vaa ax_374 tn_375 fa_376 pw_377 zz _ (hT.sub [0, 2, 3, 4, 5] rfl)  hk_473 hk_474 hk_475 hk_476 hk_477 ((hF.1 h0 (hT0.at 0 rfl).1 2 (hT0.at 0 rfl).2 0 (by decide)).trans h_tok) ((hF.1 tok (hT0.at 2 rfl).1 6 (hT0.at 2 rfl).2 4 (by decide)).trans h_ka) ((hF.1 tok (hT0.at 2 rfl).1 6 (hT0.at 2 rfl).2 5 (by decide)).trans h_sta) ((hF.1 tok (hT0.at 2 rfl).1 6 (hT0.at 2 rfl).2 6 (by decide)).trans h_vaa) hzz (hTK.go (hF.2 ka (hT0.at 3 rfl).1 0 _ _ (hT0.at 3 rfl).2 (by decide)) (hF.2 sta (hT0.at 4 rfl).1 0 _ _ (hT0.at 4 rfl).2 (by decide)) (hF.2 vaa (hT0.at 5 rfl).1 0 _ _ (hT0.at 5 rfl).2 (by decide))) hrq_389 (Or.inl (by decide))) (cwV 1 hts gX2_readTest_X2_pass rfl rfl rfl (by decide +kernel) ⟨Nat.le_of_ble_eq_true rfl, Nat.le_of_ble_eq_true rfl⟩) hP hD hK hS hA hev hT 0 2 rfl rfl rfl rfl hl.1 rfl (Nat.le_of_ble_eq_true rfl) dX2_readTest_100 ⟨Nat.le_of_ble_eq_true rfl, Nat.le_of_ble_eq_true rfl⟩ (fun r L_484 f_485 H locs hw_486 hP hD hS hT hE1 => ?_)
          have hF := Fr.call hF hE hw_486.2.1 (by decide)
          have hE := hE.tr hE1
          obtain ⟨rfl, hw_486⟩ := hw_486
          obtain ⟨hfr_487, ax_488, tn_489, fa_490, pw_491, hk_492, hk_493, hk_494, hk_495, hrel_496, hrel_497, hrel_498, hrel_499, hex_500⟩ := hw_486
          have hk_501 : rd f_485 tok 3 = .int zz := (hfr_487.1 tok (hTo.at 2 rfl).1 6 (hTo.at 2 rfl).2 3 (by decide)).trans hk_477
          have hk_502 : rd f_485 o 3 = .int tn := (hfr_487.1 o (hTo.at 1 rfl).1 5 (hTo.at 1 rfl).2 3 (by decide)).trans hk_478
          have hk_503 : rd f_485 o 4 = .int 1 := (hfr_487.1 o (hTo.at 1 rfl).1 5 (hTo.at 1 rfl).2 4 (by decide)).trans hk_479
          have hrq_504 := hex_500
          refine W.eq (g2 := F0 m 103 ls []) rfl ?_
          refine lv_aload_n hx hb dX2_readTest_103 rfl (lv_at hl 1 rfl) ?_
          refine lv_aload_n hx hb dX2_readTest_104 rfl (lv_at hl 0 rfl) ?_
          refine lv_iconst (v := 0) hx hb dX2_readTest_105 (by decide) ?_
          refine lv_sipush (v := 9999) hx hb dX2_readTest_106 (by decide) ?_
          have hTo := hT
          refine K_V ⟨hx, hb, hml, hown, hts⟩ (t_X2_readNumber l dC dI sa hlt g _ _ tt ln M (gpa (Kp tt ln) (nq tt ln) 60 (gnu (Kp tt ln) (Vp tt ln) (nq tt ln) 0 5 (gpa (Kp tt ln) (nq tt ln) (Kp tt ln q.1) (grf 1 q)))) h0 0 9999 tok ka sta vaa ax_488 tn_489 fa_490 pw_491 zz _ (hT.sub [0, 2, 3, 4, 5] rfl)  hk_492 hk_493 hk_494 hk_495 hk_501 ((hF.1 h0 (hT0.at 0 rfl).1 2 (hT0.at 0 rfl).2 0 (by decide)).trans h_tok) ((hF.1 tok (hT0.at 2 rfl).1 6 (hT0.at 2 rfl).2 4 (by decide)).trans h_ka) ((hF.1 tok (hT0.at 2 rfl).1 6 (hT0.at 2 rfl).2 5 (by decide)).trans h_sta) ((hF.1 tok (hT0.at 2 rfl).1 6 (hT0.at 2 rfl).2 6 (by decide)).trans h_vaa) hzz (hTK.go (hF.2 ka (hT0.at 3 rfl).1 0 _ _ (hT0.at 3 rfl).2 (by decide)) (hF.2 sta (hT0.at 4 rfl).1 0 _ _ (hT0.at 4 rfl).2 (by decide)) (hF.2 vaa (hT0.at 5 rfl).1 0 _ _ (hT0.at 5 rfl).2 (by decide))) hrq_504) (cwV 2 hts gX2_readTest_X2_readNumber rfl rfl rfl (by decide +kernel) ⟨Nat.le_of_ble_eq_true rfl, Nat.le_of_ble_eq_true rfl⟩) hP hD hK hS hA hev hT 0 2 rfl rfl rfl rfl hl.1 rfl (Nat.le_of_ble_eq_true rfl) dX2_readTest_109 ⟨Nat.le_of_ble_eq_true rfl, Nat.le_of_ble_eq_true rfl⟩ (fun r L_505 f_506 H locs hw_507 hP hD hS hT hE1 => ?_)
          have hF := Fr.call hF hE hw_507.2.1 (by decide)
          have hE := hE.tr hE1
          obtain ⟨⟨z_508, rfl⟩, hw_507⟩ := hw_507
          obtain ⟨hfr_509, ax_510, tn_511, fa_512, pw_513, hk_514, hk_515, hk_516, hk_517, hrel_518, hrel_519, hrel_520, hrel_521, hex_522⟩ := hw_507
          have hk_523 : rd f_506 tok 3 = .int zz := (hfr_509.1 tok (hTo.at 2 rfl).1 6 (hTo.at 2 rfl).2 3 (by decide)).trans hk_501
          have hk_524 : rd f_506 o 3 = .int tn := (hfr_509.1 o (hTo.at 1 rfl).1 5 (hTo.at 1 rfl).2 3 (by decide)).trans hk_502
          have hk_525 : rd f_506 o 4 = .int 1 := (hfr_509.1 o (hTo.at 1 rfl).1 5 (hTo.at 1 rfl).2 4 (by decide)).trans hk_503
          have hrq_526 := hex_522.2
          refine W.eq (g2 := F0 m 112 ls [.int z_508, .ref o]) rfl ?_
          have hTo := hT
          refine T_put (ci := 5) (v := .int z_508) (ty := .int) (t := tI) (C := RX5) (T := TX5) (N := 8) hx hb hts inw_X2_readTest_5 tyX5 tyX5_ok nmX5 hown hK hP hD hS hT 1 rfl rfl 2 (by decide) (hts (.fieldLink RX2 79 "VatHouse$Step" "number" "I") (by decide +kernel)) (fun _ h9 => h9) rfl (by decide +kernel) rfl rfl rfl ⟨_, rfl⟩ dX2_readTest_112 (fun f_527 H locs hP hD hS hT hE1 hrd_528 hup_529 => ?_)
          have hF := Fr.put (a := o) (ci := 5) hF hE ((hE1 o (hT.at 1 rfl).1).2.symm.trans (hT.at 1 rfl).2) (by decide) hrd_528 hup_529
          have hE := hE.tr hE1
          have hk_530 : rd f_527 h0 1 = .int ax_510 := ((Fr.put (cs := [(5, 2)]) (a := o) (ci := 5) Fr.rf Ext.rf (hTo.at 1 rfl).2 (by decide) hrd_528 hup_529).1 h0 (hTo.at 0 rfl).1 2 (hTo.at 0 rfl).2 1 (by decide)).trans hk_514
          have hk_531 : rd f_527 h0 2 = .int tn_511 := ((Fr.put (cs := [(5, 2)]) (a := o) (ci := 5) Fr.rf Ext.rf (hTo.at 1 rfl).2 (by decide) hrd_528 hup_529).1 h0 (hTo.at 0 rfl).1 2 (hTo.at 0 rfl).2 2 (by decide)).trans hk_515
          have hk_532 : rd f_527 h0 3 = .int fa_512 := ((Fr.put (cs := [(5, 2)]) (a := o) (ci := 5) Fr.rf Ext.rf (hTo.at 1 rfl).2 (by decide) hrd_528 hup_529).1 h0 (hTo.at 0 rfl).1 2 (hTo.at 0 rfl).2 3 (by decide)).trans hk_516
          have hk_533 : rd f_527 h0 4 = .int pw_513 := ((Fr.put (cs := [(5, 2)]) (a := o) (ci := 5) Fr.rf Ext.rf (hTo.at 1 rfl).2 (by decide) hrd_528 hup_529).1 h0 (hTo.at 0 rfl).1 2 (hTo.at 0 rfl).2 4 (by decide)).trans hk_517
          have hk_534 : rd f_527 tok 3 = .int zz := ((Fr.put (cs := [(5, 2)]) (a := o) (ci := 5) Fr.rf Ext.rf (hTo.at 1 rfl).2 (by decide) hrd_528 hup_529).1 tok (hTo.at 2 rfl).1 6 (hTo.at 2 rfl).2 3 (by decide)).trans hk_523
          have hk_535 : rd f_527 o 3 = .int tn := ((Fr.put (cs := [(5, 2)]) (a := o) (ci := 5) Fr.rf Ext.rf (hTo.at 1 rfl).2 (by decide) hrd_528 hup_529).1 o (hTo.at 1 rfl).1 5 (hTo.at 1 rfl).2 3 (by decide)).trans hk_524
          have hk_536 : rd f_527 o 4 = .int 1 := ((Fr.put (cs := [(5, 2)]) (a := o) (ci := 5) Fr.rf Ext.rf (hTo.at 1 rfl).2 (by decide) hrd_528 hup_529).1 o (hTo.at 1 rfl).1 5 (hTo.at 1 rfl).2 4 (by decide)).trans hk_525
          exact K_v hx hb hr hlocks hP hD hK hS hT hE ⟨rfl, hF, _, _, _, _, hk_530, hk_531, hk_532, hk_533, trivial, trivial, fun h9 => (absurd ((hrel_49 (hrel_384 ((hrel_498 (hrel_520 h9)).1))).1) hrel_13), trivial, (gte_b hg1 hg2 hg3) ▸ hrq_526⟩ (Nat.le_of_ble_eq_true rfl) (Nat.le_of_ble_eq_true rfl) dX2_readTest_115
  · refine lv_aload_n hx hb dX2_readTest_9 rfl (lv_at hl 0 rfl) ?_
    refine T_get (ci := 2) (C := RX2) (T := TX2) (N := 6) (t := tI) hx hb hts inw_X2_readTest_2 hown hK hP hT 0 rfl rfl 2 (by decide) (hts (.fieldLink RX2 44 "VatHouse$Reader" "token" "I") (by decide +kernel)) (fun _ h9 => h9) rfl dX2_readTest_10 (fun v_539 hv_537 hr_538 => ?_)
    obtain rfl : v_539 = .int tn := hr_538.symm.trans hm_tn
    refine lv_bipush (v := 19) hx hb dX2_readTest_13 (by decide) ?_
    refine lv_icmp_le (tgt := 23) hx hb dX2_readTest_15 (by decide) (fun c_540 => ?_) (fun c_540 => ?_)
    · have hg1 : (if Kp tt ln q.1 < 15 ∨ 19 < Kp tt ln q.1 then grf 1 q else q) = q := if_neg (by rw [← hRQ.K]; rintro (h9 | h9); exact c_4 h9; exact nlt_of_le c_540 h9)
      refine lv_aload_n hx hb dX2_readTest_23 rfl (lv_at hl 1 rfl) ?_
      refine lv_aload_n hx hb dX2_readTest_24 rfl (lv_at hl 0 rfl) ?_
      refine T_get (ci := 2) (C := RX2) (T := TX2) (N := 6) (t := tI) hx hb hts inw_X2_readTest_2 hown hK hP hT 0 rfl rfl 2 (by decide) (hts (.fieldLink RX2 44 "VatHouse$Reader" "token" "I") (by decide +kernel)) (fun _ h9 => h9) rfl dX2_readTest_25 (fun v_543 hv_541 hr_542 => ?_)
      obtain rfl : v_543 = .int tn := hr_542.symm.trans hm_tn
      have hTo := hT
      refine T_put (ci := 5) (v := .int tn) (ty := .int) (t := tI) (C := RX5) (T := TX5) (N := 8) hx hb hts inw_X2_readTest_5 tyX5 tyX5_ok nmX5 hown hK hP hD hS hT 1 rfl rfl 3 (by decide) (hts (.fieldLink RX2 94 "VatHouse$Step" "look" "I") (by decide +kernel)) (fun _ h9 => h9) rfl (by decide +kernel) rfl rfl rfl ⟨_, rfl⟩ dX2_readTest_28 (fun f_544 H locs hP hD hS hT hE1 hrd_545 hup_546 => ?_)
      have hF := Fr.put (a := o) (ci := 5) hF hE ((hE1 o (hT.at 1 rfl).1).2.symm.trans (hT.at 1 rfl).2) (by decide) hrd_545 hup_546
      have hE := hE.tr hE1
      have hk_547 : rd f_544 h0 1 = .int ax := ((Fr.put (cs := [(5, 3)]) (a := o) (ci := 5) Fr.rf Ext.rf (hTo.at 1 rfl).2 (by decide) hrd_545 hup_546).1 h0 (hTo.at 0 rfl).1 2 (hTo.at 0 rfl).2 1 (by decide)).trans hm_ax
      have hk_548 : rd f_544 h0 2 = .int tn := ((Fr.put (cs := [(5, 3)]) (a := o) (ci := 5) Fr.rf Ext.rf (hTo.at 1 rfl).2 (by decide) hrd_545 hup_546).1 h0 (hTo.at 0 rfl).1 2 (hTo.at 0 rfl).2 2 (by decide)).trans hm_tn
      have hk_549 : rd f_544 h0 3 = .int fa := ((Fr.put (cs := [(5, 3)]) (a := o) (ci := 5) Fr.rf Ext.rf (hTo.at 1 rfl).2 (by decide) hrd_545 hup_546).1 h0 (hTo.at 0 rfl).1 2 (hTo.at 0 rfl).2 3 (by decide)).trans hm_fa
      have hk_550 : rd f_544 h0 4 = .int pw := ((Fr.put (cs := [(5, 3)]) (a := o) (ci := 5) Fr.rf Ext.rf (hTo.at 1 rfl).2 (by decide) hrd_545 hup_546).1 h0 (hTo.at 0 rfl).1 2 (hTo.at 0 rfl).2 4 (by decide)).trans hm_pw
      have hk_551 : rd f_544 tok 3 = .int zz := ((Fr.put (cs := [(5, 3)]) (a := o) (ci := 5) Fr.rf Ext.rf (hTo.at 1 rfl).2 (by decide) hrd_545 hup_546).1 tok (hTo.at 2 rfl).1 6 (hTo.at 2 rfl).2 3 (by decide)).trans hm_zz
      have hk_552 : rd f_544 o 3 = .int tn := (hrd_545 o 3).trans (if_pos ⟨rfl, rfl⟩)
      refine lv_aload_n hx hb dX2_readTest_31 rfl (lv_at hl 0 rfl) ?_
      refine lv_aload_n hx hb dX2_readTest_32 rfl (lv_at hl 0 rfl) ?_
      refine T_get (ci := 2) (C := RX2) (T := TX2) (N := 6) (t := tI) hx hb hts inw_X2_readTest_2 hown hK hP hT 0 rfl rfl 2 (by decide) (hts (.fieldLink RX2 44 "VatHouse$Reader" "token" "I") (by decide +kernel)) (fun _ h9 => h9) rfl dX2_readTest_33 (fun v_555 hv_553 hr_554 => ?_)
      obtain rfl : v_555 = .int tn := hr_554.symm.trans hk_548
      have hTo := hT
      refine K_V ⟨hx, hb, hml, hown, hts⟩ (t_X2_pass l dC dI sa hlt g _ _ tt ln M q h0 tn tok ka sta vaa ax tn fa pw zz _ (hT.sub [0, 2, 3, 4, 5] rfl)  hk_547 hk_548 hk_549 hk_550 hk_551 ((hF.1 h0 (hT0.at 0 rfl).1 2 (hT0.at 0 rfl).2 0 (by decide)).trans h_tok) ((hF.1 tok (hT0.at 2 rfl).1 6 (hT0.at 2 rfl).2 4 (by decide)).trans h_ka) ((hF.1 tok (hT0.at 2 rfl).1 6 (hT0.at 2 rfl).2 5 (by decide)).trans h_sta) ((hF.1 tok (hT0.at 2 rfl).1 6 (hT0.at 2 rfl).2 6 (by decide)).trans h_vaa) hzz (hTK.go (hF.2 ka (hT0.at 3 rfl).1 0 _ _ (hT0.at 3 rfl).2 (by decide)) (hF.2 sta (hT0.at 4 rfl).1 0 _ _ (hT0.at 4 rfl).2 (by decide)) (hF.2 vaa (hT0.at 5 rfl).1 0 _ _ (hT0.at 5 rfl).2 (by decide))) hRQ (Or.inl (fun h9 => absurd (h9 ▸ c_4 : ¬ (0 : Int32) < 15) (by decide)))) (cwV 1 hts gX2_readTest_X2_pass rfl rfl rfl (by decide +kernel) ⟨Nat.le_of_ble_eq_true rfl, Nat.le_of_ble_eq_true rfl⟩) hP hD hK hS hA hev hT 0 2 rfl rfl rfl rfl hl.1 rfl (Nat.le_of_ble_eq_true rfl) dX2_readTest_36 ⟨Nat.le_of_ble_eq_true rfl, Nat.le_of_ble_eq_true rfl⟩ (fun r L_556 f_557 H locs hw_558 hP hD hS hT hE1 => ?_)
      have hF := Fr.call hF hE hw_558.2.1 (by decide)
      have hE := hE.tr hE1
      obtain ⟨rfl, hw_558⟩ := hw_558
      obtain ⟨hfr_559, ax_560, tn_561, fa_562, pw_563, hk_564, hk_565, hk_566, hk_567, hrel_568, hrel_569, hrel_570, hrel_571, hex_572⟩ := hw_558
      have hk_573 : rd f_557 tok 3 = .int zz := (hfr_559.1 tok (hTo.at 2 rfl).1 6 (hTo.at 2 rfl).2 3 (by decide)).trans hk_551
      have hk_574 : rd f_557 o 3 = .int tn := (hfr_559.1 o (hTo.at 1 rfl).1 5 (hTo.at 1 rfl).2 3 (by decide)).trans hk_552
      have hrq_575 : RQ tt ln M (gpa (Kp tt ln) (nq tt ln) (Kp tt ln q.1) q) ax_560 tn_561 fa_562 pw_563 := hRQ.K ▸ hex_572
      refine W.eq (g2 := F0 m 39 ls []) rfl ?_
      refine lv_aload_n hx hb dX2_readTest_39 rfl (lv_at hl 1 rfl) ?_
      refine T_get (ci := 5) (C := RX5) (T := TX5) (N := 8) (t := tI) hx hb hts inw_X2_readTest_5 hown hK hP hT 1 rfl rfl 3 (by decide) (hts (.fieldLink RX2 94 "VatHouse$Step" "look" "I") (by decide +kernel)) (fun _ h9 => h9) rfl dX2_readTest_40 (fun v_578 hv_576 hr_577 => ?_)
      obtain rfl : v_578 = .int tn := hr_577.symm.trans hk_574
      refine lv_bipush (v := 17) hx hb dX2_readTest_43 (by decide) ?_
      refine lv_icmp_eq (tgt := 57) hx hb dX2_readTest_45 (by decide) (fun c_579 => ?_) (fun c_579 => ?_)
      · refine lv_aload_n hx hb dX2_readTest_57 rfl (lv_at hl 1 rfl) ?_
        refine lv_aload_n hx hb dX2_readTest_58 rfl (lv_at hl 0 rfl) ?_
        refine lv_iconst (v := 0) hx hb dX2_readTest_59 (by decide) ?_
        refine lv_iconst (v := 5) hx hb dX2_readTest_60 (by decide) ?_
        have hTo := hT
        refine K_V ⟨hx, hb, hml, hown, hts⟩ (t_X2_readNumber l dC dI sa hlt g _ _ tt ln M (gpa (Kp tt ln) (nq tt ln) (Kp tt ln q.1) q) h0 0 5 tok ka sta vaa ax_560 tn_561 fa_562 pw_563 zz _ (hT.sub [0, 2, 3, 4, 5] rfl)  hk_564 hk_565 hk_566 hk_567 hk_573 ((hF.1 h0 (hT0.at 0 rfl).1 2 (hT0.at 0 rfl).2 0 (by decide)).trans h_tok) ((hF.1 tok (hT0.at 2 rfl).1 6 (hT0.at 2 rfl).2 4 (by decide)).trans h_ka) ((hF.1 tok (hT0.at 2 rfl).1 6 (hT0.at 2 rfl).2 5 (by decide)).trans h_sta) ((hF.1 tok (hT0.at 2 rfl).1 6 (hT0.at 2 rfl).2 6 (by decide)).trans h_vaa) hzz (hTK.go (hF.2 ka (hT0.at 3 rfl).1 0 _ _ (hT0.at 3 rfl).2 (by decide)) (hF.2 sta (hT0.at 4 rfl).1 0 _ _ (hT0.at 4 rfl).2 (by decide)) (hF.2 vaa (hT0.at 5 rfl).1 0 _ _ (hT0.at 5 rfl).2 (by decide))) hrq_575) (cwV 2 hts gX2_readTest_X2_readNumber rfl rfl rfl (by decide +kernel) ⟨Nat.le_of_ble_eq_true rfl, Nat.le_of_ble_eq_true rfl⟩) hP hD hK hS hA hev hT 0 2 rfl rfl rfl rfl hl.1 rfl (Nat.le_of_ble_eq_true rfl) dX2_readTest_61 ⟨Nat.le_of_ble_eq_true rfl, Nat.le_of_ble_eq_true rfl⟩ (fun r L_580 f_581 H locs hw_582 hP hD hS hT hE1 => ?_)
        have hF := Fr.call hF hE hw_582.2.1 (by decide)
        have hE := hE.tr hE1
        obtain ⟨⟨z_583, rfl⟩, hw_582⟩ := hw_582
        obtain ⟨hfr_584, ax_585, tn_586, fa_587, pw_588, hk_589, hk_590, hk_591, hk_592, hrel_593, hrel_594, hrel_595, hrel_596, hex_597⟩ := hw_582
        have hk_598 : rd f_581 tok 3 = .int zz := (hfr_584.1 tok (hTo.at 2 rfl).1 6 (hTo.at 2 rfl).2 3 (by decide)).trans hk_573
        have hk_599 : rd f_581 o 3 = .int tn := (hfr_584.1 o (hTo.at 1 rfl).1 5 (hTo.at 1 rfl).2 3 (by decide)).trans hk_574
        have hrq_600 := hex_597.2
        refine W.eq (g2 := F0 m 64 ls [.int z_583, .ref o]) rfl ?_
        have hTo := hT
        refine T_put (ci := 5) (v := .int z_583) (ty := .int) (t := tI) (C := RX5) (T := TX5) (N := 8) hx hb hts inw_X2_readTest_5 tyX5 tyX5_ok nmX5 hown hK hP hD hS hT 1 rfl rfl 1 (by decide) (hts (.fieldLink RX2 76 "VatHouse$Step" "vat" "I") (by decide +kernel)) (fun _ h9 => h9) rfl (by decide +kernel) rfl rfl rfl ⟨_, rfl⟩ dX2_readTest_64 (fun f_601 H locs hP hD hS hT hE1 hrd_602 hup_603 => ?_)
        have hF := Fr.put (a := o) (ci := 5) hF hE ((hE1 o (hT.at 1 rfl).1).2.symm.trans (hT.at 1 rfl).2) (by decide) hrd_602 hup_603
        have hE := hE.tr hE1
        have hk_604 : rd f_601 h0 1 = .int ax_585 := ((Fr.put (cs := [(5, 1)]) (a := o) (ci := 5) Fr.rf Ext.rf (hTo.at 1 rfl).2 (by decide) hrd_602 hup_603).1 h0 (hTo.at 0 rfl).1 2 (hTo.at 0 rfl).2 1 (by decide)).trans hk_589
        have hk_605 : rd f_601 h0 2 = .int tn_586 := ((Fr.put (cs := [(5, 1)]) (a := o) (ci := 5) Fr.rf Ext.rf (hTo.at 1 rfl).2 (by decide) hrd_602 hup_603).1 h0 (hTo.at 0 rfl).1 2 (hTo.at 0 rfl).2 2 (by decide)).trans hk_590
        have hk_606 : rd f_601 h0 3 = .int fa_587 := ((Fr.put (cs := [(5, 1)]) (a := o) (ci := 5) Fr.rf Ext.rf (hTo.at 1 rfl).2 (by decide) hrd_602 hup_603).1 h0 (hTo.at 0 rfl).1 2 (hTo.at 0 rfl).2 3 (by decide)).trans hk_591
        have hk_607 : rd f_601 h0 4 = .int pw_588 := ((Fr.put (cs := [(5, 1)]) (a := o) (ci := 5) Fr.rf Ext.rf (hTo.at 1 rfl).2 (by decide) hrd_602 hup_603).1 h0 (hTo.at 0 rfl).1 2 (hTo.at 0 rfl).2 4 (by decide)).trans hk_592
        have hk_608 : rd f_601 tok 3 = .int zz := ((Fr.put (cs := [(5, 1)]) (a := o) (ci := 5) Fr.rf Ext.rf (hTo.at 1 rfl).2 (by decide) hrd_602 hup_603).1 tok (hTo.at 2 rfl).1 6 (hTo.at 2 rfl).2 3 (by decide)).trans hk_598
        have hk_609 : rd f_601 o 3 = .int tn := ((Fr.put (cs := [(5, 1)]) (a := o) (ci := 5) Fr.rf Ext.rf (hTo.at 1 rfl).2 (by decide) hrd_602 hup_603).1 o (hTo.at 1 rfl).1 5 (hTo.at 1 rfl).2 3 (by decide)).trans hk_599
        have hg2 : gte2 (Kp tt ln) (Vp tt ln) (nq tt ln) (Kp tt ln q.1) (gpa (Kp tt ln) (nq tt ln) (Kp tt ln q.1) q) = (gnu (Kp tt ln) (Vp tt ln) (nq tt ln) 0 5 (gpa (Kp tt ln) (nq tt ln) (Kp tt ln q.1) q)) := if_pos (Or.inl (by rw [← hRQ.K]; exact c_579))
        refine lv_aload_n hx hb dX2_readTest_67 rfl (lv_at hl 1 rfl) ?_
        refine lv_aload_n hx hb dX2_readTest_68 rfl (lv_at hl 0 rfl) ?_
        refine T_get (ci := 2) (C := RX2) (T := TX2) (N := 6) (t := tI) hx hb hts inw_X2_readTest_2 hown hK hP hT 0 rfl rfl 2 (by decide) (hts (.fieldLink RX2 44 "VatHouse$Reader" "token" "I") (by decide +kernel)) (fun _ h9 => h9) rfl dX2_readTest_69 (fun v_612 hv_610 hr_611 => ?_)
        obtain rfl : v_612 = .int tn_586 := hr_611.symm.trans hk_605
        refine lv_bipush (v := 60) hx hb dX2_readTest_72 (by decide) ?_
        refine lv_icmp_ne (tgt := 81) hx hb dX2_readTest_74 (by decide) (fun c_613 => ?_) (fun c_613 => ?_)
        · refine lv_iconst (v := 0) hx hb dX2_readTest_81 (by decide) ?_
          have hTo := hT
          refine T_put (ci := 5) (v := .int 0) (ty := .boolean) (t := tI) (C := RX5) (T := TX5) (N := 8) hx hb hts inw_X2_readTest_5 tyX5 tyX5_ok nmX5 hown hK hP hD hS hT 1 rfl rfl 4 (by decide) (hts (.fieldLink RX2 97 "VatHouse$Step" "below" "Z") (by decide +kernel)) (fun _ h9 => h9) rfl (by decide +kernel) rfl rfl rfl ⟨_, rfl⟩ dX2_readTest_82 (fun f_614 H locs hP hD hS hT hE1 hrd_615 hup_616 => ?_)
          have hF := Fr.put (a := o) (ci := 5) hF hE ((hE1 o (hT.at 1 rfl).1).2.symm.trans (hT.at 1 rfl).2) (by decide) hrd_615 hup_616
          have hE := hE.tr hE1
          have hk_617 : rd f_614 h0 1 = .int ax_585 := ((Fr.put (cs := [(5, 4)]) (a := o) (ci := 5) Fr.rf Ext.rf (hTo.at 1 rfl).2 (by decide) hrd_615 hup_616).1 h0 (hTo.at 0 rfl).1 2 (hTo.at 0 rfl).2 1 (by decide)).trans hk_604
          have hk_618 : rd f_614 h0 2 = .int tn_586 := ((Fr.put (cs := [(5, 4)]) (a := o) (ci := 5) Fr.rf Ext.rf (hTo.at 1 rfl).2 (by decide) hrd_615 hup_616).1 h0 (hTo.at 0 rfl).1 2 (hTo.at 0 rfl).2 2 (by decide)).trans hk_605
          have hk_619 : rd f_614 h0 3 = .int fa_587 := ((Fr.put (cs := [(5, 4)]) (a := o) (ci := 5) Fr.rf Ext.rf (hTo.at 1 rfl).2 (by decide) hrd_615 hup_616).1 h0 (hTo.at 0 rfl).1 2 (hTo.at 0 rfl).2 3 (by decide)).trans hk_606
          have hk_620 : rd f_614 h0 4 = .int pw_588 := ((Fr.put (cs := [(5, 4)]) (a := o) (ci := 5) Fr.rf Ext.rf (hTo.at 1 rfl).2 (by decide) hrd_615 hup_616).1 h0 (hTo.at 0 rfl).1 2 (hTo.at 0 rfl).2 4 (by decide)).trans hk_607
          have hk_621 : rd f_614 tok 3 = .int zz := ((Fr.put (cs := [(5, 4)]) (a := o) (ci := 5) Fr.rf Ext.rf (hTo.at 1 rfl).2 (by decide) hrd_615 hup_616).1 tok (hTo.at 2 rfl).1 6 (hTo.at 2 rfl).2 3 (by decide)).trans hk_608
          have hk_622 : rd f_614 o 3 = .int tn := ((Fr.put (cs := [(5, 4)]) (a := o) (ci := 5) Fr.rf Ext.rf (hTo.at 1 rfl).2 (by decide) hrd_615 hup_616).1 o (hTo.at 1 rfl).1 5 (hTo.at 1 rfl).2 3 (by decide)).trans hk_609
          have hk_623 : rd f_614 o 4 = .int 0 := (hrd_615 o 4).trans (if_pos ⟨rfl, rfl⟩)
          have hg3 : (if Kp tt ln (gnu (Kp tt ln) (Vp tt ln) (nq tt ln) 0 5 (gpa (Kp tt ln) (nq tt ln) (Kp tt ln q.1) q)).1 = 60 then (60 : Int32) else 61) = 61 := if_neg (by rw [← hrq_600.K]; exact c_613)
          refine lv_aload_n hx hb dX2_readTest_85 rfl (lv_at hl 0 rfl) ?_
          refine lv_aload_n hx hb dX2_readTest_86 rfl (lv_at hl 1 rfl) ?_
          refine T_get (ci := 5) (C := RX5) (T := TX5) (N := 8) (t := tI) hx hb hts inw_X2_readTest_5 hown hK hP hT 1 rfl rfl 4 (by decide) (hts (.fieldLink RX2 97 "VatHouse$Step" "below" "Z") (by decide +kernel)) (fun _ h9 => h9) rfl dX2_readTest_87 (fun v_626 hv_624 hr_625 => ?_)
          obtain rfl : v_626 = .int 0 := hr_625.symm.trans hk_623
          refine lv_if_eq (tgt := 98) hx hb dX2_readTest_90 (by decide) (fun c_627 => ?_) (fun c_627 => ?_)
          rotate_left
          · exact absurd c_627 (by decide)
          refine lv_bipush (v := 61) hx hb dX2_readTest_98 (by decide) ?_
          have hTo := hT
          refine K_V ⟨hx, hb, hml, hown, hts⟩ (t_X2_pass l dC dI sa hlt g _ _ tt ln M (gnu (Kp tt ln) (Vp tt ln) (nq tt ln) 0 5 (gpa (Kp tt ln) (nq tt ln) (Kp tt ln q.1) q)) h0 61 tok ka sta vaa ax_585 tn_586 fa_587 pw_588 zz _ (hT.sub [0, 2, 3, 4, 5] rfl)  hk_617 hk_618 hk_619 hk_620 hk_621 ((hF.1 h0 (hT0.at 0 rfl).1 2 (hT0.at 0 rfl).2 0 (by decide)).trans h_tok) ((hF.1 tok (hT0.at 2 rfl).1 6 (hT0.at 2 rfl).2 4 (by decide)).trans h_ka) ((hF.1 tok (hT0.at 2 rfl).1 6 (hT0.at 2 rfl).2 5 (by decide)).trans h_sta) ((hF.1 tok (hT0.at 2 rfl).1 6 (hT0.at 2 rfl).2 6 (by decide)).trans h_vaa) hzz (hTK.go (hF.2 ka (hT0.at 3 rfl).1 0 _ _ (hT0.at 3 rfl).2 (by decide)) (hF.2 sta (hT0.at 4 rfl).1 0 _ _ (hT0.at 4 rfl).2 (by decide)) (hF.2 vaa (hT0.at 5 rfl).1 0 _ _ (hT0.at 5 rfl).2 (by decide))) hrq_600 (Or.inl (by decide))) (cwV 1 hts gX2_readTest_X2_pass rfl rfl rfl (by decide +kernel) ⟨Nat.le_of_ble_eq_true rfl, Nat.le_of_ble_eq_true rfl⟩) hP hD hK hS hA hev hT 0 2 rfl rfl rfl rfl hl.1 rfl (Nat.le_of_ble_eq_true rfl) dX2_readTest_100 ⟨Nat.le_of_ble_eq_true rfl, Nat.le_of_ble_eq_true rfl⟩ (fun r L_628 f_629 H locs hw_630 hP hD hS hT hE1 => ?_)
          have hF := Fr.call hF hE hw_630.2.1 (by decide)
          have hE := hE.tr hE1
          obtain ⟨rfl, hw_630⟩ := hw_630
          obtain ⟨hfr_631, ax_632, tn_633, fa_634, pw_635, hk_636, hk_637, hk_638, hk_639, hrel_640, hrel_641, hrel_642, hrel_643, hex_644⟩ := hw_630
          have hk_645 : rd f_629 tok 3 = .int zz := (hfr_631.1 tok (hTo.at 2 rfl).1 6 (hTo.at 2 rfl).2 3 (by decide)).trans hk_621
          have hk_646 : rd f_629 o 3 = .int tn := (hfr_631.1 o (hTo.at 1 rfl).1 5 (hTo.at 1 rfl).2 3 (by decide)).trans hk_622
          have hk_647 : rd f_629 o 4 = .int 0 := (hfr_631.1 o (hTo.at 1 rfl).1 5 (hTo.at 1 rfl).2 4 (by decide)).trans hk_623
          have hrq_648 := hex_644
          refine W.eq (g2 := F0 m 103 ls []) rfl ?_
          refine lv_aload_n hx hb dX2_readTest_103 rfl (lv_at hl 1 rfl) ?_
          refine lv_aload_n hx hb dX2_readTest_104 rfl (lv_at hl 0 rfl) ?_
          refine lv_iconst (v := 0) hx hb dX2_readTest_105 (by decide) ?_
          refine lv_sipush (v := 9999) hx hb dX2_readTest_106 (by decide) ?_
          have hTo := hT
          refine K_V ⟨hx, hb, hml, hown, hts⟩ (t_X2_readNumber l dC dI sa hlt g _ _ tt ln M (gpa (Kp tt ln) (nq tt ln) 61 (gnu (Kp tt ln) (Vp tt ln) (nq tt ln) 0 5 (gpa (Kp tt ln) (nq tt ln) (Kp tt ln q.1) q))) h0 0 9999 tok ka sta vaa ax_632 tn_633 fa_634 pw_635 zz _ (hT.sub [0, 2, 3, 4, 5] rfl)  hk_636 hk_637 hk_638 hk_639 hk_645 ((hF.1 h0 (hT0.at 0 rfl).1 2 (hT0.at 0 rfl).2 0 (by decide)).trans h_tok) ((hF.1 tok (hT0.at 2 rfl).1 6 (hT0.at 2 rfl).2 4 (by decide)).trans h_ka) ((hF.1 tok (hT0.at 2 rfl).1 6 (hT0.at 2 rfl).2 5 (by decide)).trans h_sta) ((hF.1 tok (hT0.at 2 rfl).1 6 (hT0.at 2 rfl).2 6 (by decide)).trans h_vaa) hzz (hTK.go (hF.2 ka (hT0.at 3 rfl).1 0 _ _ (hT0.at 3 rfl).2 (by decide)) (hF.2 sta (hT0.at 4 rfl).1 0 _ _ (hT0.at 4 rfl).2 (by decide)) (hF.2 vaa (hT0.at 5 rfl).1 0 _ _ (hT0.at 5 rfl).2 (by decide))) hrq_648) (cwV 2 hts gX2_readTest_X2_readNumber rfl rfl rfl (by decide +kernel) ⟨Nat.le_of_ble_eq_true rfl, Nat.le_of_ble_eq_true rfl⟩) hP hD hK hS hA hev hT 0 2 rfl rfl rfl rfl hl.1 rfl (Nat.le_of_ble_eq_true rfl) dX2_readTest_109 ⟨Nat.le_of_ble_eq_true rfl, Nat.le_of_ble_eq_true rfl⟩ (fun r L_649 f_650 H locs hw_651 hP hD hS hT hE1 => ?_)
          have hF := Fr.call hF hE hw_651.2.1 (by decide)
          have hE := hE.tr hE1
          obtain ⟨⟨z_652, rfl⟩, hw_651⟩ := hw_651
          obtain ⟨hfr_653, ax_654, tn_655, fa_656, pw_657, hk_658, hk_659, hk_660, hk_661, hrel_662, hrel_663, hrel_664, hrel_665, hex_666⟩ := hw_651
          have hk_667 : rd f_650 tok 3 = .int zz := (hfr_653.1 tok (hTo.at 2 rfl).1 6 (hTo.at 2 rfl).2 3 (by decide)).trans hk_645
          have hk_668 : rd f_650 o 3 = .int tn := (hfr_653.1 o (hTo.at 1 rfl).1 5 (hTo.at 1 rfl).2 3 (by decide)).trans hk_646
          have hk_669 : rd f_650 o 4 = .int 0 := (hfr_653.1 o (hTo.at 1 rfl).1 5 (hTo.at 1 rfl).2 4 (by decide)).trans hk_647
          have hrq_670 := hex_666.2
          refine W.eq (g2 := F0 m 112 ls [.int z_652, .ref o]) rfl ?_
          have hTo := hT
          refine T_put (ci := 5) (v := .int z_652) (ty := .int) (t := tI) (C := RX5) (T := TX5) (N := 8) hx hb hts inw_X2_readTest_5 tyX5 tyX5_ok nmX5 hown hK hP hD hS hT 1 rfl rfl 2 (by decide) (hts (.fieldLink RX2 79 "VatHouse$Step" "number" "I") (by decide +kernel)) (fun _ h9 => h9) rfl (by decide +kernel) rfl rfl rfl ⟨_, rfl⟩ dX2_readTest_112 (fun f_671 H locs hP hD hS hT hE1 hrd_672 hup_673 => ?_)
          have hF := Fr.put (a := o) (ci := 5) hF hE ((hE1 o (hT.at 1 rfl).1).2.symm.trans (hT.at 1 rfl).2) (by decide) hrd_672 hup_673
          have hE := hE.tr hE1
          have hk_674 : rd f_671 h0 1 = .int ax_654 := ((Fr.put (cs := [(5, 2)]) (a := o) (ci := 5) Fr.rf Ext.rf (hTo.at 1 rfl).2 (by decide) hrd_672 hup_673).1 h0 (hTo.at 0 rfl).1 2 (hTo.at 0 rfl).2 1 (by decide)).trans hk_658
          have hk_675 : rd f_671 h0 2 = .int tn_655 := ((Fr.put (cs := [(5, 2)]) (a := o) (ci := 5) Fr.rf Ext.rf (hTo.at 1 rfl).2 (by decide) hrd_672 hup_673).1 h0 (hTo.at 0 rfl).1 2 (hTo.at 0 rfl).2 2 (by decide)).trans hk_659
          have hk_676 : rd f_671 h0 3 = .int fa_656 := ((Fr.put (cs := [(5, 2)]) (a := o) (ci := 5) Fr.rf Ext.rf (hTo.at 1 rfl).2 (by decide) hrd_672 hup_673).1 h0 (hTo.at 0 rfl).1 2 (hTo.at 0 rfl).2 3 (by decide)).trans hk_660
          have hk_677 : rd f_671 h0 4 = .int pw_657 := ((Fr.put (cs := [(5, 2)]) (a := o) (ci := 5) Fr.rf Ext.rf (hTo.at 1 rfl).2 (by decide) hrd_672 hup_673).1 h0 (hTo.at 0 rfl).1 2 (hTo.at 0 rfl).2 4 (by decide)).trans hk_661
          have hk_678 : rd f_671 tok 3 = .int zz := ((Fr.put (cs := [(5, 2)]) (a := o) (ci := 5) Fr.rf Ext.rf (hTo.at 1 rfl).2 (by decide) hrd_672 hup_673).1 tok (hTo.at 2 rfl).1 6 (hTo.at 2 rfl).2 3 (by decide)).trans hk_667
          have hk_679 : rd f_671 o 3 = .int tn := ((Fr.put (cs := [(5, 2)]) (a := o) (ci := 5) Fr.rf Ext.rf (hTo.at 1 rfl).2 (by decide) hrd_672 hup_673).1 o (hTo.at 1 rfl).1 5 (hTo.at 1 rfl).2 3 (by decide)).trans hk_668
          have hk_680 : rd f_671 o 4 = .int 0 := ((Fr.put (cs := [(5, 2)]) (a := o) (ci := 5) Fr.rf Ext.rf (hTo.at 1 rfl).2 (by decide) hrd_672 hup_673).1 o (hTo.at 1 rfl).1 5 (hTo.at 1 rfl).2 4 (by decide)).trans hk_669
          exact K_v hx hb hr hlocks hP hD hK hS hT hE ⟨rfl, hF, _, _, _, _, hk_674, hk_675, hk_676, hk_677, trivial, trivial, fun h9 => ((hrel_570 (hrel_595 ((hrel_642 (hrel_664 h9)).1))).1), trivial, (gte_b hg1 hg2 hg3) ▸ hrq_670⟩ (Nat.le_of_ble_eq_true rfl) (Nat.le_of_ble_eq_true rfl) dX2_readTest_115
        · refine lv_iconst (v := 1) hx hb dX2_readTest_77 (by decide) ?_
          refine lv_goto (tgt := 82) hx hb dX2_readTest_78 (by decide) ?_
          have hTo := hT
          refine T_put (ci := 5) (v := .int 1) (ty := .boolean) (t := tI) (C := RX5) (T := TX5) (N := 8) hx hb hts inw_X2_readTest_5 tyX5 tyX5_ok nmX5 hown hK hP hD hS hT 1 rfl rfl 4 (by decide) (hts (.fieldLink RX2 97 "VatHouse$Step" "below" "Z") (by decide +kernel)) (fun _ h9 => h9) rfl (by decide +kernel) rfl rfl rfl ⟨_, rfl⟩ dX2_readTest_82 (fun f_681 H locs hP hD hS hT hE1 hrd_682 hup_683 => ?_)
          have hF := Fr.put (a := o) (ci := 5) hF hE ((hE1 o (hT.at 1 rfl).1).2.symm.trans (hT.at 1 rfl).2) (by decide) hrd_682 hup_683
          have hE := hE.tr hE1
          have hk_684 : rd f_681 h0 1 = .int ax_585 := ((Fr.put (cs := [(5, 4)]) (a := o) (ci := 5) Fr.rf Ext.rf (hTo.at 1 rfl).2 (by decide) hrd_682 hup_683).1 h0 (hTo.at 0 rfl).1 2 (hTo.at 0 rfl).2 1 (by decide)).trans hk_604
          have hk_685 : rd f_681 h0 2 = .int tn_586 := ((Fr.put (cs := [(5, 4)]) (a := o) (ci := 5) Fr.rf Ext.rf (hTo.at 1 rfl).2 (by decide) hrd_682 hup_683).1 h0 (hTo.at 0 rfl).1 2 (hTo.at 0 rfl).2 2 (by decide)).trans hk_605
          have hk_686 : rd f_681 h0 3 = .int fa_587 := ((Fr.put (cs := [(5, 4)]) (a := o) (ci := 5) Fr.rf Ext.rf (hTo.at 1 rfl).2 (by decide) hrd_682 hup_683).1 h0 (hTo.at 0 rfl).1 2 (hTo.at 0 rfl).2 3 (by decide)).trans hk_606
          have hk_687 : rd f_681 h0 4 = .int pw_588 := ((Fr.put (cs := [(5, 4)]) (a := o) (ci := 5) Fr.rf Ext.rf (hTo.at 1 rfl).2 (by decide) hrd_682 hup_683).1 h0 (hTo.at 0 rfl).1 2 (hTo.at 0 rfl).2 4 (by decide)).trans hk_607
          have hk_688 : rd f_681 tok 3 = .int zz := ((Fr.put (cs := [(5, 4)]) (a := o) (ci := 5) Fr.rf Ext.rf (hTo.at 1 rfl).2 (by decide) hrd_682 hup_683).1 tok (hTo.at 2 rfl).1 6 (hTo.at 2 rfl).2 3 (by decide)).trans hk_608
          have hk_689 : rd f_681 o 3 = .int tn := ((Fr.put (cs := [(5, 4)]) (a := o) (ci := 5) Fr.rf Ext.rf (hTo.at 1 rfl).2 (by decide) hrd_682 hup_683).1 o (hTo.at 1 rfl).1 5 (hTo.at 1 rfl).2 3 (by decide)).trans hk_609
          have hk_690 : rd f_681 o 4 = .int 1 := (hrd_682 o 4).trans (if_pos ⟨rfl, rfl⟩)
          have hg3 : (if Kp tt ln (gnu (Kp tt ln) (Vp tt ln) (nq tt ln) 0 5 (gpa (Kp tt ln) (nq tt ln) (Kp tt ln q.1) q)).1 = 60 then (60 : Int32) else 61) = 60 := if_pos (by rw [← hrq_600.K]; exact c_613)
          refine lv_aload_n hx hb dX2_readTest_85 rfl (lv_at hl 0 rfl) ?_
          refine lv_aload_n hx hb dX2_readTest_86 rfl (lv_at hl 1 rfl) ?_
          refine T_get (ci := 5) (C := RX5) (T := TX5) (N := 8) (t := tI) hx hb hts inw_X2_readTest_5 hown hK hP hT 1 rfl rfl 4 (by decide) (hts (.fieldLink RX2 97 "VatHouse$Step" "below" "Z") (by decide +kernel)) (fun _ h9 => h9) rfl dX2_readTest_87 (fun v_693 hv_691 hr_692 => ?_)
          obtain rfl : v_693 = .int 1 := hr_692.symm.trans hk_690
          refine lv_if_eq (tgt := 98) hx hb dX2_readTest_90 (by decide) (fun c_694 => ?_) (fun c_694 => ?_)
          · exact absurd c_694 (by decide)
          refine lv_bipush (v := 60) hx hb dX2_readTest_93 (by decide) ?_
          refine lv_goto (tgt := 100) hx hb dX2_readTest_95 (by decide) ?_
          have hTo := hT
          refine K_V ⟨hx, hb, hml, hown, hts⟩ (t_X2_pass l dC dI sa hlt g _ _ tt ln M (gnu (Kp tt ln) (Vp tt ln) (nq tt ln) 0 5 (gpa (Kp tt ln) (nq tt ln) (Kp tt ln q.1) q)) h0 60 tok ka sta vaa ax_585 tn_586 fa_587 pw_588 zz _ (hT.sub [0, 2, 3, 4, 5] rfl)  hk_684 hk_685 hk_686 hk_687 hk_688 ((hF.1 h0 (hT0.at 0 rfl).1 2 (hT0.at 0 rfl).2 0 (by decide)).trans h_tok) ((hF.1 tok (hT0.at 2 rfl).1 6 (hT0.at 2 rfl).2 4 (by decide)).trans h_ka) ((hF.1 tok (hT0.at 2 rfl).1 6 (hT0.at 2 rfl).2 5 (by decide)).trans h_sta) ((hF.1 tok (hT0.at 2 rfl).1 6 (hT0.at 2 rfl).2 6 (by decide)).trans h_vaa) hzz (hTK.go (hF.2 ka (hT0.at 3 rfl).1 0 _ _ (hT0.at 3 rfl).2 (by decide)) (hF.2 sta (hT0.at 4 rfl).1 0 _ _ (hT0.at 4 rfl).2 (by decide)) (hF.2 vaa (hT0.at 5 rfl).1 0 _ _ (hT0.at 5 rfl).2 (by decide))) hrq_600 (Or.inl (by decide))) (cwV 1 hts gX2_readTest_X2_pass rfl rfl rfl (by decide +kernel) ⟨Nat.le_of_ble_eq_true rfl, Nat.le_of_ble_eq_true rfl⟩) hP hD hK hS hA hev hT 0 2 rfl rfl rfl rfl hl.1 rfl (Nat.le_of_ble_eq_true rfl) dX2_readTest_100 ⟨Nat.le_of_ble_eq_true rfl, Nat.le_of_ble_eq_true rfl⟩ (fun r L_695 f_696 H locs hw_697 hP hD hS hT hE1 => ?_)
          have hF := Fr.call hF hE hw_697.2.1 (by decide)
          have hE := hE.tr hE1
          obtain ⟨rfl, hw_697⟩ := hw_697
          obtain ⟨hfr_698, ax_699, tn_700, fa_701, pw_702, hk_703, hk_704, hk_705, hk_706, hrel_707, hrel_708, hrel_709, hrel_710, hex_711⟩ := hw_697
          have hk_712 : rd f_696 tok 3 = .int zz := (hfr_698.1 tok (hTo.at 2 rfl).1 6 (hTo.at 2 rfl).2 3 (by decide)).trans hk_688
          have hk_713 : rd f_696 o 3 = .int tn := (hfr_698.1 o (hTo.at 1 rfl).1 5 (hTo.at 1 rfl).2 3 (by decide)).trans hk_689
          have hk_714 : rd f_696 o 4 = .int 1 := (hfr_698.1 o (hTo.at 1 rfl).1 5 (hTo.at 1 rfl).2 4 (by decide)).trans hk_690
          have hrq_715 := hex_711
          refine W.eq (g2 := F0 m 103 ls []) rfl ?_
          refine lv_aload_n hx hb dX2_readTest_103 rfl (lv_at hl 1 rfl) ?_
          refine lv_aload_n hx hb dX2_readTest_104 rfl (lv_at hl 0 rfl) ?_
          refine lv_iconst (v := 0) hx hb dX2_readTest_105 (by decide) ?_
          refine lv_sipush (v := 9999) hx hb dX2_readTest_106 (by decide) ?_
          have hTo := hT
          refine K_V ⟨hx, hb, hml, hown, hts⟩ (t_X2_readNumber l dC dI sa hlt g _ _ tt ln M (gpa (Kp tt ln) (nq tt ln) 60 (gnu (Kp tt ln) (Vp tt ln) (nq tt ln) 0 5 (gpa (Kp tt ln) (nq tt ln) (Kp tt ln q.1) q))) h0 0 9999 tok ka sta vaa ax_699 tn_700 fa_701 pw_702 zz _ (hT.sub [0, 2, 3, 4, 5] rfl)  hk_703 hk_704 hk_705 hk_706 hk_712 ((hF.1 h0 (hT0.at 0 rfl).1 2 (hT0.at 0 rfl).2 0 (by decide)).trans h_tok) ((hF.1 tok (hT0.at 2 rfl).1 6 (hT0.at 2 rfl).2 4 (by decide)).trans h_ka) ((hF.1 tok (hT0.at 2 rfl).1 6 (hT0.at 2 rfl).2 5 (by decide)).trans h_sta) ((hF.1 tok (hT0.at 2 rfl).1 6 (hT0.at 2 rfl).2 6 (by decide)).trans h_vaa) hzz (hTK.go (hF.2 ka (hT0.at 3 rfl).1 0 _ _ (hT0.at 3 rfl).2 (by decide)) (hF.2 sta (hT0.at 4 rfl).1 0 _ _ (hT0.at 4 rfl).2 (by decide)) (hF.2 vaa (hT0.at 5 rfl).1 0 _ _ (hT0.at 5 rfl).2 (by decide))) hrq_715) (cwV 2 hts gX2_readTest_X2_readNumber rfl rfl rfl (by decide +kernel) ⟨Nat.le_of_ble_eq_true rfl, Nat.le_of_ble_eq_true rfl⟩) hP hD hK hS hA hev hT 0 2 rfl rfl rfl rfl hl.1 rfl (Nat.le_of_ble_eq_true rfl) dX2_readTest_109 ⟨Nat.le_of_ble_eq_true rfl, Nat.le_of_ble_eq_true rfl⟩ (fun r L_716 f_717 H locs hw_718 hP hD hS hT hE1 => ?_)
          have hF := Fr.call hF hE hw_718.2.1 (by decide)
          have hE := hE.tr hE1
          obtain ⟨⟨z_719, rfl⟩, hw_718⟩ := hw_718
          obtain ⟨hfr_720, ax_721, tn_722, fa_723, pw_724, hk_725, hk_726, hk_727, hk_728, hrel_729, hrel_730, hrel_731, hrel_732, hex_733⟩ := hw_718
          have hk_734 : rd f_717 tok 3 = .int zz := (hfr_720.1 tok (hTo.at 2 rfl).1 6 (hTo.at 2 rfl).2 3 (by decide)).trans hk_712
          have hk_735 : rd f_717 o 3 = .int tn := (hfr_720.1 o (hTo.at 1 rfl).1 5 (hTo.at 1 rfl).2 3 (by decide)).trans hk_713
          have hk_736 : rd f_717 o 4 = .int 1 := (hfr_720.1 o (hTo.at 1 rfl).1 5 (hTo.at 1 rfl).2 4 (by decide)).trans hk_714
          have hrq_737 := hex_733.2
          refine W.eq (g2 := F0 m 112 ls [.int z_719, .ref o]) rfl ?_
          have hTo := hT
          refine T_put (ci := 5) (v := .int z_719) (ty := .int) (t := tI) (C := RX5) (T := TX5) (N := 8) hx hb hts inw_X2_readTest_5 tyX5 tyX5_ok nmX5 hown hK hP hD hS hT 1 rfl rfl 2 (by decide) (hts (.fieldLink RX2 79 "VatHouse$Step" "number" "I") (by decide +kernel)) (fun _ h9 => h9) rfl (by decide +kernel) rfl rfl rfl ⟨_, rfl⟩ dX2_readTest_112 (fun f_738 H locs hP hD hS hT hE1 hrd_739 hup_740 => ?_)
          have hF := Fr.put (a := o) (ci := 5) hF hE ((hE1 o (hT.at 1 rfl).1).2.symm.trans (hT.at 1 rfl).2) (by decide) hrd_739 hup_740
          have hE := hE.tr hE1
          have hk_741 : rd f_738 h0 1 = .int ax_721 := ((Fr.put (cs := [(5, 2)]) (a := o) (ci := 5) Fr.rf Ext.rf (hTo.at 1 rfl).2 (by decide) hrd_739 hup_740).1 h0 (hTo.at 0 rfl).1 2 (hTo.at 0 rfl).2 1 (by decide)).trans hk_725
          have hk_742 : rd f_738 h0 2 = .int tn_722 := ((Fr.put (cs := [(5, 2)]) (a := o) (ci := 5) Fr.rf Ext.rf (hTo.at 1 rfl).2 (by decide) hrd_739 hup_740).1 h0 (hTo.at 0 rfl).1 2 (hTo.at 0 rfl).2 2 (by decide)).trans hk_726
          have hk_743 : rd f_738 h0 3 = .int fa_723 := ((Fr.put (cs := [(5, 2)]) (a := o) (ci := 5) Fr.rf Ext.rf (hTo.at 1 rfl).2 (by decide) hrd_739 hup_740).1 h0 (hTo.at 0 rfl).1 2 (hTo.at 0 rfl).2 3 (by decide)).trans hk_727
          have hk_744 : rd f_738 h0 4 = .int pw_724 := ((Fr.put (cs := [(5, 2)]) (a := o) (ci := 5) Fr.rf Ext.rf (hTo.at 1 rfl).2 (by decide) hrd_739 hup_740).1 h0 (hTo.at 0 rfl).1 2 (hTo.at 0 rfl).2 4 (by decide)).trans hk_728
          have hk_745 : rd f_738 tok 3 = .int zz := ((Fr.put (cs := [(5, 2)]) (a := o) (ci := 5) Fr.rf Ext.rf (hTo.at 1 rfl).2 (by decide) hrd_739 hup_740).1 tok (hTo.at 2 rfl).1 6 (hTo.at 2 rfl).2 3 (by decide)).trans hk_734
          have hk_746 : rd f_738 o 3 = .int tn := ((Fr.put (cs := [(5, 2)]) (a := o) (ci := 5) Fr.rf Ext.rf (hTo.at 1 rfl).2 (by decide) hrd_739 hup_740).1 o (hTo.at 1 rfl).1 5 (hTo.at 1 rfl).2 3 (by decide)).trans hk_735
          have hk_747 : rd f_738 o 4 = .int 1 := ((Fr.put (cs := [(5, 2)]) (a := o) (ci := 5) Fr.rf Ext.rf (hTo.at 1 rfl).2 (by decide) hrd_739 hup_740).1 o (hTo.at 1 rfl).1 5 (hTo.at 1 rfl).2 4 (by decide)).trans hk_736
          exact K_v hx hb hr hlocks hP hD hK hS hT hE ⟨rfl, hF, _, _, _, _, hk_741, hk_742, hk_743, hk_744, trivial, trivial, fun h9 => ((hrel_570 (hrel_595 ((hrel_709 (hrel_731 h9)).1))).1), trivial, (gte_b hg1 hg2 hg3) ▸ hrq_737⟩ (Nat.le_of_ble_eq_true rfl) (Nat.le_of_ble_eq_true rfl) dX2_readTest_115
      · refine lv_aload_n hx hb dX2_readTest_48 rfl (lv_at hl 1 rfl) ?_
        refine T_get (ci := 5) (C := RX5) (T := TX5) (N := 8) (t := tI) hx hb hts inw_X2_readTest_5 hown hK hP hT 1 rfl rfl 3 (by decide) (hts (.fieldLink RX2 94 "VatHouse$Step" "look" "I") (by decide +kernel)) (fun _ h9 => h9) rfl dX2_readTest_49 (fun v_750 hv_748 hr_749 => ?_)
        obtain rfl : v_750 = .int tn := hr_749.symm.trans hk_574
        refine lv_bipush (v := 18) hx hb dX2_readTest_52 (by decide) ?_
        refine lv_icmp_ne (tgt := 67) hx hb dX2_readTest_54 (by decide) (fun c_751 => ?_) (fun c_751 => ?_)
        · have hg2 : gte2 (Kp tt ln) (Vp tt ln) (nq tt ln) (Kp tt ln q.1) (gpa (Kp tt ln) (nq tt ln) (Kp tt ln q.1) q) = (gpa (Kp tt ln) (nq tt ln) (Kp tt ln q.1) q) := if_neg (by rw [← hRQ.K]; rintro (h9 | h9); exact c_579 h9; exact c_751 h9)
          refine lv_aload_n hx hb dX2_readTest_67 rfl (lv_at hl 1 rfl) ?_
          refine lv_aload_n hx hb dX2_readTest_68 rfl (lv_at hl 0 rfl) ?_
          refine T_get (ci := 2) (C := RX2) (T := TX2) (N := 6) (t := tI) hx hb hts inw_X2_readTest_2 hown hK hP hT 0 rfl rfl 2 (by decide) (hts (.fieldLink RX2 44 "VatHouse$Reader" "token" "I") (by decide +kernel)) (fun _ h9 => h9) rfl dX2_readTest_69 (fun v_754 hv_752 hr_753 => ?_)
          obtain rfl : v_754 = .int tn_561 := hr_753.symm.trans hk_565
          refine lv_bipush (v := 60) hx hb dX2_readTest_72 (by decide) ?_
          refine lv_icmp_ne (tgt := 81) hx hb dX2_readTest_74 (by decide) (fun c_755 => ?_) (fun c_755 => ?_)
          · refine lv_iconst (v := 0) hx hb dX2_readTest_81 (by decide) ?_
            have hTo := hT
            refine T_put (ci := 5) (v := .int 0) (ty := .boolean) (t := tI) (C := RX5) (T := TX5) (N := 8) hx hb hts inw_X2_readTest_5 tyX5 tyX5_ok nmX5 hown hK hP hD hS hT 1 rfl rfl 4 (by decide) (hts (.fieldLink RX2 97 "VatHouse$Step" "below" "Z") (by decide +kernel)) (fun _ h9 => h9) rfl (by decide +kernel) rfl rfl rfl ⟨_, rfl⟩ dX2_readTest_82 (fun f_756 H locs hP hD hS hT hE1 hrd_757 hup_758 => ?_)
            have hF := Fr.put (a := o) (ci := 5) hF hE ((hE1 o (hT.at 1 rfl).1).2.symm.trans (hT.at 1 rfl).2) (by decide) hrd_757 hup_758
            have hE := hE.tr hE1
            have hk_759 : rd f_756 h0 1 = .int ax_560 := ((Fr.put (cs := [(5, 4)]) (a := o) (ci := 5) Fr.rf Ext.rf (hTo.at 1 rfl).2 (by decide) hrd_757 hup_758).1 h0 (hTo.at 0 rfl).1 2 (hTo.at 0 rfl).2 1 (by decide)).trans hk_564
            have hk_760 : rd f_756 h0 2 = .int tn_561 := ((Fr.put (cs := [(5, 4)]) (a := o) (ci := 5) Fr.rf Ext.rf (hTo.at 1 rfl).2 (by decide) hrd_757 hup_758).1 h0 (hTo.at 0 rfl).1 2 (hTo.at 0 rfl).2 2 (by decide)).trans hk_565
            have hk_761 : rd f_756 h0 3 = .int fa_562 := ((Fr.put (cs := [(5, 4)]) (a := o) (ci := 5) Fr.rf Ext.rf (hTo.at 1 rfl).2 (by decide) hrd_757 hup_758).1 h0 (hTo.at 0 rfl).1 2 (hTo.at 0 rfl).2 3 (by decide)).trans hk_566
            have hk_762 : rd f_756 h0 4 = .int pw_563 := ((Fr.put (cs := [(5, 4)]) (a := o) (ci := 5) Fr.rf Ext.rf (hTo.at 1 rfl).2 (by decide) hrd_757 hup_758).1 h0 (hTo.at 0 rfl).1 2 (hTo.at 0 rfl).2 4 (by decide)).trans hk_567
            have hk_763 : rd f_756 tok 3 = .int zz := ((Fr.put (cs := [(5, 4)]) (a := o) (ci := 5) Fr.rf Ext.rf (hTo.at 1 rfl).2 (by decide) hrd_757 hup_758).1 tok (hTo.at 2 rfl).1 6 (hTo.at 2 rfl).2 3 (by decide)).trans hk_573
            have hk_764 : rd f_756 o 3 = .int tn := ((Fr.put (cs := [(5, 4)]) (a := o) (ci := 5) Fr.rf Ext.rf (hTo.at 1 rfl).2 (by decide) hrd_757 hup_758).1 o (hTo.at 1 rfl).1 5 (hTo.at 1 rfl).2 3 (by decide)).trans hk_574
            have hk_765 : rd f_756 o 4 = .int 0 := (hrd_757 o 4).trans (if_pos ⟨rfl, rfl⟩)
            have hg3 : (if Kp tt ln (gpa (Kp tt ln) (nq tt ln) (Kp tt ln q.1) q).1 = 60 then (60 : Int32) else 61) = 61 := if_neg (by rw [← hrq_575.K]; exact c_755)
            refine lv_aload_n hx hb dX2_readTest_85 rfl (lv_at hl 0 rfl) ?_
            refine lv_aload_n hx hb dX2_readTest_86 rfl (lv_at hl 1 rfl) ?_
            refine T_get (ci := 5) (C := RX5) (T := TX5) (N := 8) (t := tI) hx hb hts inw_X2_readTest_5 hown hK hP hT 1 rfl rfl 4 (by decide) (hts (.fieldLink RX2 97 "VatHouse$Step" "below" "Z") (by decide +kernel)) (fun _ h9 => h9) rfl dX2_readTest_87 (fun v_768 hv_766 hr_767 => ?_)
            obtain rfl : v_768 = .int 0 := hr_767.symm.trans hk_765
            refine lv_if_eq (tgt := 98) hx hb dX2_readTest_90 (by decide) (fun c_769 => ?_) (fun c_769 => ?_)
            rotate_left
            · exact absurd c_769 (by decide)
            refine lv_bipush (v := 61) hx hb dX2_readTest_98 (by decide) ?_
            have hTo := hT
            refine K_V ⟨hx, hb, hml, hown, hts⟩ (t_X2_pass l dC dI sa hlt g _ _ tt ln M (gpa (Kp tt ln) (nq tt ln) (Kp tt ln q.1) q) h0 61 tok ka sta vaa ax_560 tn_561 fa_562 pw_563 zz _ (hT.sub [0, 2, 3, 4, 5] rfl)  hk_759 hk_760 hk_761 hk_762 hk_763 ((hF.1 h0 (hT0.at 0 rfl).1 2 (hT0.at 0 rfl).2 0 (by decide)).trans h_tok) ((hF.1 tok (hT0.at 2 rfl).1 6 (hT0.at 2 rfl).2 4 (by decide)).trans h_ka) ((hF.1 tok (hT0.at 2 rfl).1 6 (hT0.at 2 rfl).2 5 (by decide)).trans h_sta) ((hF.1 tok (hT0.at 2 rfl).1 6 (hT0.at 2 rfl).2 6 (by decide)).trans h_vaa) hzz (hTK.go (hF.2 ka (hT0.at 3 rfl).1 0 _ _ (hT0.at 3 rfl).2 (by decide)) (hF.2 sta (hT0.at 4 rfl).1 0 _ _ (hT0.at 4 rfl).2 (by decide)) (hF.2 vaa (hT0.at 5 rfl).1 0 _ _ (hT0.at 5 rfl).2 (by decide))) hrq_575 (Or.inl (by decide))) (cwV 1 hts gX2_readTest_X2_pass rfl rfl rfl (by decide +kernel) ⟨Nat.le_of_ble_eq_true rfl, Nat.le_of_ble_eq_true rfl⟩) hP hD hK hS hA hev hT 0 2 rfl rfl rfl rfl hl.1 rfl (Nat.le_of_ble_eq_true rfl) dX2_readTest_100 ⟨Nat.le_of_ble_eq_true rfl, Nat.le_of_ble_eq_true rfl⟩ (fun r L_770 f_771 H locs hw_772 hP hD hS hT hE1 => ?_)
            have hF := Fr.call hF hE hw_772.2.1 (by decide)
            have hE := hE.tr hE1
            obtain ⟨rfl, hw_772⟩ := hw_772
            obtain ⟨hfr_773, ax_774, tn_775, fa_776, pw_777, hk_778, hk_779, hk_780, hk_781, hrel_782, hrel_783, hrel_784, hrel_785, hex_786⟩ := hw_772
            have hk_787 : rd f_771 tok 3 = .int zz := (hfr_773.1 tok (hTo.at 2 rfl).1 6 (hTo.at 2 rfl).2 3 (by decide)).trans hk_763
            have hk_788 : rd f_771 o 3 = .int tn := (hfr_773.1 o (hTo.at 1 rfl).1 5 (hTo.at 1 rfl).2 3 (by decide)).trans hk_764
            have hk_789 : rd f_771 o 4 = .int 0 := (hfr_773.1 o (hTo.at 1 rfl).1 5 (hTo.at 1 rfl).2 4 (by decide)).trans hk_765
            have hrq_790 := hex_786
            refine W.eq (g2 := F0 m 103 ls []) rfl ?_
            refine lv_aload_n hx hb dX2_readTest_103 rfl (lv_at hl 1 rfl) ?_
            refine lv_aload_n hx hb dX2_readTest_104 rfl (lv_at hl 0 rfl) ?_
            refine lv_iconst (v := 0) hx hb dX2_readTest_105 (by decide) ?_
            refine lv_sipush (v := 9999) hx hb dX2_readTest_106 (by decide) ?_
            have hTo := hT
            refine K_V ⟨hx, hb, hml, hown, hts⟩ (t_X2_readNumber l dC dI sa hlt g _ _ tt ln M (gpa (Kp tt ln) (nq tt ln) 61 (gpa (Kp tt ln) (nq tt ln) (Kp tt ln q.1) q)) h0 0 9999 tok ka sta vaa ax_774 tn_775 fa_776 pw_777 zz _ (hT.sub [0, 2, 3, 4, 5] rfl)  hk_778 hk_779 hk_780 hk_781 hk_787 ((hF.1 h0 (hT0.at 0 rfl).1 2 (hT0.at 0 rfl).2 0 (by decide)).trans h_tok) ((hF.1 tok (hT0.at 2 rfl).1 6 (hT0.at 2 rfl).2 4 (by decide)).trans h_ka) ((hF.1 tok (hT0.at 2 rfl).1 6 (hT0.at 2 rfl).2 5 (by decide)).trans h_sta) ((hF.1 tok (hT0.at 2 rfl).1 6 (hT0.at 2 rfl).2 6 (by decide)).trans h_vaa) hzz (hTK.go (hF.2 ka (hT0.at 3 rfl).1 0 _ _ (hT0.at 3 rfl).2 (by decide)) (hF.2 sta (hT0.at 4 rfl).1 0 _ _ (hT0.at 4 rfl).2 (by decide)) (hF.2 vaa (hT0.at 5 rfl).1 0 _ _ (hT0.at 5 rfl).2 (by decide))) hrq_790) (cwV 2 hts gX2_readTest_X2_readNumber rfl rfl rfl (by decide +kernel) ⟨Nat.le_of_ble_eq_true rfl, Nat.le_of_ble_eq_true rfl⟩) hP hD hK hS hA hev hT 0 2 rfl rfl rfl rfl hl.1 rfl (Nat.le_of_ble_eq_true rfl) dX2_readTest_109 ⟨Nat.le_of_ble_eq_true rfl, Nat.le_of_ble_eq_true rfl⟩ (fun r L_791 f_792 H locs hw_793 hP hD hS hT hE1 => ?_)
            have hF := Fr.call hF hE hw_793.2.1 (by decide)
            have hE := hE.tr hE1
            obtain ⟨⟨z_794, rfl⟩, hw_793⟩ := hw_793
            obtain ⟨hfr_795, ax_796, tn_797, fa_798, pw_799, hk_800, hk_801, hk_802, hk_803, hrel_804, hrel_805, hrel_806, hrel_807, hex_808⟩ := hw_793
            have hk_809 : rd f_792 tok 3 = .int zz := (hfr_795.1 tok (hTo.at 2 rfl).1 6 (hTo.at 2 rfl).2 3 (by decide)).trans hk_787
            have hk_810 : rd f_792 o 3 = .int tn := (hfr_795.1 o (hTo.at 1 rfl).1 5 (hTo.at 1 rfl).2 3 (by decide)).trans hk_788
            have hk_811 : rd f_792 o 4 = .int 0 := (hfr_795.1 o (hTo.at 1 rfl).1 5 (hTo.at 1 rfl).2 4 (by decide)).trans hk_789
            have hrq_812 := hex_808.2
            refine W.eq (g2 := F0 m 112 ls [.int z_794, .ref o]) rfl ?_
            have hTo := hT
            refine T_put (ci := 5) (v := .int z_794) (ty := .int) (t := tI) (C := RX5) (T := TX5) (N := 8) hx hb hts inw_X2_readTest_5 tyX5 tyX5_ok nmX5 hown hK hP hD hS hT 1 rfl rfl 2 (by decide) (hts (.fieldLink RX2 79 "VatHouse$Step" "number" "I") (by decide +kernel)) (fun _ h9 => h9) rfl (by decide +kernel) rfl rfl rfl ⟨_, rfl⟩ dX2_readTest_112 (fun f_813 H locs hP hD hS hT hE1 hrd_814 hup_815 => ?_)
            have hF := Fr.put (a := o) (ci := 5) hF hE ((hE1 o (hT.at 1 rfl).1).2.symm.trans (hT.at 1 rfl).2) (by decide) hrd_814 hup_815
            have hE := hE.tr hE1
            have hk_816 : rd f_813 h0 1 = .int ax_796 := ((Fr.put (cs := [(5, 2)]) (a := o) (ci := 5) Fr.rf Ext.rf (hTo.at 1 rfl).2 (by decide) hrd_814 hup_815).1 h0 (hTo.at 0 rfl).1 2 (hTo.at 0 rfl).2 1 (by decide)).trans hk_800
            have hk_817 : rd f_813 h0 2 = .int tn_797 := ((Fr.put (cs := [(5, 2)]) (a := o) (ci := 5) Fr.rf Ext.rf (hTo.at 1 rfl).2 (by decide) hrd_814 hup_815).1 h0 (hTo.at 0 rfl).1 2 (hTo.at 0 rfl).2 2 (by decide)).trans hk_801
            have hk_818 : rd f_813 h0 3 = .int fa_798 := ((Fr.put (cs := [(5, 2)]) (a := o) (ci := 5) Fr.rf Ext.rf (hTo.at 1 rfl).2 (by decide) hrd_814 hup_815).1 h0 (hTo.at 0 rfl).1 2 (hTo.at 0 rfl).2 3 (by decide)).trans hk_802
            have hk_819 : rd f_813 h0 4 = .int pw_799 := ((Fr.put (cs := [(5, 2)]) (a := o) (ci := 5) Fr.rf Ext.rf (hTo.at 1 rfl).2 (by decide) hrd_814 hup_815).1 h0 (hTo.at 0 rfl).1 2 (hTo.at 0 rfl).2 4 (by decide)).trans hk_803
            have hk_820 : rd f_813 tok 3 = .int zz := ((Fr.put (cs := [(5, 2)]) (a := o) (ci := 5) Fr.rf Ext.rf (hTo.at 1 rfl).2 (by decide) hrd_814 hup_815).1 tok (hTo.at 2 rfl).1 6 (hTo.at 2 rfl).2 3 (by decide)).trans hk_809
            have hk_821 : rd f_813 o 3 = .int tn := ((Fr.put (cs := [(5, 2)]) (a := o) (ci := 5) Fr.rf Ext.rf (hTo.at 1 rfl).2 (by decide) hrd_814 hup_815).1 o (hTo.at 1 rfl).1 5 (hTo.at 1 rfl).2 3 (by decide)).trans hk_810
            have hk_822 : rd f_813 o 4 = .int 0 := ((Fr.put (cs := [(5, 2)]) (a := o) (ci := 5) Fr.rf Ext.rf (hTo.at 1 rfl).2 (by decide) hrd_814 hup_815).1 o (hTo.at 1 rfl).1 5 (hTo.at 1 rfl).2 4 (by decide)).trans hk_811
            exact K_v hx hb hr hlocks hP hD hK hS hT hE ⟨rfl, hF, _, _, _, _, hk_816, hk_817, hk_818, hk_819, trivial, trivial, fun h9 => ((hrel_570 ((hrel_784 (hrel_806 h9)).1)).1), trivial, (gte_b hg1 hg2 hg3) ▸ hrq_812⟩ (Nat.le_of_ble_eq_true rfl) (Nat.le_of_ble_eq_true rfl) dX2_readTest_115
          · refine lv_iconst (v := 1) hx hb dX2_readTest_77 (by decide) ?_
            refine lv_goto (tgt := 82) hx hb dX2_readTest_78 (by decide) ?_
            have hTo := hT
            refine T_put (ci := 5) (v := .int 1) (ty := .boolean) (t := tI) (C := RX5) (T := TX5) (N := 8) hx hb hts inw_X2_readTest_5 tyX5 tyX5_ok nmX5 hown hK hP hD hS hT 1 rfl rfl 4 (by decide) (hts (.fieldLink RX2 97 "VatHouse$Step" "below" "Z") (by decide +kernel)) (fun _ h9 => h9) rfl (by decide +kernel) rfl rfl rfl ⟨_, rfl⟩ dX2_readTest_82 (fun f_823 H locs hP hD hS hT hE1 hrd_824 hup_825 => ?_)
            have hF := Fr.put (a := o) (ci := 5) hF hE ((hE1 o (hT.at 1 rfl).1).2.symm.trans (hT.at 1 rfl).2) (by decide) hrd_824 hup_825
            have hE := hE.tr hE1
            have hk_826 : rd f_823 h0 1 = .int ax_560 := ((Fr.put (cs := [(5, 4)]) (a := o) (ci := 5) Fr.rf Ext.rf (hTo.at 1 rfl).2 (by decide) hrd_824 hup_825).1 h0 (hTo.at 0 rfl).1 2 (hTo.at 0 rfl).2 1 (by decide)).trans hk_564
            have hk_827 : rd f_823 h0 2 = .int tn_561 := ((Fr.put (cs := [(5, 4)]) (a := o) (ci := 5) Fr.rf Ext.rf (hTo.at 1 rfl).2 (by decide) hrd_824 hup_825).1 h0 (hTo.at 0 rfl).1 2 (hTo.at 0 rfl).2 2 (by decide)).trans hk_565
            have hk_828 : rd f_823 h0 3 = .int fa_562 := ((Fr.put (cs := [(5, 4)]) (a := o) (ci := 5) Fr.rf Ext.rf (hTo.at 1 rfl).2 (by decide) hrd_824 hup_825).1 h0 (hTo.at 0 rfl).1 2 (hTo.at 0 rfl).2 3 (by decide)).trans hk_566
            have hk_829 : rd f_823 h0 4 = .int pw_563 := ((Fr.put (cs := [(5, 4)]) (a := o) (ci := 5) Fr.rf Ext.rf (hTo.at 1 rfl).2 (by decide) hrd_824 hup_825).1 h0 (hTo.at 0 rfl).1 2 (hTo.at 0 rfl).2 4 (by decide)).trans hk_567
            have hk_830 : rd f_823 tok 3 = .int zz := ((Fr.put (cs := [(5, 4)]) (a := o) (ci := 5) Fr.rf Ext.rf (hTo.at 1 rfl).2 (by decide) hrd_824 hup_825).1 tok (hTo.at 2 rfl).1 6 (hTo.at 2 rfl).2 3 (by decide)).trans hk_573
            have hk_831 : rd f_823 o 3 = .int tn := ((Fr.put (cs := [(5, 4)]) (a := o) (ci := 5) Fr.rf Ext.rf (hTo.at 1 rfl).2 (by decide) hrd_824 hup_825).1 o (hTo.at 1 rfl).1 5 (hTo.at 1 rfl).2 3 (by decide)).trans hk_574
            have hk_832 : rd f_823 o 4 = .int 1 := (hrd_824 o 4).trans (if_pos ⟨rfl, rfl⟩)
            have hg3 : (if Kp tt ln (gpa (Kp tt ln) (nq tt ln) (Kp tt ln q.1) q).1 = 60 then (60 : Int32) else 61) = 60 := if_pos (by rw [← hrq_575.K]; exact c_755)
            refine lv_aload_n hx hb dX2_readTest_85 rfl (lv_at hl 0 rfl) ?_
            refine lv_aload_n hx hb dX2_readTest_86 rfl (lv_at hl 1 rfl) ?_
            refine T_get (ci := 5) (C := RX5) (T := TX5) (N := 8) (t := tI) hx hb hts inw_X2_readTest_5 hown hK hP hT 1 rfl rfl 4 (by decide) (hts (.fieldLink RX2 97 "VatHouse$Step" "below" "Z") (by decide +kernel)) (fun _ h9 => h9) rfl dX2_readTest_87 (fun v_835 hv_833 hr_834 => ?_)
            obtain rfl : v_835 = .int 1 := hr_834.symm.trans hk_832
            refine lv_if_eq (tgt := 98) hx hb dX2_readTest_90 (by decide) (fun c_836 => ?_) (fun c_836 => ?_)
            · exact absurd c_836 (by decide)
            refine lv_bipush (v := 60) hx hb dX2_readTest_93 (by decide) ?_
            refine lv_goto (tgt := 100) hx hb dX2_readTest_95 (by decide) ?_
            have hTo := hT
            refine K_V ⟨hx, hb, hml, hown, hts⟩ (t_X2_pass l dC dI sa hlt g _ _ tt ln M (gpa (Kp tt ln) (nq tt ln) (Kp tt ln q.1) q) h0 60 tok ka sta vaa ax_560 tn_561 fa_562 pw_563 zz _ (hT.sub [0, 2, 3, 4, 5] rfl)  hk_826 hk_827 hk_828 hk_829 hk_830 ((hF.1 h0 (hT0.at 0 rfl).1 2 (hT0.at 0 rfl).2 0 (by decide)).trans h_tok) ((hF.1 tok (hT0.at 2 rfl).1 6 (hT0.at 2 rfl).2 4 (by decide)).trans h_ka) ((hF.1 tok (hT0.at 2 rfl).1 6 (hT0.at 2 rfl).2 5 (by decide)).trans h_sta) ((hF.1 tok (hT0.at 2 rfl).1 6 (hT0.at 2 rfl).2 6 (by decide)).trans h_vaa) hzz (hTK.go (hF.2 ka (hT0.at 3 rfl).1 0 _ _ (hT0.at 3 rfl).2 (by decide)) (hF.2 sta (hT0.at 4 rfl).1 0 _ _ (hT0.at 4 rfl).2 (by decide)) (hF.2 vaa (hT0.at 5 rfl).1 0 _ _ (hT0.at 5 rfl).2 (by decide))) hrq_575 (Or.inl (by decide))) (cwV 1 hts gX2_readTest_X2_pass rfl rfl rfl (by decide +kernel) ⟨Nat.le_of_ble_eq_true rfl, Nat.le_of_ble_eq_true rfl⟩) hP hD hK hS hA hev hT 0 2 rfl rfl rfl rfl hl.1 rfl (Nat.le_of_ble_eq_true rfl) dX2_readTest_100 ⟨Nat.le_of_ble_eq_true rfl, Nat.le_of_ble_eq_true rfl⟩ (fun r L_837 f_838 H locs hw_839 hP hD hS hT hE1 => ?_)
            have hF := Fr.call hF hE hw_839.2.1 (by decide)
            have hE := hE.tr hE1
            obtain ⟨rfl, hw_839⟩ := hw_839
            obtain ⟨hfr_840, ax_841, tn_842, fa_843, pw_844, hk_845, hk_846, hk_847, hk_848, hrel_849, hrel_850, hrel_851, hrel_852, hex_853⟩ := hw_839
            have hk_854 : rd f_838 tok 3 = .int zz := (hfr_840.1 tok (hTo.at 2 rfl).1 6 (hTo.at 2 rfl).2 3 (by decide)).trans hk_830
            have hk_855 : rd f_838 o 3 = .int tn := (hfr_840.1 o (hTo.at 1 rfl).1 5 (hTo.at 1 rfl).2 3 (by decide)).trans hk_831
            have hk_856 : rd f_838 o 4 = .int 1 := (hfr_840.1 o (hTo.at 1 rfl).1 5 (hTo.at 1 rfl).2 4 (by decide)).trans hk_832
            have hrq_857 := hex_853
            refine W.eq (g2 := F0 m 103 ls []) rfl ?_
            refine lv_aload_n hx hb dX2_readTest_103 rfl (lv_at hl 1 rfl) ?_
            refine lv_aload_n hx hb dX2_readTest_104 rfl (lv_at hl 0 rfl) ?_
            refine lv_iconst (v := 0) hx hb dX2_readTest_105 (by decide) ?_
            refine lv_sipush (v := 9999) hx hb dX2_readTest_106 (by decide) ?_
            have hTo := hT
            refine K_V ⟨hx, hb, hml, hown, hts⟩ (t_X2_readNumber l dC dI sa hlt g _ _ tt ln M (gpa (Kp tt ln) (nq tt ln) 60 (gpa (Kp tt ln) (nq tt ln) (Kp tt ln q.1) q)) h0 0 9999 tok ka sta vaa ax_841 tn_842 fa_843 pw_844 zz _ (hT.sub [0, 2, 3, 4, 5] rfl)  hk_845 hk_846 hk_847 hk_848 hk_854 ((hF.1 h0 (hT0.at 0 rfl).1 2 (hT0.at 0 rfl).2 0 (by decide)).trans h_tok) ((hF.1 tok (hT0.at 2 rfl).1 6 (hT0.at 2 rfl).2 4 (by decide)).trans h_ka) ((hF.1 tok (hT0.at 2 rfl).1 6 (hT0.at 2 rfl).2 5 (by decide)).trans h_sta) ((hF.1 tok (hT0.at 2 rfl).1 6 (hT0.at 2 rfl).2 6 (by decide)).trans h_vaa) hzz (hTK.go (hF.2 ka (hT0.at 3 rfl).1 0 _ _ (hT0.at 3 rfl).2 (by decide)) (hF.2 sta (hT0.at 4 rfl).1 0 _ _ (hT0.at 4 rfl).2 (by decide)) (hF.2 vaa (hT0.at 5 rfl).1 0 _ _ (hT0.at 5 rfl).2 (by decide))) hrq_857) (cwV 2 hts gX2_readTest_X2_readNumber rfl rfl rfl (by decide +kernel) ⟨Nat.le_of_ble_eq_true rfl, Nat.le_of_ble_eq_true rfl⟩) hP hD hK hS hA hev hT 0 2 rfl rfl rfl rfl hl.1 rfl (Nat.le_of_ble_eq_true rfl) dX2_readTest_109 ⟨Nat.le_of_ble_eq_true rfl, Nat.le_of_ble_eq_true rfl⟩ (fun r L_858 f_859 H locs hw_860 hP hD hS hT hE1 => ?_)
            have hF := Fr.call hF hE hw_860.2.1 (by decide)
            have hE := hE.tr hE1
            obtain ⟨⟨z_861, rfl⟩, hw_860⟩ := hw_860
            obtain ⟨hfr_862, ax_863, tn_864, fa_865, pw_866, hk_867, hk_868, hk_869, hk_870, hrel_871, hrel_872, hrel_873, hrel_874, hex_875⟩ := hw_860
            have hk_876 : rd f_859 tok 3 = .int zz := (hfr_862.1 tok (hTo.at 2 rfl).1 6 (hTo.at 2 rfl).2 3 (by decide)).trans hk_854
            have hk_877 : rd f_859 o 3 = .int tn := (hfr_862.1 o (hTo.at 1 rfl).1 5 (hTo.at 1 rfl).2 3 (by decide)).trans hk_855
            have hk_878 : rd f_859 o 4 = .int 1 := (hfr_862.1 o (hTo.at 1 rfl).1 5 (hTo.at 1 rfl).2 4 (by decide)).trans hk_856
            have hrq_879 := hex_875.2
            refine W.eq (g2 := F0 m 112 ls [.int z_861, .ref o]) rfl ?_
            have hTo := hT
            refine T_put (ci := 5) (v := .int z_861) (ty := .int) (t := tI) (C := RX5) (T := TX5) (N := 8) hx hb hts inw_X2_readTest_5 tyX5 tyX5_ok nmX5 hown hK hP hD hS hT 1 rfl rfl 2 (by decide) (hts (.fieldLink RX2 79 "VatHouse$Step" "number" "I") (by decide +kernel)) (fun _ h9 => h9) rfl (by decide +kernel) rfl rfl rfl ⟨_, rfl⟩ dX2_readTest_112 (fun f_880 H locs hP hD hS hT hE1 hrd_881 hup_882 => ?_)
            have hF := Fr.put (a := o) (ci := 5) hF hE ((hE1 o (hT.at 1 rfl).1).2.symm.trans (hT.at 1 rfl).2) (by decide) hrd_881 hup_882
            have hE := hE.tr hE1
            have hk_883 : rd f_880 h0 1 = .int ax_863 := ((Fr.put (cs := [(5, 2)]) (a := o) (ci := 5) Fr.rf Ext.rf (hTo.at 1 rfl).2 (by decide) hrd_881 hup_882).1 h0 (hTo.at 0 rfl).1 2 (hTo.at 0 rfl).2 1 (by decide)).trans hk_867
            have hk_884 : rd f_880 h0 2 = .int tn_864 := ((Fr.put (cs := [(5, 2)]) (a := o) (ci := 5) Fr.rf Ext.rf (hTo.at 1 rfl).2 (by decide) hrd_881 hup_882).1 h0 (hTo.at 0 rfl).1 2 (hTo.at 0 rfl).2 2 (by decide)).trans hk_868
            have hk_885 : rd f_880 h0 3 = .int fa_865 := ((Fr.put (cs := [(5, 2)]) (a := o) (ci := 5) Fr.rf Ext.rf (hTo.at 1 rfl).2 (by decide) hrd_881 hup_882).1 h0 (hTo.at 0 rfl).1 2 (hTo.at 0 rfl).2 3 (by decide)).trans hk_869
            have hk_886 : rd f_880 h0 4 = .int pw_866 := ((Fr.put (cs := [(5, 2)]) (a := o) (ci := 5) Fr.rf Ext.rf (hTo.at 1 rfl).2 (by decide) hrd_881 hup_882).1 h0 (hTo.at 0 rfl).1 2 (hTo.at 0 rfl).2 4 (by decide)).trans hk_870
            have hk_887 : rd f_880 tok 3 = .int zz := ((Fr.put (cs := [(5, 2)]) (a := o) (ci := 5) Fr.rf Ext.rf (hTo.at 1 rfl).2 (by decide) hrd_881 hup_882).1 tok (hTo.at 2 rfl).1 6 (hTo.at 2 rfl).2 3 (by decide)).trans hk_876
            have hk_888 : rd f_880 o 3 = .int tn := ((Fr.put (cs := [(5, 2)]) (a := o) (ci := 5) Fr.rf Ext.rf (hTo.at 1 rfl).2 (by decide) hrd_881 hup_882).1 o (hTo.at 1 rfl).1 5 (hTo.at 1 rfl).2 3 (by decide)).trans hk_877
            have hk_889 : rd f_880 o 4 = .int 1 := ((Fr.put (cs := [(5, 2)]) (a := o) (ci := 5) Fr.rf Ext.rf (hTo.at 1 rfl).2 (by decide) hrd_881 hup_882).1 o (hTo.at 1 rfl).1 5 (hTo.at 1 rfl).2 4 (by decide)).trans hk_878
            exact K_v hx hb hr hlocks hP hD hK hS hT hE ⟨rfl, hF, _, _, _, _, hk_883, hk_884, hk_885, hk_886, trivial, trivial, fun h9 => ((hrel_570 ((hrel_851 (hrel_873 h9)).1)).1), trivial, (gte_b hg1 hg2 hg3) ▸ hrq_879⟩ (Nat.le_of_ble_eq_true rfl) (Nat.le_of_ble_eq_true rfl) dX2_readTest_115
        · refine lv_aload_n hx hb dX2_readTest_57 rfl (lv_at hl 1 rfl) ?_
          refine lv_aload_n hx hb dX2_readTest_58 rfl (lv_at hl 0 rfl) ?_
          refine lv_iconst (v := 0) hx hb dX2_readTest_59 (by decide) ?_
          refine lv_iconst (v := 5) hx hb dX2_readTest_60 (by decide) ?_
          have hTo := hT
          refine K_V ⟨hx, hb, hml, hown, hts⟩ (t_X2_readNumber l dC dI sa hlt g _ _ tt ln M (gpa (Kp tt ln) (nq tt ln) (Kp tt ln q.1) q) h0 0 5 tok ka sta vaa ax_560 tn_561 fa_562 pw_563 zz _ (hT.sub [0, 2, 3, 4, 5] rfl)  hk_564 hk_565 hk_566 hk_567 hk_573 ((hF.1 h0 (hT0.at 0 rfl).1 2 (hT0.at 0 rfl).2 0 (by decide)).trans h_tok) ((hF.1 tok (hT0.at 2 rfl).1 6 (hT0.at 2 rfl).2 4 (by decide)).trans h_ka) ((hF.1 tok (hT0.at 2 rfl).1 6 (hT0.at 2 rfl).2 5 (by decide)).trans h_sta) ((hF.1 tok (hT0.at 2 rfl).1 6 (hT0.at 2 rfl).2 6 (by decide)).trans h_vaa) hzz (hTK.go (hF.2 ka (hT0.at 3 rfl).1 0 _ _ (hT0.at 3 rfl).2 (by decide)) (hF.2 sta (hT0.at 4 rfl).1 0 _ _ (hT0.at 4 rfl).2 (by decide)) (hF.2 vaa (hT0.at 5 rfl).1 0 _ _ (hT0.at 5 rfl).2 (by decide))) hrq_575) (cwV 2 hts gX2_readTest_X2_readNumber rfl rfl rfl (by decide +kernel) ⟨Nat.le_of_ble_eq_true rfl, Nat.le_of_ble_eq_true rfl⟩) hP hD hK hS hA hev hT 0 2 rfl rfl rfl rfl hl.1 rfl (Nat.le_of_ble_eq_true rfl) dX2_readTest_61 ⟨Nat.le_of_ble_eq_true rfl, Nat.le_of_ble_eq_true rfl⟩ (fun r L_890 f_891 H locs hw_892 hP hD hS hT hE1 => ?_)
          have hF := Fr.call hF hE hw_892.2.1 (by decide)
          have hE := hE.tr hE1
          obtain ⟨⟨z_893, rfl⟩, hw_892⟩ := hw_892
          obtain ⟨hfr_894, ax_895, tn_896, fa_897, pw_898, hk_899, hk_900, hk_901, hk_902, hrel_903, hrel_904, hrel_905, hrel_906, hex_907⟩ := hw_892
          have hk_908 : rd f_891 tok 3 = .int zz := (hfr_894.1 tok (hTo.at 2 rfl).1 6 (hTo.at 2 rfl).2 3 (by decide)).trans hk_573
          have hk_909 : rd f_891 o 3 = .int tn := (hfr_894.1 o (hTo.at 1 rfl).1 5 (hTo.at 1 rfl).2 3 (by decide)).trans hk_574
          have hrq_910 := hex_907.2
          refine W.eq (g2 := F0 m 64 ls [.int z_893, .ref o]) rfl ?_
          have hTo := hT
          refine T_put (ci := 5) (v := .int z_893) (ty := .int) (t := tI) (C := RX5) (T := TX5) (N := 8) hx hb hts inw_X2_readTest_5 tyX5 tyX5_ok nmX5 hown hK hP hD hS hT 1 rfl rfl 1 (by decide) (hts (.fieldLink RX2 76 "VatHouse$Step" "vat" "I") (by decide +kernel)) (fun _ h9 => h9) rfl (by decide +kernel) rfl rfl rfl ⟨_, rfl⟩ dX2_readTest_64 (fun f_911 H locs hP hD hS hT hE1 hrd_912 hup_913 => ?_)
          have hF := Fr.put (a := o) (ci := 5) hF hE ((hE1 o (hT.at 1 rfl).1).2.symm.trans (hT.at 1 rfl).2) (by decide) hrd_912 hup_913
          have hE := hE.tr hE1
          have hk_914 : rd f_911 h0 1 = .int ax_895 := ((Fr.put (cs := [(5, 1)]) (a := o) (ci := 5) Fr.rf Ext.rf (hTo.at 1 rfl).2 (by decide) hrd_912 hup_913).1 h0 (hTo.at 0 rfl).1 2 (hTo.at 0 rfl).2 1 (by decide)).trans hk_899
          have hk_915 : rd f_911 h0 2 = .int tn_896 := ((Fr.put (cs := [(5, 1)]) (a := o) (ci := 5) Fr.rf Ext.rf (hTo.at 1 rfl).2 (by decide) hrd_912 hup_913).1 h0 (hTo.at 0 rfl).1 2 (hTo.at 0 rfl).2 2 (by decide)).trans hk_900
          have hk_916 : rd f_911 h0 3 = .int fa_897 := ((Fr.put (cs := [(5, 1)]) (a := o) (ci := 5) Fr.rf Ext.rf (hTo.at 1 rfl).2 (by decide) hrd_912 hup_913).1 h0 (hTo.at 0 rfl).1 2 (hTo.at 0 rfl).2 3 (by decide)).trans hk_901
          have hk_917 : rd f_911 h0 4 = .int pw_898 := ((Fr.put (cs := [(5, 1)]) (a := o) (ci := 5) Fr.rf Ext.rf (hTo.at 1 rfl).2 (by decide) hrd_912 hup_913).1 h0 (hTo.at 0 rfl).1 2 (hTo.at 0 rfl).2 4 (by decide)).trans hk_902
          have hk_918 : rd f_911 tok 3 = .int zz := ((Fr.put (cs := [(5, 1)]) (a := o) (ci := 5) Fr.rf Ext.rf (hTo.at 1 rfl).2 (by decide) hrd_912 hup_913).1 tok (hTo.at 2 rfl).1 6 (hTo.at 2 rfl).2 3 (by decide)).trans hk_908
          have hk_919 : rd f_911 o 3 = .int tn := ((Fr.put (cs := [(5, 1)]) (a := o) (ci := 5) Fr.rf Ext.rf (hTo.at 1 rfl).2 (by decide) hrd_912 hup_913).1 o (hTo.at 1 rfl).1 5 (hTo.at 1 rfl).2 3 (by decide)).trans hk_909
          have hg2 : gte2 (Kp tt ln) (Vp tt ln) (nq tt ln) (Kp tt ln q.1) (gpa (Kp tt ln) (nq tt ln) (Kp tt ln q.1) q) = (gnu (Kp tt ln) (Vp tt ln) (nq tt ln) 0 5 (gpa (Kp tt ln) (nq tt ln) (Kp tt ln q.1) q)) := if_pos (Or.inr (by rw [← hRQ.K]; exact c_751))
          refine lv_aload_n hx hb dX2_readTest_67 rfl (lv_at hl 1 rfl) ?_
          refine lv_aload_n hx hb dX2_readTest_68 rfl (lv_at hl 0 rfl) ?_
          refine T_get (ci := 2) (C := RX2) (T := TX2) (N := 6) (t := tI) hx hb hts inw_X2_readTest_2 hown hK hP hT 0 rfl rfl 2 (by decide) (hts (.fieldLink RX2 44 "VatHouse$Reader" "token" "I") (by decide +kernel)) (fun _ h9 => h9) rfl dX2_readTest_69 (fun v_922 hv_920 hr_921 => ?_)
          obtain rfl : v_922 = .int tn_896 := hr_921.symm.trans hk_915
          refine lv_bipush (v := 60) hx hb dX2_readTest_72 (by decide) ?_
          refine lv_icmp_ne (tgt := 81) hx hb dX2_readTest_74 (by decide) (fun c_923 => ?_) (fun c_923 => ?_)
          · refine lv_iconst (v := 0) hx hb dX2_readTest_81 (by decide) ?_
            have hTo := hT
            refine T_put (ci := 5) (v := .int 0) (ty := .boolean) (t := tI) (C := RX5) (T := TX5) (N := 8) hx hb hts inw_X2_readTest_5 tyX5 tyX5_ok nmX5 hown hK hP hD hS hT 1 rfl rfl 4 (by decide) (hts (.fieldLink RX2 97 "VatHouse$Step" "below" "Z") (by decide +kernel)) (fun _ h9 => h9) rfl (by decide +kernel) rfl rfl rfl ⟨_, rfl⟩ dX2_readTest_82 (fun f_924 H locs hP hD hS hT hE1 hrd_925 hup_926 => ?_)
            have hF := Fr.put (a := o) (ci := 5) hF hE ((hE1 o (hT.at 1 rfl).1).2.symm.trans (hT.at 1 rfl).2) (by decide) hrd_925 hup_926
            have hE := hE.tr hE1
            have hk_927 : rd f_924 h0 1 = .int ax_895 := ((Fr.put (cs := [(5, 4)]) (a := o) (ci := 5) Fr.rf Ext.rf (hTo.at 1 rfl).2 (by decide) hrd_925 hup_926).1 h0 (hTo.at 0 rfl).1 2 (hTo.at 0 rfl).2 1 (by decide)).trans hk_914
            have hk_928 : rd f_924 h0 2 = .int tn_896 := ((Fr.put (cs := [(5, 4)]) (a := o) (ci := 5) Fr.rf Ext.rf (hTo.at 1 rfl).2 (by decide) hrd_925 hup_926).1 h0 (hTo.at 0 rfl).1 2 (hTo.at 0 rfl).2 2 (by decide)).trans hk_915
            have hk_929 : rd f_924 h0 3 = .int fa_897 := ((Fr.put (cs := [(5, 4)]) (a := o) (ci := 5) Fr.rf Ext.rf (hTo.at 1 rfl).2 (by decide) hrd_925 hup_926).1 h0 (hTo.at 0 rfl).1 2 (hTo.at 0 rfl).2 3 (by decide)).trans hk_916
            have hk_930 : rd f_924 h0 4 = .int pw_898 := ((Fr.put (cs := [(5, 4)]) (a := o) (ci := 5) Fr.rf Ext.rf (hTo.at 1 rfl).2 (by decide) hrd_925 hup_926).1 h0 (hTo.at 0 rfl).1 2 (hTo.at 0 rfl).2 4 (by decide)).trans hk_917
            have hk_931 : rd f_924 tok 3 = .int zz := ((Fr.put (cs := [(5, 4)]) (a := o) (ci := 5) Fr.rf Ext.rf (hTo.at 1 rfl).2 (by decide) hrd_925 hup_926).1 tok (hTo.at 2 rfl).1 6 (hTo.at 2 rfl).2 3 (by decide)).trans hk_918
            have hk_932 : rd f_924 o 3 = .int tn := ((Fr.put (cs := [(5, 4)]) (a := o) (ci := 5) Fr.rf Ext.rf (hTo.at 1 rfl).2 (by decide) hrd_925 hup_926).1 o (hTo.at 1 rfl).1 5 (hTo.at 1 rfl).2 3 (by decide)).trans hk_919
            have hk_933 : rd f_924 o 4 = .int 0 := (hrd_925 o 4).trans (if_pos ⟨rfl, rfl⟩)
            have hg3 : (if Kp tt ln (gnu (Kp tt ln) (Vp tt ln) (nq tt ln) 0 5 (gpa (Kp tt ln) (nq tt ln) (Kp tt ln q.1) q)).1 = 60 then (60 : Int32) else 61) = 61 := if_neg (by rw [← hrq_910.K]; exact c_923)
            refine lv_aload_n hx hb dX2_readTest_85 rfl (lv_at hl 0 rfl) ?_
            refine lv_aload_n hx hb dX2_readTest_86 rfl (lv_at hl 1 rfl) ?_
            refine T_get (ci := 5) (C := RX5) (T := TX5) (N := 8) (t := tI) hx hb hts inw_X2_readTest_5 hown hK hP hT 1 rfl rfl 4 (by decide) (hts (.fieldLink RX2 97 "VatHouse$Step" "below" "Z") (by decide +kernel)) (fun _ h9 => h9) rfl dX2_readTest_87 (fun v_936 hv_934 hr_935 => ?_)
            obtain rfl : v_936 = .int 0 := hr_935.symm.trans hk_933
            refine lv_if_eq (tgt := 98) hx hb dX2_readTest_90 (by decide) (fun c_937 => ?_) (fun c_937 => ?_)
            rotate_left
            · exact absurd c_937 (by decide)
            refine lv_bipush (v := 61) hx hb dX2_readTest_98 (by decide) ?_
            have hTo := hT
            refine K_V ⟨hx, hb, hml, hown, hts⟩ (t_X2_pass l dC dI sa hlt g _ _ tt ln M (gnu (Kp tt ln) (Vp tt ln) (nq tt ln) 0 5 (gpa (Kp tt ln) (nq tt ln) (Kp tt ln q.1) q)) h0 61 tok ka sta vaa ax_895 tn_896 fa_897 pw_898 zz _ (hT.sub [0, 2, 3, 4, 5] rfl)  hk_927 hk_928 hk_929 hk_930 hk_931 ((hF.1 h0 (hT0.at 0 rfl).1 2 (hT0.at 0 rfl).2 0 (by decide)).trans h_tok) ((hF.1 tok (hT0.at 2 rfl).1 6 (hT0.at 2 rfl).2 4 (by decide)).trans h_ka) ((hF.1 tok (hT0.at 2 rfl).1 6 (hT0.at 2 rfl).2 5 (by decide)).trans h_sta) ((hF.1 tok (hT0.at 2 rfl).1 6 (hT0.at 2 rfl).2 6 (by decide)).trans h_vaa) hzz (hTK.go (hF.2 ka (hT0.at 3 rfl).1 0 _ _ (hT0.at 3 rfl).2 (by decide)) (hF.2 sta (hT0.at 4 rfl).1 0 _ _ (hT0.at 4 rfl).2 (by decide)) (hF.2 vaa (hT0.at 5 rfl).1 0 _ _ (hT0.at 5 rfl).2 (by decide))) hrq_910 (Or.inl (by decide))) (cwV 1 hts gX2_readTest_X2_pass rfl rfl rfl (by decide +kernel) ⟨Nat.le_of_ble_eq_true rfl, Nat.le_of_ble_eq_true rfl⟩) hP hD hK hS hA hev hT 0 2 rfl rfl rfl rfl hl.1 rfl (Nat.le_of_ble_eq_true rfl) dX2_readTest_100 ⟨Nat.le_of_ble_eq_true rfl, Nat.le_of_ble_eq_true rfl⟩ (fun r L_938 f_939 H locs hw_940 hP hD hS hT hE1 => ?_)
            have hF := Fr.call hF hE hw_940.2.1 (by decide)
            have hE := hE.tr hE1
            obtain ⟨rfl, hw_940⟩ := hw_940
            obtain ⟨hfr_941, ax_942, tn_943, fa_944, pw_945, hk_946, hk_947, hk_948, hk_949, hrel_950, hrel_951, hrel_952, hrel_953, hex_954⟩ := hw_940
            have hk_955 : rd f_939 tok 3 = .int zz := (hfr_941.1 tok (hTo.at 2 rfl).1 6 (hTo.at 2 rfl).2 3 (by decide)).trans hk_931
            have hk_956 : rd f_939 o 3 = .int tn := (hfr_941.1 o (hTo.at 1 rfl).1 5 (hTo.at 1 rfl).2 3 (by decide)).trans hk_932
            have hk_957 : rd f_939 o 4 = .int 0 := (hfr_941.1 o (hTo.at 1 rfl).1 5 (hTo.at 1 rfl).2 4 (by decide)).trans hk_933
            have hrq_958 := hex_954
            refine W.eq (g2 := F0 m 103 ls []) rfl ?_
            refine lv_aload_n hx hb dX2_readTest_103 rfl (lv_at hl 1 rfl) ?_
            refine lv_aload_n hx hb dX2_readTest_104 rfl (lv_at hl 0 rfl) ?_
            refine lv_iconst (v := 0) hx hb dX2_readTest_105 (by decide) ?_
            refine lv_sipush (v := 9999) hx hb dX2_readTest_106 (by decide) ?_
            have hTo := hT
            refine K_V ⟨hx, hb, hml, hown, hts⟩ (t_X2_readNumber l dC dI sa hlt g _ _ tt ln M (gpa (Kp tt ln) (nq tt ln) 61 (gnu (Kp tt ln) (Vp tt ln) (nq tt ln) 0 5 (gpa (Kp tt ln) (nq tt ln) (Kp tt ln q.1) q))) h0 0 9999 tok ka sta vaa ax_942 tn_943 fa_944 pw_945 zz _ (hT.sub [0, 2, 3, 4, 5] rfl)  hk_946 hk_947 hk_948 hk_949 hk_955 ((hF.1 h0 (hT0.at 0 rfl).1 2 (hT0.at 0 rfl).2 0 (by decide)).trans h_tok) ((hF.1 tok (hT0.at 2 rfl).1 6 (hT0.at 2 rfl).2 4 (by decide)).trans h_ka) ((hF.1 tok (hT0.at 2 rfl).1 6 (hT0.at 2 rfl).2 5 (by decide)).trans h_sta) ((hF.1 tok (hT0.at 2 rfl).1 6 (hT0.at 2 rfl).2 6 (by decide)).trans h_vaa) hzz (hTK.go (hF.2 ka (hT0.at 3 rfl).1 0 _ _ (hT0.at 3 rfl).2 (by decide)) (hF.2 sta (hT0.at 4 rfl).1 0 _ _ (hT0.at 4 rfl).2 (by decide)) (hF.2 vaa (hT0.at 5 rfl).1 0 _ _ (hT0.at 5 rfl).2 (by decide))) hrq_958) (cwV 2 hts gX2_readTest_X2_readNumber rfl rfl rfl (by decide +kernel) ⟨Nat.le_of_ble_eq_true rfl, Nat.le_of_ble_eq_true rfl⟩) hP hD hK hS hA hev hT 0 2 rfl rfl rfl rfl hl.1 rfl (Nat.le_of_ble_eq_true rfl) dX2_readTest_109 ⟨Nat.le_of_ble_eq_true rfl, Nat.le_of_ble_eq_true rfl⟩ (fun r L_959 f_960 H locs hw_961 hP hD hS hT hE1 => ?_)
            have hF := Fr.call hF hE hw_961.2.1 (by decide)
            have hE := hE.tr hE1
            obtain ⟨⟨z_962, rfl⟩, hw_961⟩ := hw_961
            obtain ⟨hfr_963, ax_964, tn_965, fa_966, pw_967, hk_968, hk_969, hk_970, hk_971, hrel_972, hrel_973, hrel_974, hrel_975, hex_976⟩ := hw_961
            have hk_977 : rd f_960 tok 3 = .int zz := (hfr_963.1 tok (hTo.at 2 rfl).1 6 (hTo.at 2 rfl).2 3 (by decide)).trans hk_955
            have hk_978 : rd f_960 o 3 = .int tn := (hfr_963.1 o (hTo.at 1 rfl).1 5 (hTo.at 1 rfl).2 3 (by decide)).trans hk_956
            have hk_979 : rd f_960 o 4 = .int 0 := (hfr_963.1 o (hTo.at 1 rfl).1 5 (hTo.at 1 rfl).2 4 (by decide)).trans hk_957
            have hrq_980 := hex_976.2
            refine W.eq (g2 := F0 m 112 ls [.int z_962, .ref o]) rfl ?_
            have hTo := hT
            refine T_put (ci := 5) (v := .int z_962) (ty := .int) (t := tI) (C := RX5) (T := TX5) (N := 8) hx hb hts inw_X2_readTest_5 tyX5 tyX5_ok nmX5 hown hK hP hD hS hT 1 rfl rfl 2 (by decide) (hts (.fieldLink RX2 79 "VatHouse$Step" "number" "I") (by decide +kernel)) (fun _ h9 => h9) rfl (by decide +kernel) rfl rfl rfl ⟨_, rfl⟩ dX2_readTest_112 (fun f_981 H locs hP hD hS hT hE1 hrd_982 hup_983 => ?_)
            have hF := Fr.put (a := o) (ci := 5) hF hE ((hE1 o (hT.at 1 rfl).1).2.symm.trans (hT.at 1 rfl).2) (by decide) hrd_982 hup_983
            have hE := hE.tr hE1
            have hk_984 : rd f_981 h0 1 = .int ax_964 := ((Fr.put (cs := [(5, 2)]) (a := o) (ci := 5) Fr.rf Ext.rf (hTo.at 1 rfl).2 (by decide) hrd_982 hup_983).1 h0 (hTo.at 0 rfl).1 2 (hTo.at 0 rfl).2 1 (by decide)).trans hk_968
            have hk_985 : rd f_981 h0 2 = .int tn_965 := ((Fr.put (cs := [(5, 2)]) (a := o) (ci := 5) Fr.rf Ext.rf (hTo.at 1 rfl).2 (by decide) hrd_982 hup_983).1 h0 (hTo.at 0 rfl).1 2 (hTo.at 0 rfl).2 2 (by decide)).trans hk_969
            have hk_986 : rd f_981 h0 3 = .int fa_966 := ((Fr.put (cs := [(5, 2)]) (a := o) (ci := 5) Fr.rf Ext.rf (hTo.at 1 rfl).2 (by decide) hrd_982 hup_983).1 h0 (hTo.at 0 rfl).1 2 (hTo.at 0 rfl).2 3 (by decide)).trans hk_970
            have hk_987 : rd f_981 h0 4 = .int pw_967 := ((Fr.put (cs := [(5, 2)]) (a := o) (ci := 5) Fr.rf Ext.rf (hTo.at 1 rfl).2 (by decide) hrd_982 hup_983).1 h0 (hTo.at 0 rfl).1 2 (hTo.at 0 rfl).2 4 (by decide)).trans hk_971
            have hk_988 : rd f_981 tok 3 = .int zz := ((Fr.put (cs := [(5, 2)]) (a := o) (ci := 5) Fr.rf Ext.rf (hTo.at 1 rfl).2 (by decide) hrd_982 hup_983).1 tok (hTo.at 2 rfl).1 6 (hTo.at 2 rfl).2 3 (by decide)).trans hk_977
            have hk_989 : rd f_981 o 3 = .int tn := ((Fr.put (cs := [(5, 2)]) (a := o) (ci := 5) Fr.rf Ext.rf (hTo.at 1 rfl).2 (by decide) hrd_982 hup_983).1 o (hTo.at 1 rfl).1 5 (hTo.at 1 rfl).2 3 (by decide)).trans hk_978
            have hk_990 : rd f_981 o 4 = .int 0 := ((Fr.put (cs := [(5, 2)]) (a := o) (ci := 5) Fr.rf Ext.rf (hTo.at 1 rfl).2 (by decide) hrd_982 hup_983).1 o (hTo.at 1 rfl).1 5 (hTo.at 1 rfl).2 4 (by decide)).trans hk_979
            exact K_v hx hb hr hlocks hP hD hK hS hT hE ⟨rfl, hF, _, _, _, _, hk_984, hk_985, hk_986, hk_987, trivial, trivial, fun h9 => ((hrel_570 (hrel_905 ((hrel_952 (hrel_974 h9)).1))).1), trivial, (gte_b hg1 hg2 hg3) ▸ hrq_980⟩ (Nat.le_of_ble_eq_true rfl) (Nat.le_of_ble_eq_true rfl) dX2_readTest_115
          · refine lv_iconst (v := 1) hx hb dX2_readTest_77 (by decide) ?_
            refine lv_goto (tgt := 82) hx hb dX2_readTest_78 (by decide) ?_
            have hTo := hT
            refine T_put (ci := 5) (v := .int 1) (ty := .boolean) (t := tI) (C := RX5) (T := TX5) (N := 8) hx hb hts inw_X2_readTest_5 tyX5 tyX5_ok nmX5 hown hK hP hD hS hT 1 rfl rfl 4 (by decide) (hts (.fieldLink RX2 97 "VatHouse$Step" "below" "Z") (by decide +kernel)) (fun _ h9 => h9) rfl (by decide +kernel) rfl rfl rfl ⟨_, rfl⟩ dX2_readTest_82 (fun f_991 H locs hP hD hS hT hE1 hrd_992 hup_993 => ?_)
            have hF := Fr.put (a := o) (ci := 5) hF hE ((hE1 o (hT.at 1 rfl).1).2.symm.trans (hT.at 1 rfl).2) (by decide) hrd_992 hup_993
            have hE := hE.tr hE1
            have hk_994 : rd f_991 h0 1 = .int ax_895 := ((Fr.put (cs := [(5, 4)]) (a := o) (ci := 5) Fr.rf Ext.rf (hTo.at 1 rfl).2 (by decide) hrd_992 hup_993).1 h0 (hTo.at 0 rfl).1 2 (hTo.at 0 rfl).2 1 (by decide)).trans hk_914
            have hk_995 : rd f_991 h0 2 = .int tn_896 := ((Fr.put (cs := [(5, 4)]) (a := o) (ci := 5) Fr.rf Ext.rf (hTo.at 1 rfl).2 (by decide) hrd_992 hup_993).1 h0 (hTo.at 0 rfl).1 2 (hTo.at 0 rfl).2 2 (by decide)).trans hk_915
            have hk_996 : rd f_991 h0 3 = .int fa_897 := ((Fr.put (cs := [(5, 4)]) (a := o) (ci := 5) Fr.rf Ext.rf (hTo.at 1 rfl).2 (by decide) hrd_992 hup_993).1 h0 (hTo.at 0 rfl).1 2 (hTo.at 0 rfl).2 3 (by decide)).trans hk_916
            have hk_997 : rd f_991 h0 4 = .int pw_898 := ((Fr.put (cs := [(5, 4)]) (a := o) (ci := 5) Fr.rf Ext.rf (hTo.at 1 rfl).2 (by decide) hrd_992 hup_993).1 h0 (hTo.at 0 rfl).1 2 (hTo.at 0 rfl).2 4 (by decide)).trans hk_917
            have hk_998 : rd f_991 tok 3 = .int zz := ((Fr.put (cs := [(5, 4)]) (a := o) (ci := 5) Fr.rf Ext.rf (hTo.at 1 rfl).2 (by decide) hrd_992 hup_993).1 tok (hTo.at 2 rfl).1 6 (hTo.at 2 rfl).2 3 (by decide)).trans hk_918
            have hk_999 : rd f_991 o 3 = .int tn := ((Fr.put (cs := [(5, 4)]) (a := o) (ci := 5) Fr.rf Ext.rf (hTo.at 1 rfl).2 (by decide) hrd_992 hup_993).1 o (hTo.at 1 rfl).1 5 (hTo.at 1 rfl).2 3 (by decide)).trans hk_919
            have hk_1000 : rd f_991 o 4 = .int 1 := (hrd_992 o 4).trans (if_pos ⟨rfl, rfl⟩)
            have hg3 : (if Kp tt ln (gnu (Kp tt ln) (Vp tt ln) (nq tt ln) 0 5 (gpa (Kp tt ln) (nq tt ln) (Kp tt ln q.1) q)).1 = 60 then (60 : Int32) else 61) = 60 := if_pos (by rw [← hrq_910.K]; exact c_923)
            refine lv_aload_n hx hb dX2_readTest_85 rfl (lv_at hl 0 rfl) ?_
            refine lv_aload_n hx hb dX2_readTest_86 rfl (lv_at hl 1 rfl) ?_
            refine T_get (ci := 5) (C := RX5) (T := TX5) (N := 8) (t := tI) hx hb hts inw_X2_readTest_5 hown hK hP hT 1 rfl rfl 4 (by decide) (hts (.fieldLink RX2 97 "VatHouse$Step" "below" "Z") (by decide +kernel)) (fun _ h9 => h9) rfl dX2_readTest_87 (fun v_1003 hv_1001 hr_1002 => ?_)
            obtain rfl : v_1003 = .int 1 := hr_1002.symm.trans hk_1000
            refine lv_if_eq (tgt := 98) hx hb dX2_readTest_90 (by decide) (fun c_1004 => ?_) (fun c_1004 => ?_)
            · exact absurd c_1004 (by decide)
            refine lv_bipush (v := 60) hx hb dX2_readTest_93 (by decide) ?_
            refine lv_goto (tgt := 100) hx hb dX2_readTest_95 (by decide) ?_
            have hTo := hT
            refine K_V ⟨hx, hb, hml, hown, hts⟩ (t_X2_pass l dC dI sa hlt g _ _ tt ln M (gnu (Kp tt ln) (Vp tt ln) (nq tt ln) 0 5 (gpa (Kp tt ln) (nq tt ln) (Kp tt ln q.1) q)) h0 60 tok ka sta vaa ax_895 tn_896 fa_897 pw_898 zz _ (hT.sub [0, 2, 3, 4, 5] rfl)  hk_994 hk_995 hk_996 hk_997 hk_998 ((hF.1 h0 (hT0.at 0 rfl).1 2 (hT0.at 0 rfl).2 0 (by decide)).trans h_tok) ((hF.1 tok (hT0.at 2 rfl).1 6 (hT0.at 2 rfl).2 4 (by decide)).trans h_ka) ((hF.1 tok (hT0.at 2 rfl).1 6 (hT0.at 2 rfl).2 5 (by decide)).trans h_sta) ((hF.1 tok (hT0.at 2 rfl).1 6 (hT0.at 2 rfl).2 6 (by decide)).trans h_vaa) hzz (hTK.go (hF.2 ka (hT0.at 3 rfl).1 0 _ _ (hT0.at 3 rfl).2 (by decide)) (hF.2 sta (hT0.at 4 rfl).1 0 _ _ (hT0.at 4 rfl).2 (by decide)) (hF.2 vaa (hT0.at 5 rfl).1 0 _ _ (hT0.at 5 rfl).2 (by decide))) hrq_910 (Or.inl (by decide))) (cwV 1 hts gX2_readTest_X2_pass rfl rfl rfl (by decide +kernel) ⟨Nat.le_of_ble_eq_true rfl, Nat.le_of_ble_eq_true rfl⟩) hP hD hK hS hA hev hT 0 2 rfl rfl rfl rfl hl.1 rfl (Nat.le_of_ble_eq_true rfl) dX2_readTest_100 ⟨Nat.le_of_ble_eq_true rfl, Nat.le_of_ble_eq_true rfl⟩ (fun r L_1005 f_1006 H locs hw_1007 hP hD hS hT hE1 => ?_)
            have hF := Fr.call hF hE hw_1007.2.1 (by decide)
            have hE := hE.tr hE1
            obtain ⟨rfl, hw_1007⟩ := hw_1007
            obtain ⟨hfr_1008, ax_1009, tn_1010, fa_1011, pw_1012, hk_1013, hk_1014, hk_1015, hk_1016, hrel_1017, hrel_1018, hrel_1019, hrel_1020, hex_1021⟩ := hw_1007
            have hk_1022 : rd f_1006 tok 3 = .int zz := (hfr_1008.1 tok (hTo.at 2 rfl).1 6 (hTo.at 2 rfl).2 3 (by decide)).trans hk_998
            have hk_1023 : rd f_1006 o 3 = .int tn := (hfr_1008.1 o (hTo.at 1 rfl).1 5 (hTo.at 1 rfl).2 3 (by decide)).trans hk_999
            have hk_1024 : rd f_1006 o 4 = .int 1 := (hfr_1008.1 o (hTo.at 1 rfl).1 5 (hTo.at 1 rfl).2 4 (by decide)).trans hk_1000
            have hrq_1025 := hex_1021
            refine W.eq (g2 := F0 m 103 ls []) rfl ?_
            refine lv_aload_n hx hb dX2_readTest_103 rfl (lv_at hl 1 rfl) ?_
            refine lv_aload_n hx hb dX2_readTest_104 rfl (lv_at hl 0 rfl) ?_
            refine lv_iconst (v := 0) hx hb dX2_readTest_105 (by decide) ?_
            refine lv_sipush (v := 9999) hx hb dX2_readTest_106 (by decide) ?_
            have hTo := hT
            refine K_V ⟨hx, hb, hml, hown, hts⟩ (t_X2_readNumber l dC dI sa hlt g _ _ tt ln M (gpa (Kp tt ln) (nq tt ln) 60 (gnu (Kp tt ln) (Vp tt ln) (nq tt ln) 0 5 (gpa (Kp tt ln) (nq tt ln) (Kp tt ln q.1) q))) h0 0 9999 tok ka sta vaa ax_1009 tn_1010 fa_1011 pw_1012 zz _ (hT.sub [0, 2, 3, 4, 5] rfl)  hk_1013 hk_1014 hk_1015 hk_1016 hk_1022 ((hF.1 h0 (hT0.at 0 rfl).1 2 (hT0.at 0 rfl).2 0 (by decide)).trans h_tok) ((hF.1 tok (hT0.at 2 rfl).1 6 (hT0.at 2 rfl).2 4 (by decide)).trans h_ka) ((hF.1 tok (hT0.at 2 rfl).1 6 (hT0.at 2 rfl).2 5 (by decide)).trans h_sta) ((hF.1 tok (hT0.at 2 rfl).1 6 (hT0.at 2 rfl).2 6 (by decide)).trans h_vaa) hzz (hTK.go (hF.2 ka (hT0.at 3 rfl).1 0 _ _ (hT0.at 3 rfl).2 (by decide)) (hF.2 sta (hT0.at 4 rfl).1 0 _ _ (hT0.at 4 rfl).2 (by decide)) (hF.2 vaa (hT0.at 5 rfl).1 0 _ _ (hT0.at 5 rfl).2 (by decide))) hrq_1025) (cwV 2 hts gX2_readTest_X2_readNumber rfl rfl rfl (by decide +kernel) ⟨Nat.le_of_ble_eq_true rfl, Nat.le_of_ble_eq_true rfl⟩) hP hD hK hS hA hev hT 0 2 rfl rfl rfl rfl hl.1 rfl (Nat.le_of_ble_eq_true rfl) dX2_readTest_109 ⟨Nat.le_of_ble_eq_true rfl, Nat.le_of_ble_eq_true rfl⟩ (fun r L_1026 f_1027 H locs hw_1028 hP hD hS hT hE1 => ?_)
            have hF := Fr.call hF hE hw_1028.2.1 (by decide)
            have hE := hE.tr hE1
            obtain ⟨⟨z_1029, rfl⟩, hw_1028⟩ := hw_1028
            obtain ⟨hfr_1030, ax_1031, tn_1032, fa_1033, pw_1034, hk_1035, hk_1036, hk_1037, hk_1038, hrel_1039, hrel_1040, hrel_1041, hrel_1042, hex_1043⟩ := hw_1028
            have hk_1044 : rd f_1027 tok 3 = .int zz := (hfr_1030.1 tok (hTo.at 2 rfl).1 6 (hTo.at 2 rfl).2 3 (by decide)).trans hk_1022
            have hk_1045 : rd f_1027 o 3 = .int tn := (hfr_1030.1 o (hTo.at 1 rfl).1 5 (hTo.at 1 rfl).2 3 (by decide)).trans hk_1023
            have hk_1046 : rd f_1027 o 4 = .int 1 := (hfr_1030.1 o (hTo.at 1 rfl).1 5 (hTo.at 1 rfl).2 4 (by decide)).trans hk_1024
            have hrq_1047 := hex_1043.2
            refine W.eq (g2 := F0 m 112 ls [.int z_1029, .ref o]) rfl ?_
            have hTo := hT
            refine T_put (ci := 5) (v := .int z_1029) (ty := .int) (t := tI) (C := RX5) (T := TX5) (N := 8) hx hb hts inw_X2_readTest_5 tyX5 tyX5_ok nmX5 hown hK hP hD hS hT 1 rfl rfl 2 (by decide) (hts (.fieldLink RX2 79 "VatHouse$Step" "number" "I") (by decide +kernel)) (fun _ h9 => h9) rfl (by decide +kernel) rfl rfl rfl ⟨_, rfl⟩ dX2_readTest_112 (fun f_1048 H locs hP hD hS hT hE1 hrd_1049 hup_1050 => ?_)
            have hF := Fr.put (a := o) (ci := 5) hF hE ((hE1 o (hT.at 1 rfl).1).2.symm.trans (hT.at 1 rfl).2) (by decide) hrd_1049 hup_1050
            have hE := hE.tr hE1
            have hk_1051 : rd f_1048 h0 1 = .int ax_1031 := ((Fr.put (cs := [(5, 2)]) (a := o) (ci := 5) Fr.rf Ext.rf (hTo.at 1 rfl).2 (by decide) hrd_1049 hup_1050).1 h0 (hTo.at 0 rfl).1 2 (hTo.at 0 rfl).2 1 (by decide)).trans hk_1035
            have hk_1052 : rd f_1048 h0 2 = .int tn_1032 := ((Fr.put (cs := [(5, 2)]) (a := o) (ci := 5) Fr.rf Ext.rf (hTo.at 1 rfl).2 (by decide) hrd_1049 hup_1050).1 h0 (hTo.at 0 rfl).1 2 (hTo.at 0 rfl).2 2 (by decide)).trans hk_1036
            have hk_1053 : rd f_1048 h0 3 = .int fa_1033 := ((Fr.put (cs := [(5, 2)]) (a := o) (ci := 5) Fr.rf Ext.rf (hTo.at 1 rfl).2 (by decide) hrd_1049 hup_1050).1 h0 (hTo.at 0 rfl).1 2 (hTo.at 0 rfl).2 3 (by decide)).trans hk_1037
            have hk_1054 : rd f_1048 h0 4 = .int pw_1034 := ((Fr.put (cs := [(5, 2)]) (a := o) (ci := 5) Fr.rf Ext.rf (hTo.at 1 rfl).2 (by decide) hrd_1049 hup_1050).1 h0 (hTo.at 0 rfl).1 2 (hTo.at 0 rfl).2 4 (by decide)).trans hk_1038
            have hk_1055 : rd f_1048 tok 3 = .int zz := ((Fr.put (cs := [(5, 2)]) (a := o) (ci := 5) Fr.rf Ext.rf (hTo.at 1 rfl).2 (by decide) hrd_1049 hup_1050).1 tok (hTo.at 2 rfl).1 6 (hTo.at 2 rfl).2 3 (by decide)).trans hk_1044
            have hk_1056 : rd f_1048 o 3 = .int tn := ((Fr.put (cs := [(5, 2)]) (a := o) (ci := 5) Fr.rf Ext.rf (hTo.at 1 rfl).2 (by decide) hrd_1049 hup_1050).1 o (hTo.at 1 rfl).1 5 (hTo.at 1 rfl).2 3 (by decide)).trans hk_1045
            have hk_1057 : rd f_1048 o 4 = .int 1 := ((Fr.put (cs := [(5, 2)]) (a := o) (ci := 5) Fr.rf Ext.rf (hTo.at 1 rfl).2 (by decide) hrd_1049 hup_1050).1 o (hTo.at 1 rfl).1 5 (hTo.at 1 rfl).2 4 (by decide)).trans hk_1046
            exact K_v hx hb hr hlocks hP hD hK hS hT hE ⟨rfl, hF, _, _, _, _, hk_1051, hk_1052, hk_1053, hk_1054, trivial, trivial, fun h9 => ((hrel_570 (hrel_905 ((hrel_1019 (hrel_1041 h9)).1))).1), trivial, (gte_b hg1 hg2 hg3) ▸ hrq_1047⟩ (Nat.le_of_ble_eq_true rfl) (Nat.le_of_ble_eq_true rfl) dX2_readTest_115
    · refine lv_aload_n hx hb dX2_readTest_18 rfl (lv_at hl 0 rfl) ?_
      refine lv_iconst (v := 1) hx hb dX2_readTest_19 (by decide) ?_
      have hTo := hT
      refine K_V ⟨hx, hb, hml, hown, hts⟩ (t_X2_refuse l dC dI sa hlt g _ _ tt ln M q h0 1 tok ka sta vaa ax tn fa pw _ (hT.sub [0, 2, 3, 4, 5] rfl)  hm_ax hm_tn hm_fa hm_pw ((hF.1 h0 (hT0.at 0 rfl).1 2 (hT0.at 0 rfl).2 0 (by decide)).trans h_tok) ((hF.1 tok (hT0.at 2 rfl).1 6 (hT0.at 2 rfl).2 4 (by decide)).trans h_ka) ((hF.1 tok (hT0.at 2 rfl).1 6 (hT0.at 2 rfl).2 5 (by decide)).trans h_sta) ((hF.1 tok (hT0.at 2 rfl).1 6 (hT0.at 2 rfl).2 6 (by decide)).trans h_vaa) (by decide) (hTK.go (hF.2 ka (hT0.at 3 rfl).1 0 _ _ (hT0.at 3 rfl).2 (by decide)) (hF.2 sta (hT0.at 4 rfl).1 0 _ _ (hT0.at 4 rfl).2 (by decide)) (hF.2 vaa (hT0.at 5 rfl).1 0 _ _ (hT0.at 5 rfl).2 (by decide))) hRQ) (cwV 1 hts gX2_readTest_X2_refuse rfl rfl rfl (by decide +kernel) ⟨Nat.le_of_ble_eq_true rfl, Nat.le_of_ble_eq_true rfl⟩) hP hD hK hS hA hev hT 0 2 rfl rfl rfl rfl hl.1 rfl (Nat.le_of_ble_eq_true rfl) dX2_readTest_20 ⟨Nat.le_of_ble_eq_true rfl, Nat.le_of_ble_eq_true rfl⟩ (fun r L_1058 f_1059 H locs hw_1060 hP hD hS hT hE1 => ?_)
      have hF := Fr.call hF hE hw_1060.2.1 (by decide)
      have hE := hE.tr hE1
      obtain ⟨rfl, hw_1060⟩ := hw_1060
      obtain ⟨hfr_1061, fa_1062, pw_1063, hk_1064, hk_1065, hrel_1066, hrel_1067, hex_1068⟩ := hw_1060
      have hk_1069 : rd f_1059 h0 1 = .int ax := (hfr_1061.1 h0 (hTo.at 0 rfl).1 2 (hTo.at 0 rfl).2 1 (by decide)).trans hm_ax
      have hk_1070 : rd f_1059 h0 2 = .int tn := (hfr_1061.1 h0 (hTo.at 0 rfl).1 2 (hTo.at 0 rfl).2 2 (by decide)).trans hm_tn
      have hk_1071 : rd f_1059 tok 3 = .int zz := (hfr_1061.1 tok (hTo.at 2 rfl).1 6 (hTo.at 2 rfl).2 3 (by decide)).trans hm_zz
      have hrq_1072 := hex_1068
      refine W.eq (g2 := F0 m 23 ls []) rfl ?_
      have hg1 : (if Kp tt ln q.1 < 15 ∨ 19 < Kp tt ln q.1 then grf 1 q else q) = (grf 1 q) := if_pos (Or.inr (by rw [← hRQ.K]; exact nle_lt c_540))
      refine lv_aload_n hx hb dX2_readTest_23 rfl (lv_at hl 1 rfl) ?_
      refine lv_aload_n hx hb dX2_readTest_24 rfl (lv_at hl 0 rfl) ?_
      refine T_get (ci := 2) (C := RX2) (T := TX2) (N := 6) (t := tI) hx hb hts inw_X2_readTest_2 hown hK hP hT 0 rfl rfl 2 (by decide) (hts (.fieldLink RX2 44 "VatHouse$Reader" "token" "I") (by decide +kernel)) (fun _ h9 => h9) rfl dX2_readTest_25 (fun v_1075 hv_1073 hr_1074 => ?_)
      obtain rfl : v_1075 = .int tn := hr_1074.symm.trans hk_1070
      have hTo := hT
      refine T_put (ci := 5) (v := .int tn) (ty := .int) (t := tI) (C := RX5) (T := TX5) (N := 8) hx hb hts inw_X2_readTest_5 tyX5 tyX5_ok nmX5 hown hK hP hD hS hT 1 rfl rfl 3 (by decide) (hts (.fieldLink RX2 94 "VatHouse$Step" "look" "I") (by decide +kernel)) (fun _ h9 => h9) rfl (by decide +kernel) rfl rfl rfl ⟨_, rfl⟩ dX2_readTest_28 (fun f_1076 H locs hP hD hS hT hE1 hrd_1077 hup_1078 => ?_)
      have hF := Fr.put (a := o) (ci := 5) hF hE ((hE1 o (hT.at 1 rfl).1).2.symm.trans (hT.at 1 rfl).2) (by decide) hrd_1077 hup_1078
      have hE := hE.tr hE1
      have hk_1079 : rd f_1076 h0 1 = .int ax := ((Fr.put (cs := [(5, 3)]) (a := o) (ci := 5) Fr.rf Ext.rf (hTo.at 1 rfl).2 (by decide) hrd_1077 hup_1078).1 h0 (hTo.at 0 rfl).1 2 (hTo.at 0 rfl).2 1 (by decide)).trans hk_1069
      have hk_1080 : rd f_1076 h0 2 = .int tn := ((Fr.put (cs := [(5, 3)]) (a := o) (ci := 5) Fr.rf Ext.rf (hTo.at 1 rfl).2 (by decide) hrd_1077 hup_1078).1 h0 (hTo.at 0 rfl).1 2 (hTo.at 0 rfl).2 2 (by decide)).trans hk_1070
      have hk_1081 : rd f_1076 h0 3 = .int fa_1062 := ((Fr.put (cs := [(5, 3)]) (a := o) (ci := 5) Fr.rf Ext.rf (hTo.at 1 rfl).2 (by decide) hrd_1077 hup_1078).1 h0 (hTo.at 0 rfl).1 2 (hTo.at 0 rfl).2 3 (by decide)).trans hk_1064
      have hk_1082 : rd f_1076 h0 4 = .int pw_1063 := ((Fr.put (cs := [(5, 3)]) (a := o) (ci := 5) Fr.rf Ext.rf (hTo.at 1 rfl).2 (by decide) hrd_1077 hup_1078).1 h0 (hTo.at 0 rfl).1 2 (hTo.at 0 rfl).2 4 (by decide)).trans hk_1065
      have hk_1083 : rd f_1076 tok 3 = .int zz := ((Fr.put (cs := [(5, 3)]) (a := o) (ci := 5) Fr.rf Ext.rf (hTo.at 1 rfl).2 (by decide) hrd_1077 hup_1078).1 tok (hTo.at 2 rfl).1 6 (hTo.at 2 rfl).2 3 (by decide)).trans hk_1071
      have hk_1084 : rd f_1076 o 3 = .int tn := (hrd_1077 o 3).trans (if_pos ⟨rfl, rfl⟩)
      refine lv_aload_n hx hb dX2_readTest_31 rfl (lv_at hl 0 rfl) ?_
      refine lv_aload_n hx hb dX2_readTest_32 rfl (lv_at hl 0 rfl) ?_
      refine T_get (ci := 2) (C := RX2) (T := TX2) (N := 6) (t := tI) hx hb hts inw_X2_readTest_2 hown hK hP hT 0 rfl rfl 2 (by decide) (hts (.fieldLink RX2 44 "VatHouse$Reader" "token" "I") (by decide +kernel)) (fun _ h9 => h9) rfl dX2_readTest_33 (fun v_1087 hv_1085 hr_1086 => ?_)
      obtain rfl : v_1087 = .int tn := hr_1086.symm.trans hk_1080
      have hTo := hT
      refine K_V ⟨hx, hb, hml, hown, hts⟩ (t_X2_pass l dC dI sa hlt g _ _ tt ln M (grf 1 q) h0 tn tok ka sta vaa ax tn fa_1062 pw_1063 zz _ (hT.sub [0, 2, 3, 4, 5] rfl)  hk_1079 hk_1080 hk_1081 hk_1082 hk_1083 ((hF.1 h0 (hT0.at 0 rfl).1 2 (hT0.at 0 rfl).2 0 (by decide)).trans h_tok) ((hF.1 tok (hT0.at 2 rfl).1 6 (hT0.at 2 rfl).2 4 (by decide)).trans h_ka) ((hF.1 tok (hT0.at 2 rfl).1 6 (hT0.at 2 rfl).2 5 (by decide)).trans h_sta) ((hF.1 tok (hT0.at 2 rfl).1 6 (hT0.at 2 rfl).2 6 (by decide)).trans h_vaa) hzz (hTK.go (hF.2 ka (hT0.at 3 rfl).1 0 _ _ (hT0.at 3 rfl).2 (by decide)) (hF.2 sta (hT0.at 4 rfl).1 0 _ _ (hT0.at 4 rfl).2 (by decide)) (hF.2 vaa (hT0.at 5 rfl).1 0 _ _ (hT0.at 5 rfl).2 (by decide))) hrq_1072 (Or.inr hrel_1066)) (cwV 1 hts gX2_readTest_X2_pass rfl rfl rfl (by decide +kernel) ⟨Nat.le_of_ble_eq_true rfl, Nat.le_of_ble_eq_true rfl⟩) hP hD hK hS hA hev hT 0 2 rfl rfl rfl rfl hl.1 rfl (Nat.le_of_ble_eq_true rfl) dX2_readTest_36 ⟨Nat.le_of_ble_eq_true rfl, Nat.le_of_ble_eq_true rfl⟩ (fun r L_1088 f_1089 H locs hw_1090 hP hD hS hT hE1 => ?_)
      have hF := Fr.call hF hE hw_1090.2.1 (by decide)
      have hE := hE.tr hE1
      obtain ⟨rfl, hw_1090⟩ := hw_1090
      obtain ⟨hfr_1091, ax_1092, tn_1093, fa_1094, pw_1095, hk_1096, hk_1097, hk_1098, hk_1099, hrel_1100, hrel_1101, hrel_1102, hrel_1103, hex_1104⟩ := hw_1090
      have hk_1105 : rd f_1089 tok 3 = .int zz := (hfr_1091.1 tok (hTo.at 2 rfl).1 6 (hTo.at 2 rfl).2 3 (by decide)).trans hk_1083
      have hk_1106 : rd f_1089 o 3 = .int tn := (hfr_1091.1 o (hTo.at 1 rfl).1 5 (hTo.at 1 rfl).2 3 (by decide)).trans hk_1084
      have hrq_1107 : RQ tt ln M (gpa (Kp tt ln) (nq tt ln) (Kp tt ln q.1) (grf 1 q)) ax_1092 tn_1093 fa_1094 pw_1095 := hRQ.K ▸ hex_1104
      refine W.eq (g2 := F0 m 39 ls []) rfl ?_
      refine lv_aload_n hx hb dX2_readTest_39 rfl (lv_at hl 1 rfl) ?_
      refine T_get (ci := 5) (C := RX5) (T := TX5) (N := 8) (t := tI) hx hb hts inw_X2_readTest_5 hown hK hP hT 1 rfl rfl 3 (by decide) (hts (.fieldLink RX2 94 "VatHouse$Step" "look" "I") (by decide +kernel)) (fun _ h9 => h9) rfl dX2_readTest_40 (fun v_1110 hv_1108 hr_1109 => ?_)
      obtain rfl : v_1110 = .int tn := hr_1109.symm.trans hk_1106
      refine lv_bipush (v := 17) hx hb dX2_readTest_43 (by decide) ?_
      refine lv_icmp_eq (tgt := 57) hx hb dX2_readTest_45 (by decide) (fun c_1111 => ?_) (fun c_1111 => ?_)
      · refine lv_aload_n hx hb dX2_readTest_57 rfl (lv_at hl 1 rfl) ?_
        refine lv_aload_n hx hb dX2_readTest_58 rfl (lv_at hl 0 rfl) ?_
        refine lv_iconst (v := 0) hx hb dX2_readTest_59 (by decide) ?_
        refine lv_iconst (v := 5) hx hb dX2_readTest_60 (by decide) ?_
        have hTo := hT
        refine K_V ⟨hx, hb, hml, hown, hts⟩ (t_X2_readNumber l dC dI sa hlt g _ _ tt ln M (gpa (Kp tt ln) (nq tt ln) (Kp tt ln q.1) (grf 1 q)) h0 0 5 tok ka sta vaa ax_1092 tn_1093 fa_1094 pw_1095 zz _ (hT.sub [0, 2, 3, 4, 5] rfl)  hk_1096 hk_1097 hk_1098 hk_1099 hk_1105 ((hF.1 h0 (hT0.at 0 rfl).1 2 (hT0.at 0 rfl).2 0 (by decide)).trans h_tok) ((hF.1 tok (hT0.at 2 rfl).1 6 (hT0.at 2 rfl).2 4 (by decide)).trans h_ka) ((hF.1 tok (hT0.at 2 rfl).1 6 (hT0.at 2 rfl).2 5 (by decide)).trans h_sta) ((hF.1 tok (hT0.at 2 rfl).1 6 (hT0.at 2 rfl).2 6 (by decide)).trans h_vaa) hzz (hTK.go (hF.2 ka (hT0.at 3 rfl).1 0 _ _ (hT0.at 3 rfl).2 (by decide)) (hF.2 sta (hT0.at 4 rfl).1 0 _ _ (hT0.at 4 rfl).2 (by decide)) (hF.2 vaa (hT0.at 5 rfl).1 0 _ _ (hT0.at 5 rfl).2 (by decide))) hrq_1107) (cwV 2 hts gX2_readTest_X2_readNumber rfl rfl rfl (by decide +kernel) ⟨Nat.le_of_ble_eq_true rfl, Nat.le_of_ble_eq_true rfl⟩) hP hD hK hS hA hev hT 0 2 rfl rfl rfl rfl hl.1 rfl (Nat.le_of_ble_eq_true rfl) dX2_readTest_61 ⟨Nat.le_of_ble_eq_true rfl, Nat.le_of_ble_eq_true rfl⟩ (fun r L_1112 f_1113 H locs hw_1114 hP hD hS hT hE1 => ?_)
        have hF := Fr.call hF hE hw_1114.2.1 (by decide)
        have hE := hE.tr hE1
        obtain ⟨⟨z_1115, rfl⟩, hw_1114⟩ := hw_1114
        obtain ⟨hfr_1116, ax_1117, tn_1118, fa_1119, pw_1120, hk_1121, hk_1122, hk_1123, hk_1124, hrel_1125, hrel_1126, hrel_1127, hrel_1128, hex_1129⟩ := hw_1114
        have hk_1130 : rd f_1113 tok 3 = .int zz := (hfr_1116.1 tok (hTo.at 2 rfl).1 6 (hTo.at 2 rfl).2 3 (by decide)).trans hk_1105
        have hk_1131 : rd f_1113 o 3 = .int tn := (hfr_1116.1 o (hTo.at 1 rfl).1 5 (hTo.at 1 rfl).2 3 (by decide)).trans hk_1106
        have hrq_1132 := hex_1129.2
        refine W.eq (g2 := F0 m 64 ls [.int z_1115, .ref o]) rfl ?_
        have hTo := hT
        refine T_put (ci := 5) (v := .int z_1115) (ty := .int) (t := tI) (C := RX5) (T := TX5) (N := 8) hx hb hts inw_X2_readTest_5 tyX5 tyX5_ok nmX5 hown hK hP hD hS hT 1 rfl rfl 1 (by decide) (hts (.fieldLink RX2 76 "VatHouse$Step" "vat" "I") (by decide +kernel)) (fun _ h9 => h9) rfl (by decide +kernel) rfl rfl rfl ⟨_, rfl⟩ dX2_readTest_64 (fun f_1133 H locs hP hD hS hT hE1 hrd_1134 hup_1135 => ?_)
        have hF := Fr.put (a := o) (ci := 5) hF hE ((hE1 o (hT.at 1 rfl).1).2.symm.trans (hT.at 1 rfl).2) (by decide) hrd_1134 hup_1135
        have hE := hE.tr hE1
        have hk_1136 : rd f_1133 h0 1 = .int ax_1117 := ((Fr.put (cs := [(5, 1)]) (a := o) (ci := 5) Fr.rf Ext.rf (hTo.at 1 rfl).2 (by decide) hrd_1134 hup_1135).1 h0 (hTo.at 0 rfl).1 2 (hTo.at 0 rfl).2 1 (by decide)).trans hk_1121
        have hk_1137 : rd f_1133 h0 2 = .int tn_1118 := ((Fr.put (cs := [(5, 1)]) (a := o) (ci := 5) Fr.rf Ext.rf (hTo.at 1 rfl).2 (by decide) hrd_1134 hup_1135).1 h0 (hTo.at 0 rfl).1 2 (hTo.at 0 rfl).2 2 (by decide)).trans hk_1122
        have hk_1138 : rd f_1133 h0 3 = .int fa_1119 := ((Fr.put (cs := [(5, 1)]) (a := o) (ci := 5) Fr.rf Ext.rf (hTo.at 1 rfl).2 (by decide) hrd_1134 hup_1135).1 h0 (hTo.at 0 rfl).1 2 (hTo.at 0 rfl).2 3 (by decide)).trans hk_1123
        have hk_1139 : rd f_1133 h0 4 = .int pw_1120 := ((Fr.put (cs := [(5, 1)]) (a := o) (ci := 5) Fr.rf Ext.rf (hTo.at 1 rfl).2 (by decide) hrd_1134 hup_1135).1 h0 (hTo.at 0 rfl).1 2 (hTo.at 0 rfl).2 4 (by decide)).trans hk_1124
        have hk_1140 : rd f_1133 tok 3 = .int zz := ((Fr.put (cs := [(5, 1)]) (a := o) (ci := 5) Fr.rf Ext.rf (hTo.at 1 rfl).2 (by decide) hrd_1134 hup_1135).1 tok (hTo.at 2 rfl).1 6 (hTo.at 2 rfl).2 3 (by decide)).trans hk_1130
        have hk_1141 : rd f_1133 o 3 = .int tn := ((Fr.put (cs := [(5, 1)]) (a := o) (ci := 5) Fr.rf Ext.rf (hTo.at 1 rfl).2 (by decide) hrd_1134 hup_1135).1 o (hTo.at 1 rfl).1 5 (hTo.at 1 rfl).2 3 (by decide)).trans hk_1131
        have hg2 : gte2 (Kp tt ln) (Vp tt ln) (nq tt ln) (Kp tt ln q.1) (gpa (Kp tt ln) (nq tt ln) (Kp tt ln q.1) (grf 1 q)) = (gnu (Kp tt ln) (Vp tt ln) (nq tt ln) 0 5 (gpa (Kp tt ln) (nq tt ln) (Kp tt ln q.1) (grf 1 q))) := if_pos (Or.inl (by rw [← hRQ.K]; exact c_1111))
        refine lv_aload_n hx hb dX2_readTest_67 rfl (lv_at hl 1 rfl) ?_
        refine lv_aload_n hx hb dX2_readTest_68 rfl (lv_at hl 0 rfl) ?_
        refine T_get (ci := 2) (C := RX2) (T := TX2) (N := 6) (t := tI) hx hb hts inw_X2_readTest_2 hown hK hP hT 0 rfl rfl 2 (by decide) (hts (.fieldLink RX2 44 "VatHouse$Reader" "token" "I") (by decide +kernel)) (fun _ h9 => h9) rfl dX2_readTest_69 (fun v_1144 hv_1142 hr_1143 => ?_)
        obtain rfl : v_1144 = .int tn_1118 := hr_1143.symm.trans hk_1137
        refine lv_bipush (v := 60) hx hb dX2_readTest_72 (by decide) ?_
        refine lv_icmp_ne (tgt := 81) hx hb dX2_readTest_74 (by decide) (fun c_1145 => ?_) (fun c_1145 => ?_)
        · refine lv_iconst (v := 0) hx hb dX2_readTest_81 (by decide) ?_
          have hTo := hT
          refine T_put (ci := 5) (v := .int 0) (ty := .boolean) (t := tI) (C := RX5) (T := TX5) (N := 8) hx hb hts inw_X2_readTest_5 tyX5 tyX5_ok nmX5 hown hK hP hD hS hT 1 rfl rfl 4 (by decide) (hts (.fieldLink RX2 97 "VatHouse$Step" "below" "Z") (by decide +kernel)) (fun _ h9 => h9) rfl (by decide +kernel) rfl rfl rfl ⟨_, rfl⟩ dX2_readTest_82 (fun f_1146 H locs hP hD hS hT hE1 hrd_1147 hup_1148 => ?_)
          have hF := Fr.put (a := o) (ci := 5) hF hE ((hE1 o (hT.at 1 rfl).1).2.symm.trans (hT.at 1 rfl).2) (by decide) hrd_1147 hup_1148
          have hE := hE.tr hE1
          have hk_1149 : rd f_1146 h0 1 = .int ax_1117 := ((Fr.put (cs := [(5, 4)]) (a := o) (ci := 5) Fr.rf Ext.rf (hTo.at 1 rfl).2 (by decide) hrd_1147 hup_1148).1 h0 (hTo.at 0 rfl).1 2 (hTo.at 0 rfl).2 1 (by decide)).trans hk_1136
          have hk_1150 : rd f_1146 h0 2 = .int tn_1118 := ((Fr.put (cs := [(5, 4)]) (a := o) (ci := 5) Fr.rf Ext.rf (hTo.at 1 rfl).2 (by decide) hrd_1147 hup_1148).1 h0 (hTo.at 0 rfl).1 2 (hTo.at 0 rfl).2 2 (by decide)).trans hk_1137
          have hk_1151 : rd f_1146 h0 3 = .int fa_1119 := ((Fr.put (cs := [(5, 4)]) (a := o) (ci := 5) Fr.rf Ext.rf (hTo.at 1 rfl).2 (by decide) hrd_1147 hup_1148).1 h0 (hTo.at 0 rfl).1 2 (hTo.at 0 rfl).2 3 (by decide)).trans hk_1138
          have hk_1152 : rd f_1146 h0 4 = .int pw_1120 := ((Fr.put (cs := [(5, 4)]) (a := o) (ci := 5) Fr.rf Ext.rf (hTo.at 1 rfl).2 (by decide) hrd_1147 hup_1148).1 h0 (hTo.at 0 rfl).1 2 (hTo.at 0 rfl).2 4 (by decide)).trans hk_1139
          have hk_1153 : rd f_1146 tok 3 = .int zz := ((Fr.put (cs := [(5, 4)]) (a := o) (ci := 5) Fr.rf Ext.rf (hTo.at 1 rfl).2 (by decide) hrd_1147 hup_1148).1 tok (hTo.at 2 rfl).1 6 (hTo.at 2 rfl).2 3 (by decide)).trans hk_1140
          have hk_1154 : rd f_1146 o 3 = .int tn := ((Fr.put (cs := [(5, 4)]) (a := o) (ci := 5) Fr.rf Ext.rf (hTo.at 1 rfl).2 (by decide) hrd_1147 hup_1148).1 o (hTo.at 1 rfl).1 5 (hTo.at 1 rfl).2 3 (by decide)).trans hk_1141
          have hk_1155 : rd f_1146 o 4 = .int 0 := (hrd_1147 o 4).trans (if_pos ⟨rfl, rfl⟩)
          have hg3 : (if Kp tt ln (gnu (Kp tt ln) (Vp tt ln) (nq tt ln) 0 5 (gpa (Kp tt ln) (nq tt ln) (Kp tt ln q.1) (grf 1 q))).1 = 60 then (60 : Int32) else 61) = 61 := if_neg (by rw [← hrq_1132.K]; exact c_1145)
          refine lv_aload_n hx hb dX2_readTest_85 rfl (lv_at hl 0 rfl) ?_
          refine lv_aload_n hx hb dX2_readTest_86 rfl (lv_at hl 1 rfl) ?_
          refine T_get (ci := 5) (C := RX5) (T := TX5) (N := 8) (t := tI) hx hb hts inw_X2_readTest_5 hown hK hP hT 1 rfl rfl 4 (by decide) (hts (.fieldLink RX2 97 "VatHouse$Step" "below" "Z") (by decide +kernel)) (fun _ h9 => h9) rfl dX2_readTest_87 (fun v_1158 hv_1156 hr_1157 => ?_)
          obtain rfl : v_1158 = .int 0 := hr_1157.symm.trans hk_1155
          refine lv_if_eq (tgt := 98) hx hb dX2_readTest_90 (by decide) (fun c_1159 => ?_) (fun c_1159 => ?_)
          rotate_left
          · exact absurd c_1159 (by decide)
          refine lv_bipush (v := 61) hx hb dX2_readTest_98 (by decide) ?_
          have hTo := hT
          refine K_V ⟨hx, hb, hml, hown, hts⟩ (t_X2_pass l dC dI sa hlt g _ _ tt ln M (gnu (Kp tt ln) (Vp tt ln) (nq tt ln) 0 5 (gpa (Kp tt ln) (nq tt ln) (Kp tt ln q.1) (grf 1 q))) h0 61 tok ka sta vaa ax_1117 tn_1118 fa_1119 pw_1120 zz _ (hT.sub [0, 2, 3, 4, 5] rfl)  hk_1149 hk_1150 hk_1151 hk_1152 hk_1153 ((hF.1 h0 (hT0.at 0 rfl).1 2 (hT0.at 0 rfl).2 0 (by decide)).trans h_tok) ((hF.1 tok (hT0.at 2 rfl).1 6 (hT0.at 2 rfl).2 4 (by decide)).trans h_ka) ((hF.1 tok (hT0.at 2 rfl).1 6 (hT0.at 2 rfl).2 5 (by decide)).trans h_sta) ((hF.1 tok (hT0.at 2 rfl).1 6 (hT0.at 2 rfl).2 6 (by decide)).trans h_vaa) hzz (hTK.go (hF.2 ka (hT0.at 3 rfl).1 0 _ _ (hT0.at 3 rfl).2 (by decide)) (hF.2 sta (hT0.at 4 rfl).1 0 _ _ (hT0.at 4 rfl).2 (by decide)) (hF.2 vaa (hT0.at 5 rfl).1 0 _ _ (hT0.at 5 rfl).2 (by decide))) hrq_1132 (Or.inl (by decide))) (cwV 1 hts gX2_readTest_X2_pass rfl rfl rfl (by decide +kernel) ⟨Nat.le_of_ble_eq_true rfl, Nat.le_of_ble_eq_true rfl⟩) hP hD hK hS hA hev hT 0 2 rfl rfl rfl rfl hl.1 rfl (Nat.le_of_ble_eq_true rfl) dX2_readTest_100 ⟨Nat.le_of_ble_eq_true rfl, Nat.le_of_ble_eq_true rfl⟩ (fun r L_1160 f_1161 H locs hw_1162 hP hD hS hT hE1 => ?_)
          have hF := Fr.call hF hE hw_1162.2.1 (by decide)
          have hE := hE.tr hE1
          obtain ⟨rfl, hw_1162⟩ := hw_1162
          obtain ⟨hfr_1163, ax_1164, tn_1165, fa_1166, pw_1167, hk_1168, hk_1169, hk_1170, hk_1171, hrel_1172, hrel_1173, hrel_1174, hrel_1175, hex_1176⟩ := hw_1162
          have hk_1177 : rd f_1161 tok 3 = .int zz := (hfr_1163.1 tok (hTo.at 2 rfl).1 6 (hTo.at 2 rfl).2 3 (by decide)).trans hk_1153
          have hk_1178 : rd f_1161 o 3 = .int tn := (hfr_1163.1 o (hTo.at 1 rfl).1 5 (hTo.at 1 rfl).2 3 (by decide)).trans hk_1154
          have hk_1179 : rd f_1161 o 4 = .int 0 := (hfr_1163.1 o (hTo.at 1 rfl).1 5 (hTo.at 1 rfl).2 4 (by decide)).trans hk_1155
          have hrq_1180 := hex_1176
          refine W.eq (g2 := F0 m 103 ls []) rfl ?_
          refine lv_aload_n hx hb dX2_readTest_103 rfl (lv_at hl 1 rfl) ?_
          refine lv_aload_n hx hb dX2_readTest_104 rfl (lv_at hl 0 rfl) ?_
          refine lv_iconst (v := 0) hx hb dX2_readTest_105 (by decide) ?_
          refine lv_sipush (v := 9999) hx hb dX2_readTest_106 (by decide) ?_
          have hTo := hT
          refine K_V ⟨hx, hb, hml, hown, hts⟩ (t_X2_readNumber l dC dI sa hlt g _ _ tt ln M (gpa (Kp tt ln) (nq tt ln) 61 (gnu (Kp tt ln) (Vp tt ln) (nq tt ln) 0 5 (gpa (Kp tt ln) (nq tt ln) (Kp tt ln q.1) (grf 1 q)))) h0 0 9999 tok ka sta vaa ax_1164 tn_1165 fa_1166 pw_1167 zz _ (hT.sub [0, 2, 3, 4, 5] rfl)  hk_1168 hk_1169 hk_1170 hk_1171 hk_1177 ((hF.1 h0 (hT0.at 0 rfl).1 2 (hT0.at 0 rfl).2 0 (by decide)).trans h_tok) ((hF.1 tok (hT0.at 2 rfl).1 6 (hT0.at 2 rfl).2 4 (by decide)).trans h_ka) ((hF.1 tok (hT0.at 2 rfl).1 6 (hT0.at 2 rfl).2 5 (by decide)).trans h_sta) ((hF.1 tok (hT0.at 2 rfl).1 6 (hT0.at 2 rfl).2 6 (by decide)).trans h_vaa) hzz (hTK.go (hF.2 ka (hT0.at 3 rfl).1 0 _ _ (hT0.at 3 rfl).2 (by decide)) (hF.2 sta (hT0.at 4 rfl).1 0 _ _ (hT0.at 4 rfl).2 (by decide)) (hF.2 vaa (hT0.at 5 rfl).1 0 _ _ (hT0.at 5 rfl).2 (by decide))) hrq_1180) (cwV 2 hts gX2_readTest_X2_readNumber rfl rfl rfl (by decide +kernel) ⟨Nat.le_of_ble_eq_true rfl, Nat.le_of_ble_eq_true rfl⟩) hP hD hK hS hA hev hT 0 2 rfl rfl rfl rfl hl.1 rfl (Nat.le_of_ble_eq_true rfl) dX2_readTest_109 ⟨Nat.le_of_ble_eq_true rfl, Nat.le_of_ble_eq_true rfl⟩ (fun r L_1181 f_1182 H locs hw_1183 hP hD hS hT hE1 => ?_)
          have hF := Fr.call hF hE hw_1183.2.1 (by decide)
          have hE := hE.tr hE1
          obtain ⟨⟨z_1184, rfl⟩, hw_1183⟩ := hw_1183
          obtain ⟨hfr_1185, ax_1186, tn_1187, fa_1188, pw_1189, hk_1190, hk_1191, hk_1192, hk_1193, hrel_1194, hrel_1195, hrel_1196, hrel_1197, hex_1198⟩ := hw_1183
          have hk_1199 : rd f_1182 tok 3 = .int zz := (hfr_1185.1 tok (hTo.at 2 rfl).1 6 (hTo.at 2 rfl).2 3 (by decide)).trans hk_1177
          have hk_1200 : rd f_1182 o 3 = .int tn := (hfr_1185.1 o (hTo.at 1 rfl).1 5 (hTo.at 1 rfl).2 3 (by decide)).trans hk_1178
          have hk_1201 : rd f_1182 o 4 = .int 0 := (hfr_1185.1 o (hTo.at 1 rfl).1 5 (hTo.at 1 rfl).2 4 (by decide)).trans hk_1179
          have hrq_1202 := hex_1198.2
          refine W.eq (g2 := F0 m 112 ls [.int z_1184, .ref o]) rfl ?_
          have hTo := hT
          refine T_put (ci := 5) (v := .int z_1184) (ty := .int) (t := tI) (C := RX5) (T := TX5) (N := 8) hx hb hts inw_X2_readTest_5 tyX5 tyX5_ok nmX5 hown hK hP hD hS hT 1 rfl rfl 2 (by decide) (hts (.fieldLink RX2 79 "VatHouse$Step" "number" "I") (by decide +kernel)) (fun _ h9 => h9) rfl (by decide +kernel) rfl rfl rfl ⟨_, rfl⟩ dX2_readTest_112 (fun f_1203 H locs hP hD hS hT hE1 hrd_1204 hup_1205 => ?_)
          have hF := Fr.put (a := o) (ci := 5) hF hE ((hE1 o (hT.at 1 rfl).1).2.symm.trans (hT.at 1 rfl).2) (by decide) hrd_1204 hup_1205
          have hE := hE.tr hE1
          have hk_1206 : rd f_1203 h0 1 = .int ax_1186 := ((Fr.put (cs := [(5, 2)]) (a := o) (ci := 5) Fr.rf Ext.rf (hTo.at 1 rfl).2 (by decide) hrd_1204 hup_1205).1 h0 (hTo.at 0 rfl).1 2 (hTo.at 0 rfl).2 1 (by decide)).trans hk_1190
          have hk_1207 : rd f_1203 h0 2 = .int tn_1187 := ((Fr.put (cs := [(5, 2)]) (a := o) (ci := 5) Fr.rf Ext.rf (hTo.at 1 rfl).2 (by decide) hrd_1204 hup_1205).1 h0 (hTo.at 0 rfl).1 2 (hTo.at 0 rfl).2 2 (by decide)).trans hk_1191
          have hk_1208 : rd f_1203 h0 3 = .int fa_1188 := ((Fr.put (cs := [(5, 2)]) (a := o) (ci := 5) Fr.rf Ext.rf (hTo.at 1 rfl).2 (by decide) hrd_1204 hup_1205).1 h0 (hTo.at 0 rfl).1 2 (hTo.at 0 rfl).2 3 (by decide)).trans hk_1192
          have hk_1209 : rd f_1203 h0 4 = .int pw_1189 := ((Fr.put (cs := [(5, 2)]) (a := o) (ci := 5) Fr.rf Ext.rf (hTo.at 1 rfl).2 (by decide) hrd_1204 hup_1205).1 h0 (hTo.at 0 rfl).1 2 (hTo.at 0 rfl).2 4 (by decide)).trans hk_1193
          have hk_1210 : rd f_1203 tok 3 = .int zz := ((Fr.put (cs := [(5, 2)]) (a := o) (ci := 5) Fr.rf Ext.rf (hTo.at 1 rfl).2 (by decide) hrd_1204 hup_1205).1 tok (hTo.at 2 rfl).1 6 (hTo.at 2 rfl).2 3 (by decide)).trans hk_1199
          have hk_1211 : rd f_1203 o 3 = .int tn := ((Fr.put (cs := [(5, 2)]) (a := o) (ci := 5) Fr.rf Ext.rf (hTo.at 1 rfl).2 (by decide) hrd_1204 hup_1205).1 o (hTo.at 1 rfl).1 5 (hTo.at 1 rfl).2 3 (by decide)).trans hk_1200
          have hk_1212 : rd f_1203 o 4 = .int 0 := ((Fr.put (cs := [(5, 2)]) (a := o) (ci := 5) Fr.rf Ext.rf (hTo.at 1 rfl).2 (by decide) hrd_1204 hup_1205).1 o (hTo.at 1 rfl).1 5 (hTo.at 1 rfl).2 4 (by decide)).trans hk_1201
          exact K_v hx hb hr hlocks hP hD hK hS hT hE ⟨rfl, hF, _, _, _, _, hk_1206, hk_1207, hk_1208, hk_1209, trivial, trivial, fun h9 => (absurd ((hrel_1102 (hrel_1127 ((hrel_1174 (hrel_1196 h9)).1))).1) hrel_1066), trivial, (gte_b hg1 hg2 hg3) ▸ hrq_1202⟩ (Nat.le_of_ble_eq_true rfl) (Nat.le_of_ble_eq_true rfl) dX2_readTest_115
        · refine lv_iconst (v := 1) hx hb dX2_readTest_77 (by decide) ?_
          refine lv_goto (tgt := 82) hx hb dX2_readTest_78 (by decide) ?_
          have hTo := hT
          refine T_put (ci := 5) (v := .int 1) (ty := .boolean) (t := tI) (C := RX5) (T := TX5) (N := 8) hx hb hts inw_X2_readTest_5 tyX5 tyX5_ok nmX5 hown hK hP hD hS hT 1 rfl rfl 4 (by decide) (hts (.fieldLink RX2 97 "VatHouse$Step" "below" "Z") (by decide +kernel)) (fun _ h9 => h9) rfl (by decide +kernel) rfl rfl rfl ⟨_, rfl⟩ dX2_readTest_82 (fun f_1213 H locs hP hD hS hT hE1 hrd_1214 hup_1215 => ?_)
          have hF := Fr.put (a := o) (ci := 5) hF hE ((hE1 o (hT.at 1 rfl).1).2.symm.trans (hT.at 1 rfl).2) (by decide) hrd_1214 hup_1215
          have hE := hE.tr hE1
          have hk_1216 : rd f_1213 h0 1 = .int ax_1117 := ((Fr.put (cs := [(5, 4)]) (a := o) (ci := 5) Fr.rf Ext.rf (hTo.at 1 rfl).2 (by decide) hrd_1214 hup_1215).1 h0 (hTo.at 0 rfl).1 2 (hTo.at 0 rfl).2 1 (by decide)).trans hk_1136
          have hk_1217 : rd f_1213 h0 2 = .int tn_1118 := ((Fr.put (cs := [(5, 4)]) (a := o) (ci := 5) Fr.rf Ext.rf (hTo.at 1 rfl).2 (by decide) hrd_1214 hup_1215).1 h0 (hTo.at 0 rfl).1 2 (hTo.at 0 rfl).2 2 (by decide)).trans hk_1137
          have hk_1218 : rd f_1213 h0 3 = .int fa_1119 := ((Fr.put (cs := [(5, 4)]) (a := o) (ci := 5) Fr.rf Ext.rf (hTo.at 1 rfl).2 (by decide) hrd_1214 hup_1215).1 h0 (hTo.at 0 rfl).1 2 (hTo.at 0 rfl).2 3 (by decide)).trans hk_1138
          have hk_1219 : rd f_1213 h0 4 = .int pw_1120 := ((Fr.put (cs := [(5, 4)]) (a := o) (ci := 5) Fr.rf Ext.rf (hTo.at 1 rfl).2 (by decide) hrd_1214 hup_1215).1 h0 (hTo.at 0 rfl).1 2 (hTo.at 0 rfl).2 4 (by decide)).trans hk_1139
          have hk_1220 : rd f_1213 tok 3 = .int zz := ((Fr.put (cs := [(5, 4)]) (a := o) (ci := 5) Fr.rf Ext.rf (hTo.at 1 rfl).2 (by decide) hrd_1214 hup_1215).1 tok (hTo.at 2 rfl).1 6 (hTo.at 2 rfl).2 3 (by decide)).trans hk_1140
          have hk_1221 : rd f_1213 o 3 = .int tn := ((Fr.put (cs := [(5, 4)]) (a := o) (ci := 5) Fr.rf Ext.rf (hTo.at 1 rfl).2 (by decide) hrd_1214 hup_1215).1 o (hTo.at 1 rfl).1 5 (hTo.at 1 rfl).2 3 (by decide)).trans hk_1141
          have hk_1222 : rd f_1213 o 4 = .int 1 := (hrd_1214 o 4).trans (if_pos ⟨rfl, rfl⟩)
          have hg3 : (if Kp tt ln (gnu (Kp tt ln) (Vp tt ln) (nq tt ln) 0 5 (gpa (Kp tt ln) (nq tt ln) (Kp tt ln q.1) (grf 1 q))).1 = 60 then (60 : Int32) else 61) = 60 := if_pos (by rw [← hrq_1132.K]; exact c_1145)
          refine lv_aload_n hx hb dX2_readTest_85 rfl (lv_at hl 0 rfl) ?_
          refine lv_aload_n hx hb dX2_readTest_86 rfl (lv_at hl 1 rfl) ?_
          refine T_get (ci := 5) (C := RX5) (T := TX5) (N := 8) (t := tI) hx hb hts inw_X2_readTest_5 hown hK hP hT 1 rfl rfl 4 (by decide) (hts (.fieldLink RX2 97 "VatHouse$Step" "below" "Z") (by decide +kernel)) (fun _ h9 => h9) rfl dX2_readTest_87 (fun v_1225 hv_1223 hr_1224 => ?_)
          obtain rfl : v_1225 = .int 1 := hr_1224.symm.trans hk_1222
          refine lv_if_eq (tgt := 98) hx hb dX2_readTest_90 (by decide) (fun c_1226 => ?_) (fun c_1226 => ?_)
          · exact absurd c_1226 (by decide)
          refine lv_bipush (v := 60) hx hb dX2_readTest_93 (by decide) ?_
          refine lv_goto (tgt := 100) hx hb dX2_readTest_95 (by decide) ?_
          have hTo := hT
          refine K_V ⟨hx, hb, hml, hown, hts⟩ (t_X2_pass l dC dI sa hlt g _ _ tt ln M (gnu (Kp tt ln) (Vp tt ln) (nq tt ln) 0 5 (gpa (Kp tt ln) (nq tt ln) (Kp tt ln q.1) (grf 1 q))) h0 60 tok ka sta vaa ax_1117 tn_1118 fa_1119 pw_1120 zz _ (hT.sub [0, 2, 3, 4, 5] rfl)  hk_1216 hk_1217 hk_1218 hk_1219 hk_1220 ((hF.1 h0 (hT0.at 0 rfl).1 2 (hT0.at 0 rfl).2 0 (by decide)).trans h_tok) ((hF.1 tok (hT0.at 2 rfl).1 6 (hT0.at 2 rfl).2 4 (by decide)).trans h_ka) ((hF.1 tok (hT0.at 2 rfl).1 6 (hT0.at 2 rfl).2 5 (by decide)).trans h_sta) ((hF.1 tok (hT0.at 2 rfl).1 6 (hT0.at 2 rfl).2 6 (by decide)).trans h_vaa) hzz (hTK.go (hF.2 ka (hT0.at 3 rfl).1 0 _ _ (hT0.at 3 rfl).2 (by decide)) (hF.2 sta (hT0.at 4 rfl).1 0 _ _ (hT0.at 4 rfl).2 (by decide)) (hF.2 vaa (hT0.at 5 rfl).1 0 _ _ (hT0.at 5 rfl).2 (by decide))) hrq_1132 (Or.inl (by decide))) (cwV 1 hts gX2_readTest_X2_pass rfl rfl rfl (by decide +kernel) ⟨Nat.le_of_ble_eq_true rfl, Nat.le_of_ble_eq_true rfl⟩) hP hD hK hS hA hev hT 0 2 rfl rfl rfl rfl hl.1 rfl (Nat.le_of_ble_eq_true rfl) dX2_readTest_100 ⟨Nat.le_of_ble_eq_true rfl, Nat.le_of_ble_eq_true rfl⟩ (fun r L_1227 f_1228 H locs hw_1229 hP hD hS hT hE1 => ?_)
          have hF := Fr.call hF hE hw_1229.2.1 (by decide)
          have hE := hE.tr hE1
          obtain ⟨rfl, hw_1229⟩ := hw_1229
          obtain ⟨hfr_1230, ax_1231, tn_1232, fa_1233, pw_1234, hk_1235, hk_1236, hk_1237, hk_1238, hrel_1239, hrel_1240, hrel_1241, hrel_1242, hex_1243⟩ := hw_1229
          have hk_1244 : rd f_1228 tok 3 = .int zz := (hfr_1230.1 tok (hTo.at 2 rfl).1 6 (hTo.at 2 rfl).2 3 (by decide)).trans hk_1220
          have hk_1245 : rd f_1228 o 3 = .int tn := (hfr_1230.1 o (hTo.at 1 rfl).1 5 (hTo.at 1 rfl).2 3 (by decide)).trans hk_1221
          have hk_1246 : rd f_1228 o 4 = .int 1 := (hfr_1230.1 o (hTo.at 1 rfl).1 5 (hTo.at 1 rfl).2 4 (by decide)).trans hk_1222
          have hrq_1247 := hex_1243
          refine W.eq (g2 := F0 m 103 ls []) rfl ?_
          refine lv_aload_n hx hb dX2_readTest_103 rfl (lv_at hl 1 rfl) ?_
          refine lv_aload_n hx hb dX2_readTest_104 rfl (lv_at hl 0 rfl) ?_
          refine lv_iconst (v := 0) hx hb dX2_readTest_105 (by decide) ?_
          refine lv_sipush (v := 9999) hx hb dX2_readTest_106 (by decide) ?_
          have hTo := hT
          refine K_V ⟨hx, hb, hml, hown, hts⟩ (t_X2_readNumber l dC dI sa hlt g _ _ tt ln M (gpa (Kp tt ln) (nq tt ln) 60 (gnu (Kp tt ln) (Vp tt ln) (nq tt ln) 0 5 (gpa (Kp tt ln) (nq tt ln) (Kp tt ln q.1) (grf 1 q)))) h0 0 9999 tok ka sta vaa ax_1231 tn_1232 fa_1233 pw_1234 zz _ (hT.sub [0, 2, 3, 4, 5] rfl)  hk_1235 hk_1236 hk_1237 hk_1238 hk_1244 ((hF.1 h0 (hT0.at 0 rfl).1 2 (hT0.at 0 rfl).2 0 (by decide)).trans h_tok) ((hF.1 tok (hT0.at 2 rfl).1 6 (hT0.at 2 rfl).2 4 (by decide)).trans h_ka) ((hF.1 tok (hT0.at 2 rfl).1 6 (hT0.at 2 rfl).2 5 (by decide)).trans h_sta) ((hF.1 tok (hT0.at 2 rfl).1 6 (hT0.at 2 rfl).2 6 (by decide)).trans h_vaa) hzz (hTK.go (hF.2 ka (hT0.at 3 rfl).1 0 _ _ (hT0.at 3 rfl).2 (by decide)) (hF.2 sta (hT0.at 4 rfl).1 0 _ _ (hT0.at 4 rfl).2 (by decide)) (hF.2 vaa (hT0.at 5 rfl).1 0 _ _ (hT0.at 5 rfl).2 (by decide))) hrq_1247) (cwV 2 hts gX2_readTest_X2_readNumber rfl rfl rfl (by decide +kernel) ⟨Nat.le_of_ble_eq_true rfl, Nat.le_of_ble_eq_true rfl⟩) hP hD hK hS hA hev hT 0 2 rfl rfl rfl rfl hl.1 rfl (Nat.le_of_ble_eq_true rfl) dX2_readTest_109 ⟨Nat.le_of_ble_eq_true rfl, Nat.le_of_ble_eq_true rfl⟩ (fun r L_1248 f_1249 H locs hw_1250 hP hD hS hT hE1 => ?_)
          have hF := Fr.call hF hE hw_1250.2.1 (by decide)
          have hE := hE.tr hE1
          obtain ⟨⟨z_1251, rfl⟩, hw_1250⟩ := hw_1250
          obtain ⟨hfr_1252, ax_1253, tn_1254, fa_1255, pw_1256, hk_1257, hk_1258, hk_1259, hk_1260, hrel_1261, hrel_1262, hrel_1263, hrel_1264, hex_1265⟩ := hw_1250
          have hk_1266 : rd f_1249 tok 3 = .int zz := (hfr_1252.1 tok (hTo.at 2 rfl).1 6 (hTo.at 2 rfl).2 3 (by decide)).trans hk_1244
          have hk_1267 : rd f_1249 o 3 = .int tn := (hfr_1252.1 o (hTo.at 1 rfl).1 5 (hTo.at 1 rfl).2 3 (by decide)).trans hk_1245
          have hk_1268 : rd f_1249 o 4 = .int 1 := (hfr_1252.1 o (hTo.at 1 rfl).1 5 (hTo.at 1 rfl).2 4 (by decide)).trans hk_1246
          have hrq_1269 := hex_1265.2
          refine W.eq (g2 := F0 m 112 ls [.int z_1251, .ref o]) rfl ?_
          have hTo := hT
          refine T_put (ci := 5) (v := .int z_1251) (ty := .int) (t := tI) (C := RX5) (T := TX5) (N := 8) hx hb hts inw_X2_readTest_5 tyX5 tyX5_ok nmX5 hown hK hP hD hS hT 1 rfl rfl 2 (by decide) (hts (.fieldLink RX2 79 "VatHouse$Step" "number" "I") (by decide +kernel)) (fun _ h9 => h9) rfl (by decide +kernel) rfl rfl rfl ⟨_, rfl⟩ dX2_readTest_112 (fun f_1270 H locs hP hD hS hT hE1 hrd_1271 hup_1272 => ?_)
          have hF := Fr.put (a := o) (ci := 5) hF hE ((hE1 o (hT.at 1 rfl).1).2.symm.trans (hT.at 1 rfl).2) (by decide) hrd_1271 hup_1272
          have hE := hE.tr hE1
          have hk_1273 : rd f_1270 h0 1 = .int ax_1253 := ((Fr.put (cs := [(5, 2)]) (a := o) (ci := 5) Fr.rf Ext.rf (hTo.at 1 rfl).2 (by decide) hrd_1271 hup_1272).1 h0 (hTo.at 0 rfl).1 2 (hTo.at 0 rfl).2 1 (by decide)).trans hk_1257
          have hk_1274 : rd f_1270 h0 2 = .int tn_1254 := ((Fr.put (cs := [(5, 2)]) (a := o) (ci := 5) Fr.rf Ext.rf (hTo.at 1 rfl).2 (by decide) hrd_1271 hup_1272).1 h0 (hTo.at 0 rfl).1 2 (hTo.at 0 rfl).2 2 (by decide)).trans hk_1258
          have hk_1275 : rd f_1270 h0 3 = .int fa_1255 := ((Fr.put (cs := [(5, 2)]) (a := o) (ci := 5) Fr.rf Ext.rf (hTo.at 1 rfl).2 (by decide) hrd_1271 hup_1272).1 h0 (hTo.at 0 rfl).1 2 (hTo.at 0 rfl).2 3 (by decide)).trans hk_1259
          have hk_1276 : rd f_1270 h0 4 = .int pw_1256 := ((Fr.put (cs := [(5, 2)]) (a := o) (ci := 5) Fr.rf Ext.rf (hTo.at 1 rfl).2 (by decide) hrd_1271 hup_1272).1 h0 (hTo.at 0 rfl).1 2 (hTo.at 0 rfl).2 4 (by decide)).trans hk_1260
          have hk_1277 : rd f_1270 tok 3 = .int zz := ((Fr.put (cs := [(5, 2)]) (a := o) (ci := 5) Fr.rf Ext.rf (hTo.at 1 rfl).2 (by decide) hrd_1271 hup_1272).1 tok (hTo.at 2 rfl).1 6 (hTo.at 2 rfl).2 3 (by decide)).trans hk_1266
          have hk_1278 : rd f_1270 o 3 = .int tn := ((Fr.put (cs := [(5, 2)]) (a := o) (ci := 5) Fr.rf Ext.rf (hTo.at 1 rfl).2 (by decide) hrd_1271 hup_1272).1 o (hTo.at 1 rfl).1 5 (hTo.at 1 rfl).2 3 (by decide)).trans hk_1267
          have hk_1279 : rd f_1270 o 4 = .int 1 := ((Fr.put (cs := [(5, 2)]) (a := o) (ci := 5) Fr.rf Ext.rf (hTo.at 1 rfl).2 (by decide) hrd_1271 hup_1272).1 o (hTo.at 1 rfl).1 5 (hTo.at 1 rfl).2 4 (by decide)).trans hk_1268
          exact K_v hx hb hr hlocks hP hD hK hS hT hE ⟨rfl, hF, _, _, _, _, hk_1273, hk_1274, hk_1275, hk_1276, trivial, trivial, fun h9 => (absurd ((hrel_1102 (hrel_1127 ((hrel_1241 (hrel_1263 h9)).1))).1) hrel_1066), trivial, (gte_b hg1 hg2 hg3) ▸ hrq_1269⟩ (Nat.le_of_ble_eq_true rfl) (Nat.le_of_ble_eq_true rfl) dX2_readTest_115
      · refine lv_aload_n hx hb dX2_readTest_48 rfl (lv_at hl 1 rfl) ?_
        refine T_get (ci := 5) (C := RX5) (T := TX5) (N := 8) (t := tI) hx hb hts inw_X2_readTest_5 hown hK hP hT 1 rfl rfl 3 (by decide) (hts (.fieldLink RX2 94 "VatHouse$Step" "look" "I") (by decide +kernel)) (fun _ h9 => h9) rfl dX2_readTest_49 (fun v_1282 hv_1280 hr_1281 => ?_)
        obtain rfl : v_1282 = .int tn := hr_1281.symm.trans hk_1106
        refine lv_bipush (v := 18) hx hb dX2_readTest_52 (by decide) ?_
        refine lv_icmp_ne (tgt := 67) hx hb dX2_readTest_54 (by decide) (fun c_1283 => ?_) (fun c_1283 => ?_)
        · have hg2 : gte2 (Kp tt ln) (Vp tt ln) (nq tt ln) (Kp tt ln q.1) (gpa (Kp tt ln) (nq tt ln) (Kp tt ln q.1) (grf 1 q)) = (gpa (Kp tt ln) (nq tt ln) (Kp tt ln q.1) (grf 1 q)) := if_neg (by rw [← hRQ.K]; rintro (h9 | h9); exact c_1111 h9; exact c_1283 h9)
          refine lv_aload_n hx hb dX2_readTest_67 rfl (lv_at hl 1 rfl) ?_
          refine lv_aload_n hx hb dX2_readTest_68 rfl (lv_at hl 0 rfl) ?_
          refine T_get (ci := 2) (C := RX2) (T := TX2) (N := 6) (t := tI) hx hb hts inw_X2_readTest_2 hown hK hP hT 0 rfl rfl 2 (by decide) (hts (.fieldLink RX2 44 "VatHouse$Reader" "token" "I") (by decide +kernel)) (fun _ h9 => h9) rfl dX2_readTest_69 (fun v_1286 hv_1284 hr_1285 => ?_)
          obtain rfl : v_1286 = .int tn_1093 := hr_1285.symm.trans hk_1097
          refine lv_bipush (v := 60) hx hb dX2_readTest_72 (by decide) ?_
          refine lv_icmp_ne (tgt := 81) hx hb dX2_readTest_74 (by decide) (fun c_1287 => ?_) (fun c_1287 => ?_)
          · refine lv_iconst (v := 0) hx hb dX2_readTest_81 (by decide) ?_
            have hTo := hT
            refine T_put (ci := 5) (v := .int 0) (ty := .boolean) (t := tI) (C := RX5) (T := TX5) (N := 8) hx hb hts inw_X2_readTest_5 tyX5 tyX5_ok nmX5 hown hK hP hD hS hT 1 rfl rfl 4 (by decide) (hts (.fieldLink RX2 97 "VatHouse$Step" "below" "Z") (by decide +kernel)) (fun _ h9 => h9) rfl (by decide +kernel) rfl rfl rfl ⟨_, rfl⟩ dX2_readTest_82 (fun f_1288 H locs hP hD hS hT hE1 hrd_1289 hup_1290 => ?_)
            have hF := Fr.put (a := o) (ci := 5) hF hE ((hE1 o (hT.at 1 rfl).1).2.symm.trans (hT.at 1 rfl).2) (by decide) hrd_1289 hup_1290
            have hE := hE.tr hE1
            have hk_1291 : rd f_1288 h0 1 = .int ax_1092 := ((Fr.put (cs := [(5, 4)]) (a := o) (ci := 5) Fr.rf Ext.rf (hTo.at 1 rfl).2 (by decide) hrd_1289 hup_1290).1 h0 (hTo.at 0 rfl).1 2 (hTo.at 0 rfl).2 1 (by decide)).trans hk_1096
            have hk_1292 : rd f_1288 h0 2 = .int tn_1093 := ((Fr.put (cs := [(5, 4)]) (a := o) (ci := 5) Fr.rf Ext.rf (hTo.at 1 rfl).2 (by decide) hrd_1289 hup_1290).1 h0 (hTo.at 0 rfl).1 2 (hTo.at 0 rfl).2 2 (by decide)).trans hk_1097
            have hk_1293 : rd f_1288 h0 3 = .int fa_1094 := ((Fr.put (cs := [(5, 4)]) (a := o) (ci := 5) Fr.rf Ext.rf (hTo.at 1 rfl).2 (by decide) hrd_1289 hup_1290).1 h0 (hTo.at 0 rfl).1 2 (hTo.at 0 rfl).2 3 (by decide)).trans hk_1098
            have hk_1294 : rd f_1288 h0 4 = .int pw_1095 := ((Fr.put (cs := [(5, 4)]) (a := o) (ci := 5) Fr.rf Ext.rf (hTo.at 1 rfl).2 (by decide) hrd_1289 hup_1290).1 h0 (hTo.at 0 rfl).1 2 (hTo.at 0 rfl).2 4 (by decide)).trans hk_1099
            have hk_1295 : rd f_1288 tok 3 = .int zz := ((Fr.put (cs := [(5, 4)]) (a := o) (ci := 5) Fr.rf Ext.rf (hTo.at 1 rfl).2 (by decide) hrd_1289 hup_1290).1 tok (hTo.at 2 rfl).1 6 (hTo.at 2 rfl).2 3 (by decide)).trans hk_1105
            have hk_1296 : rd f_1288 o 3 = .int tn := ((Fr.put (cs := [(5, 4)]) (a := o) (ci := 5) Fr.rf Ext.rf (hTo.at 1 rfl).2 (by decide) hrd_1289 hup_1290).1 o (hTo.at 1 rfl).1 5 (hTo.at 1 rfl).2 3 (by decide)).trans hk_1106
            have hk_1297 : rd f_1288 o 4 = .int 0 := (hrd_1289 o 4).trans (if_pos ⟨rfl, rfl⟩)
            have hg3 : (if Kp tt ln (gpa (Kp tt ln) (nq tt ln) (Kp tt ln q.1) (grf 1 q)).1 = 60 then (60 : Int32) else 61) = 61 := if_neg (by rw [← hrq_1107.K]; exact c_1287)
            refine lv_aload_n hx hb dX2_readTest_85 rfl (lv_at hl 0 rfl) ?_
            refine lv_aload_n hx hb dX2_readTest_86 rfl (lv_at hl 1 rfl) ?_
            refine T_get (ci := 5) (C := RX5) (T := TX5) (N := 8) (t := tI) hx hb hts inw_X2_readTest_5 hown hK hP hT 1 rfl rfl 4 (by decide) (hts (.fieldLink RX2 97 "VatHouse$Step" "below" "Z") (by decide +kernel)) (fun _ h9 => h9) rfl dX2_readTest_87 (fun v_1300 hv_1298 hr_1299 => ?_)
            obtain rfl : v_1300 = .int 0 := hr_1299.symm.trans hk_1297
            refine lv_if_eq (tgt := 98) hx hb dX2_readTest_90 (by decide) (fun c_1301 => ?_) (fun c_1301 => ?_)
            rotate_left
            · exact absurd c_1301 (by decide)
            refine lv_bipush (v := 61) hx hb dX2_readTest_98 (by decide) ?_
            have hTo := hT
            refine K_V ⟨hx, hb, hml, hown, hts⟩ (t_X2_pass l dC dI sa hlt g _ _ tt ln M (gpa (Kp tt ln) (nq tt ln) (Kp tt ln q.1) (grf 1 q)) h0 61 tok ka sta vaa ax_1092 tn_1093 fa_1094 pw_1095 zz _ (hT.sub [0, 2, 3, 4, 5] rfl)  hk_1291 hk_1292 hk_1293 hk_1294 hk_1295 ((hF.1 h0 (hT0.at 0 rfl).1 2 (hT0.at 0 rfl).2 0 (by decide)).trans h_tok) ((hF.1 tok (hT0.at 2 rfl).1 6 (hT0.at 2 rfl).2 4 (by decide)).trans h_ka) ((hF.1 tok (hT0.at 2 rfl).1 6 (hT0.at 2 rfl).2 5 (by decide)).trans h_sta) ((hF.1 tok (hT0.at 2 rfl).1 6 (hT0.at 2 rfl).2 6 (by decide)).trans h_vaa) hzz (hTK.go (hF.2 ka (hT0.at 3 rfl).1 0 _ _ (hT0.at 3 rfl).2 (by decide)) (hF.2 sta (hT0.at 4 rfl).1 0 _ _ (hT0.at 4 rfl).2 (by decide)) (hF.2 vaa (hT0.at 5 rfl).1 0 _ _ (hT0.at 5 rfl).2 (by decide))) hrq_1107 (Or.inl (by decide))) (cwV 1 hts gX2_readTest_X2_pass rfl rfl rfl (by decide +kernel) ⟨Nat.le_of_ble_eq_true rfl, Nat.le_of_ble_eq_true rfl⟩) hP hD hK hS hA hev hT 0 2 rfl rfl rfl rfl hl.1 rfl (Nat.le_of_ble_eq_true rfl) dX2_readTest_100 ⟨Nat.le_of_ble_eq_true rfl, Nat.le_of_ble_eq_true rfl⟩ (fun r L_1302 f_1303 H locs hw_1304 hP hD hS hT hE1 => ?_)
            have hF := Fr.call hF hE hw_1304.2.1 (by decide)
            have hE := hE.tr hE1
            obtain ⟨rfl, hw_1304⟩ := hw_1304
            obtain ⟨hfr_1305, ax_1306, tn_1307, fa_1308, pw_1309, hk_1310, hk_1311, hk_1312, hk_1313, hrel_1314, hrel_1315, hrel_1316, hrel_1317, hex_1318⟩ := hw_1304
            have hk_1319 : rd f_1303 tok 3 = .int zz := (hfr_1305.1 tok (hTo.at 2 rfl).1 6 (hTo.at 2 rfl).2 3 (by decide)).trans hk_1295
            have hk_1320 : rd f_1303 o 3 = .int tn := (hfr_1305.1 o (hTo.at 1 rfl).1 5 (hTo.at 1 rfl).2 3 (by decide)).trans hk_1296
            have hk_1321 : rd f_1303 o 4 = .int 0 := (hfr_1305.1 o (hTo.at 1 rfl).1 5 (hTo.at 1 rfl).2 4 (by decide)).trans hk_1297
            have hrq_1322 := hex_1318
            refine W.eq (g2 := F0 m 103 ls []) rfl ?_
            refine lv_aload_n hx hb dX2_readTest_103 rfl (lv_at hl 1 rfl) ?_
            refine lv_aload_n hx hb dX2_readTest_104 rfl (lv_at hl 0 rfl) ?_
            refine lv_iconst (v := 0) hx hb dX2_readTest_105 (by decide) ?_
            refine lv_sipush (v := 9999) hx hb dX2_readTest_106 (by decide) ?_
            have hTo := hT
            refine K_V ⟨hx, hb, hml, hown, hts⟩ (t_X2_readNumber l dC dI sa hlt g _ _ tt ln M (gpa (Kp tt ln) (nq tt ln) 61 (gpa (Kp tt ln) (nq tt ln) (Kp tt ln q.1) (grf 1 q))) h0 0 9999 tok ka sta vaa ax_1306 tn_1307 fa_1308 pw_1309 zz _ (hT.sub [0, 2, 3, 4, 5] rfl)  hk_1310 hk_1311 hk_1312 hk_1313 hk_1319 ((hF.1 h0 (hT0.at 0 rfl).1 2 (hT0.at 0 rfl).2 0 (by decide)).trans h_tok) ((hF.1 tok (hT0.at 2 rfl).1 6 (hT0.at 2 rfl).2 4 (by decide)).trans h_ka) ((hF.1 tok (hT0.at 2 rfl).1 6 (hT0.at 2 rfl).2 5 (by decide)).trans h_sta) ((hF.1 tok (hT0.at 2 rfl).1 6 (hT0.at 2 rfl).2 6 (by decide)).trans h_vaa) hzz (hTK.go (hF.2 ka (hT0.at 3 rfl).1 0 _ _ (hT0.at 3 rfl).2 (by decide)) (hF.2 sta (hT0.at 4 rfl).1 0 _ _ (hT0.at 4 rfl).2 (by decide)) (hF.2 vaa (hT0.at 5 rfl).1 0 _ _ (hT0.at 5 rfl).2 (by decide))) hrq_1322) (cwV 2 hts gX2_readTest_X2_readNumber rfl rfl rfl (by decide +kernel) ⟨Nat.le_of_ble_eq_true rfl, Nat.le_of_ble_eq_true rfl⟩) hP hD hK hS hA hev hT 0 2 rfl rfl rfl rfl hl.1 rfl (Nat.le_of_ble_eq_true rfl) dX2_readTest_109 ⟨Nat.le_of_ble_eq_true rfl, Nat.le_of_ble_eq_true rfl⟩ (fun r L_1323 f_1324 H locs hw_1325 hP hD hS hT hE1 => ?_)
            have hF := Fr.call hF hE hw_1325.2.1 (by decide)
            have hE := hE.tr hE1
            obtain ⟨⟨z_1326, rfl⟩, hw_1325⟩ := hw_1325
            obtain ⟨hfr_1327, ax_1328, tn_1329, fa_1330, pw_1331, hk_1332, hk_1333, hk_1334, hk_1335, hrel_1336, hrel_1337, hrel_1338, hrel_1339, hex_1340⟩ := hw_1325
            have hk_1341 : rd f_1324 tok 3 = .int zz := (hfr_1327.1 tok (hTo.at 2 rfl).1 6 (hTo.at 2 rfl).2 3 (by decide)).trans hk_1319
            have hk_1342 : rd f_1324 o 3 = .int tn := (hfr_1327.1 o (hTo.at 1 rfl).1 5 (hTo.at 1 rfl).2 3 (by decide)).trans hk_1320
            have hk_1343 : rd f_1324 o 4 = .int 0 := (hfr_1327.1 o (hTo.at 1 rfl).1 5 (hTo.at 1 rfl).2 4 (by decide)).trans hk_1321
            have hrq_1344 := hex_1340.2
            refine W.eq (g2 := F0 m 112 ls [.int z_1326, .ref o]) rfl ?_
            have hTo := hT
            refine T_put (ci := 5) (v := .int z_1326) (ty := .int) (t := tI) (C := RX5) (T := TX5) (N := 8) hx hb hts inw_X2_readTest_5 tyX5 tyX5_ok nmX5 hown hK hP hD hS hT 1 rfl rfl 2 (by decide) (hts (.fieldLink RX2 79 "VatHouse$Step" "number" "I") (by decide +kernel)) (fun _ h9 => h9) rfl (by decide +kernel) rfl rfl rfl ⟨_, rfl⟩ dX2_readTest_112 (fun f_1345 H locs hP hD hS hT hE1 hrd_1346 hup_1347 => ?_)
            have hF := Fr.put (a := o) (ci := 5) hF hE ((hE1 o (hT.at 1 rfl).1).2.symm.trans (hT.at 1 rfl).2) (by decide) hrd_1346 hup_1347
            have hE := hE.tr hE1
            have hk_1348 : rd f_1345 h0 1 = .int ax_1328 := ((Fr.put (cs := [(5, 2)]) (a := o) (ci := 5) Fr.rf Ext.rf (hTo.at 1 rfl).2 (by decide) hrd_1346 hup_1347).1 h0 (hTo.at 0 rfl).1 2 (hTo.at 0 rfl).2 1 (by decide)).trans hk_1332
            have hk_1349 : rd f_1345 h0 2 = .int tn_1329 := ((Fr.put (cs := [(5, 2)]) (a := o) (ci := 5) Fr.rf Ext.rf (hTo.at 1 rfl).2 (by decide) hrd_1346 hup_1347).1 h0 (hTo.at 0 rfl).1 2 (hTo.at 0 rfl).2 2 (by decide)).trans hk_1333
            have hk_1350 : rd f_1345 h0 3 = .int fa_1330 := ((Fr.put (cs := [(5, 2)]) (a := o) (ci := 5) Fr.rf Ext.rf (hTo.at 1 rfl).2 (by decide) hrd_1346 hup_1347).1 h0 (hTo.at 0 rfl).1 2 (hTo.at 0 rfl).2 3 (by decide)).trans hk_1334
            have hk_1351 : rd f_1345 h0 4 = .int pw_1331 := ((Fr.put (cs := [(5, 2)]) (a := o) (ci := 5) Fr.rf Ext.rf (hTo.at 1 rfl).2 (by decide) hrd_1346 hup_1347).1 h0 (hTo.at 0 rfl).1 2 (hTo.at 0 rfl).2 4 (by decide)).trans hk_1335
            have hk_1352 : rd f_1345 tok 3 = .int zz := ((Fr.put (cs := [(5, 2)]) (a := o) (ci := 5) Fr.rf Ext.rf (hTo.at 1 rfl).2 (by decide) hrd_1346 hup_1347).1 tok (hTo.at 2 rfl).1 6 (hTo.at 2 rfl).2 3 (by decide)).trans hk_1341
            have hk_1353 : rd f_1345 o 3 = .int tn := ((Fr.put (cs := [(5, 2)]) (a := o) (ci := 5) Fr.rf Ext.rf (hTo.at 1 rfl).2 (by decide) hrd_1346 hup_1347).1 o (hTo.at 1 rfl).1 5 (hTo.at 1 rfl).2 3 (by decide)).trans hk_1342
            have hk_1354 : rd f_1345 o 4 = .int 0 := ((Fr.put (cs := [(5, 2)]) (a := o) (ci := 5) Fr.rf Ext.rf (hTo.at 1 rfl).2 (by decide) hrd_1346 hup_1347).1 o (hTo.at 1 rfl).1 5 (hTo.at 1 rfl).2 4 (by decide)).trans hk_1343
            exact K_v hx hb hr hlocks hP hD hK hS hT hE ⟨rfl, hF, _, _, _, _, hk_1348, hk_1349, hk_1350, hk_1351, trivial, trivial, fun h9 => (absurd ((hrel_1102 ((hrel_1316 (hrel_1338 h9)).1)).1) hrel_1066), trivial, (gte_b hg1 hg2 hg3) ▸ hrq_1344⟩ (Nat.le_of_ble_eq_true rfl) (Nat.le_of_ble_eq_true rfl) dX2_readTest_115
          · refine lv_iconst (v := 1) hx hb dX2_readTest_77 (by decide) ?_
            refine lv_goto (tgt := 82) hx hb dX2_readTest_78 (by decide) ?_
            have hTo := hT
            refine T_put (ci := 5) (v := .int 1) (ty := .boolean) (t := tI) (C := RX5) (T := TX5) (N := 8) hx hb hts inw_X2_readTest_5 tyX5 tyX5_ok nmX5 hown hK hP hD hS hT 1 rfl rfl 4 (by decide) (hts (.fieldLink RX2 97 "VatHouse$Step" "below" "Z") (by decide +kernel)) (fun _ h9 => h9) rfl (by decide +kernel) rfl rfl rfl ⟨_, rfl⟩ dX2_readTest_82 (fun f_1355 H locs hP hD hS hT hE1 hrd_1356 hup_1357 => ?_)
            have hF := Fr.put (a := o) (ci := 5) hF hE ((hE1 o (hT.at 1 rfl).1).2.symm.trans (hT.at 1 rfl).2) (by decide) hrd_1356 hup_1357
            have hE := hE.tr hE1
            have hk_1358 : rd f_1355 h0 1 = .int ax_1092 := ((Fr.put (cs := [(5, 4)]) (a := o) (ci := 5) Fr.rf Ext.rf (hTo.at 1 rfl).2 (by decide) hrd_1356 hup_1357).1 h0 (hTo.at 0 rfl).1 2 (hTo.at 0 rfl).2 1 (by decide)).trans hk_1096
            have hk_1359 : rd f_1355 h0 2 = .int tn_1093 := ((Fr.put (cs := [(5, 4)]) (a := o) (ci := 5) Fr.rf Ext.rf (hTo.at 1 rfl).2 (by decide) hrd_1356 hup_1357).1 h0 (hTo.at 0 rfl).1 2 (hTo.at 0 rfl).2 2 (by decide)).trans hk_1097
            have hk_1360 : rd f_1355 h0 3 = .int fa_1094 := ((Fr.put (cs := [(5, 4)]) (a := o) (ci := 5) Fr.rf Ext.rf (hTo.at 1 rfl).2 (by decide) hrd_1356 hup_1357).1 h0 (hTo.at 0 rfl).1 2 (hTo.at 0 rfl).2 3 (by decide)).trans hk_1098
            have hk_1361 : rd f_1355 h0 4 = .int pw_1095 := ((Fr.put (cs := [(5, 4)]) (a := o) (ci := 5) Fr.rf Ext.rf (hTo.at 1 rfl).2 (by decide) hrd_1356 hup_1357).1 h0 (hTo.at 0 rfl).1 2 (hTo.at 0 rfl).2 4 (by decide)).trans hk_1099
            have hk_1362 : rd f_1355 tok 3 = .int zz := ((Fr.put (cs := [(5, 4)]) (a := o) (ci := 5) Fr.rf Ext.rf (hTo.at 1 rfl).2 (by decide) hrd_1356 hup_1357).1 tok (hTo.at 2 rfl).1 6 (hTo.at 2 rfl).2 3 (by decide)).trans hk_1105
            have hk_1363 : rd f_1355 o 3 = .int tn := ((Fr.put (cs := [(5, 4)]) (a := o) (ci := 5) Fr.rf Ext.rf (hTo.at 1 rfl).2 (by decide) hrd_1356 hup_1357).1 o (hTo.at 1 rfl).1 5 (hTo.at 1 rfl).2 3 (by decide)).trans hk_1106
            have hk_1364 : rd f_1355 o 4 = .int 1 := (hrd_1356 o 4).trans (if_pos ⟨rfl, rfl⟩)
            have hg3 : (if Kp tt ln (gpa (Kp tt ln) (nq tt ln) (Kp tt ln q.1) (grf 1 q)).1 = 60 then (60 : Int32) else 61) = 60 := if_pos (by rw [← hrq_1107.K]; exact c_1287)
            refine lv_aload_n hx hb dX2_readTest_85 rfl (lv_at hl 0 rfl) ?_
            refine lv_aload_n hx hb dX2_readTest_86 rfl (lv_at hl 1 rfl) ?_
            refine T_get (ci := 5) (C := RX5) (T := TX5) (N := 8) (t := tI) hx hb hts inw_X2_readTest_5 hown hK hP hT 1 rfl rfl 4 (by decide) (hts (.fieldLink RX2 97 "VatHouse$Step" "below" "Z") (by decide +kernel)) (fun _ h9 => h9) rfl dX2_readTest_87 (fun v_1367 hv_1365 hr_1366 => ?_)
            obtain rfl : v_1367 = .int 1 := hr_1366.symm.trans hk_1364
            refine lv_if_eq (tgt := 98) hx hb dX2_readTest_90 (by decide) (fun c_1368 => ?_) (fun c_1368 => ?_)
            · exact absurd c_1368 (by decide)
            refine lv_bipush (v := 60) hx hb dX2_readTest_93 (by decide) ?_
            refine lv_goto (tgt := 100) hx hb dX2_readTest_95 (by decide) ?_
            have hTo := hT
            refine K_V ⟨hx, hb, hml, hown, hts⟩ (t_X2_pass l dC dI sa hlt g _ _ tt ln M (gpa (Kp tt ln) (nq tt ln) (Kp tt ln q.1) (grf 1 q)) h0 60 tok ka sta vaa ax_1092 tn_1093 fa_1094 pw_1095 zz _ (hT.sub [0, 2, 3, 4, 5] rfl)  hk_1358 hk_1359 hk_1360 hk_1361 hk_1362 ((hF.1 h0 (hT0.at 0 rfl).1 2 (hT0.at 0 rfl).2 0 (by decide)).trans h_tok) ((hF.1 tok (hT0.at 2 rfl).1 6 (hT0.at 2 rfl).2 4 (by decide)).trans h_ka) ((hF.1 tok (hT0.at 2 rfl).1 6 (hT0.at 2 rfl).2 5 (by decide)).trans h_sta) ((hF.1 tok (hT0.at 2 rfl).1 6 (hT0.at 2 rfl).2 6 (by decide)).trans h_vaa) hzz (hTK.go (hF.2 ka (hT0.at 3 rfl).1 0 _ _ (hT0.at 3 rfl).2 (by decide)) (hF.2 sta (hT0.at 4 rfl).1 0 _ _ (hT0.at 4 rfl).2 (by decide)) (hF.2 vaa (hT0.at 5 rfl).1 0 _ _ (hT0.at 5 rfl).2 (by decide))) hrq_1107 (Or.inl (by decide))) (cwV 1 hts gX2_readTest_X2_pass rfl rfl rfl (by decide +kernel) ⟨Nat.le_of_ble_eq_true rfl, Nat.le_of_ble_eq_true rfl⟩) hP hD hK hS hA hev hT 0 2 rfl rfl rfl rfl hl.1 rfl (Nat.le_of_ble_eq_true rfl) dX2_readTest_100 ⟨Nat.le_of_ble_eq_true rfl, Nat.le_of_ble_eq_true rfl⟩ (fun r L_1369 f_1370 H locs hw_1371 hP hD hS hT hE1 => ?_)
            have hF := Fr.call hF hE hw_1371.2.1 (by decide)
            have hE := hE.tr hE1
            obtain ⟨rfl, hw_1371⟩ := hw_1371
            obtain ⟨hfr_1372, ax_1373, tn_1374, fa_1375, pw_1376, hk_1377, hk_1378, hk_1379, hk_1380, hrel_1381, hrel_1382, hrel_1383, hrel_1384, hex_1385⟩ := hw_1371
            have hk_1386 : rd f_1370 tok 3 = .int zz := (hfr_1372.1 tok (hTo.at 2 rfl).1 6 (hTo.at 2 rfl).2 3 (by decide)).trans hk_1362
            have hk_1387 : rd f_1370 o 3 = .int tn := (hfr_1372.1 o (hTo.at 1 rfl).1 5 (hTo.at 1 rfl).2 3 (by decide)).trans hk_1363
            have hk_1388 : rd f_1370 o 4 = .int 1 := (hfr_1372.1 o (hTo.at 1 rfl).1 5 (hTo.at 1 rfl).2 4 (by decide)).trans hk_1364
            have hrq_1389 := hex_1385
            refine W.eq (g2 := F0 m 103 ls []) rfl ?_
            refine lv_aload_n hx hb dX2_readTest_103 rfl (lv_at hl 1 rfl) ?_
            refine lv_aload_n hx hb dX2_readTest_104 rfl (lv_at hl 0 rfl) ?_
            refine lv_iconst (v := 0) hx hb dX2_readTest_105 (by decide) ?_
            refine lv_sipush (v := 9999) hx hb dX2_readTest_106 (by decide) ?_
            have hTo := hT
            refine K_V ⟨hx, hb, hml, hown, hts⟩ (t_X2_readNumber l dC dI sa hlt g _ _ tt ln M (gpa (Kp tt ln) (nq tt ln) 60 (gpa (Kp tt ln) (nq tt ln) (Kp tt ln q.1) (grf 1 q))) h0 0 9999 tok ka sta vaa ax_1373 tn_1374 fa_1375 pw_1376 zz _ (hT.sub [0, 2, 3, 4, 5] rfl)  hk_1377 hk_1378 hk_1379 hk_1380 hk_1386 ((hF.1 h0 (hT0.at 0 rfl).1 2 (hT0.at 0 rfl).2 0 (by decide)).trans h_tok) ((hF.1 tok (hT0.at 2 rfl).1 6 (hT0.at 2 rfl).2 4 (by decide)).trans h_ka) ((hF.1 tok (hT0.at 2 rfl).1 6 (hT0.at 2 rfl).2 5 (by decide)).trans h_sta) ((hF.1 tok (hT0.at 2 rfl).1 6 (hT0.at 2 rfl).2 6 (by decide)).trans h_vaa) hzz (hTK.go (hF.2 ka (hT0.at 3 rfl).1 0 _ _ (hT0.at 3 rfl).2 (by decide)) (hF.2 sta (hT0.at 4 rfl).1 0 _ _ (hT0.at 4 rfl).2 (by decide)) (hF.2 vaa (hT0.at 5 rfl).1 0 _ _ (hT0.at 5 rfl).2 (by decide))) hrq_1389) (cwV 2 hts gX2_readTest_X2_readNumber rfl rfl rfl (by decide +kernel) ⟨Nat.le_of_ble_eq_true rfl, Nat.le_of_ble_eq_true rfl⟩) hP hD hK hS hA hev hT 0 2 rfl rfl rfl rfl hl.1 rfl (Nat.le_of_ble_eq_true rfl) dX2_readTest_109 ⟨Nat.le_of_ble_eq_true rfl, Nat.le_of_ble_eq_true rfl⟩ (fun r L_1390 f_1391 H locs hw_1392 hP hD hS hT hE1 => ?_)
            have hF := Fr.call hF hE hw_1392.2.1 (by decide)
            have hE := hE.tr hE1
            obtain ⟨⟨z_1393, rfl⟩, hw_1392⟩ := hw_1392
            obtain ⟨hfr_1394, ax_1395, tn_1396, fa_1397, pw_1398, hk_1399, hk_1400, hk_1401, hk_1402, hrel_1403, hrel_1404, hrel_1405, hrel_1406, hex_1407⟩ := hw_1392
            have hk_1408 : rd f_1391 tok 3 = .int zz := (hfr_1394.1 tok (hTo.at 2 rfl).1 6 (hTo.at 2 rfl).2 3 (by decide)).trans hk_1386
            have hk_1409 : rd f_1391 o 3 = .int tn := (hfr_1394.1 o (hTo.at 1 rfl).1 5 (hTo.at 1 rfl).2 3 (by decide)).trans hk_1387
            have hk_1410 : rd f_1391 o 4 = .int 1 := (hfr_1394.1 o (hTo.at 1 rfl).1 5 (hTo.at 1 rfl).2 4 (by decide)).trans hk_1388
            have hrq_1411 := hex_1407.2
            refine W.eq (g2 := F0 m 112 ls [.int z_1393, .ref o]) rfl ?_
            have hTo := hT
            refine T_put (ci := 5) (v := .int z_1393) (ty := .int) (t := tI) (C := RX5) (T := TX5) (N := 8) hx hb hts inw_X2_readTest_5 tyX5 tyX5_ok nmX5 hown hK hP hD hS hT 1 rfl rfl 2 (by decide) (hts (.fieldLink RX2 79 "VatHouse$Step" "number" "I") (by decide +kernel)) (fun _ h9 => h9) rfl (by decide +kernel) rfl rfl rfl ⟨_, rfl⟩ dX2_readTest_112 (fun f_1412 H locs hP hD hS hT hE1 hrd_1413 hup_1414 => ?_)
            have hF := Fr.put (a := o) (ci := 5) hF hE ((hE1 o (hT.at 1 rfl).1).2.symm.trans (hT.at 1 rfl).2) (by decide) hrd_1413 hup_1414
            have hE := hE.tr hE1
            have hk_1415 : rd f_1412 h0 1 = .int ax_1395 := ((Fr.put (cs := [(5, 2)]) (a := o) (ci := 5) Fr.rf Ext.rf (hTo.at 1 rfl).2 (by decide) hrd_1413 hup_1414).1 h0 (hTo.at 0 rfl).1 2 (hTo.at 0 rfl).2 1 (by decide)).trans hk_1399
            have hk_1416 : rd f_1412 h0 2 = .int tn_1396 := ((Fr.put (cs := [(5, 2)]) (a := o) (ci := 5) Fr.rf Ext.rf (hTo.at 1 rfl).2 (by decide) hrd_1413 hup_1414).1 h0 (hTo.at 0 rfl).1 2 (hTo.at 0 rfl).2 2 (by decide)).trans hk_1400
            have hk_1417 : rd f_1412 h0 3 = .int fa_1397 := ((Fr.put (cs := [(5, 2)]) (a := o) (ci := 5) Fr.rf Ext.rf (hTo.at 1 rfl).2 (by decide) hrd_1413 hup_1414).1 h0 (hTo.at 0 rfl).1 2 (hTo.at 0 rfl).2 3 (by decide)).trans hk_1401
            have hk_1418 : rd f_1412 h0 4 = .int pw_1398 := ((Fr.put (cs := [(5, 2)]) (a := o) (ci := 5) Fr.rf Ext.rf (hTo.at 1 rfl).2 (by decide) hrd_1413 hup_1414).1 h0 (hTo.at 0 rfl).1 2 (hTo.at 0 rfl).2 4 (by decide)).trans hk_1402
            have hk_1419 : rd f_1412 tok 3 = .int zz := ((Fr.put (cs := [(5, 2)]) (a := o) (ci := 5) Fr.rf Ext.rf (hTo.at 1 rfl).2 (by decide) hrd_1413 hup_1414).1 tok (hTo.at 2 rfl).1 6 (hTo.at 2 rfl).2 3 (by decide)).trans hk_1408
            have hk_1420 : rd f_1412 o 3 = .int tn := ((Fr.put (cs := [(5, 2)]) (a := o) (ci := 5) Fr.rf Ext.rf (hTo.at 1 rfl).2 (by decide) hrd_1413 hup_1414).1 o (hTo.at 1 rfl).1 5 (hTo.at 1 rfl).2 3 (by decide)).trans hk_1409
            have hk_1421 : rd f_1412 o 4 = .int 1 := ((Fr.put (cs := [(5, 2)]) (a := o) (ci := 5) Fr.rf Ext.rf (hTo.at 1 rfl).2 (by decide) hrd_1413 hup_1414).1 o (hTo.at 1 rfl).1 5 (hTo.at 1 rfl).2 4 (by decide)).trans hk_1410
            exact K_v hx hb hr hlocks hP hD hK hS hT hE ⟨rfl, hF, _, _, _, _, hk_1415, hk_1416, hk_1417, hk_1418, trivial, trivial, fun h9 => (absurd ((hrel_1102 ((hrel_1383 (hrel_1405 h9)).1)).1) hrel_1066), trivial, (gte_b hg1 hg2 hg3) ▸ hrq_1411⟩ (Nat.le_of_ble_eq_true rfl) (Nat.le_of_ble_eq_true rfl) dX2_readTest_115
        · refine lv_aload_n hx hb dX2_readTest_57 rfl (lv_at hl 1 rfl) ?_
          refine lv_aload_n hx hb dX2_readTest_58 rfl (lv_at hl 0 rfl) ?_
          refine lv_iconst (v := 0) hx hb dX2_readTest_59 (by decide) ?_
          refine lv_iconst (v := 5) hx hb dX2_readTest_60 (by decide) ?_
          have hTo := hT
          refine K_V ⟨hx, hb, hml, hown, hts⟩ (t_X2_readNumber l dC dI sa hlt g _ _ tt ln M (gpa (Kp tt ln) (nq tt ln) (Kp tt ln q.1) (grf 1 q)) h0 0 5 tok ka sta vaa ax_1092 tn_1093 fa_1094 pw_1095 zz _ (hT.sub [0, 2, 3, 4, 5] rfl)  hk_1096 hk_1097 hk_1098 hk_1099 hk_1105 ((hF.1 h0 (hT0.at 0 rfl).1 2 (hT0.at 0 rfl).2 0 (by decide)).trans h_tok) ((hF.1 tok (hT0.at 2 rfl).1 6 (hT0.at 2 rfl).2 4 (by decide)).trans h_ka) ((hF.1 tok (hT0.at 2 rfl).1 6 (hT0.at 2 rfl).2 5 (by decide)).trans h_sta) ((hF.1 tok (hT0.at 2 rfl).1 6 (hT0.at 2 rfl).2 6 (by decide)).trans h_vaa) hzz (hTK.go (hF.2 ka (hT0.at 3 rfl).1 0 _ _ (hT0.at 3 rfl).2 (by decide)) (hF.2 sta (hT0.at 4 rfl).1 0 _ _ (hT0.at 4 rfl).2 (by decide)) (hF.2 vaa (hT0.at 5 rfl).1 0 _ _ (hT0.at 5 rfl).2 (by decide))) hrq_1107) (cwV 2 hts gX2_readTest_X2_readNumber rfl rfl rfl (by decide +kernel) ⟨Nat.le_of_ble_eq_true rfl, Nat.le_of_ble_eq_true rfl⟩) hP hD hK hS hA hev hT 0 2 rfl rfl rfl rfl hl.1 rfl (Nat.le_of_ble_eq_true rfl) dX2_readTest_61 ⟨Nat.le_of_ble_eq_true rfl, Nat.le_of_ble_eq_true rfl⟩ (fun r L_1422 f_1423 H locs hw_1424 hP hD hS hT hE1 => ?_)
          have hF := Fr.call hF hE hw_1424.2.1 (by decide)
          have hE := hE.tr hE1
          obtain ⟨⟨z_1425, rfl⟩, hw_1424⟩ := hw_1424
          obtain ⟨hfr_1426, ax_1427, tn_1428, fa_1429, pw_1430, hk_1431, hk_1432, hk_1433, hk_1434, hrel_1435, hrel_1436, hrel_1437, hrel_1438, hex_1439⟩ := hw_1424
          have hk_1440 : rd f_1423 tok 3 = .int zz := (hfr_1426.1 tok (hTo.at 2 rfl).1 6 (hTo.at 2 rfl).2 3 (by decide)).trans hk_1105
          have hk_1441 : rd f_1423 o 3 = .int tn := (hfr_1426.1 o (hTo.at 1 rfl).1 5 (hTo.at 1 rfl).2 3 (by decide)).trans hk_1106
          have hrq_1442 := hex_1439.2
          refine W.eq (g2 := F0 m 64 ls [.int z_1425, .ref o]) rfl ?_
          have hTo := hT
          refine T_put (ci := 5) (v := .int z_1425) (ty := .int) (t := tI) (C := RX5) (T := TX5) (N := 8) hx hb hts inw_X2_readTest_5 tyX5 tyX5_ok nmX5 hown hK hP hD hS hT 1 rfl rfl 1 (by decide) (hts (.fieldLink RX2 76 "VatHouse$Step" "vat" "I") (by decide +kernel)) (fun _ h9 => h9) rfl (by decide +kernel) rfl rfl rfl ⟨_, rfl⟩ dX2_readTest_64 (fun f_1443 H locs hP hD hS hT hE1 hrd_1444 hup_1445 => ?_)
          have hF := Fr.put (a := o) (ci := 5) hF hE ((hE1 o (hT.at 1 rfl).1).2.symm.trans (hT.at 1 rfl).2) (by decide) hrd_1444 hup_1445
          have hE := hE.tr hE1
          have hk_1446 : rd f_1443 h0 1 = .int ax_1427 := ((Fr.put (cs := [(5, 1)]) (a := o) (ci := 5) Fr.rf Ext.rf (hTo.at 1 rfl).2 (by decide) hrd_1444 hup_1445).1 h0 (hTo.at 0 rfl).1 2 (hTo.at 0 rfl).2 1 (by decide)).trans hk_1431
          have hk_1447 : rd f_1443 h0 2 = .int tn_1428 := ((Fr.put (cs := [(5, 1)]) (a := o) (ci := 5) Fr.rf Ext.rf (hTo.at 1 rfl).2 (by decide) hrd_1444 hup_1445).1 h0 (hTo.at 0 rfl).1 2 (hTo.at 0 rfl).2 2 (by decide)).trans hk_1432
          have hk_1448 : rd f_1443 h0 3 = .int fa_1429 := ((Fr.put (cs := [(5, 1)]) (a := o) (ci := 5) Fr.rf Ext.rf (hTo.at 1 rfl).2 (by decide) hrd_1444 hup_1445).1 h0 (hTo.at 0 rfl).1 2 (hTo.at 0 rfl).2 3 (by decide)).trans hk_1433
          have hk_1449 : rd f_1443 h0 4 = .int pw_1430 := ((Fr.put (cs := [(5, 1)]) (a := o) (ci := 5) Fr.rf Ext.rf (hTo.at 1 rfl).2 (by decide) hrd_1444 hup_1445).1 h0 (hTo.at 0 rfl).1 2 (hTo.at 0 rfl).2 4 (by decide)).trans hk_1434
          have hk_1450 : rd f_1443 tok 3 = .int zz := ((Fr.put (cs := [(5, 1)]) (a := o) (ci := 5) Fr.rf Ext.rf (hTo.at 1 rfl).2 (by decide) hrd_1444 hup_1445).1 tok (hTo.at 2 rfl).1 6 (hTo.at 2 rfl).2 3 (by decide)).trans hk_1440
          have hk_1451 : rd f_1443 o 3 = .int tn := ((Fr.put (cs := [(5, 1)]) (a := o) (ci := 5) Fr.rf Ext.rf (hTo.at 1 rfl).2 (by decide) hrd_1444 hup_1445).1 o (hTo.at 1 rfl).1 5 (hTo.at 1 rfl).2 3 (by decide)).trans hk_1441
          have hg2 : gte2 (Kp tt ln) (Vp tt ln) (nq tt ln) (Kp tt ln q.1) (gpa (Kp tt ln) (nq tt ln) (Kp tt ln q.1) (grf 1 q)) = (gnu (Kp tt ln) (Vp tt ln) (nq tt ln) 0 5 (gpa (Kp tt ln) (nq tt ln) (Kp tt ln q.1) (grf 1 q))) := if_pos (Or.inr (by rw [← hRQ.K]; exact c_1283))
          refine lv_aload_n hx hb dX2_readTest_67 rfl (lv_at hl 1 rfl) ?_
          refine lv_aload_n hx hb dX2_readTest_68 rfl (lv_at hl 0 rfl) ?_
          refine T_get (ci := 2) (C := RX2) (T := TX2) (N := 6) (t := tI) hx hb hts inw_X2_readTest_2 hown hK hP hT 0 rfl rfl 2 (by decide) (hts (.fieldLink RX2 44 "VatHouse$Reader" "token" "I") (by decide +kernel)) (fun _ h9 => h9) rfl dX2_readTest_69 (fun v_1454 hv_1452 hr_1453 => ?_)
          obtain rfl : v_1454 = .int tn_1428 := hr_1453.symm.trans hk_1447
          refine lv_bipush (v := 60) hx hb dX2_readTest_72 (by decide) ?_
          refine lv_icmp_ne (tgt := 81) hx hb dX2_readTest_74 (by decide) (fun c_1455 => ?_) (fun c_1455 => ?_)
          · refine lv_iconst (v := 0) hx hb dX2_readTest_81 (by decide) ?_
            have hTo := hT
            refine T_put (ci := 5) (v := .int 0) (ty := .boolean) (t := tI) (C := RX5) (T := TX5) (N := 8) hx hb hts inw_X2_readTest_5 tyX5 tyX5_ok nmX5 hown hK hP hD hS hT 1 rfl rfl 4 (by decide) (hts (.fieldLink RX2 97 "VatHouse$Step" "below" "Z") (by decide +kernel)) (fun _ h9 => h9) rfl (by decide +kernel) rfl rfl rfl ⟨_, rfl⟩ dX2_readTest_82 (fun f_1456 H locs hP hD hS hT hE1 hrd_1457 hup_1458 => ?_)
            have hF := Fr.put (a := o) (ci := 5) hF hE ((hE1 o (hT.at 1 rfl).1).2.symm.trans (hT.at 1 rfl).2) (by decide) hrd_1457 hup_1458
            have hE := hE.tr hE1
            have hk_1459 : rd f_1456 h0 1 = .int ax_1427 := ((Fr.put (cs := [(5, 4)]) (a := o) (ci := 5) Fr.rf Ext.rf (hTo.at 1 rfl).2 (by decide) hrd_1457 hup_1458).1 h0 (hTo.at 0 rfl).1 2 (hTo.at 0 rfl).2 1 (by decide)).trans hk_1446
            have hk_1460 : rd f_1456 h0 2 = .int tn_1428 := ((Fr.put (cs := [(5, 4)]) (a := o) (ci := 5) Fr.rf Ext.rf (hTo.at 1 rfl).2 (by decide) hrd_1457 hup_1458).1 h0 (hTo.at 0 rfl).1 2 (hTo.at 0 rfl).2 2 (by decide)).trans hk_1447
            have hk_1461 : rd f_1456 h0 3 = .int fa_1429 := ((Fr.put (cs := [(5, 4)]) (a := o) (ci := 5) Fr.rf Ext.rf (hTo.at 1 rfl).2 (by decide) hrd_1457 hup_1458).1 h0 (hTo.at 0 rfl).1 2 (hTo.at 0 rfl).2 3 (by decide)).trans hk_1448
            have hk_1462 : rd f_1456 h0 4 = .int pw_1430 := ((Fr.put (cs := [(5, 4)]) (a := o) (ci := 5) Fr.rf Ext.rf (hTo.at 1 rfl).2 (by decide) hrd_1457 hup_1458).1 h0 (hTo.at 0 rfl).1 2 (hTo.at 0 rfl).2 4 (by decide)).trans hk_1449
            have hk_1463 : rd f_1456 tok 3 = .int zz := ((Fr.put (cs := [(5, 4)]) (a := o) (ci := 5) Fr.rf Ext.rf (hTo.at 1 rfl).2 (by decide) hrd_1457 hup_1458).1 tok (hTo.at 2 rfl).1 6 (hTo.at 2 rfl).2 3 (by decide)).trans hk_1450
            have hk_1464 : rd f_1456 o 3 = .int tn := ((Fr.put (cs := [(5, 4)]) (a := o) (ci := 5) Fr.rf Ext.rf (hTo.at 1 rfl).2 (by decide) hrd_1457 hup_1458).1 o (hTo.at 1 rfl).1 5 (hTo.at 1 rfl).2 3 (by decide)).trans hk_1451
            have hk_1465 : rd f_1456 o 4 = .int 0 := (hrd_1457 o 4).trans (if_pos ⟨rfl, rfl⟩)
            have hg3 : (if Kp tt ln (gnu (Kp tt ln) (Vp tt ln) (nq tt ln) 0 5 (gpa (Kp tt ln) (nq tt ln) (Kp tt ln q.1) (grf 1 q))).1 = 60 then (60 : Int32) else 61) = 61 := if_neg (by rw [← hrq_1442.K]; exact c_1455)
            refine lv_aload_n hx hb dX2_readTest_85 rfl (lv_at hl 0 rfl) ?_
            refine lv_aload_n hx hb dX2_readTest_86 rfl (lv_at hl 1 rfl) ?_
            refine T_get (ci := 5) (C := RX5) (T := TX5) (N := 8) (t := tI) hx hb hts inw_X2_readTest_5 hown hK hP hT 1 rfl rfl 4 (by decide) (hts (.fieldLink RX2 97 "VatHouse$Step" "below" "Z") (by decide +kernel)) (fun _ h9 => h9) rfl dX2_readTest_87 (fun v_1468 hv_1466 hr_1467 => ?_)
            obtain rfl : v_1468 = .int 0 := hr_1467.symm.trans hk_1465
            refine lv_if_eq (tgt := 98) hx hb dX2_readTest_90 (by decide) (fun c_1469 => ?_) (fun c_1469 => ?_)
            rotate_left
            · exact absurd c_1469 (by decide)
            refine lv_bipush (v := 61) hx hb dX2_readTest_98 (by decide) ?_
            have hTo := hT
            refine K_V ⟨hx, hb, hml, hown, hts⟩ (t_X2_pass l dC dI sa hlt g _ _ tt ln M (gnu (Kp tt ln) (Vp tt ln) (nq tt ln) 0 5 (gpa (Kp tt ln) (nq tt ln) (Kp tt ln q.1) (grf 1 q))) h0 61 tok ka sta vaa ax_1427 tn_1428 fa_1429 pw_1430 zz _ (hT.sub [0, 2, 3, 4, 5] rfl)  hk_1459 hk_1460 hk_1461 hk_1462 hk_1463 ((hF.1 h0 (hT0.at 0 rfl).1 2 (hT0.at 0 rfl).2 0 (by decide)).trans h_tok) ((hF.1 tok (hT0.at 2 rfl).1 6 (hT0.at 2 rfl).2 4 (by decide)).trans h_ka) ((hF.1 tok (hT0.at 2 rfl).1 6 (hT0.at 2 rfl).2 5 (by decide)).trans h_sta) ((hF.1 tok (hT0.at 2 rfl).1 6 (hT0.at 2 rfl).2 6 (by decide)).trans h_vaa) hzz (hTK.go (hF.2 ka (hT0.at 3 rfl).1 0 _ _ (hT0.at 3 rfl).2 (by decide)) (hF.2 sta (hT0.at 4 rfl).1 0 _ _ (hT0.at 4 rfl).2 (by decide)) (hF.2 vaa (hT0.at 5 rfl).1 0 _ _ (hT0.at 5 rfl).2 (by decide))) hrq_1442 (Or.inl (by decide))) (cwV 1 hts gX2_readTest_X2_pass rfl rfl rfl (by decide +kernel) ⟨Nat.le_of_ble_eq_true rfl, Nat.le_of_ble_eq_true rfl⟩) hP hD hK hS hA hev hT 0 2 rfl rfl rfl rfl hl.1 rfl (Nat.le_of_ble_eq_true rfl) dX2_readTest_100 ⟨Nat.le_of_ble_eq_true rfl, Nat.le_of_ble_eq_true rfl⟩ (fun r L_1470 f_1471 H locs hw_1472 hP hD hS hT hE1 => ?_)
            have hF := Fr.call hF hE hw_1472.2.1 (by decide)
            have hE := hE.tr hE1
            obtain ⟨rfl, hw_1472⟩ := hw_1472
            obtain ⟨hfr_1473, ax_1474, tn_1475, fa_1476, pw_1477, hk_1478, hk_1479, hk_1480, hk_1481, hrel_1482, hrel_1483, hrel_1484, hrel_1485, hex_1486⟩ := hw_1472
            have hk_1487 : rd f_1471 tok 3 = .int zz := (hfr_1473.1 tok (hTo.at 2 rfl).1 6 (hTo.at 2 rfl).2 3 (by decide)).trans hk_1463
            have hk_1488 : rd f_1471 o 3 = .int tn := (hfr_1473.1 o (hTo.at 1 rfl).1 5 (hTo.at 1 rfl).2 3 (by decide)).trans hk_1464
            have hk_1489 : rd f_1471 o 4 = .int 0 := (hfr_1473.1 o (hTo.at 1 rfl).1 5 (hTo.at 1 rfl).2 4 (by decide)).trans hk_1465
            have hrq_1490 := hex_1486
            refine W.eq (g2 := F0 m 103 ls []) rfl ?_
            refine lv_aload_n hx hb dX2_readTest_103 rfl (lv_at hl 1 rfl) ?_
            refine lv_aload_n hx hb dX2_readTest_104 rfl (lv_at hl 0 rfl) ?_
            refine lv_iconst (v := 0) hx hb dX2_readTest_105 (by decide) ?_
            refine lv_sipush (v := 9999) hx hb dX2_readTest_106 (by decide) ?_
            have hTo := hT
            refine K_V ⟨hx, hb, hml, hown, hts⟩ (t_X2_readNumber l dC dI sa hlt g _ _ tt ln M (gpa (Kp tt ln) (nq tt ln) 61 (gnu (Kp tt ln) (Vp tt ln) (nq tt ln) 0 5 (gpa (Kp tt ln) (nq tt ln) (Kp tt ln q.1) (grf 1 q)))) h0 0 9999 tok ka sta vaa ax_1474 tn_1475 fa_1476 pw_1477 zz _ (hT.sub [0, 2, 3, 4, 5] rfl)  hk_1478 hk_1479 hk_1480 hk_1481 hk_1487 ((hF.1 h0 (hT0.at 0 rfl).1 2 (hT0.at 0 rfl).2 0 (by decide)).trans h_tok) ((hF.1 tok (hT0.at 2 rfl).1 6 (hT0.at 2 rfl).2 4 (by decide)).trans h_ka) ((hF.1 tok (hT0.at 2 rfl).1 6 (hT0.at 2 rfl).2 5 (by decide)).trans h_sta) ((hF.1 tok (hT0.at 2 rfl).1 6 (hT0.at 2 rfl).2 6 (by decide)).trans h_vaa) hzz (hTK.go (hF.2 ka (hT0.at 3 rfl).1 0 _ _ (hT0.at 3 rfl).2 (by decide)) (hF.2 sta (hT0.at 4 rfl).1 0 _ _ (hT0.at 4 rfl).2 (by decide)) (hF.2 vaa (hT0.at 5 rfl).1 0 _ _ (hT0.at 5 rfl).2 (by decide))) hrq_1490) (cwV 2 hts gX2_readTest_X2_readNumber rfl rfl rfl (by decide +kernel) ⟨Nat.le_of_ble_eq_true rfl, Nat.le_of_ble_eq_true rfl⟩) hP hD hK hS hA hev hT 0 2 rfl rfl rfl rfl hl.1 rfl (Nat.le_of_ble_eq_true rfl) dX2_readTest_109 ⟨Nat.le_of_ble_eq_true rfl, Nat.le_of_ble_eq_true rfl⟩ (fun r L_1491 f_1492 H locs hw_1493 hP hD hS hT hE1 => ?_)
            have hF := Fr.call hF hE hw_1493.2.1 (by decide)
            have hE := hE.tr hE1
            obtain ⟨⟨z_1494, rfl⟩, hw_1493⟩ := hw_1493
            obtain ⟨hfr_1495, ax_1496, tn_1497, fa_1498, pw_1499, hk_1500, hk_1501, hk_1502, hk_1503, hrel_1504, hrel_1505, hrel_1506, hrel_1507, hex_1508⟩ := hw_1493
            have hk_1509 : rd f_1492 tok 3 = .int zz := (hfr_1495.1 tok (hTo.at 2 rfl).1 6 (hTo.at 2 rfl).2 3 (by decide)).trans hk_1487
            have hk_1510 : rd f_1492 o 3 = .int tn := (hfr_1495.1 o (hTo.at 1 rfl).1 5 (hTo.at 1 rfl).2 3 (by decide)).trans hk_1488
            have hk_1511 : rd f_1492 o 4 = .int 0 := (hfr_1495.1 o (hTo.at 1 rfl).1 5 (hTo.at 1 rfl).2 4 (by decide)).trans hk_1489
            have hrq_1512 := hex_1508.2
            refine W.eq (g2 := F0 m 112 ls [.int z_1494, .ref o]) rfl ?_
            have hTo := hT
            refine T_put (ci := 5) (v := .int z_1494) (ty := .int) (t := tI) (C := RX5) (T := TX5) (N := 8) hx hb hts inw_X2_readTest_5 tyX5 tyX5_ok nmX5 hown hK hP hD hS hT 1 rfl rfl 2 (by decide) (hts (.fieldLink RX2 79 "VatHouse$Step" "number" "I") (by decide +kernel)) (fun _ h9 => h9) rfl (by decide +kernel) rfl rfl rfl ⟨_, rfl⟩ dX2_readTest_112 (fun f_1513 H locs hP hD hS hT hE1 hrd_1514 hup_1515 => ?_)
            have hF := Fr.put (a := o) (ci := 5) hF hE ((hE1 o (hT.at 1 rfl).1).2.symm.trans (hT.at 1 rfl).2) (by decide) hrd_1514 hup_1515
            have hE := hE.tr hE1
            have hk_1516 : rd f_1513 h0 1 = .int ax_1496 := ((Fr.put (cs := [(5, 2)]) (a := o) (ci := 5) Fr.rf Ext.rf (hTo.at 1 rfl).2 (by decide) hrd_1514 hup_1515).1 h0 (hTo.at 0 rfl).1 2 (hTo.at 0 rfl).2 1 (by decide)).trans hk_1500
            have hk_1517 : rd f_1513 h0 2 = .int tn_1497 := ((Fr.put (cs := [(5, 2)]) (a := o) (ci := 5) Fr.rf Ext.rf (hTo.at 1 rfl).2 (by decide) hrd_1514 hup_1515).1 h0 (hTo.at 0 rfl).1 2 (hTo.at 0 rfl).2 2 (by decide)).trans hk_1501
            have hk_1518 : rd f_1513 h0 3 = .int fa_1498 := ((Fr.put (cs := [(5, 2)]) (a := o) (ci := 5) Fr.rf Ext.rf (hTo.at 1 rfl).2 (by decide) hrd_1514 hup_1515).1 h0 (hTo.at 0 rfl).1 2 (hTo.at 0 rfl).2 3 (by decide)).trans hk_1502
            have hk_1519 : rd f_1513 h0 4 = .int pw_1499 := ((Fr.put (cs := [(5, 2)]) (a := o) (ci := 5) Fr.rf Ext.rf (hTo.at 1 rfl).2 (by decide) hrd_1514 hup_1515).1 h0 (hTo.at 0 rfl).1 2 (hTo.at 0 rfl).2 4 (by decide)).trans hk_1503
            have hk_1520 : rd f_1513 tok 3 = .int zz := ((Fr.put (cs := [(5, 2)]) (a := o) (ci := 5) Fr.rf Ext.rf (hTo.at 1 rfl).2 (by decide) hrd_1514 hup_1515).1 tok (hTo.at 2 rfl).1 6 (hTo.at 2 rfl).2 3 (by decide)).trans hk_1509
            have hk_1521 : rd f_1513 o 3 = .int tn := ((Fr.put (cs := [(5, 2)]) (a := o) (ci := 5) Fr.rf Ext.rf (hTo.at 1 rfl).2 (by decide) hrd_1514 hup_1515).1 o (hTo.at 1 rfl).1 5 (hTo.at 1 rfl).2 3 (by decide)).trans hk_1510
            have hk_1522 : rd f_1513 o 4 = .int 0 := ((Fr.put (cs := [(5, 2)]) (a := o) (ci := 5) Fr.rf Ext.rf (hTo.at 1 rfl).2 (by decide) hrd_1514 hup_1515).1 o (hTo.at 1 rfl).1 5 (hTo.at 1 rfl).2 4 (by decide)).trans hk_1511
            exact K_v hx hb hr hlocks hP hD hK hS hT hE ⟨rfl, hF, _, _, _, _, hk_1516, hk_1517, hk_1518, hk_1519, trivial, trivial, fun h9 => (absurd ((hrel_1102 (hrel_1437 ((hrel_1484 (hrel_1506 h9)).1))).1) hrel_1066), trivial, (gte_b hg1 hg2 hg3) ▸ hrq_1512⟩ (Nat.le_of_ble_eq_true rfl) (Nat.le_of_ble_eq_true rfl) dX2_readTest_115
          · refine lv_iconst (v := 1) hx hb dX2_readTest_77 (by decide) ?_
            refine lv_goto (tgt := 82) hx hb dX2_readTest_78 (by decide) ?_
            have hTo := hT
            refine T_put (ci := 5) (v := .int 1) (ty := .boolean) (t := tI) (C := RX5) (T := TX5) (N := 8) hx hb hts inw_X2_readTest_5 tyX5 tyX5_ok nmX5 hown hK hP hD hS hT 1 rfl rfl 4 (by decide) (hts (.fieldLink RX2 97 "VatHouse$Step" "below" "Z") (by decide +kernel)) (fun _ h9 => h9) rfl (by decide +kernel) rfl rfl rfl ⟨_, rfl⟩ dX2_readTest_82 (fun f_1523 H locs hP hD hS hT hE1 hrd_1524 hup_1525 => ?_)
            have hF := Fr.put (a := o) (ci := 5) hF hE ((hE1 o (hT.at 1 rfl).1).2.symm.trans (hT.at 1 rfl).2) (by decide) hrd_1524 hup_1525
            have hE := hE.tr hE1
            have hk_1526 : rd f_1523 h0 1 = .int ax_1427 := ((Fr.put (cs := [(5, 4)]) (a := o) (ci := 5) Fr.rf Ext.rf (hTo.at 1 rfl).2 (by decide) hrd_1524 hup_1525).1 h0 (hTo.at 0 rfl).1 2 (hTo.at 0 rfl).2 1 (by decide)).trans hk_1446
            have hk_1527 : rd f_1523 h0 2 = .int tn_1428 := ((Fr.put (cs := [(5, 4)]) (a := o) (ci := 5) Fr.rf Ext.rf (hTo.at 1 rfl).2 (by decide) hrd_1524 hup_1525).1 h0 (hTo.at 0 rfl).1 2 (hTo.at 0 rfl).2 2 (by decide)).trans hk_1447
            have hk_1528 : rd f_1523 h0 3 = .int fa_1429 := ((Fr.put (cs := [(5, 4)]) (a := o) (ci := 5) Fr.rf Ext.rf (hTo.at 1 rfl).2 (by decide) hrd_1524 hup_1525).1 h0 (hTo.at 0 rfl).1 2 (hTo.at 0 rfl).2 3 (by decide)).trans hk_1448
            have hk_1529 : rd f_1523 h0 4 = .int pw_1430 := ((Fr.put (cs := [(5, 4)]) (a := o) (ci := 5) Fr.rf Ext.rf (hTo.at 1 rfl).2 (by decide) hrd_1524 hup_1525).1 h0 (hTo.at 0 rfl).1 2 (hTo.at 0 rfl).2 4 (by decide)).trans hk_1449
            have hk_1530 : rd f_1523 tok 3 = .int zz := ((Fr.put (cs := [(5, 4)]) (a := o) (ci := 5) Fr.rf Ext.rf (hTo.at 1 rfl).2 (by decide) hrd_1524 hup_1525).1 tok (hTo.at 2 rfl).1 6 (hTo.at 2 rfl).2 3 (by decide)).trans hk_1450
            have hk_1531 : rd f_1523 o 3 = .int tn := ((Fr.put (cs := [(5, 4)]) (a := o) (ci := 5) Fr.rf Ext.rf (hTo.at 1 rfl).2 (by decide) hrd_1524 hup_1525).1 o (hTo.at 1 rfl).1 5 (hTo.at 1 rfl).2 3 (by decide)).trans hk_1451
            have hk_1532 : rd f_1523 o 4 = .int 1 := (hrd_1524 o 4).trans (if_pos ⟨rfl, rfl⟩)
            have hg3 : (if Kp tt ln (gnu (Kp tt ln) (Vp tt ln) (nq tt ln) 0 5 (gpa (Kp tt ln) (nq tt ln) (Kp tt ln q.1) (grf 1 q))).1 = 60 then (60 : Int32) else 61) = 60 := if_pos (by rw [← hrq_1442.K]; exact c_1455)
            refine lv_aload_n hx hb dX2_readTest_85 rfl (lv_at hl 0 rfl) ?_
            refine lv_aload_n hx hb dX2_readTest_86 rfl (lv_at hl 1 rfl) ?_
            refine T_get (ci := 5) (C := RX5) (T := TX5) (N := 8) (t := tI) hx hb hts inw_X2_readTest_5 hown hK hP hT 1 rfl rfl 4 (by decide) (hts (.fieldLink RX2 97 "VatHouse$Step" "below" "Z") (by decide +kernel)) (fun _ h9 => h9) rfl dX2_readTest_87 (fun v_1535 hv_1533 hr_1534 => ?_)
            obtain rfl : v_1535 = .int 1 := hr_1534.symm.trans hk_1532
            refine lv_if_eq (tgt := 98) hx hb dX2_readTest_90 (by decide) (fun c_1536 => ?_) (fun c_1536 => ?_)
            · exact absurd c_1536 (by decide)
            refine lv_bipush (v := 60) hx hb dX2_readTest_93 (by decide) ?_
            refine lv_goto (tgt := 100) hx hb dX2_readTest_95 (by decide) ?_
            have hTo := hT
            refine K_V ⟨hx, hb, hml, hown, hts⟩ (t_X2_pass l dC dI sa hlt g _ _ tt ln M (gnu (Kp tt ln) (Vp tt ln) (nq tt ln) 0 5 (gpa (Kp tt ln) (nq tt ln) (Kp tt ln q.1) (grf 1 q))) h0 60 tok ka sta vaa ax_1427 tn_1428 fa_1429 pw_1430 zz _ (hT.sub [0, 2, 3, 4, 5] rfl)  hk_1526 hk_1527 hk_1528 hk_1529 hk_1530 ((hF.1 h0 (hT0.at 0 rfl).1 2 (hT0.at 0 rfl).2 0 (by decide)).trans h_tok) ((hF.1 tok (hT0.at 2 rfl).1 6 (hT0.at 2 rfl).2 4 (by decide)).trans h_ka) ((hF.1 tok (hT0.at 2 rfl).1 6 (hT0.at 2 rfl).2 5 (by decide)).trans h_sta) ((hF.1 tok (hT0.at 2 rfl).1 6 (hT0.at 2 rfl).2 6 (by decide)).trans h_vaa) hzz (hTK.go (hF.2 ka (hT0.at 3 rfl).1 0 _ _ (hT0.at 3 rfl).2 (by decide)) (hF.2 sta (hT0.at 4 rfl).1 0 _ _ (hT0.at 4 rfl).2 (by decide)) (hF.2 vaa (hT0.at 5 rfl).1 0 _ _ (hT0.at 5 rfl).2 (by decide))) hrq_1442 (Or.inl (by decide))) (cwV 1 hts gX2_readTest_X2_pass rfl rfl rfl (by decide +kernel) ⟨Nat.le_of_ble_eq_true rfl, Nat.le_of_ble_eq_true rfl⟩) hP hD hK hS hA hev hT 0 2 rfl rfl rfl rfl hl.1 rfl (Nat.le_of_ble_eq_true rfl) dX2_readTest_100 ⟨Nat.le_of_ble_eq_true rfl, Nat.le_of_ble_eq_true rfl⟩ (fun r L_1537 f_1538 H locs hw_1539 hP hD hS hT hE1 => ?_)
            have hF := Fr.call hF hE hw_1539.2.1 (by decide)
            have hE := hE.tr hE1
            obtain ⟨rfl, hw_1539⟩ := hw_1539
            obtain ⟨hfr_1540, ax_1541, tn_1542, fa_1543, pw_1544, hk_1545, hk_1546, hk_1547, hk_1548, hrel_1549, hrel_1550, hrel_1551, hrel_1552, hex_1553⟩ := hw_1539
            have hk_1554 : rd f_1538 tok 3 = .int zz := (hfr_1540.1 tok (hTo.at 2 rfl).1 6 (hTo.at 2 rfl).2 3 (by decide)).trans hk_1530
            have hk_1555 : rd f_1538 o 3 = .int tn := (hfr_1540.1 o (hTo.at 1 rfl).1 5 (hTo.at 1 rfl).2 3 (by decide)).trans hk_1531
            have hk_1556 : rd f_1538 o 4 = .int 1 := (hfr_1540.1 o (hTo.at 1 rfl).1 5 (hTo.at 1 rfl).2 4 (by decide)).trans hk_1532
            have hrq_1557 := hex_1553
            refine W.eq (g2 := F0 m 103 ls []) rfl ?_
            refine lv_aload_n hx hb dX2_readTest_103 rfl (lv_at hl 1 rfl) ?_
            refine lv_aload_n hx hb dX2_readTest_104 rfl (lv_at hl 0 rfl) ?_
            refine lv_iconst (v := 0) hx hb dX2_readTest_105 (by decide) ?_
            refine lv_sipush (v := 9999) hx hb dX2_readTest_106 (by decide) ?_
            have hTo := hT
            refine K_V ⟨hx, hb, hml, hown, hts⟩ (t_X2_readNumber l dC dI sa hlt g _ _ tt ln M (gpa (Kp tt ln) (nq tt ln) 60 (gnu (Kp tt ln) (Vp tt ln) (nq tt ln) 0 5 (gpa (Kp tt ln) (nq tt ln) (Kp tt ln q.1) (grf 1 q)))) h0 0 9999 tok ka sta vaa ax_1541 tn_1542 fa_1543 pw_1544 zz _ (hT.sub [0, 2, 3, 4, 5] rfl)  hk_1545 hk_1546 hk_1547 hk_1548 hk_1554 ((hF.1 h0 (hT0.at 0 rfl).1 2 (hT0.at 0 rfl).2 0 (by decide)).trans h_tok) ((hF.1 tok (hT0.at 2 rfl).1 6 (hT0.at 2 rfl).2 4 (by decide)).trans h_ka) ((hF.1 tok (hT0.at 2 rfl).1 6 (hT0.at 2 rfl).2 5 (by decide)).trans h_sta) ((hF.1 tok (hT0.at 2 rfl).1 6 (hT0.at 2 rfl).2 6 (by decide)).trans h_vaa) hzz (hTK.go (hF.2 ka (hT0.at 3 rfl).1 0 _ _ (hT0.at 3 rfl).2 (by decide)) (hF.2 sta (hT0.at 4 rfl).1 0 _ _ (hT0.at 4 rfl).2 (by decide)) (hF.2 vaa (hT0.at 5 rfl).1 0 _ _ (hT0.at 5 rfl).2 (by decide))) hrq_1557) (cwV 2 hts gX2_readTest_X2_readNumber rfl rfl rfl (by decide +kernel) ⟨Nat.le_of_ble_eq_true rfl, Nat.le_of_ble_eq_true rfl⟩) hP hD hK hS hA hev hT 0 2 rfl rfl rfl rfl hl.1 rfl (Nat.le_of_ble_eq_true rfl) dX2_readTest_109 ⟨Nat.le_of_ble_eq_true rfl, Nat.le_of_ble_eq_true rfl⟩ (fun r L_1558 f_1559 H locs hw_1560 hP hD hS hT hE1 => ?_)
            have hF := Fr.call hF hE hw_1560.2.1 (by decide)
            have hE := hE.tr hE1
            obtain ⟨⟨z_1561, rfl⟩, hw_1560⟩ := hw_1560
            obtain ⟨hfr_1562, ax_1563, tn_1564, fa_1565, pw_1566, hk_1567, hk_1568, hk_1569, hk_1570, hrel_1571, hrel_1572, hrel_1573, hrel_1574, hex_1575⟩ := hw_1560
            have hk_1576 : rd f_1559 tok 3 = .int zz := (hfr_1562.1 tok (hTo.at 2 rfl).1 6 (hTo.at 2 rfl).2 3 (by decide)).trans hk_1554
            have hk_1577 : rd f_1559 o 3 = .int tn := (hfr_1562.1 o (hTo.at 1 rfl).1 5 (hTo.at 1 rfl).2 3 (by decide)).trans hk_1555
            have hk_1578 : rd f_1559 o 4 = .int 1 := (hfr_1562.1 o (hTo.at 1 rfl).1 5 (hTo.at 1 rfl).2 4 (by decide)).trans hk_1556
            have hrq_1579 := hex_1575.2
            refine W.eq (g2 := F0 m 112 ls [.int z_1561, .ref o]) rfl ?_
            have hTo := hT
            refine T_put (ci := 5) (v := .int z_1561) (ty := .int) (t := tI) (C := RX5) (T := TX5) (N := 8) hx hb hts inw_X2_readTest_5 tyX5 tyX5_ok nmX5 hown hK hP hD hS hT 1 rfl rfl 2 (by decide) (hts (.fieldLink RX2 79 "VatHouse$Step" "number" "I") (by decide +kernel)) (fun _ h9 => h9) rfl (by decide +kernel) rfl rfl rfl ⟨_, rfl⟩ dX2_readTest_112 (fun f_1580 H locs hP hD hS hT hE1 hrd_1581 hup_1582 => ?_)
            have hF := Fr.put (a := o) (ci := 5) hF hE ((hE1 o (hT.at 1 rfl).1).2.symm.trans (hT.at 1 rfl).2) (by decide) hrd_1581 hup_1582
            have hE := hE.tr hE1
            have hk_1583 : rd f_1580 h0 1 = .int ax_1563 := ((Fr.put (cs := [(5, 2)]) (a := o) (ci := 5) Fr.rf Ext.rf (hTo.at 1 rfl).2 (by decide) hrd_1581 hup_1582).1 h0 (hTo.at 0 rfl).1 2 (hTo.at 0 rfl).2 1 (by decide)).trans hk_1567
            have hk_1584 : rd f_1580 h0 2 = .int tn_1564 := ((Fr.put (cs := [(5, 2)]) (a := o) (ci := 5) Fr.rf Ext.rf (hTo.at 1 rfl).2 (by decide) hrd_1581 hup_1582).1 h0 (hTo.at 0 rfl).1 2 (hTo.at 0 rfl).2 2 (by decide)).trans hk_1568
            have hk_1585 : rd f_1580 h0 3 = .int fa_1565 := ((Fr.put (cs := [(5, 2)]) (a := o) (ci := 5) Fr.rf Ext.rf (hTo.at 1 rfl).2 (by decide) hrd_1581 hup_1582).1 h0 (hTo.at 0 rfl).1 2 (hTo.at 0 rfl).2 3 (by decide)).trans hk_1569
            have hk_1586 : rd f_1580 h0 4 = .int pw_1566 := ((Fr.put (cs := [(5, 2)]) (a := o) (ci := 5) Fr.rf Ext.rf (hTo.at 1 rfl).2 (by decide) hrd_1581 hup_1582).1 h0 (hTo.at 0 rfl).1 2 (hTo.at 0 rfl).2 4 (by decide)).trans hk_1570
            have hk_1587 : rd f_1580 tok 3 = .int zz := ((Fr.put (cs := [(5, 2)]) (a := o) (ci := 5) Fr.rf Ext.rf (hTo.at 1 rfl).2 (by decide) hrd_1581 hup_1582).1 tok (hTo.at 2 rfl).1 6 (hTo.at 2 rfl).2 3 (by decide)).trans hk_1576
            have hk_1588 : rd f_1580 o 3 = .int tn := ((Fr.put (cs := [(5, 2)]) (a := o) (ci := 5) Fr.rf Ext.rf (hTo.at 1 rfl).2 (by decide) hrd_1581 hup_1582).1 o (hTo.at 1 rfl).1 5 (hTo.at 1 rfl).2 3 (by decide)).trans hk_1577
            have hk_1589 : rd f_1580 o 4 = .int 1 := ((Fr.put (cs := [(5, 2)]) (a := o) (ci := 5) Fr.rf Ext.rf (hTo.at 1 rfl).2 (by decide) hrd_1581 hup_1582).1 o (hTo.at 1 rfl).1 5 (hTo.at 1 rfl).2 4 (by decide)).trans hk_1578
            exact K_v hx hb hr hlocks hP hD hK hS hT hE ⟨rfl, hF, _, _, _, _, hk_1583, hk_1584, hk_1585, hk_1586, trivial, trivial, fun h9 => (absurd ((hrel_1102 (hrel_1437 ((hrel_1551 (hrel_1573 h9)).1))).1) hrel_1066), trivial, (gte_b hg1 hg2 hg3) ▸ hrq_1579⟩ (Nat.le_of_ble_eq_true rfl) (Nat.le_of_ble_eq_true rfl) dX2_readTest_115

theorem Fr.fresh {cs : List (Nat × Nat)} {L L1 : List Nat} {f f1 f2 : Nat → va_E} {q : Nat} (hF : Fr cs L f f1) (hE : Ext L f L1 f1) (hq : q ∉ L) (hup : ∀ b ∈ L1, b ≠ q → f2 b = f1 b) : Fr cs L f f2 := by
  have e : ∀ b ∈ L, f2 b = f1 b := fun b hb => hup b (hE b hb).1 (fun h => hq (h ▸ hb))
  refine ⟨fun b hb cb hcb j hn => ?_, fun b hb k cA n hsb hn => ?_⟩
  · rw [← hF.1 b hb cb hcb j hn]
    unfold rd
    rw [e b hb]
  · rw [e b hb]
    exact hF.2 b hb k cA n hsb hn

abbrev rm_X5_initX : Room := { frames := 1, cells := 0, slots := 0, locals := 12 }
set_option maxHeartbeats 800000 in
set_option maxRecDepth 100000 in
theorem t_X5_initX (l : Launch) (dC : Nat → ClassId) (dI : Nat → Nat → Nat) (sa : Nat → Nat) (hlt : l.stackTraces = false) (g : Nat → Nat) (L : List Nat) (f : Nat → va_E) (h0 : Nat) (wo : Int32) (sz : Nat) (hT : TP g L f [(h0, (0, 5, 0))]) : KC l dC dI sa g yX5_init wsX5_init rm_X5_initX [.ref h0, .int wo] L f sz (fun r L' f' => (r = none) ∧ Fr [(5, 0)] L f f' ∧ (∃ wd' : Int32, rd f' h0 0 = .int wd' ∧ (wd' = wo) ∧ (∀ b ∈ L, b ≠ h0 → f' b = f b))) 0 0 := by
  refine CT.start (cc := cX5_init) (maxL := 2) (ret := none) (by decide) rfl (Nat.le_of_ble_eq_true rfl) ?_
  intro p e s m below meth c ls hst hP hK hD hev hS hl
  obtain ⟨hx, hb, hr, hml, hts, hown, hlocks, hin⟩ := hst
  have hown : s.vm.findClass RX5 = some m.cls := hown
  have hin : meth.name = yX5_init.name := hin
  have hA : ∀ q : Nat, s.heap.size ≤ q → va_A (va_pl L f) s.heap.size q := fun _ h => Or.inr h
  have hE : Ext L f L f := Ext.rf
  have hF : Fr [(5, 0)] L f f := Fr.rf
  have hl : lv_has ls 2 [(0, .ref h0), (1, .int wo)] := hl
  refine lv_aload_n hx hb dX5_init_0 rfl (lv_at hl 0 rfl) ?_
  refine W.objInit hx hb hown (hts (.methodLink RX5 1 objectInit) (by decide +kernel)) (hts (.instanceMethod objectInit) (by decide +kernel)) (hts (.code objectInit ⟨#[0xb1]⟩ 1 none) (by decide +kernel)) rfl (by rw [hml]; exact hl.1) rfl dX5_init_1 (Nat.le_of_ble_eq_true rfl) (Nat.le_of_ble_eq_true rfl) ?_
  refine W.eq (g2 := F0 m 4 ls []) rfl ?_
  refine lv_aload_n hx hb dX5_init_4 rfl (lv_at hl 0 rfl) ?_
  refine lv_iload_n hx hb dX5_init_5 rfl (lv_at hl 1 rfl) ?_
  refine T_putF (ci := 5) (v := .int wo) (ty := .int) (t := tI) (C := RX5) (T := TX5) (N := 8) hx hb hts inw_X5_init_5 tyX5 tyX5_ok nmX5 hown hK hP hD hS hT 0 rfl rfl 0 (by decide) (hts (.fieldLink RX5 7 "VatHouse$Step" "word" "I") (by decide +kernel)) (fun _ h9 => h9) rfl hin rfl (by decide +kernel) rfl rfl rfl ⟨_, rfl⟩ dX5_init_6 (fun f_1 H locs hP hD hS hT hE1 hrd_2 hup_3 => ?_)
  have hF := Fr.put (a := h0) (ci := 5) hF hE ((hE1 h0 (hT.at 0 rfl).1).2.symm.trans (hT.at 0 rfl).2) (by decide) hrd_2 hup_3
  have hE := hE.tr hE1
  have hk_4 : rd f_1 h0 0 = .int wo := (hrd_2 h0 0).trans (if_pos ⟨rfl, rfl⟩)
  exact K_v hx hb hr hlocks hP hD hK hS hT hE ⟨rfl, hF, _, hk_4, rfl, fun b _ hb => hup_3 b hb⟩ (Nat.le_of_ble_eq_true rfl) (Nat.le_of_ble_eq_true rfl) dX5_init_9

abbrev rm_X2_readBlock (j : Nat) (d : Nat) (P : Nat) (tt : Nat → Int32) (ln : Nat) (M : Nat) (q : SG) : Room := { frames := 4 * j + 30, cells := P, slots := 8 * P, locals := 200 * j + 400 }
abbrev rm_X2_readBuilt (j : Nat) (d : Nat) (P : Nat) (tt : Nat → Int32) (ln : Nat) (M : Nat) (q : SG) : Room := { frames := 4 * j + 31, cells := P, slots := 8 * P, locals := 200 * j + 430 }
abbrev rm_X2_readStep (j : Nat) (d : Nat) (P : Nat) (tt : Nat → Int32) (ln : Nat) (M : Nat) (q : SG) : Room := { frames := 4 * j + 32, cells := P, slots := 8 * P, locals := 200 * j + 460 }
abbrev rm_X2_readSteps (j : Nat) (d : Nat) (P : Nat) (tt : Nat → Int32) (ln : Nat) (M : Nat) (q : SG) : Room := { frames := 4 * j + 33, cells := P, slots := 8 * P, locals := 200 * j + 490 }
theorem RQ.gad {tt : Nat → Int32} {ln M : Nat} {q : SG} {ax tn fa pw ax2 tn2 fa2 pw2 w : Int32} (h : RQ tt ln M q ax tn fa pw) (h0 : fa = 0) (hw : w = tn) (h2 : RQ tt ln M (gpa (Kp tt ln) (nq tt ln) w q) ax2 tn2 fa2 pw2) : RQ tt ln M (gad (nq tt ln) q) ax2 tn2 fa2 pw2 := by
  have e : gpa (Kp tt ln) (nq tt ln) w q = (nq tt ln q.1, q.2) := by
    unfold gpa
    rw [if_pos (h.F.symm.trans h0), if_pos (h.K.symm.trans hw.symm)]
  rw [e] at h2
  exact h2
theorem n300 {sg : Int32} {n : Nat} (h : sg = nI n ∧ n ≤ 300) (c : ¬ sg < 300) : 300 ≤ n := by
  rw [h.1] at c
  have c : ¬ nI n < nI 300 := c
  rw [nI_ltI (by omega) (by omega)] at c
  omega
theorem n299 {sg z : Int32} {n : Nat} (h : sg = nI n ∧ n ≤ 300) (c : sg < 300) (hz : z = sg + 1) : (z = nI (n + 1) ∧ n + 1 ≤ 300) ∧ ¬ 300 ≤ n := by
  rw [h.1] at c
  have c : nI n < nI 300 := c
  rw [nI_ltI (by omega) (by omega)] at c
  exact ⟨⟨by rw [hz, h.1]; exact nI_1 n, by omega⟩, by omega⟩
theorem tn_rg {tn k : Int32} (hk : tn = k) (h1 : ¬ tn < 1) (h2 : ¬ 12 < tn) : 1 ≤ k ∧ k ≤ 12 := by
  subst hk
  rw [Int32.lt_iff_toInt_lt] at h1 h2
  rw [Int32.le_iff_toInt_le, Int32.le_iff_toInt_le]
  omega

theorem inw_X2_readBlock_2 : ∀ w ∈ wsX20, w ∈ wsX2_readBlock := by decide +kernel
set_option maxHeartbeats 800000 in
set_option maxRecDepth 100000 in
theorem t_X2_readBlock (l : Launch) (dC : Nat → ClassId) (dI : Nat → Nat → Nat) (sa : Nat → Nat) (hlt : l.stackTraces = false) (g : Nat → Nat) (L : List Nat) (f : Nat → va_E) (j : Nat) (d : Nat) (P : Nat) (tt : Nat → Int32) (ln : Nat) (M : Nat) (q : SG) (h0 : Nat) (dep : Int32) (tok : Nat) (ka : Nat) (sta : Nat) (vaa : Nat) (ax : Int32) (tn : Int32) (fa : Int32) (pw : Int32) (sg : Int32) (zz : Int32) (sz : Nat) (hT : TP g L f [(h0, (0, 2, 0)), (tok, (0, 6, 0)), (ka, (1, g 0, 1501)), (sta, (1, g 5, 1501)), (vaa, (1, g 6, 1501))]) (hm_ax : rd f h0 1 = .int ax) (hm_tn : rd f h0 2 = .int tn) (hm_fa : rd f h0 3 = .int fa) (hm_pw : rd f h0 4 = .int pw) (hm_sg : rd f h0 5 = .int sg) (hm_zz : rd f tok 3 = .int zz) (h_tok : rd f h0 0 = .ref tok) (h_ka : rd f tok 4 = .ref ka) (h_sta : rd f tok 5 = .ref sta) (h_vaa : rd f tok 6 = .ref vaa) (hd : dep = nI d) (hdj : d + j = 8) (hP0 : pot fa sg = P) (hs3 : sg.toInt ≤ 300) (hzz : zz = nI (M + 1)) (hTK : TKS f ka sta vaa tt ln M) (hRQ : RQ tt ln M q ax tn fa pw) (hnd : sg = nI q.2.1 ∧ q.2.1 ≤ 300) (IHR : ∀ j' d' : Nat, d' + j' = 8 → j = j' + 1 → ∀ (L : List Nat) (f : Nat → va_E) (P : Nat) (tt : Nat → Int32) (ln : Nat) (M : Nat) (q : SG) (h0 : Nat) (dep : Int32) (tok : Nat) (ka : Nat) (sta : Nat) (vaa : Nat) (ax : Int32) (tn : Int32) (fa : Int32) (pw : Int32) (sg : Int32) (zz : Int32) (sz : Nat) (hT : TP g L f [(h0, (0, 2, 0)), (tok, (0, 6, 0)), (ka, (1, g 0, 1501)), (sta, (1, g 5, 1501)), (vaa, (1, g 6, 1501))]) (hm_ax : rd f h0 1 = .int ax) (hm_tn : rd f h0 2 = .int tn) (hm_fa : rd f h0 3 = .int fa) (hm_pw : rd f h0 4 = .int pw) (hm_sg : rd f h0 5 = .int sg) (hm_zz : rd f tok 3 = .int zz) (h_tok : rd f h0 0 = .ref tok) (h_ka : rd f tok 4 = .ref ka) (h_sta : rd f tok 5 = .ref sta) (h_vaa : rd f tok 6 = .ref vaa) (hd : dep = nI d') (hP0 : pot fa sg = P) (hs3 : sg.toInt ≤ 300) (hzz : zz = nI (M + 1)) (hTK : TKS f ka sta vaa tt ln M) (hRQ : RQ tt ln M q ax tn fa pw) (hnd : sg = nI q.2.1 ∧ q.2.1 ≤ 300), KZ l dC dI sa g yX2_readSteps wsX2_readSteps (rm_X2_readSteps j' d' P tt ln M q) [.ref h0, .int dep] L f sz (fun r L' f' => (∃ v : Value, r = some v ∧ okv L' f' (2, 0, 5, 0) v) ∧ Fr [(2, 1), (2, 2), (2, 3), (2, 4), (5, 1), (5, 2), (5, 3), (5, 4), (5, 5), (5, 6), (5, 7), (2, 5)] L f f' ∧ (∃ ax' : Int32, ∃ tn' : Int32, ∃ fa' : Int32, ∃ pw' : Int32, ∃ sg' : Int32, rd f' h0 1 = .int ax' ∧ rd f' h0 2 = .int tn' ∧ rd f' h0 3 = .int fa' ∧ rd f' h0 4 = .int pw' ∧ rd f' h0 5 = .int sg' ∧ (True) ∧ (True) ∧ (True) ∧ (True) ∧ (sg'.toInt ≤ 300) ∧ (∃ qn : SG, Ev (Kp tt ln) (Vp tt ln) (nq tt ln) 0 d' q qn ∧ RQ tt ln M qn ax' tn' fa' pw' ∧ sg' = nI qn.2.1 ∧ qn.2.1 ≤ 300))) (fun n f' => ∃ a b : Int32, rd f' h0 3 = .int a ∧ rd f' h0 5 = .int b ∧ n + pot a b ≤ P) P (8 * P)) : KZ l dC dI sa g yX2_readBlock wsX2_readBlock (rm_X2_readBlock j d P tt ln M q) [.ref h0, .int dep] L f sz (fun r L' f' => (∃ v : Value, r = some v ∧ okv L' f' (2, 0, 5, 0) v) ∧ Fr [(2, 1), (2, 2), (2, 3), (2, 4), (5, 1), (5, 2), (5, 3), (5, 4), (5, 5), (5, 6), (5, 7), (2, 5)] L f f' ∧ (∃ ax' : Int32, ∃ tn' : Int32, ∃ fa' : Int32, ∃ pw' : Int32, ∃ sg' : Int32, rd f' h0 1 = .int ax' ∧ rd f' h0 2 = .int tn' ∧ rd f' h0 3 = .int fa' ∧ rd f' h0 4 = .int pw' ∧ rd f' h0 5 = .int sg' ∧ (True) ∧ (True) ∧ (True) ∧ (True) ∧ (sg'.toInt ≤ 300) ∧ (∃ qn : SG, Ev (Kp tt ln) (Vp tt ln) (nq tt ln) 2 d q qn ∧ RQ tt ln M qn ax' tn' fa' pw' ∧ sg' = nI qn.2.1 ∧ qn.2.1 ≤ 300))) (fun n f' => ∃ a b : Int32, rd f' h0 3 = .int a ∧ rd f' h0 5 = .int b ∧ n + pot a b ≤ P) P (8 * P) := by
  refine KZ.start (cc := cX2_readBlock) (maxL := 3) (ret := (some (.object "VatHouse$Step"))) (by decide) rfl (Nat.le_of_ble_eq_true rfl) ?_
  intro p e s m below meth c ls hst hP hK hD hev hS hl
  obtain ⟨hx, hb, hr, hml, hts, hown, hlocks, hin⟩ := hst
  have hown : s.vm.findClass RX2 = some m.cls := hown
  have hin : meth.name = yX2_readBlock.name := hin
  have hA : ∀ q : Nat, s.heap.size ≤ q → va_A (va_pl L f) s.heap.size q := fun _ h => Or.inr h
  have hE : Ext L f L f := Ext.rf
  have hF : Fr [(2, 1), (2, 2), (2, 3), (2, 4), (5, 1), (5, 2), (5, 3), (5, 4), (5, 5), (5, 6), (5, 7), (2, 5)] L f f := Fr.rf
  have hl : lv_has ls 3 [(0, .ref h0), (1, .int dep)] := hl
  have hT0 := hT
  refine lv_aload_n hx hb dX2_readBlock_0 rfl (lv_at hl 0 rfl) ?_
  refine T_get (ci := 2) (C := RX2) (T := TX2) (N := 6) (t := tI) hx hb hts inw_X2_readBlock_2 hown hK hP hT 0 rfl rfl 2 (by decide) (hts (.fieldLink RX2 44 "VatHouse$Reader" "token" "I") (by decide +kernel)) (fun _ h9 => h9) rfl dX2_readBlock_1 (fun v_3 hv_1 hr_2 => ?_)
  obtain rfl : v_3 = .int tn := hr_2.symm.trans hm_tn
  refine lv_bipush (v := 123) hx hb dX2_readBlock_4 (by decide) ?_
  refine lv_icmp_ne (tgt := 20) hx hb dX2_readBlock_6 (by decide) (fun c_4 => ?_) (fun c_4 => ?_)
  · have hgo : (if Kp tt ln q.1 = 123 ∧ 8 ≤ d then grf 2 q else q) = q := if_neg (fun h9 => c_4 (hRQ.K.trans h9.1))
    refine lv_aload_n hx hb dX2_readBlock_20 rfl (lv_at hl 0 rfl) ?_
    refine lv_bipush (v := 123) hx hb dX2_readBlock_21 (by decide) ?_
    have hTo := hT
    refine K_V ⟨hx, hb, hml, hown, hts⟩ (t_X2_pass l dC dI sa hlt g _ _ tt ln M q h0 123 tok ka sta vaa ax tn fa pw zz _ (hT.sub [0, 1, 2, 3, 4] rfl)  hm_ax hm_tn hm_fa hm_pw hm_zz ((hF.1 h0 (hT0.at 0 rfl).1 2 (hT0.at 0 rfl).2 0 (by decide)).trans h_tok) ((hF.1 tok (hT0.at 1 rfl).1 6 (hT0.at 1 rfl).2 4 (by decide)).trans h_ka) ((hF.1 tok (hT0.at 1 rfl).1 6 (hT0.at 1 rfl).2 5 (by decide)).trans h_sta) ((hF.1 tok (hT0.at 1 rfl).1 6 (hT0.at 1 rfl).2 6 (by decide)).trans h_vaa) hzz (hTK.go (hF.2 ka (hT0.at 2 rfl).1 0 _ _ (hT0.at 2 rfl).2 (by decide)) (hF.2 sta (hT0.at 3 rfl).1 0 _ _ (hT0.at 3 rfl).2 (by decide)) (hF.2 vaa (hT0.at 4 rfl).1 0 _ _ (hT0.at 4 rfl).2 (by decide))) hRQ (Or.inl (by decide))) (cwV 1 hts gX2_readBlock_X2_pass rfl rfl rfl (by decide +kernel) ⟨(by first | exact Nat.le_of_ble_eq_true rfl | (simp only [rm_X2_pass, rm_X2_readBlock]; omega)), (by first | exact Nat.le_of_ble_eq_true rfl | (simp only [rm_X2_pass, rm_X2_readBlock]; omega))⟩) hP hD hK hS hA hev hT 0 2 rfl rfl rfl rfl hl.1 rfl (Nat.le_of_ble_eq_true rfl) dX2_readBlock_23 ⟨(by first | exact Nat.le_of_ble_eq_true rfl | (simp only [rm_X2_readBlock]; omega) | omega), (by first | exact Nat.le_of_ble_eq_true rfl | (simp only [rm_X2_readBlock]; omega) | omega)⟩ (fun r L_5 f_6 H locs hw_7 hP hD hS hT hE1 => ?_)
    have hF := Fr.call hF hE hw_7.2.1 (by decide)
    have hE := hE.tr hE1
    obtain ⟨rfl, hw_7⟩ := hw_7
    obtain ⟨hfr_8, ax_9, tn_10, fa_11, pw_12, hk_13, hk_14, hk_15, hk_16, hrel_17, hrel_18, hrel_19, hrel_20, hex_21⟩ := hw_7
    have hk_22 : rd f_6 h0 5 = .int sg := (hfr_8.1 h0 (hTo.at 0 rfl).1 2 (hTo.at 0 rfl).2 5 (by decide)).trans hm_sg
    have hk_23 : rd f_6 tok 3 = .int zz := (hfr_8.1 tok (hTo.at 1 rfl).1 6 (hTo.at 1 rfl).2 3 (by decide)).trans hm_zz
    have hq_24 : pot fa_11 sg ≤ pot fa sg := pot_le (fun h9 => (hrel_19 h9).1)
    have hrq_25 := hex_21
    refine W.eq (g2 := F0 m 26 ls []) rfl ?_
    have hrq_26 : RQ tt ln M (gob (Kp tt ln) (nq tt ln) d q) ax_9 tn_10 fa_11 pw_12 := by unfold gob; rw [hgo]; exact hrq_25
    refine lv_aload_n hx hb dX2_readBlock_26 rfl (lv_at hl 0 rfl) ?_
    refine T_get (ci := 2) (C := RX2) (T := TX2) (N := 6) (t := tI) hx hb hts inw_X2_readBlock_2 hown hK hP hT 0 rfl rfl 3 (by decide) (hts (.fieldLink RX2 28 "VatHouse$Reader" "fault" "I") (by decide +kernel)) (fun _ h9 => h9) rfl dX2_readBlock_27 (fun v_29 hv_27 hr_28 => ?_)
    obtain rfl : v_29 = .int fa_11 := hr_28.symm.trans hk_15
    refine lv_if_eq (tgt := 35) hx hb dX2_readBlock_30 (by decide) (fun c_30 => ?_) (fun c_30 => ?_)
    · refine lv_aload_n hx hb dX2_readBlock_35 rfl (lv_at hl 0 rfl) ?_
      refine lv_iload_n hx hb dX2_readBlock_36 rfl (lv_at hl 1 rfl) ?_
      refine lv_iconst (v := 1) hx hb dX2_readBlock_37 (by decide) ?_
      refine lv_iadd hx hb dX2_readBlock_38 ?_
      refine lv_topi (fun z_31 ez_31 => ?_)
      exact absurd (hrel_19 c_30).2 c_4
    · refine lv_null hx hb dX2_readBlock_33 ?_
      exact K_aZ hx hb hr (Or.inl ⟨_, rfl⟩) (Or.inl rfl) hlocks hP hD hK hS hT hE ⟨⟨_, rfl, Or.inl rfl⟩, hF, _, _, _, _, _, hk_13, hk_14, hk_15, hk_16, hk_22, trivial, trivial, trivial, trivial, hs3, ⟨(gob (Kp tt ln) (nq tt ln) d q), Ev.block0 (fun h9 => c_30 (hrq_26.F.trans h9)), hrq_26, (by first | exact hnd | (simp only [gpa_nd, gnu_nd, gpl_nd, gte_nd, gob_nd, grf_nd]; exact hnd))⟩⟩ (⟨_, _, hk_15, hk_22, by omega⟩) (by first | exact Nat.le_of_ble_eq_true rfl | (simp only [rm_X2_readBlock]; omega) | omega) (by first | exact Nat.le_of_ble_eq_true rfl | (simp only [rm_X2_readBlock]; omega) | omega) (by first | exact Nat.le_of_ble_eq_true rfl | (simp only [rm_X2_readBlock]; omega) | omega) dX2_readBlock_34
  · refine lv_iload_n hx hb dX2_readBlock_9 rfl (lv_at hl 1 rfl) ?_
    refine lv_bipush (v := 8) hx hb dX2_readBlock_10 (by decide) ?_
    refine lv_icmp_lt (tgt := 20) hx hb dX2_readBlock_12 (by decide) (fun c_32 => ?_) (fun c_32 => ?_)
    · have hgo : (if Kp tt ln q.1 = 123 ∧ 8 ≤ d then grf 2 q else q) = q := if_neg (fun h9 => by have g9 := c_32; rw [hd] at g9; have g9 : nI d < nI 8 := g9; rw [nI_ltI (by omega) (by omega)] at g9; omega)
      refine lv_aload_n hx hb dX2_readBlock_20 rfl (lv_at hl 0 rfl) ?_
      refine lv_bipush (v := 123) hx hb dX2_readBlock_21 (by decide) ?_
      have hTo := hT
      refine K_V ⟨hx, hb, hml, hown, hts⟩ (t_X2_pass l dC dI sa hlt g _ _ tt ln M q h0 123 tok ka sta vaa ax tn fa pw zz _ (hT.sub [0, 1, 2, 3, 4] rfl)  hm_ax hm_tn hm_fa hm_pw hm_zz ((hF.1 h0 (hT0.at 0 rfl).1 2 (hT0.at 0 rfl).2 0 (by decide)).trans h_tok) ((hF.1 tok (hT0.at 1 rfl).1 6 (hT0.at 1 rfl).2 4 (by decide)).trans h_ka) ((hF.1 tok (hT0.at 1 rfl).1 6 (hT0.at 1 rfl).2 5 (by decide)).trans h_sta) ((hF.1 tok (hT0.at 1 rfl).1 6 (hT0.at 1 rfl).2 6 (by decide)).trans h_vaa) hzz (hTK.go (hF.2 ka (hT0.at 2 rfl).1 0 _ _ (hT0.at 2 rfl).2 (by decide)) (hF.2 sta (hT0.at 3 rfl).1 0 _ _ (hT0.at 3 rfl).2 (by decide)) (hF.2 vaa (hT0.at 4 rfl).1 0 _ _ (hT0.at 4 rfl).2 (by decide))) hRQ (Or.inl (by decide))) (cwV 1 hts gX2_readBlock_X2_pass rfl rfl rfl (by decide +kernel) ⟨(by first | exact Nat.le_of_ble_eq_true rfl | (simp only [rm_X2_pass, rm_X2_readBlock]; omega)), (by first | exact Nat.le_of_ble_eq_true rfl | (simp only [rm_X2_pass, rm_X2_readBlock]; omega))⟩) hP hD hK hS hA hev hT 0 2 rfl rfl rfl rfl hl.1 rfl (Nat.le_of_ble_eq_true rfl) dX2_readBlock_23 ⟨(by first | exact Nat.le_of_ble_eq_true rfl | (simp only [rm_X2_readBlock]; omega) | omega), (by first | exact Nat.le_of_ble_eq_true rfl | (simp only [rm_X2_readBlock]; omega) | omega)⟩ (fun r L_33 f_34 H locs hw_35 hP hD hS hT hE1 => ?_)
      have hF := Fr.call hF hE hw_35.2.1 (by decide)
      have hE := hE.tr hE1
      obtain ⟨rfl, hw_35⟩ := hw_35
      obtain ⟨hfr_36, ax_37, tn_38, fa_39, pw_40, hk_41, hk_42, hk_43, hk_44, hrel_45, hrel_46, hrel_47, hrel_48, hex_49⟩ := hw_35
      have hk_50 : rd f_34 h0 5 = .int sg := (hfr_36.1 h0 (hTo.at 0 rfl).1 2 (hTo.at 0 rfl).2 5 (by decide)).trans hm_sg
      have hk_51 : rd f_34 tok 3 = .int zz := (hfr_36.1 tok (hTo.at 1 rfl).1 6 (hTo.at 1 rfl).2 3 (by decide)).trans hm_zz
      have hq_52 : pot fa_39 sg ≤ pot fa sg := pot_le (fun h9 => (hrel_47 h9).1)
      have hrq_53 := hex_49
      refine W.eq (g2 := F0 m 26 ls []) rfl ?_
      have hrq_54 : RQ tt ln M (gob (Kp tt ln) (nq tt ln) d q) ax_37 tn_38 fa_39 pw_40 := by unfold gob; rw [hgo]; exact hrq_53
      refine lv_aload_n hx hb dX2_readBlock_26 rfl (lv_at hl 0 rfl) ?_
      refine T_get (ci := 2) (C := RX2) (T := TX2) (N := 6) (t := tI) hx hb hts inw_X2_readBlock_2 hown hK hP hT 0 rfl rfl 3 (by decide) (hts (.fieldLink RX2 28 "VatHouse$Reader" "fault" "I") (by decide +kernel)) (fun _ h9 => h9) rfl dX2_readBlock_27 (fun v_57 hv_55 hr_56 => ?_)
      obtain rfl : v_57 = .int fa_39 := hr_56.symm.trans hk_43
      refine lv_if_eq (tgt := 35) hx hb dX2_readBlock_30 (by decide) (fun c_58 => ?_) (fun c_58 => ?_)
      · refine lv_aload_n hx hb dX2_readBlock_35 rfl (lv_at hl 0 rfl) ?_
        refine lv_iload_n hx hb dX2_readBlock_36 rfl (lv_at hl 1 rfl) ?_
        refine lv_iconst (v := 1) hx hb dX2_readBlock_37 (by decide) ?_
        refine lv_iadd hx hb dX2_readBlock_38 ?_
        refine lv_topi (fun z_59 ez_59 => ?_)
        obtain ⟨j1, hj_60⟩ : ∃ j1, j = j1 + 1 := ⟨j - 1, by have := lv7 hd c_32 (by omega); omega⟩
        have hTo := hT
        refine K_VZ ⟨hx, hb, hml, hown, hts⟩ (IHR j1 (d + 1) (by omega) hj_60 _ _ (pot fa_39 sg) tt ln M (gob (Kp tt ln) (nq tt ln) d q) h0 z_59 tok ka sta vaa ax_37 tn_38 fa_39 pw_40 sg zz _ (hT.sub [0, 1, 2, 3, 4] rfl)  hk_41 hk_42 hk_43 hk_44 hk_50 hk_51 ((hF.1 h0 (hT0.at 0 rfl).1 2 (hT0.at 0 rfl).2 0 (by decide)).trans h_tok) ((hF.1 tok (hT0.at 1 rfl).1 6 (hT0.at 1 rfl).2 4 (by decide)).trans h_ka) ((hF.1 tok (hT0.at 1 rfl).1 6 (hT0.at 1 rfl).2 5 (by decide)).trans h_sta) ((hF.1 tok (hT0.at 1 rfl).1 6 (hT0.at 1 rfl).2 6 (by decide)).trans h_vaa) (by rw [ez_59, hd]; exact nI_1 d) rfl hs3 hzz (hTK.go (hF.2 ka (hT0.at 2 rfl).1 0 _ _ (hT0.at 2 rfl).2 (by decide)) (hF.2 sta (hT0.at 3 rfl).1 0 _ _ (hT0.at 3 rfl).2 (by decide)) (hF.2 vaa (hT0.at 4 rfl).1 0 _ _ (hT0.at 4 rfl).2 (by decide))) hrq_54 (by first | exact hnd | (simp only [gpa_nd, gnu_nd, gpl_nd, gte_nd, gob_nd, grf_nd]; exact hnd))) (cwV 1 hts gX2_readBlock_X2_readSteps rfl rfl rfl (by decide +kernel) ⟨(by first | exact Nat.le_of_ble_eq_true rfl | (simp only [rm_X2_readSteps, rm_X2_readBlock]; omega)), (by first | exact Nat.le_of_ble_eq_true rfl | (simp only [rm_X2_readSteps, rm_X2_readBlock]; omega))⟩) hP hD hK hS hA hev hT 0 2 rfl rfl rfl rfl hl.1 rfl (Nat.le_of_ble_eq_true rfl) dX2_readBlock_39 ⟨(by first | exact Nat.le_of_ble_eq_true rfl | (simp only [rm_X2_readBlock]; omega) | omega), (by first | exact Nat.le_of_ble_eq_true rfl | (simp only [rm_X2_readBlock]; omega) | omega)⟩ (fun r L_61 f_62 n_64 H locs hw_63 hn_65 hP hD hS hT hE1 => ?_)
        have hF := Fr.call hF hE hw_63.2.1 (by decide)
        have hE := hE.tr hE1
        obtain ⟨⟨v_66, rfl, hv9⟩, hw_63⟩ := hw_63
        rcases hv9 with rfl | ⟨b_67, rfl, hb9⟩
        · obtain ⟨hfr_68, ax_69, tn_70, fa_71, pw_72, sg_73, hk_74, hk_75, hk_76, hk_77, hk_78, hrel_79, hrel_80, hrel_81, hrel_82, hrel_83, hex_84⟩ := hw_63
          have hk_85 : rd f_62 tok 3 = .int zz := (hfr_68.1 tok (hTo.at 1 rfl).1 6 (hTo.at 1 rfl).2 3 (by decide)).trans hk_51
          have hq_86 : n_64 + pot fa_71 sg_73 ≤ pot fa_39 sg := by
            obtain ⟨a9, b9, g1, g2, g3⟩ := hn_65
            cases g1.symm.trans hk_76
            cases g2.symm.trans hk_78
            exact g3
          obtain ⟨qn_87, hev_88, hrq_89, hsg_90, hn3_91⟩ := hex_84
          refine W.eq (g2 := F0 m 42 ls [.null]) rfl ?_
          refine lv_astore_nN (lv' := [(2, .null), (0, .ref h0), (1, .int dep)]) hx hb dX2_readBlock_42 rfl hl (by decide) rfl (fun ls hl => ?_)
          refine lv_aload_n hx hb dX2_readBlock_43 rfl (lv_at hl 1 rfl) ?_
          refine lv_bipush (v := 125) hx hb dX2_readBlock_44 (by decide) ?_
          have hTo := hT
          refine K_V ⟨hx, hb, hml, hown, hts⟩ (t_X2_pass l dC dI sa hlt g _ _ tt ln M qn_87 h0 125 tok ka sta vaa ax_69 tn_70 fa_71 pw_72 zz _ (hT.sub [0, 1, 2, 3, 4] rfl)  hk_74 hk_75 hk_76 hk_77 hk_85 ((hF.1 h0 (hT0.at 0 rfl).1 2 (hT0.at 0 rfl).2 0 (by decide)).trans h_tok) ((hF.1 tok (hT0.at 1 rfl).1 6 (hT0.at 1 rfl).2 4 (by decide)).trans h_ka) ((hF.1 tok (hT0.at 1 rfl).1 6 (hT0.at 1 rfl).2 5 (by decide)).trans h_sta) ((hF.1 tok (hT0.at 1 rfl).1 6 (hT0.at 1 rfl).2 6 (by decide)).trans h_vaa) hzz (hTK.go (hF.2 ka (hT0.at 2 rfl).1 0 _ _ (hT0.at 2 rfl).2 (by decide)) (hF.2 sta (hT0.at 3 rfl).1 0 _ _ (hT0.at 3 rfl).2 (by decide)) (hF.2 vaa (hT0.at 4 rfl).1 0 _ _ (hT0.at 4 rfl).2 (by decide))) hrq_89 (Or.inl (by decide))) (cwV 1 hts gX2_readBlock_X2_pass rfl rfl rfl (by decide +kernel) ⟨(by first | exact Nat.le_of_ble_eq_true rfl | (simp only [rm_X2_pass, rm_X2_readBlock]; omega)), (by first | exact Nat.le_of_ble_eq_true rfl | (simp only [rm_X2_pass, rm_X2_readBlock]; omega))⟩) hP hD hK hS hA hev hT 0 2 rfl rfl rfl rfl hl.1 rfl (Nat.le_of_ble_eq_true rfl) dX2_readBlock_46 ⟨(by first | exact Nat.le_of_ble_eq_true rfl | (simp only [rm_X2_readBlock]; omega) | omega), (by first | exact Nat.le_of_ble_eq_true rfl | (simp only [rm_X2_readBlock]; omega) | omega)⟩ (fun r L_92 f_93 H locs hw_94 hP hD hS hT hE1 => ?_)
          have hF := Fr.call hF hE hw_94.2.1 (by decide)
          have hE := hE.tr hE1
          obtain ⟨rfl, hw_94⟩ := hw_94
          obtain ⟨hfr_95, ax_96, tn_97, fa_98, pw_99, hk_100, hk_101, hk_102, hk_103, hrel_104, hrel_105, hrel_106, hrel_107, hex_108⟩ := hw_94
          have hk_109 : rd f_93 h0 5 = .int sg_73 := (hfr_95.1 h0 (hTo.at 0 rfl).1 2 (hTo.at 0 rfl).2 5 (by decide)).trans hk_78
          have hk_110 : rd f_93 tok 3 = .int zz := (hfr_95.1 tok (hTo.at 1 rfl).1 6 (hTo.at 1 rfl).2 3 (by decide)).trans hk_85
          have hq_111 : pot fa_98 sg_73 ≤ pot fa_71 sg_73 := pot_le (fun h9 => (hrel_106 h9).1)
          have hrq_112 := hex_108
          refine W.eq (g2 := F0 m 49 ls []) rfl ?_
          refine lv_aload_nN hx hb dX2_readBlock_49 rfl (lv_at hl 0 rfl) ?_
          exact K_aZ hx hb hr (Or.inl ⟨_, rfl⟩) (Or.inl rfl) hlocks hP hD hK hS hT hE ⟨⟨_, rfl, Or.inl rfl⟩, hF, _, _, _, _, _, hk_100, hk_101, hk_102, hk_103, hk_109, trivial, trivial, trivial, trivial, hrel_83, ⟨(gpa (Kp tt ln) (nq tt ln) 125 qn_87), Ev.block (hrq_54.F.symm.trans c_58) hev_88, hrq_112, (by first | exact ⟨hsg_90, hn3_91⟩ | (simp only [gpa_nd, gnu_nd, gpl_nd, gte_nd, gob_nd, grf_nd]; exact ⟨hsg_90, hn3_91⟩))⟩⟩ (⟨_, _, hk_102, hk_109, by omega⟩) (by first | exact Nat.le_of_ble_eq_true rfl | (simp only [rm_X2_readBlock]; omega) | omega) (by first | exact Nat.le_of_ble_eq_true rfl | (simp only [rm_X2_readBlock]; omega) | omega) (by first | exact Nat.le_of_ble_eq_true rfl | (simp only [rm_X2_readBlock]; omega) | omega) dX2_readBlock_50
        · have hT := hT.add hb9
          obtain ⟨hfr_113, ax_114, tn_115, fa_116, pw_117, sg_118, hk_119, hk_120, hk_121, hk_122, hk_123, hrel_124, hrel_125, hrel_126, hrel_127, hrel_128, hex_129⟩ := hw_63
          have hk_130 : rd f_62 tok 3 = .int zz := (hfr_113.1 tok (hTo.at 1 rfl).1 6 (hTo.at 1 rfl).2 3 (by decide)).trans hk_51
          have hq_131 : n_64 + pot fa_116 sg_118 ≤ pot fa_39 sg := by
            obtain ⟨a9, b9, g1, g2, g3⟩ := hn_65
            cases g1.symm.trans hk_121
            cases g2.symm.trans hk_123
            exact g3
          obtain ⟨qn_132, hev_133, hrq_134, hsg_135, hn3_136⟩ := hex_129
          refine W.eq (g2 := F0 m 42 ls [.ref b_67]) rfl ?_
          refine lv_astore_n (lv' := [(2, .ref b_67), (0, .ref h0), (1, .int dep)]) hx hb dX2_readBlock_42 rfl hl (by decide) rfl (fun ls hl => ?_)
          refine lv_aload_n hx hb dX2_readBlock_43 rfl (lv_at hl 1 rfl) ?_
          refine lv_bipush (v := 125) hx hb dX2_readBlock_44 (by decide) ?_
          have hTo := hT
          refine K_V ⟨hx, hb, hml, hown, hts⟩ (t_X2_pass l dC dI sa hlt g _ _ tt ln M qn_132 h0 125 tok ka sta vaa ax_114 tn_115 fa_116 pw_117 zz _ (hT.sub [1, 2, 3, 4, 5] rfl)  hk_119 hk_120 hk_121 hk_122 hk_130 ((hF.1 h0 (hT0.at 0 rfl).1 2 (hT0.at 0 rfl).2 0 (by decide)).trans h_tok) ((hF.1 tok (hT0.at 1 rfl).1 6 (hT0.at 1 rfl).2 4 (by decide)).trans h_ka) ((hF.1 tok (hT0.at 1 rfl).1 6 (hT0.at 1 rfl).2 5 (by decide)).trans h_sta) ((hF.1 tok (hT0.at 1 rfl).1 6 (hT0.at 1 rfl).2 6 (by decide)).trans h_vaa) hzz (hTK.go (hF.2 ka (hT0.at 2 rfl).1 0 _ _ (hT0.at 2 rfl).2 (by decide)) (hF.2 sta (hT0.at 3 rfl).1 0 _ _ (hT0.at 3 rfl).2 (by decide)) (hF.2 vaa (hT0.at 4 rfl).1 0 _ _ (hT0.at 4 rfl).2 (by decide))) hrq_134 (Or.inl (by decide))) (cwV 1 hts gX2_readBlock_X2_pass rfl rfl rfl (by decide +kernel) ⟨(by first | exact Nat.le_of_ble_eq_true rfl | (simp only [rm_X2_pass, rm_X2_readBlock]; omega)), (by first | exact Nat.le_of_ble_eq_true rfl | (simp only [rm_X2_pass, rm_X2_readBlock]; omega))⟩) hP hD hK hS hA hev hT 1 2 rfl rfl rfl rfl hl.1 rfl (Nat.le_of_ble_eq_true rfl) dX2_readBlock_46 ⟨(by first | exact Nat.le_of_ble_eq_true rfl | (simp only [rm_X2_readBlock]; omega) | omega), (by first | exact Nat.le_of_ble_eq_true rfl | (simp only [rm_X2_readBlock]; omega) | omega)⟩ (fun r L_137 f_138 H locs hw_139 hP hD hS hT hE1 => ?_)
          have hF := Fr.call hF hE hw_139.2.1 (by decide)
          have hE := hE.tr hE1
          obtain ⟨rfl, hw_139⟩ := hw_139
          obtain ⟨hfr_140, ax_141, tn_142, fa_143, pw_144, hk_145, hk_146, hk_147, hk_148, hrel_149, hrel_150, hrel_151, hrel_152, hex_153⟩ := hw_139
          have hk_154 : rd f_138 h0 5 = .int sg_118 := (hfr_140.1 h0 (hTo.at 1 rfl).1 2 (hTo.at 1 rfl).2 5 (by decide)).trans hk_123
          have hk_155 : rd f_138 tok 3 = .int zz := (hfr_140.1 tok (hTo.at 2 rfl).1 6 (hTo.at 2 rfl).2 3 (by decide)).trans hk_130
          have hq_156 : pot fa_143 sg_118 ≤ pot fa_116 sg_118 := pot_le (fun h9 => (hrel_151 h9).1)
          have hrq_157 := hex_153
          refine W.eq (g2 := F0 m 49 ls []) rfl ?_
          refine lv_aload_n hx hb dX2_readBlock_49 rfl (lv_at hl 0 rfl) ?_
          exact K_aZ hx hb hr (Or.inl ⟨_, rfl⟩) (Or.inr ⟨_, rfl⟩) hlocks hP hD hK hS hT hE ⟨⟨_, rfl, Or.inr ⟨_, rfl, hT.at 0 rfl⟩⟩, hF, _, _, _, _, _, hk_145, hk_146, hk_147, hk_148, hk_154, trivial, trivial, trivial, trivial, hrel_128, ⟨(gpa (Kp tt ln) (nq tt ln) 125 qn_132), Ev.block (hrq_54.F.symm.trans c_58) hev_133, hrq_157, (by first | exact ⟨hsg_135, hn3_136⟩ | (simp only [gpa_nd, gnu_nd, gpl_nd, gte_nd, gob_nd, grf_nd]; exact ⟨hsg_135, hn3_136⟩))⟩⟩ (⟨_, _, hk_147, hk_154, by omega⟩) (by first | exact Nat.le_of_ble_eq_true rfl | (simp only [rm_X2_readBlock]; omega) | omega) (by first | exact Nat.le_of_ble_eq_true rfl | (simp only [rm_X2_readBlock]; omega) | omega) (by first | exact Nat.le_of_ble_eq_true rfl | (simp only [rm_X2_readBlock]; omega) | omega) dX2_readBlock_50
      · refine lv_null hx hb dX2_readBlock_33 ?_
        exact K_aZ hx hb hr (Or.inl ⟨_, rfl⟩) (Or.inl rfl) hlocks hP hD hK hS hT hE ⟨⟨_, rfl, Or.inl rfl⟩, hF, _, _, _, _, _, hk_41, hk_42, hk_43, hk_44, hk_50, trivial, trivial, trivial, trivial, hs3, ⟨(gob (Kp tt ln) (nq tt ln) d q), Ev.block0 (fun h9 => c_58 (hrq_54.F.trans h9)), hrq_54, (by first | exact hnd | (simp only [gpa_nd, gnu_nd, gpl_nd, gte_nd, gob_nd, grf_nd]; exact hnd))⟩⟩ (⟨_, _, hk_43, hk_50, by omega⟩) (by first | exact Nat.le_of_ble_eq_true rfl | (simp only [rm_X2_readBlock]; omega) | omega) (by first | exact Nat.le_of_ble_eq_true rfl | (simp only [rm_X2_readBlock]; omega) | omega) (by first | exact Nat.le_of_ble_eq_true rfl | (simp only [rm_X2_readBlock]; omega) | omega) dX2_readBlock_34
    · refine lv_aload_n hx hb dX2_readBlock_15 rfl (lv_at hl 0 rfl) ?_
      refine lv_iconst (v := 2) hx hb dX2_readBlock_16 (by decide) ?_
      have hTo := hT
      refine K_V ⟨hx, hb, hml, hown, hts⟩ (t_X2_refuse l dC dI sa hlt g _ _ tt ln M q h0 2 tok ka sta vaa ax tn fa pw _ (hT.sub [0, 1, 2, 3, 4] rfl)  hm_ax hm_tn hm_fa hm_pw ((hF.1 h0 (hT0.at 0 rfl).1 2 (hT0.at 0 rfl).2 0 (by decide)).trans h_tok) ((hF.1 tok (hT0.at 1 rfl).1 6 (hT0.at 1 rfl).2 4 (by decide)).trans h_ka) ((hF.1 tok (hT0.at 1 rfl).1 6 (hT0.at 1 rfl).2 5 (by decide)).trans h_sta) ((hF.1 tok (hT0.at 1 rfl).1 6 (hT0.at 1 rfl).2 6 (by decide)).trans h_vaa) (by decide) (hTK.go (hF.2 ka (hT0.at 2 rfl).1 0 _ _ (hT0.at 2 rfl).2 (by decide)) (hF.2 sta (hT0.at 3 rfl).1 0 _ _ (hT0.at 3 rfl).2 (by decide)) (hF.2 vaa (hT0.at 4 rfl).1 0 _ _ (hT0.at 4 rfl).2 (by decide))) hRQ) (cwV 1 hts gX2_readBlock_X2_refuse rfl rfl rfl (by decide +kernel) ⟨(by first | exact Nat.le_of_ble_eq_true rfl | (simp only [rm_X2_refuse, rm_X2_readBlock]; omega)), (by first | exact Nat.le_of_ble_eq_true rfl | (simp only [rm_X2_refuse, rm_X2_readBlock]; omega))⟩) hP hD hK hS hA hev hT 0 2 rfl rfl rfl rfl hl.1 rfl (Nat.le_of_ble_eq_true rfl) dX2_readBlock_17 ⟨(by first | exact Nat.le_of_ble_eq_true rfl | (simp only [rm_X2_readBlock]; omega) | omega), (by first | exact Nat.le_of_ble_eq_true rfl | (simp only [rm_X2_readBlock]; omega) | omega)⟩ (fun r L_158 f_159 H locs hw_160 hP hD hS hT hE1 => ?_)
      have hF := Fr.call hF hE hw_160.2.1 (by decide)
      have hE := hE.tr hE1
      obtain ⟨rfl, hw_160⟩ := hw_160
      obtain ⟨hfr_161, fa_162, pw_163, hk_164, hk_165, hrel_166, hrel_167, hex_168⟩ := hw_160
      have hk_169 : rd f_159 h0 1 = .int ax := (hfr_161.1 h0 (hTo.at 0 rfl).1 2 (hTo.at 0 rfl).2 1 (by decide)).trans hm_ax
      have hk_170 : rd f_159 h0 2 = .int tn := (hfr_161.1 h0 (hTo.at 0 rfl).1 2 (hTo.at 0 rfl).2 2 (by decide)).trans hm_tn
      have hk_171 : rd f_159 h0 5 = .int sg := (hfr_161.1 h0 (hTo.at 0 rfl).1 2 (hTo.at 0 rfl).2 5 (by decide)).trans hm_sg
      have hk_172 : rd f_159 tok 3 = .int zz := (hfr_161.1 tok (hTo.at 1 rfl).1 6 (hTo.at 1 rfl).2 3 (by decide)).trans hm_zz
      have hq_173 := pot_ne sg hrel_166
      have hrq_174 := hex_168
      refine W.eq (g2 := F0 m 20 ls []) rfl ?_
      have hgo : (if Kp tt ln q.1 = 123 ∧ 8 ≤ d then grf 2 q else q) = (grf 2 q) := if_pos ⟨hRQ.K.symm.trans c_4, by have h9 := c_32; rw [hd] at h9; have h9 : ¬ nI d < nI 8 := h9; rw [nI_ltI (by omega) (by omega)] at h9; omega⟩
      refine lv_aload_n hx hb dX2_readBlock_20 rfl (lv_at hl 0 rfl) ?_
      refine lv_bipush (v := 123) hx hb dX2_readBlock_21 (by decide) ?_
      have hTo := hT
      refine K_V ⟨hx, hb, hml, hown, hts⟩ (t_X2_pass l dC dI sa hlt g _ _ tt ln M (grf 2 q) h0 123 tok ka sta vaa ax tn fa_162 pw_163 zz _ (hT.sub [0, 1, 2, 3, 4] rfl)  hk_169 hk_170 hk_164 hk_165 hk_172 ((hF.1 h0 (hT0.at 0 rfl).1 2 (hT0.at 0 rfl).2 0 (by decide)).trans h_tok) ((hF.1 tok (hT0.at 1 rfl).1 6 (hT0.at 1 rfl).2 4 (by decide)).trans h_ka) ((hF.1 tok (hT0.at 1 rfl).1 6 (hT0.at 1 rfl).2 5 (by decide)).trans h_sta) ((hF.1 tok (hT0.at 1 rfl).1 6 (hT0.at 1 rfl).2 6 (by decide)).trans h_vaa) hzz (hTK.go (hF.2 ka (hT0.at 2 rfl).1 0 _ _ (hT0.at 2 rfl).2 (by decide)) (hF.2 sta (hT0.at 3 rfl).1 0 _ _ (hT0.at 3 rfl).2 (by decide)) (hF.2 vaa (hT0.at 4 rfl).1 0 _ _ (hT0.at 4 rfl).2 (by decide))) hrq_174 (Or.inl (by decide))) (cwV 1 hts gX2_readBlock_X2_pass rfl rfl rfl (by decide +kernel) ⟨(by first | exact Nat.le_of_ble_eq_true rfl | (simp only [rm_X2_pass, rm_X2_readBlock]; omega)), (by first | exact Nat.le_of_ble_eq_true rfl | (simp only [rm_X2_pass, rm_X2_readBlock]; omega))⟩) hP hD hK hS hA hev hT 0 2 rfl rfl rfl rfl hl.1 rfl (Nat.le_of_ble_eq_true rfl) dX2_readBlock_23 ⟨(by first | exact Nat.le_of_ble_eq_true rfl | (simp only [rm_X2_readBlock]; omega) | omega), (by first | exact Nat.le_of_ble_eq_true rfl | (simp only [rm_X2_readBlock]; omega) | omega)⟩ (fun r L_175 f_176 H locs hw_177 hP hD hS hT hE1 => ?_)
      have hF := Fr.call hF hE hw_177.2.1 (by decide)
      have hE := hE.tr hE1
      obtain ⟨rfl, hw_177⟩ := hw_177
      obtain ⟨hfr_178, ax_179, tn_180, fa_181, pw_182, hk_183, hk_184, hk_185, hk_186, hrel_187, hrel_188, hrel_189, hrel_190, hex_191⟩ := hw_177
      have hk_192 : rd f_176 h0 5 = .int sg := (hfr_178.1 h0 (hTo.at 0 rfl).1 2 (hTo.at 0 rfl).2 5 (by decide)).trans hk_171
      have hk_193 : rd f_176 tok 3 = .int zz := (hfr_178.1 tok (hTo.at 1 rfl).1 6 (hTo.at 1 rfl).2 3 (by decide)).trans hk_172
      have hq_194 : pot fa_181 sg ≤ pot fa_162 sg := pot_le (fun h9 => (hrel_189 h9).1)
      have hrq_195 := hex_191
      refine W.eq (g2 := F0 m 26 ls []) rfl ?_
      have hrq_196 : RQ tt ln M (gob (Kp tt ln) (nq tt ln) d q) ax_179 tn_180 fa_181 pw_182 := by unfold gob; rw [hgo]; exact hrq_195
      refine lv_aload_n hx hb dX2_readBlock_26 rfl (lv_at hl 0 rfl) ?_
      refine T_get (ci := 2) (C := RX2) (T := TX2) (N := 6) (t := tI) hx hb hts inw_X2_readBlock_2 hown hK hP hT 0 rfl rfl 3 (by decide) (hts (.fieldLink RX2 28 "VatHouse$Reader" "fault" "I") (by decide +kernel)) (fun _ h9 => h9) rfl dX2_readBlock_27 (fun v_199 hv_197 hr_198 => ?_)
      obtain rfl : v_199 = .int fa_181 := hr_198.symm.trans hk_185
      refine lv_if_eq (tgt := 35) hx hb dX2_readBlock_30 (by decide) (fun c_200 => ?_) (fun c_200 => ?_)
      · refine lv_aload_n hx hb dX2_readBlock_35 rfl (lv_at hl 0 rfl) ?_
        refine lv_iload_n hx hb dX2_readBlock_36 rfl (lv_at hl 1 rfl) ?_
        refine lv_iconst (v := 1) hx hb dX2_readBlock_37 (by decide) ?_
        refine lv_iadd hx hb dX2_readBlock_38 ?_
        refine lv_topi (fun z_201 ez_201 => ?_)
        exact absurd (hrel_189 c_200).1 hrel_166
      · refine lv_null hx hb dX2_readBlock_33 ?_
        exact K_aZ hx hb hr (Or.inl ⟨_, rfl⟩) (Or.inl rfl) hlocks hP hD hK hS hT hE ⟨⟨_, rfl, Or.inl rfl⟩, hF, _, _, _, _, _, hk_183, hk_184, hk_185, hk_186, hk_192, trivial, trivial, trivial, trivial, hs3, ⟨(gob (Kp tt ln) (nq tt ln) d q), Ev.block0 (fun h9 => c_200 (hrq_196.F.trans h9)), hrq_196, (by first | exact hnd | (simp only [gpa_nd, gnu_nd, gpl_nd, gte_nd, gob_nd, grf_nd]; exact hnd))⟩⟩ (⟨_, _, hk_185, hk_192, by omega⟩) (by first | exact Nat.le_of_ble_eq_true rfl | (simp only [rm_X2_readBlock]; omega) | omega) (by first | exact Nat.le_of_ble_eq_true rfl | (simp only [rm_X2_readBlock]; omega) | omega) (by first | exact Nat.le_of_ble_eq_true rfl | (simp only [rm_X2_readBlock]; omega) | omega) dX2_readBlock_34

theorem inw_X2_readBuilt_2 : ∀ w ∈ wsX20, w ∈ wsX2_readBuilt := by decide +kernel
theorem inw_X2_readBuilt_5 : ∀ w ∈ wsX50, w ∈ wsX2_readBuilt := by decide +kernel
set_option maxHeartbeats 800000 in
set_option maxRecDepth 100000 in
theorem t_X2_readBuilt (l : Launch) (dC : Nat → ClassId) (dI : Nat → Nat → Nat) (sa : Nat → Nat) (hlt : l.stackTraces = false) (g : Nat → Nat) (L : List Nat) (f : Nat → va_E) (j : Nat) (d : Nat) (P : Nat) (tt : Nat → Int32) (ln : Nat) (M : Nat) (q : SG) (h0 : Nat) (o : Nat) (dep : Int32) (tok : Nat) (ka : Nat) (sta : Nat) (vaa : Nat) (ax : Int32) (tn : Int32) (fa : Int32) (pw : Int32) (sg : Int32) (zz : Int32) (wd : Int32) (sz : Nat) (hT : TP g L f [(h0, (0, 2, 0)), (o, (0, 5, 0)), (tok, (0, 6, 0)), (ka, (1, g 0, 1501)), (sta, (1, g 5, 1501)), (vaa, (1, g 6, 1501))]) (hm_ax : rd f h0 1 = .int ax) (hm_tn : rd f h0 2 = .int tn) (hm_fa : rd f h0 3 = .int fa) (hm_pw : rd f h0 4 = .int pw) (hm_sg : rd f h0 5 = .int sg) (hm_zz : rd f tok 3 = .int zz) (hm_wd : rd f o 0 = .int wd) (h_tok : rd f h0 0 = .ref tok) (h_ka : rd f tok 4 = .ref ka) (h_sta : rd f tok 5 = .ref sta) (h_vaa : rd f tok 6 = .ref vaa) (hd : dep = nI d) (hdj : d + j = 8) (hP0 : pot fa sg = P) (hs3 : sg.toInt ≤ 300) (hzz : zz = nI (M + 1)) (hTK : TKS f ka sta vaa tt ln M) (hRQ : RQ tt ln M q ax tn fa pw) (hnd : sg = nI q.2.1 ∧ q.2.1 ≤ 300) (IHR : ∀ j' d' : Nat, d' + j' = 8 → j = j' + 1 → ∀ (L : List Nat) (f : Nat → va_E) (P : Nat) (tt : Nat → Int32) (ln : Nat) (M : Nat) (q : SG) (h0 : Nat) (dep : Int32) (tok : Nat) (ka : Nat) (sta : Nat) (vaa : Nat) (ax : Int32) (tn : Int32) (fa : Int32) (pw : Int32) (sg : Int32) (zz : Int32) (sz : Nat) (hT : TP g L f [(h0, (0, 2, 0)), (tok, (0, 6, 0)), (ka, (1, g 0, 1501)), (sta, (1, g 5, 1501)), (vaa, (1, g 6, 1501))]) (hm_ax : rd f h0 1 = .int ax) (hm_tn : rd f h0 2 = .int tn) (hm_fa : rd f h0 3 = .int fa) (hm_pw : rd f h0 4 = .int pw) (hm_sg : rd f h0 5 = .int sg) (hm_zz : rd f tok 3 = .int zz) (h_tok : rd f h0 0 = .ref tok) (h_ka : rd f tok 4 = .ref ka) (h_sta : rd f tok 5 = .ref sta) (h_vaa : rd f tok 6 = .ref vaa) (hd : dep = nI d') (hP0 : pot fa sg = P) (hs3 : sg.toInt ≤ 300) (hzz : zz = nI (M + 1)) (hTK : TKS f ka sta vaa tt ln M) (hRQ : RQ tt ln M q ax tn fa pw) (hnd : sg = nI q.2.1 ∧ q.2.1 ≤ 300), KZ l dC dI sa g yX2_readSteps wsX2_readSteps (rm_X2_readSteps j' d' P tt ln M q) [.ref h0, .int dep] L f sz (fun r L' f' => (∃ v : Value, r = some v ∧ okv L' f' (2, 0, 5, 0) v) ∧ Fr [(2, 1), (2, 2), (2, 3), (2, 4), (5, 1), (5, 2), (5, 3), (5, 4), (5, 5), (5, 6), (5, 7), (2, 5)] L f f' ∧ (∃ ax' : Int32, ∃ tn' : Int32, ∃ fa' : Int32, ∃ pw' : Int32, ∃ sg' : Int32, rd f' h0 1 = .int ax' ∧ rd f' h0 2 = .int tn' ∧ rd f' h0 3 = .int fa' ∧ rd f' h0 4 = .int pw' ∧ rd f' h0 5 = .int sg' ∧ (True) ∧ (True) ∧ (True) ∧ (True) ∧ (sg'.toInt ≤ 300) ∧ (∃ qn : SG, Ev (Kp tt ln) (Vp tt ln) (nq tt ln) 0 d' q qn ∧ RQ tt ln M qn ax' tn' fa' pw' ∧ sg' = nI qn.2.1 ∧ qn.2.1 ≤ 300))) (fun n f' => ∃ a b : Int32, rd f' h0 3 = .int a ∧ rd f' h0 5 = .int b ∧ n + pot a b ≤ P) P (8 * P)) : KZ l dC dI sa g yX2_readBuilt wsX2_readBuilt (rm_X2_readBuilt j d P tt ln M q) [.ref h0, .ref o, .int dep] L f sz (fun r L' f' => (r = none) ∧ Fr [(2, 1), (2, 2), (2, 3), (2, 4), (5, 1), (5, 2), (5, 3), (5, 4), (5, 5), (5, 6), (5, 7), (2, 5)] L f f' ∧ (∃ ax' : Int32, ∃ tn' : Int32, ∃ fa' : Int32, ∃ pw' : Int32, ∃ sg' : Int32, rd f' h0 1 = .int ax' ∧ rd f' h0 2 = .int tn' ∧ rd f' h0 3 = .int fa' ∧ rd f' h0 4 = .int pw' ∧ rd f' h0 5 = .int sg' ∧ (True) ∧ (True) ∧ (True) ∧ (True) ∧ (sg'.toInt ≤ 300) ∧ (∃ qn : SG, BU (Kp tt ln) (Vp tt ln) (nq tt ln) wd d q qn ∧ RQ tt ln M qn ax' tn' fa' pw' ∧ sg' = nI qn.2.1 ∧ qn.2.1 ≤ 300))) (fun n f' => ∃ a b : Int32, rd f' h0 3 = .int a ∧ rd f' h0 5 = .int b ∧ n + pot a b ≤ P) P (8 * P) := by
  refine KZ.start (cc := cX2_readBuilt) (maxL := 3) (ret := none) (by decide) rfl (Nat.le_of_ble_eq_true rfl) ?_
  intro p e s m below meth c ls hst hP hK hD hev hS hl
  obtain ⟨hx, hb, hr, hml, hts, hown, hlocks, hin⟩ := hst
  have hown : s.vm.findClass RX2 = some m.cls := hown
  have hin : meth.name = yX2_readBuilt.name := hin
  have hA : ∀ q : Nat, s.heap.size ≤ q → va_A (va_pl L f) s.heap.size q := fun _ h => Or.inr h
  have hE : Ext L f L f := Ext.rf
  have hF : Fr [(2, 1), (2, 2), (2, 3), (2, 4), (5, 1), (5, 2), (5, 3), (5, 4), (5, 5), (5, 6), (5, 7), (2, 5)] L f f := Fr.rf
  have hl : lv_has ls 3 [(0, .ref h0), (1, .ref o), (2, .int dep)] := hl
  have hT0 := hT
  refine lv_aload_n hx hb dX2_readBuilt_0 rfl (lv_at hl 1 rfl) ?_
  refine T_get (ci := 5) (C := RX5) (T := TX5) (N := 8) (t := tI) hx hb hts inw_X2_readBuilt_5 hown hK hP hT 1 rfl rfl 0 (by decide) (hts (.fieldLink RX2 61 "VatHouse$Step" "word" "I") (by decide +kernel)) (fun _ h9 => h9) rfl dX2_readBuilt_1 (fun v_3 hv_1 hr_2 => ?_)
  obtain rfl : v_3 = .int wd := hr_2.symm.trans hm_wd
  by_cases c_4 : wd = 8
  · refine lv_tableIn (tgt := 32) hx hb dX2_readBuilt_4 (by rw [c_4]; decide) (by rw [c_4]; decide) (by rw [c_4]; rfl) (by decide) ?_
    refine lv_aload_n hx hb dX2_readBuilt_32 rfl (lv_at hl 1 rfl) ?_
    refine lv_aload_n hx hb dX2_readBuilt_33 rfl (lv_at hl 0 rfl) ?_
    refine lv_iconst (v := 0) hx hb dX2_readBuilt_34 (by decide) ?_
    refine lv_bipush (v := 50) hx hb dX2_readBuilt_35 (by decide) ?_
    have hTo := hT
    refine K_V ⟨hx, hb, hml, hown, hts⟩ (t_X2_readNumber l dC dI sa hlt g _ _ tt ln M q h0 0 50 tok ka sta vaa ax tn fa pw zz _ (hT.sub [0, 2, 3, 4, 5] rfl)  hm_ax hm_tn hm_fa hm_pw hm_zz ((hF.1 h0 (hT0.at 0 rfl).1 2 (hT0.at 0 rfl).2 0 (by decide)).trans h_tok) ((hF.1 tok (hT0.at 2 rfl).1 6 (hT0.at 2 rfl).2 4 (by decide)).trans h_ka) ((hF.1 tok (hT0.at 2 rfl).1 6 (hT0.at 2 rfl).2 5 (by decide)).trans h_sta) ((hF.1 tok (hT0.at 2 rfl).1 6 (hT0.at 2 rfl).2 6 (by decide)).trans h_vaa) hzz (hTK.go (hF.2 ka (hT0.at 3 rfl).1 0 _ _ (hT0.at 3 rfl).2 (by decide)) (hF.2 sta (hT0.at 4 rfl).1 0 _ _ (hT0.at 4 rfl).2 (by decide)) (hF.2 vaa (hT0.at 5 rfl).1 0 _ _ (hT0.at 5 rfl).2 (by decide))) hRQ) (cwV 2 hts gX2_readBuilt_X2_readNumber rfl rfl rfl (by decide +kernel) ⟨(by first | exact Nat.le_of_ble_eq_true rfl | (simp only [rm_X2_readNumber, rm_X2_readBuilt]; omega)), (by first | exact Nat.le_of_ble_eq_true rfl | (simp only [rm_X2_readNumber, rm_X2_readBuilt]; omega))⟩) hP hD hK hS hA hev hT 0 2 rfl rfl rfl rfl hl.1 rfl (Nat.le_of_ble_eq_true rfl) dX2_readBuilt_37 ⟨(by first | exact Nat.le_of_ble_eq_true rfl | (simp only [rm_X2_readBuilt]; omega) | omega), (by first | exact Nat.le_of_ble_eq_true rfl | (simp only [rm_X2_readBuilt]; omega) | omega)⟩ (fun r L_5 f_6 H locs hw_7 hP hD hS hT hE1 => ?_)
    have hF := Fr.call hF hE hw_7.2.1 (by decide)
    have hE := hE.tr hE1
    obtain ⟨⟨z_8, rfl⟩, hw_7⟩ := hw_7
    obtain ⟨hfr_9, ax_10, tn_11, fa_12, pw_13, hk_14, hk_15, hk_16, hk_17, hrel_18, hrel_19, hrel_20, hrel_21, hex_22⟩ := hw_7
    have hk_23 : rd f_6 h0 5 = .int sg := (hfr_9.1 h0 (hTo.at 0 rfl).1 2 (hTo.at 0 rfl).2 5 (by decide)).trans hm_sg
    have hk_24 : rd f_6 tok 3 = .int zz := (hfr_9.1 tok (hTo.at 2 rfl).1 6 (hTo.at 2 rfl).2 3 (by decide)).trans hm_zz
    have hk_25 : rd f_6 o 0 = .int wd := (hfr_9.1 o (hTo.at 1 rfl).1 5 (hTo.at 1 rfl).2 0 (by decide)).trans hm_wd
    have hq_26 : pot fa_12 sg ≤ pot fa sg := pot_le (fun h9 => (hrel_20 h9))
    have hrq_27 := hex_22.2
    refine W.eq (g2 := F0 m 40 ls [.int z_8, .ref o]) rfl ?_
    have hTo := hT
    refine T_put (ci := 5) (v := .int z_8) (ty := .int) (t := tI) (C := RX5) (T := TX5) (N := 8) hx hb hts inw_X2_readBuilt_5 tyX5 tyX5_ok nmX5 hown hK hP hD hS hT 1 rfl rfl 2 (by decide) (hts (.fieldLink RX2 79 "VatHouse$Step" "number" "I") (by decide +kernel)) (fun _ h9 => h9) rfl (by decide +kernel) rfl rfl rfl ⟨_, rfl⟩ dX2_readBuilt_40 (fun f_28 H locs hP hD hS hT hE1 hrd_29 hup_30 => ?_)
    have hF := Fr.put (a := o) (ci := 5) hF hE ((hE1 o (hT.at 1 rfl).1).2.symm.trans (hT.at 1 rfl).2) (by decide) hrd_29 hup_30
    have hE := hE.tr hE1
    have hk_31 : rd f_28 h0 1 = .int ax_10 := ((Fr.put (cs := [(5, 2)]) (a := o) (ci := 5) Fr.rf Ext.rf (hTo.at 1 rfl).2 (by decide) hrd_29 hup_30).1 h0 (hTo.at 0 rfl).1 2 (hTo.at 0 rfl).2 1 (by decide)).trans hk_14
    have hk_32 : rd f_28 h0 2 = .int tn_11 := ((Fr.put (cs := [(5, 2)]) (a := o) (ci := 5) Fr.rf Ext.rf (hTo.at 1 rfl).2 (by decide) hrd_29 hup_30).1 h0 (hTo.at 0 rfl).1 2 (hTo.at 0 rfl).2 2 (by decide)).trans hk_15
    have hk_33 : rd f_28 h0 3 = .int fa_12 := ((Fr.put (cs := [(5, 2)]) (a := o) (ci := 5) Fr.rf Ext.rf (hTo.at 1 rfl).2 (by decide) hrd_29 hup_30).1 h0 (hTo.at 0 rfl).1 2 (hTo.at 0 rfl).2 3 (by decide)).trans hk_16
    have hk_34 : rd f_28 h0 4 = .int pw_13 := ((Fr.put (cs := [(5, 2)]) (a := o) (ci := 5) Fr.rf Ext.rf (hTo.at 1 rfl).2 (by decide) hrd_29 hup_30).1 h0 (hTo.at 0 rfl).1 2 (hTo.at 0 rfl).2 4 (by decide)).trans hk_17
    have hk_35 : rd f_28 h0 5 = .int sg := ((Fr.put (cs := [(5, 2)]) (a := o) (ci := 5) Fr.rf Ext.rf (hTo.at 1 rfl).2 (by decide) hrd_29 hup_30).1 h0 (hTo.at 0 rfl).1 2 (hTo.at 0 rfl).2 5 (by decide)).trans hk_23
    have hk_36 : rd f_28 tok 3 = .int zz := ((Fr.put (cs := [(5, 2)]) (a := o) (ci := 5) Fr.rf Ext.rf (hTo.at 1 rfl).2 (by decide) hrd_29 hup_30).1 tok (hTo.at 2 rfl).1 6 (hTo.at 2 rfl).2 3 (by decide)).trans hk_24
    have hk_37 : rd f_28 o 0 = .int wd := ((Fr.put (cs := [(5, 2)]) (a := o) (ci := 5) Fr.rf Ext.rf (hTo.at 1 rfl).2 (by decide) hrd_29 hup_30).1 o (hTo.at 1 rfl).1 5 (hTo.at 1 rfl).2 0 (by decide)).trans hk_25
    refine lv_aload_n hx hb dX2_readBuilt_43 rfl (lv_at hl 1 rfl) ?_
    refine lv_aload_n hx hb dX2_readBuilt_44 rfl (lv_at hl 0 rfl) ?_
    refine lv_iload_n hx hb dX2_readBuilt_45 rfl (lv_at hl 2 rfl) ?_
    have hTo := hT
    refine K_VZ ⟨hx, hb, hml, hown, hts⟩ (t_X2_readBlock l dC dI sa hlt g _ _ j d (pot fa_12 sg) tt ln M (gnu (Kp tt ln) (Vp tt ln) (nq tt ln) 0 50 q) h0 dep tok ka sta vaa ax_10 tn_11 fa_12 pw_13 sg zz _ (hT.sub [0, 2, 3, 4, 5] rfl)  hk_31 hk_32 hk_33 hk_34 hk_35 hk_36 ((hF.1 h0 (hT0.at 0 rfl).1 2 (hT0.at 0 rfl).2 0 (by decide)).trans h_tok) ((hF.1 tok (hT0.at 2 rfl).1 6 (hT0.at 2 rfl).2 4 (by decide)).trans h_ka) ((hF.1 tok (hT0.at 2 rfl).1 6 (hT0.at 2 rfl).2 5 (by decide)).trans h_sta) ((hF.1 tok (hT0.at 2 rfl).1 6 (hT0.at 2 rfl).2 6 (by decide)).trans h_vaa) hd hdj rfl hs3 hzz (hTK.go (hF.2 ka (hT0.at 3 rfl).1 0 _ _ (hT0.at 3 rfl).2 (by decide)) (hF.2 sta (hT0.at 4 rfl).1 0 _ _ (hT0.at 4 rfl).2 (by decide)) (hF.2 vaa (hT0.at 5 rfl).1 0 _ _ (hT0.at 5 rfl).2 (by decide))) hrq_27 (by first | exact hnd | (simp only [gpa_nd, gnu_nd, gpl_nd, gte_nd, gob_nd, grf_nd]; exact hnd)) IHR) (cwV 1 hts gX2_readBuilt_X2_readBlock rfl rfl rfl (by decide +kernel) ⟨(by first | exact Nat.le_of_ble_eq_true rfl | (simp only [rm_X2_readBlock, rm_X2_readBuilt]; omega)), (by first | exact Nat.le_of_ble_eq_true rfl | (simp only [rm_X2_readBlock, rm_X2_readBuilt]; omega))⟩) hP hD hK hS hA hev hT 0 2 rfl rfl rfl rfl hl.1 rfl (Nat.le_of_ble_eq_true rfl) dX2_readBuilt_46 ⟨(by first | exact Nat.le_of_ble_eq_true rfl | (simp only [rm_X2_readBuilt]; omega) | omega), (by first | exact Nat.le_of_ble_eq_true rfl | (simp only [rm_X2_readBuilt]; omega) | omega)⟩ (fun r L_38 f_39 n_41 H locs hw_40 hn_42 hP hD hS hT hE1 => ?_)
    have hF := Fr.call hF hE hw_40.2.1 (by decide)
    have hE := hE.tr hE1
    obtain ⟨⟨v_43, rfl, hv9⟩, hw_40⟩ := hw_40
    rcases hv9 with rfl | ⟨b_44, rfl, hb9⟩
    · obtain ⟨hfr_45, ax_46, tn_47, fa_48, pw_49, sg_50, hk_51, hk_52, hk_53, hk_54, hk_55, hrel_56, hrel_57, hrel_58, hrel_59, hrel_60, hex_61⟩ := hw_40
      have hk_62 : rd f_39 tok 3 = .int zz := (hfr_45.1 tok (hTo.at 2 rfl).1 6 (hTo.at 2 rfl).2 3 (by decide)).trans hk_36
      have hk_63 : rd f_39 o 0 = .int wd := (hfr_45.1 o (hTo.at 1 rfl).1 5 (hTo.at 1 rfl).2 0 (by decide)).trans hk_37
      have hq_64 : n_41 + pot fa_48 sg_50 ≤ pot fa_12 sg := by
        obtain ⟨a9, b9, g1, g2, g3⟩ := hn_42
        cases g1.symm.trans hk_53
        cases g2.symm.trans hk_55
        exact g3
      obtain ⟨qn_65, hev_66, hrq_67, hsg_68, hn3_69⟩ := hex_61
      refine W.eq (g2 := F0 m 49 ls [.null, .ref o]) rfl ?_
      have hTo := hT
      refine T_put (ci := 5) (v := .null) (ty := .object "VatHouse$Step") (t := (2, 0, 5, 0)) (C := RX5) (T := TX5) (N := 8) hx hb hts inw_X2_readBuilt_5 tyX5 tyX5_ok nmX5 hown hK hP hD hS hT 1 rfl rfl 5 (by decide) (hts (.fieldLink RX2 85 "VatHouse$Step" "block" "LVatHouse$Step;") (by decide +kernel)) (fun _ h9 => h9) rfl (by decide +kernel) rfl rfl rfl (Or.inl rfl) dX2_readBuilt_49 (fun f_70 H locs hP hD hS hT hE1 hrd_71 hup_72 => ?_)
      have hF := Fr.put (a := o) (ci := 5) hF hE ((hE1 o (hT.at 1 rfl).1).2.symm.trans (hT.at 1 rfl).2) (by decide) hrd_71 hup_72
      have hE := hE.tr hE1
      have hk_73 : rd f_70 h0 1 = .int ax_46 := ((Fr.put (cs := [(5, 5)]) (a := o) (ci := 5) Fr.rf Ext.rf (hTo.at 1 rfl).2 (by decide) hrd_71 hup_72).1 h0 (hTo.at 0 rfl).1 2 (hTo.at 0 rfl).2 1 (by decide)).trans hk_51
      have hk_74 : rd f_70 h0 2 = .int tn_47 := ((Fr.put (cs := [(5, 5)]) (a := o) (ci := 5) Fr.rf Ext.rf (hTo.at 1 rfl).2 (by decide) hrd_71 hup_72).1 h0 (hTo.at 0 rfl).1 2 (hTo.at 0 rfl).2 2 (by decide)).trans hk_52
      have hk_75 : rd f_70 h0 3 = .int fa_48 := ((Fr.put (cs := [(5, 5)]) (a := o) (ci := 5) Fr.rf Ext.rf (hTo.at 1 rfl).2 (by decide) hrd_71 hup_72).1 h0 (hTo.at 0 rfl).1 2 (hTo.at 0 rfl).2 3 (by decide)).trans hk_53
      have hk_76 : rd f_70 h0 4 = .int pw_49 := ((Fr.put (cs := [(5, 5)]) (a := o) (ci := 5) Fr.rf Ext.rf (hTo.at 1 rfl).2 (by decide) hrd_71 hup_72).1 h0 (hTo.at 0 rfl).1 2 (hTo.at 0 rfl).2 4 (by decide)).trans hk_54
      have hk_77 : rd f_70 h0 5 = .int sg_50 := ((Fr.put (cs := [(5, 5)]) (a := o) (ci := 5) Fr.rf Ext.rf (hTo.at 1 rfl).2 (by decide) hrd_71 hup_72).1 h0 (hTo.at 0 rfl).1 2 (hTo.at 0 rfl).2 5 (by decide)).trans hk_55
      have hk_78 : rd f_70 tok 3 = .int zz := ((Fr.put (cs := [(5, 5)]) (a := o) (ci := 5) Fr.rf Ext.rf (hTo.at 1 rfl).2 (by decide) hrd_71 hup_72).1 tok (hTo.at 2 rfl).1 6 (hTo.at 2 rfl).2 3 (by decide)).trans hk_62
      have hk_79 : rd f_70 o 0 = .int wd := ((Fr.put (cs := [(5, 5)]) (a := o) (ci := 5) Fr.rf Ext.rf (hTo.at 1 rfl).2 (by decide) hrd_71 hup_72).1 o (hTo.at 1 rfl).1 5 (hTo.at 1 rfl).2 0 (by decide)).trans hk_63
      refine lv_goto (tgt := 158) hx hb dX2_readBuilt_52 (by decide) ?_
      exact K_vZ hx hb hr hlocks hP hD hK hS hT hE ⟨rfl, hF, _, _, _, _, _, hk_73, hk_74, hk_75, hk_76, hk_77, trivial, trivial, trivial, trivial, hrel_60, ⟨qn_65, Or.inl ⟨c_4, hev_66⟩, hrq_67, (by first | exact ⟨hsg_68, hn3_69⟩ | (simp only [gpa_nd, gnu_nd, gpl_nd, gte_nd, gob_nd, grf_nd]; exact ⟨hsg_68, hn3_69⟩))⟩⟩ (⟨_, _, hk_75, hk_77, by omega⟩) (by first | exact Nat.le_of_ble_eq_true rfl | (simp only [rm_X2_readBuilt]; omega) | omega) (by first | exact Nat.le_of_ble_eq_true rfl | (simp only [rm_X2_readBuilt]; omega) | omega) (by first | exact Nat.le_of_ble_eq_true rfl | (simp only [rm_X2_readBuilt]; omega) | omega) dX2_readBuilt_158
    · have hT := hT.add hb9
      obtain ⟨hfr_80, ax_81, tn_82, fa_83, pw_84, sg_85, hk_86, hk_87, hk_88, hk_89, hk_90, hrel_91, hrel_92, hrel_93, hrel_94, hrel_95, hex_96⟩ := hw_40
      have hk_97 : rd f_39 tok 3 = .int zz := (hfr_80.1 tok (hTo.at 2 rfl).1 6 (hTo.at 2 rfl).2 3 (by decide)).trans hk_36
      have hk_98 : rd f_39 o 0 = .int wd := (hfr_80.1 o (hTo.at 1 rfl).1 5 (hTo.at 1 rfl).2 0 (by decide)).trans hk_37
      have hq_99 : n_41 + pot fa_83 sg_85 ≤ pot fa_12 sg := by
        obtain ⟨a9, b9, g1, g2, g3⟩ := hn_42
        cases g1.symm.trans hk_88
        cases g2.symm.trans hk_90
        exact g3
      obtain ⟨qn_100, hev_101, hrq_102, hsg_103, hn3_104⟩ := hex_96
      refine W.eq (g2 := F0 m 49 ls [.ref b_44, .ref o]) rfl ?_
      have hTo := hT
      refine T_put (ci := 5) (v := .ref b_44) (ty := .object "VatHouse$Step") (t := (2, 0, 5, 0)) (C := RX5) (T := TX5) (N := 8) hx hb hts inw_X2_readBuilt_5 tyX5 tyX5_ok nmX5 hown hK hP hD hS hT 2 rfl rfl 5 (by decide) (hts (.fieldLink RX2 85 "VatHouse$Step" "block" "LVatHouse$Step;") (by decide +kernel)) (fun _ h9 => h9) rfl (by decide +kernel) rfl rfl rfl (Or.inr ⟨_, rfl, hT.at 0 rfl⟩) dX2_readBuilt_49 (fun f_105 H locs hP hD hS hT hE1 hrd_106 hup_107 => ?_)
      have hF := Fr.put (a := o) (ci := 5) hF hE ((hE1 o (hT.at 2 rfl).1).2.symm.trans (hT.at 2 rfl).2) (by decide) hrd_106 hup_107
      have hE := hE.tr hE1
      have hk_108 : rd f_105 h0 1 = .int ax_81 := ((Fr.put (cs := [(5, 5)]) (a := o) (ci := 5) Fr.rf Ext.rf (hTo.at 2 rfl).2 (by decide) hrd_106 hup_107).1 h0 (hTo.at 1 rfl).1 2 (hTo.at 1 rfl).2 1 (by decide)).trans hk_86
      have hk_109 : rd f_105 h0 2 = .int tn_82 := ((Fr.put (cs := [(5, 5)]) (a := o) (ci := 5) Fr.rf Ext.rf (hTo.at 2 rfl).2 (by decide) hrd_106 hup_107).1 h0 (hTo.at 1 rfl).1 2 (hTo.at 1 rfl).2 2 (by decide)).trans hk_87
      have hk_110 : rd f_105 h0 3 = .int fa_83 := ((Fr.put (cs := [(5, 5)]) (a := o) (ci := 5) Fr.rf Ext.rf (hTo.at 2 rfl).2 (by decide) hrd_106 hup_107).1 h0 (hTo.at 1 rfl).1 2 (hTo.at 1 rfl).2 3 (by decide)).trans hk_88
      have hk_111 : rd f_105 h0 4 = .int pw_84 := ((Fr.put (cs := [(5, 5)]) (a := o) (ci := 5) Fr.rf Ext.rf (hTo.at 2 rfl).2 (by decide) hrd_106 hup_107).1 h0 (hTo.at 1 rfl).1 2 (hTo.at 1 rfl).2 4 (by decide)).trans hk_89
      have hk_112 : rd f_105 h0 5 = .int sg_85 := ((Fr.put (cs := [(5, 5)]) (a := o) (ci := 5) Fr.rf Ext.rf (hTo.at 2 rfl).2 (by decide) hrd_106 hup_107).1 h0 (hTo.at 1 rfl).1 2 (hTo.at 1 rfl).2 5 (by decide)).trans hk_90
      have hk_113 : rd f_105 tok 3 = .int zz := ((Fr.put (cs := [(5, 5)]) (a := o) (ci := 5) Fr.rf Ext.rf (hTo.at 2 rfl).2 (by decide) hrd_106 hup_107).1 tok (hTo.at 3 rfl).1 6 (hTo.at 3 rfl).2 3 (by decide)).trans hk_97
      have hk_114 : rd f_105 o 0 = .int wd := ((Fr.put (cs := [(5, 5)]) (a := o) (ci := 5) Fr.rf Ext.rf (hTo.at 2 rfl).2 (by decide) hrd_106 hup_107).1 o (hTo.at 2 rfl).1 5 (hTo.at 2 rfl).2 0 (by decide)).trans hk_98
      refine lv_goto (tgt := 158) hx hb dX2_readBuilt_52 (by decide) ?_
      exact K_vZ hx hb hr hlocks hP hD hK hS hT hE ⟨rfl, hF, _, _, _, _, _, hk_108, hk_109, hk_110, hk_111, hk_112, trivial, trivial, trivial, trivial, hrel_95, ⟨qn_100, Or.inl ⟨c_4, hev_101⟩, hrq_102, (by first | exact ⟨hsg_103, hn3_104⟩ | (simp only [gpa_nd, gnu_nd, gpl_nd, gte_nd, gob_nd, grf_nd]; exact ⟨hsg_103, hn3_104⟩))⟩⟩ (⟨_, _, hk_110, hk_112, by omega⟩) (by first | exact Nat.le_of_ble_eq_true rfl | (simp only [rm_X2_readBuilt]; omega) | omega) (by first | exact Nat.le_of_ble_eq_true rfl | (simp only [rm_X2_readBuilt]; omega) | omega) (by first | exact Nat.le_of_ble_eq_true rfl | (simp only [rm_X2_readBuilt]; omega) | omega) dX2_readBuilt_158
  by_cases c_115 : wd = 9
  · refine lv_tableIn (tgt := 55) hx hb dX2_readBuilt_4 (by rw [c_115]; decide) (by rw [c_115]; decide) (by rw [c_115]; rfl) (by decide) ?_
    refine lv_aload_n hx hb dX2_readBuilt_55 rfl (lv_at hl 1 rfl) ?_
    refine lv_aload_n hx hb dX2_readBuilt_56 rfl (lv_at hl 0 rfl) ?_
    refine lv_iconst (v := 0) hx hb dX2_readBuilt_57 (by decide) ?_
    refine lv_sipush (v := 200) hx hb dX2_readBuilt_58 (by decide) ?_
    have hTo := hT
    refine K_V ⟨hx, hb, hml, hown, hts⟩ (t_X2_readNumber l dC dI sa hlt g _ _ tt ln M q h0 0 200 tok ka sta vaa ax tn fa pw zz _ (hT.sub [0, 2, 3, 4, 5] rfl)  hm_ax hm_tn hm_fa hm_pw hm_zz ((hF.1 h0 (hT0.at 0 rfl).1 2 (hT0.at 0 rfl).2 0 (by decide)).trans h_tok) ((hF.1 tok (hT0.at 2 rfl).1 6 (hT0.at 2 rfl).2 4 (by decide)).trans h_ka) ((hF.1 tok (hT0.at 2 rfl).1 6 (hT0.at 2 rfl).2 5 (by decide)).trans h_sta) ((hF.1 tok (hT0.at 2 rfl).1 6 (hT0.at 2 rfl).2 6 (by decide)).trans h_vaa) hzz (hTK.go (hF.2 ka (hT0.at 3 rfl).1 0 _ _ (hT0.at 3 rfl).2 (by decide)) (hF.2 sta (hT0.at 4 rfl).1 0 _ _ (hT0.at 4 rfl).2 (by decide)) (hF.2 vaa (hT0.at 5 rfl).1 0 _ _ (hT0.at 5 rfl).2 (by decide))) hRQ) (cwV 2 hts gX2_readBuilt_X2_readNumber rfl rfl rfl (by decide +kernel) ⟨(by first | exact Nat.le_of_ble_eq_true rfl | (simp only [rm_X2_readNumber, rm_X2_readBuilt]; omega)), (by first | exact Nat.le_of_ble_eq_true rfl | (simp only [rm_X2_readNumber, rm_X2_readBuilt]; omega))⟩) hP hD hK hS hA hev hT 0 2 rfl rfl rfl rfl hl.1 rfl (Nat.le_of_ble_eq_true rfl) dX2_readBuilt_61 ⟨(by first | exact Nat.le_of_ble_eq_true rfl | (simp only [rm_X2_readBuilt]; omega) | omega), (by first | exact Nat.le_of_ble_eq_true rfl | (simp only [rm_X2_readBuilt]; omega) | omega)⟩ (fun r L_116 f_117 H locs hw_118 hP hD hS hT hE1 => ?_)
    have hF := Fr.call hF hE hw_118.2.1 (by decide)
    have hE := hE.tr hE1
    obtain ⟨⟨z_119, rfl⟩, hw_118⟩ := hw_118
    obtain ⟨hfr_120, ax_121, tn_122, fa_123, pw_124, hk_125, hk_126, hk_127, hk_128, hrel_129, hrel_130, hrel_131, hrel_132, hex_133⟩ := hw_118
    have hk_134 : rd f_117 h0 5 = .int sg := (hfr_120.1 h0 (hTo.at 0 rfl).1 2 (hTo.at 0 rfl).2 5 (by decide)).trans hm_sg
    have hk_135 : rd f_117 tok 3 = .int zz := (hfr_120.1 tok (hTo.at 2 rfl).1 6 (hTo.at 2 rfl).2 3 (by decide)).trans hm_zz
    have hk_136 : rd f_117 o 0 = .int wd := (hfr_120.1 o (hTo.at 1 rfl).1 5 (hTo.at 1 rfl).2 0 (by decide)).trans hm_wd
    have hq_137 : pot fa_123 sg ≤ pot fa sg := pot_le (fun h9 => (hrel_131 h9))
    have hrq_138 := hex_133.2
    refine W.eq (g2 := F0 m 64 ls [.int z_119, .ref o]) rfl ?_
    have hTo := hT
    refine T_put (ci := 5) (v := .int z_119) (ty := .int) (t := tI) (C := RX5) (T := TX5) (N := 8) hx hb hts inw_X2_readBuilt_5 tyX5 tyX5_ok nmX5 hown hK hP hD hS hT 1 rfl rfl 2 (by decide) (hts (.fieldLink RX2 79 "VatHouse$Step" "number" "I") (by decide +kernel)) (fun _ h9 => h9) rfl (by decide +kernel) rfl rfl rfl ⟨_, rfl⟩ dX2_readBuilt_64 (fun f_139 H locs hP hD hS hT hE1 hrd_140 hup_141 => ?_)
    have hF := Fr.put (a := o) (ci := 5) hF hE ((hE1 o (hT.at 1 rfl).1).2.symm.trans (hT.at 1 rfl).2) (by decide) hrd_140 hup_141
    have hE := hE.tr hE1
    have hk_142 : rd f_139 h0 1 = .int ax_121 := ((Fr.put (cs := [(5, 2)]) (a := o) (ci := 5) Fr.rf Ext.rf (hTo.at 1 rfl).2 (by decide) hrd_140 hup_141).1 h0 (hTo.at 0 rfl).1 2 (hTo.at 0 rfl).2 1 (by decide)).trans hk_125
    have hk_143 : rd f_139 h0 2 = .int tn_122 := ((Fr.put (cs := [(5, 2)]) (a := o) (ci := 5) Fr.rf Ext.rf (hTo.at 1 rfl).2 (by decide) hrd_140 hup_141).1 h0 (hTo.at 0 rfl).1 2 (hTo.at 0 rfl).2 2 (by decide)).trans hk_126
    have hk_144 : rd f_139 h0 3 = .int fa_123 := ((Fr.put (cs := [(5, 2)]) (a := o) (ci := 5) Fr.rf Ext.rf (hTo.at 1 rfl).2 (by decide) hrd_140 hup_141).1 h0 (hTo.at 0 rfl).1 2 (hTo.at 0 rfl).2 3 (by decide)).trans hk_127
    have hk_145 : rd f_139 h0 4 = .int pw_124 := ((Fr.put (cs := [(5, 2)]) (a := o) (ci := 5) Fr.rf Ext.rf (hTo.at 1 rfl).2 (by decide) hrd_140 hup_141).1 h0 (hTo.at 0 rfl).1 2 (hTo.at 0 rfl).2 4 (by decide)).trans hk_128
    have hk_146 : rd f_139 h0 5 = .int sg := ((Fr.put (cs := [(5, 2)]) (a := o) (ci := 5) Fr.rf Ext.rf (hTo.at 1 rfl).2 (by decide) hrd_140 hup_141).1 h0 (hTo.at 0 rfl).1 2 (hTo.at 0 rfl).2 5 (by decide)).trans hk_134
    have hk_147 : rd f_139 tok 3 = .int zz := ((Fr.put (cs := [(5, 2)]) (a := o) (ci := 5) Fr.rf Ext.rf (hTo.at 1 rfl).2 (by decide) hrd_140 hup_141).1 tok (hTo.at 2 rfl).1 6 (hTo.at 2 rfl).2 3 (by decide)).trans hk_135
    have hk_148 : rd f_139 o 0 = .int wd := ((Fr.put (cs := [(5, 2)]) (a := o) (ci := 5) Fr.rf Ext.rf (hTo.at 1 rfl).2 (by decide) hrd_140 hup_141).1 o (hTo.at 1 rfl).1 5 (hTo.at 1 rfl).2 0 (by decide)).trans hk_136
    refine lv_aload_n hx hb dX2_readBuilt_67 rfl (lv_at hl 1 rfl) ?_
    refine lv_aload_n hx hb dX2_readBuilt_68 rfl (lv_at hl 0 rfl) ?_
    refine lv_iload_n hx hb dX2_readBuilt_69 rfl (lv_at hl 2 rfl) ?_
    have hTo := hT
    refine K_VZ ⟨hx, hb, hml, hown, hts⟩ (t_X2_readBlock l dC dI sa hlt g _ _ j d (pot fa_123 sg) tt ln M (gnu (Kp tt ln) (Vp tt ln) (nq tt ln) 0 200 q) h0 dep tok ka sta vaa ax_121 tn_122 fa_123 pw_124 sg zz _ (hT.sub [0, 2, 3, 4, 5] rfl)  hk_142 hk_143 hk_144 hk_145 hk_146 hk_147 ((hF.1 h0 (hT0.at 0 rfl).1 2 (hT0.at 0 rfl).2 0 (by decide)).trans h_tok) ((hF.1 tok (hT0.at 2 rfl).1 6 (hT0.at 2 rfl).2 4 (by decide)).trans h_ka) ((hF.1 tok (hT0.at 2 rfl).1 6 (hT0.at 2 rfl).2 5 (by decide)).trans h_sta) ((hF.1 tok (hT0.at 2 rfl).1 6 (hT0.at 2 rfl).2 6 (by decide)).trans h_vaa) hd hdj rfl hs3 hzz (hTK.go (hF.2 ka (hT0.at 3 rfl).1 0 _ _ (hT0.at 3 rfl).2 (by decide)) (hF.2 sta (hT0.at 4 rfl).1 0 _ _ (hT0.at 4 rfl).2 (by decide)) (hF.2 vaa (hT0.at 5 rfl).1 0 _ _ (hT0.at 5 rfl).2 (by decide))) hrq_138 (by first | exact hnd | (simp only [gpa_nd, gnu_nd, gpl_nd, gte_nd, gob_nd, grf_nd]; exact hnd)) IHR) (cwV 1 hts gX2_readBuilt_X2_readBlock rfl rfl rfl (by decide +kernel) ⟨(by first | exact Nat.le_of_ble_eq_true rfl | (simp only [rm_X2_readBlock, rm_X2_readBuilt]; omega)), (by first | exact Nat.le_of_ble_eq_true rfl | (simp only [rm_X2_readBlock, rm_X2_readBuilt]; omega))⟩) hP hD hK hS hA hev hT 0 2 rfl rfl rfl rfl hl.1 rfl (Nat.le_of_ble_eq_true rfl) dX2_readBuilt_70 ⟨(by first | exact Nat.le_of_ble_eq_true rfl | (simp only [rm_X2_readBuilt]; omega) | omega), (by first | exact Nat.le_of_ble_eq_true rfl | (simp only [rm_X2_readBuilt]; omega) | omega)⟩ (fun r L_149 f_150 n_152 H locs hw_151 hn_153 hP hD hS hT hE1 => ?_)
    have hF := Fr.call hF hE hw_151.2.1 (by decide)
    have hE := hE.tr hE1
    obtain ⟨⟨v_154, rfl, hv9⟩, hw_151⟩ := hw_151
    rcases hv9 with rfl | ⟨b_155, rfl, hb9⟩
    · obtain ⟨hfr_156, ax_157, tn_158, fa_159, pw_160, sg_161, hk_162, hk_163, hk_164, hk_165, hk_166, hrel_167, hrel_168, hrel_169, hrel_170, hrel_171, hex_172⟩ := hw_151
      have hk_173 : rd f_150 tok 3 = .int zz := (hfr_156.1 tok (hTo.at 2 rfl).1 6 (hTo.at 2 rfl).2 3 (by decide)).trans hk_147
      have hk_174 : rd f_150 o 0 = .int wd := (hfr_156.1 o (hTo.at 1 rfl).1 5 (hTo.at 1 rfl).2 0 (by decide)).trans hk_148
      have hq_175 : n_152 + pot fa_159 sg_161 ≤ pot fa_123 sg := by
        obtain ⟨a9, b9, g1, g2, g3⟩ := hn_153
        cases g1.symm.trans hk_164
        cases g2.symm.trans hk_166
        exact g3
      obtain ⟨qn_176, hev_177, hrq_178, hsg_179, hn3_180⟩ := hex_172
      refine W.eq (g2 := F0 m 73 ls [.null, .ref o]) rfl ?_
      have hTo := hT
      refine T_put (ci := 5) (v := .null) (ty := .object "VatHouse$Step") (t := (2, 0, 5, 0)) (C := RX5) (T := TX5) (N := 8) hx hb hts inw_X2_readBuilt_5 tyX5 tyX5_ok nmX5 hown hK hP hD hS hT 1 rfl rfl 5 (by decide) (hts (.fieldLink RX2 85 "VatHouse$Step" "block" "LVatHouse$Step;") (by decide +kernel)) (fun _ h9 => h9) rfl (by decide +kernel) rfl rfl rfl (Or.inl rfl) dX2_readBuilt_73 (fun f_181 H locs hP hD hS hT hE1 hrd_182 hup_183 => ?_)
      have hF := Fr.put (a := o) (ci := 5) hF hE ((hE1 o (hT.at 1 rfl).1).2.symm.trans (hT.at 1 rfl).2) (by decide) hrd_182 hup_183
      have hE := hE.tr hE1
      have hk_184 : rd f_181 h0 1 = .int ax_157 := ((Fr.put (cs := [(5, 5)]) (a := o) (ci := 5) Fr.rf Ext.rf (hTo.at 1 rfl).2 (by decide) hrd_182 hup_183).1 h0 (hTo.at 0 rfl).1 2 (hTo.at 0 rfl).2 1 (by decide)).trans hk_162
      have hk_185 : rd f_181 h0 2 = .int tn_158 := ((Fr.put (cs := [(5, 5)]) (a := o) (ci := 5) Fr.rf Ext.rf (hTo.at 1 rfl).2 (by decide) hrd_182 hup_183).1 h0 (hTo.at 0 rfl).1 2 (hTo.at 0 rfl).2 2 (by decide)).trans hk_163
      have hk_186 : rd f_181 h0 3 = .int fa_159 := ((Fr.put (cs := [(5, 5)]) (a := o) (ci := 5) Fr.rf Ext.rf (hTo.at 1 rfl).2 (by decide) hrd_182 hup_183).1 h0 (hTo.at 0 rfl).1 2 (hTo.at 0 rfl).2 3 (by decide)).trans hk_164
      have hk_187 : rd f_181 h0 4 = .int pw_160 := ((Fr.put (cs := [(5, 5)]) (a := o) (ci := 5) Fr.rf Ext.rf (hTo.at 1 rfl).2 (by decide) hrd_182 hup_183).1 h0 (hTo.at 0 rfl).1 2 (hTo.at 0 rfl).2 4 (by decide)).trans hk_165
      have hk_188 : rd f_181 h0 5 = .int sg_161 := ((Fr.put (cs := [(5, 5)]) (a := o) (ci := 5) Fr.rf Ext.rf (hTo.at 1 rfl).2 (by decide) hrd_182 hup_183).1 h0 (hTo.at 0 rfl).1 2 (hTo.at 0 rfl).2 5 (by decide)).trans hk_166
      have hk_189 : rd f_181 tok 3 = .int zz := ((Fr.put (cs := [(5, 5)]) (a := o) (ci := 5) Fr.rf Ext.rf (hTo.at 1 rfl).2 (by decide) hrd_182 hup_183).1 tok (hTo.at 2 rfl).1 6 (hTo.at 2 rfl).2 3 (by decide)).trans hk_173
      have hk_190 : rd f_181 o 0 = .int wd := ((Fr.put (cs := [(5, 5)]) (a := o) (ci := 5) Fr.rf Ext.rf (hTo.at 1 rfl).2 (by decide) hrd_182 hup_183).1 o (hTo.at 1 rfl).1 5 (hTo.at 1 rfl).2 0 (by decide)).trans hk_174
      refine lv_goto (tgt := 158) hx hb dX2_readBuilt_76 (by decide) ?_
      exact K_vZ hx hb hr hlocks hP hD hK hS hT hE ⟨rfl, hF, _, _, _, _, _, hk_184, hk_185, hk_186, hk_187, hk_188, trivial, trivial, trivial, trivial, hrel_171, ⟨qn_176, Or.inr (Or.inl ⟨c_115, hev_177⟩), hrq_178, (by first | exact ⟨hsg_179, hn3_180⟩ | (simp only [gpa_nd, gnu_nd, gpl_nd, gte_nd, gob_nd, grf_nd]; exact ⟨hsg_179, hn3_180⟩))⟩⟩ (⟨_, _, hk_186, hk_188, by omega⟩) (by first | exact Nat.le_of_ble_eq_true rfl | (simp only [rm_X2_readBuilt]; omega) | omega) (by first | exact Nat.le_of_ble_eq_true rfl | (simp only [rm_X2_readBuilt]; omega) | omega) (by first | exact Nat.le_of_ble_eq_true rfl | (simp only [rm_X2_readBuilt]; omega) | omega) dX2_readBuilt_158
    · have hT := hT.add hb9
      obtain ⟨hfr_191, ax_192, tn_193, fa_194, pw_195, sg_196, hk_197, hk_198, hk_199, hk_200, hk_201, hrel_202, hrel_203, hrel_204, hrel_205, hrel_206, hex_207⟩ := hw_151
      have hk_208 : rd f_150 tok 3 = .int zz := (hfr_191.1 tok (hTo.at 2 rfl).1 6 (hTo.at 2 rfl).2 3 (by decide)).trans hk_147
      have hk_209 : rd f_150 o 0 = .int wd := (hfr_191.1 o (hTo.at 1 rfl).1 5 (hTo.at 1 rfl).2 0 (by decide)).trans hk_148
      have hq_210 : n_152 + pot fa_194 sg_196 ≤ pot fa_123 sg := by
        obtain ⟨a9, b9, g1, g2, g3⟩ := hn_153
        cases g1.symm.trans hk_199
        cases g2.symm.trans hk_201
        exact g3
      obtain ⟨qn_211, hev_212, hrq_213, hsg_214, hn3_215⟩ := hex_207
      refine W.eq (g2 := F0 m 73 ls [.ref b_155, .ref o]) rfl ?_
      have hTo := hT
      refine T_put (ci := 5) (v := .ref b_155) (ty := .object "VatHouse$Step") (t := (2, 0, 5, 0)) (C := RX5) (T := TX5) (N := 8) hx hb hts inw_X2_readBuilt_5 tyX5 tyX5_ok nmX5 hown hK hP hD hS hT 2 rfl rfl 5 (by decide) (hts (.fieldLink RX2 85 "VatHouse$Step" "block" "LVatHouse$Step;") (by decide +kernel)) (fun _ h9 => h9) rfl (by decide +kernel) rfl rfl rfl (Or.inr ⟨_, rfl, hT.at 0 rfl⟩) dX2_readBuilt_73 (fun f_216 H locs hP hD hS hT hE1 hrd_217 hup_218 => ?_)
      have hF := Fr.put (a := o) (ci := 5) hF hE ((hE1 o (hT.at 2 rfl).1).2.symm.trans (hT.at 2 rfl).2) (by decide) hrd_217 hup_218
      have hE := hE.tr hE1
      have hk_219 : rd f_216 h0 1 = .int ax_192 := ((Fr.put (cs := [(5, 5)]) (a := o) (ci := 5) Fr.rf Ext.rf (hTo.at 2 rfl).2 (by decide) hrd_217 hup_218).1 h0 (hTo.at 1 rfl).1 2 (hTo.at 1 rfl).2 1 (by decide)).trans hk_197
      have hk_220 : rd f_216 h0 2 = .int tn_193 := ((Fr.put (cs := [(5, 5)]) (a := o) (ci := 5) Fr.rf Ext.rf (hTo.at 2 rfl).2 (by decide) hrd_217 hup_218).1 h0 (hTo.at 1 rfl).1 2 (hTo.at 1 rfl).2 2 (by decide)).trans hk_198
      have hk_221 : rd f_216 h0 3 = .int fa_194 := ((Fr.put (cs := [(5, 5)]) (a := o) (ci := 5) Fr.rf Ext.rf (hTo.at 2 rfl).2 (by decide) hrd_217 hup_218).1 h0 (hTo.at 1 rfl).1 2 (hTo.at 1 rfl).2 3 (by decide)).trans hk_199
      have hk_222 : rd f_216 h0 4 = .int pw_195 := ((Fr.put (cs := [(5, 5)]) (a := o) (ci := 5) Fr.rf Ext.rf (hTo.at 2 rfl).2 (by decide) hrd_217 hup_218).1 h0 (hTo.at 1 rfl).1 2 (hTo.at 1 rfl).2 4 (by decide)).trans hk_200
      have hk_223 : rd f_216 h0 5 = .int sg_196 := ((Fr.put (cs := [(5, 5)]) (a := o) (ci := 5) Fr.rf Ext.rf (hTo.at 2 rfl).2 (by decide) hrd_217 hup_218).1 h0 (hTo.at 1 rfl).1 2 (hTo.at 1 rfl).2 5 (by decide)).trans hk_201
      have hk_224 : rd f_216 tok 3 = .int zz := ((Fr.put (cs := [(5, 5)]) (a := o) (ci := 5) Fr.rf Ext.rf (hTo.at 2 rfl).2 (by decide) hrd_217 hup_218).1 tok (hTo.at 3 rfl).1 6 (hTo.at 3 rfl).2 3 (by decide)).trans hk_208
      have hk_225 : rd f_216 o 0 = .int wd := ((Fr.put (cs := [(5, 5)]) (a := o) (ci := 5) Fr.rf Ext.rf (hTo.at 2 rfl).2 (by decide) hrd_217 hup_218).1 o (hTo.at 2 rfl).1 5 (hTo.at 2 rfl).2 0 (by decide)).trans hk_209
      refine lv_goto (tgt := 158) hx hb dX2_readBuilt_76 (by decide) ?_
      exact K_vZ hx hb hr hlocks hP hD hK hS hT hE ⟨rfl, hF, _, _, _, _, _, hk_219, hk_220, hk_221, hk_222, hk_223, trivial, trivial, trivial, trivial, hrel_206, ⟨qn_211, Or.inr (Or.inl ⟨c_115, hev_212⟩), hrq_213, (by first | exact ⟨hsg_214, hn3_215⟩ | (simp only [gpa_nd, gnu_nd, gpl_nd, gte_nd, gob_nd, grf_nd]; exact ⟨hsg_214, hn3_215⟩))⟩⟩ (⟨_, _, hk_221, hk_223, by omega⟩) (by first | exact Nat.le_of_ble_eq_true rfl | (simp only [rm_X2_readBuilt]; omega) | omega) (by first | exact Nat.le_of_ble_eq_true rfl | (simp only [rm_X2_readBuilt]; omega) | omega) (by first | exact Nat.le_of_ble_eq_true rfl | (simp only [rm_X2_readBuilt]; omega) | omega) dX2_readBuilt_158
  by_cases c_226 : wd = 10
  · refine lv_tableIn (tgt := 79) hx hb dX2_readBuilt_4 (by rw [c_226]; decide) (by rw [c_226]; decide) (by rw [c_226]; rfl) (by decide) ?_
    refine lv_aload_n hx hb dX2_readBuilt_79 rfl (lv_at hl 0 rfl) ?_
    refine lv_aload_n hx hb dX2_readBuilt_80 rfl (lv_at hl 1 rfl) ?_
    have hTo := hT
    refine K_V ⟨hx, hb, hml, hown, hts⟩ (t_X2_readTest l dC dI sa hlt g _ _ tt ln M q h0 o tok ka sta vaa ax tn fa pw zz _ (hT.sub [0, 1, 2, 3, 4, 5] rfl)  hm_ax hm_tn hm_fa hm_pw hm_zz ((hF.1 h0 (hT0.at 0 rfl).1 2 (hT0.at 0 rfl).2 0 (by decide)).trans h_tok) ((hF.1 tok (hT0.at 2 rfl).1 6 (hT0.at 2 rfl).2 4 (by decide)).trans h_ka) ((hF.1 tok (hT0.at 2 rfl).1 6 (hT0.at 2 rfl).2 5 (by decide)).trans h_sta) ((hF.1 tok (hT0.at 2 rfl).1 6 (hT0.at 2 rfl).2 6 (by decide)).trans h_vaa) hzz (hTK.go (hF.2 ka (hT0.at 3 rfl).1 0 _ _ (hT0.at 3 rfl).2 (by decide)) (hF.2 sta (hT0.at 4 rfl).1 0 _ _ (hT0.at 4 rfl).2 (by decide)) (hF.2 vaa (hT0.at 5 rfl).1 0 _ _ (hT0.at 5 rfl).2 (by decide))) hRQ) (cwV 1 hts gX2_readBuilt_X2_readTest rfl rfl rfl (by decide +kernel) ⟨(by first | exact Nat.le_of_ble_eq_true rfl | (simp only [rm_X2_readTest, rm_X2_readBuilt]; omega)), (by first | exact Nat.le_of_ble_eq_true rfl | (simp only [rm_X2_readTest, rm_X2_readBuilt]; omega))⟩) hP hD hK hS hA hev hT 0 2 rfl rfl rfl rfl hl.1 rfl (Nat.le_of_ble_eq_true rfl) dX2_readBuilt_81 ⟨(by first | exact Nat.le_of_ble_eq_true rfl | (simp only [rm_X2_readBuilt]; omega) | omega), (by first | exact Nat.le_of_ble_eq_true rfl | (simp only [rm_X2_readBuilt]; omega) | omega)⟩ (fun r L_227 f_228 H locs hw_229 hP hD hS hT hE1 => ?_)
    have hF := Fr.call hF hE hw_229.2.1 (by decide)
    have hE := hE.tr hE1
    obtain ⟨rfl, hw_229⟩ := hw_229
    obtain ⟨hfr_230, ax_231, tn_232, fa_233, pw_234, hk_235, hk_236, hk_237, hk_238, hrel_239, hrel_240, hrel_241, hrel_242, hex_243⟩ := hw_229
    have hk_244 : rd f_228 h0 5 = .int sg := (hfr_230.1 h0 (hTo.at 0 rfl).1 2 (hTo.at 0 rfl).2 5 (by decide)).trans hm_sg
    have hk_245 : rd f_228 tok 3 = .int zz := (hfr_230.1 tok (hTo.at 2 rfl).1 6 (hTo.at 2 rfl).2 3 (by decide)).trans hm_zz
    have hk_246 : rd f_228 o 0 = .int wd := (hfr_230.1 o (hTo.at 1 rfl).1 5 (hTo.at 1 rfl).2 0 (by decide)).trans hm_wd
    have hq_247 : pot fa_233 sg ≤ pot fa sg := pot_le (fun h9 => (hrel_241 h9))
    have hrq_248 := hex_243
    refine W.eq (g2 := F0 m 84 ls []) rfl ?_
    refine lv_aload_n hx hb dX2_readBuilt_84 rfl (lv_at hl 1 rfl) ?_
    refine lv_aload_n hx hb dX2_readBuilt_85 rfl (lv_at hl 0 rfl) ?_
    refine lv_iload_n hx hb dX2_readBuilt_86 rfl (lv_at hl 2 rfl) ?_
    have hTo := hT
    refine K_VZ ⟨hx, hb, hml, hown, hts⟩ (t_X2_readBlock l dC dI sa hlt g _ _ j d (pot fa_233 sg) tt ln M (gte (Kp tt ln) (Vp tt ln) (nq tt ln) q) h0 dep tok ka sta vaa ax_231 tn_232 fa_233 pw_234 sg zz _ (hT.sub [0, 2, 3, 4, 5] rfl)  hk_235 hk_236 hk_237 hk_238 hk_244 hk_245 ((hF.1 h0 (hT0.at 0 rfl).1 2 (hT0.at 0 rfl).2 0 (by decide)).trans h_tok) ((hF.1 tok (hT0.at 2 rfl).1 6 (hT0.at 2 rfl).2 4 (by decide)).trans h_ka) ((hF.1 tok (hT0.at 2 rfl).1 6 (hT0.at 2 rfl).2 5 (by decide)).trans h_sta) ((hF.1 tok (hT0.at 2 rfl).1 6 (hT0.at 2 rfl).2 6 (by decide)).trans h_vaa) hd hdj rfl hs3 hzz (hTK.go (hF.2 ka (hT0.at 3 rfl).1 0 _ _ (hT0.at 3 rfl).2 (by decide)) (hF.2 sta (hT0.at 4 rfl).1 0 _ _ (hT0.at 4 rfl).2 (by decide)) (hF.2 vaa (hT0.at 5 rfl).1 0 _ _ (hT0.at 5 rfl).2 (by decide))) hrq_248 (by first | exact hnd | (simp only [gpa_nd, gnu_nd, gpl_nd, gte_nd, gob_nd, grf_nd]; exact hnd)) IHR) (cwV 1 hts gX2_readBuilt_X2_readBlock rfl rfl rfl (by decide +kernel) ⟨(by first | exact Nat.le_of_ble_eq_true rfl | (simp only [rm_X2_readBlock, rm_X2_readBuilt]; omega)), (by first | exact Nat.le_of_ble_eq_true rfl | (simp only [rm_X2_readBlock, rm_X2_readBuilt]; omega))⟩) hP hD hK hS hA hev hT 0 2 rfl rfl rfl rfl hl.1 rfl (Nat.le_of_ble_eq_true rfl) dX2_readBuilt_87 ⟨(by first | exact Nat.le_of_ble_eq_true rfl | (simp only [rm_X2_readBuilt]; omega) | omega), (by first | exact Nat.le_of_ble_eq_true rfl | (simp only [rm_X2_readBuilt]; omega) | omega)⟩ (fun r L_249 f_250 n_252 H locs hw_251 hn_253 hP hD hS hT hE1 => ?_)
    have hF := Fr.call hF hE hw_251.2.1 (by decide)
    have hE := hE.tr hE1
    obtain ⟨⟨v_254, rfl, hv9⟩, hw_251⟩ := hw_251
    rcases hv9 with rfl | ⟨b_255, rfl, hb9⟩
    · obtain ⟨hfr_256, ax_257, tn_258, fa_259, pw_260, sg_261, hk_262, hk_263, hk_264, hk_265, hk_266, hrel_267, hrel_268, hrel_269, hrel_270, hrel_271, hex_272⟩ := hw_251
      have hk_273 : rd f_250 tok 3 = .int zz := (hfr_256.1 tok (hTo.at 2 rfl).1 6 (hTo.at 2 rfl).2 3 (by decide)).trans hk_245
      have hk_274 : rd f_250 o 0 = .int wd := (hfr_256.1 o (hTo.at 1 rfl).1 5 (hTo.at 1 rfl).2 0 (by decide)).trans hk_246
      have hq_275 : n_252 + pot fa_259 sg_261 ≤ pot fa_233 sg := by
        obtain ⟨a9, b9, g1, g2, g3⟩ := hn_253
        cases g1.symm.trans hk_264
        cases g2.symm.trans hk_266
        exact g3
      obtain ⟨qn_276, hev_277, hrq_278, hsg_279, hn3_280⟩ := hex_272
      refine W.eq (g2 := F0 m 90 ls [.null, .ref o]) rfl ?_
      have hTo := hT
      refine T_put (ci := 5) (v := .null) (ty := .object "VatHouse$Step") (t := (2, 0, 5, 0)) (C := RX5) (T := TX5) (N := 8) hx hb hts inw_X2_readBuilt_5 tyX5 tyX5_ok nmX5 hown hK hP hD hS hT 1 rfl rfl 5 (by decide) (hts (.fieldLink RX2 85 "VatHouse$Step" "block" "LVatHouse$Step;") (by decide +kernel)) (fun _ h9 => h9) rfl (by decide +kernel) rfl rfl rfl (Or.inl rfl) dX2_readBuilt_90 (fun f_281 H locs hP hD hS hT hE1 hrd_282 hup_283 => ?_)
      have hF := Fr.put (a := o) (ci := 5) hF hE ((hE1 o (hT.at 1 rfl).1).2.symm.trans (hT.at 1 rfl).2) (by decide) hrd_282 hup_283
      have hE := hE.tr hE1
      have hk_284 : rd f_281 h0 1 = .int ax_257 := ((Fr.put (cs := [(5, 5)]) (a := o) (ci := 5) Fr.rf Ext.rf (hTo.at 1 rfl).2 (by decide) hrd_282 hup_283).1 h0 (hTo.at 0 rfl).1 2 (hTo.at 0 rfl).2 1 (by decide)).trans hk_262
      have hk_285 : rd f_281 h0 2 = .int tn_258 := ((Fr.put (cs := [(5, 5)]) (a := o) (ci := 5) Fr.rf Ext.rf (hTo.at 1 rfl).2 (by decide) hrd_282 hup_283).1 h0 (hTo.at 0 rfl).1 2 (hTo.at 0 rfl).2 2 (by decide)).trans hk_263
      have hk_286 : rd f_281 h0 3 = .int fa_259 := ((Fr.put (cs := [(5, 5)]) (a := o) (ci := 5) Fr.rf Ext.rf (hTo.at 1 rfl).2 (by decide) hrd_282 hup_283).1 h0 (hTo.at 0 rfl).1 2 (hTo.at 0 rfl).2 3 (by decide)).trans hk_264
      have hk_287 : rd f_281 h0 4 = .int pw_260 := ((Fr.put (cs := [(5, 5)]) (a := o) (ci := 5) Fr.rf Ext.rf (hTo.at 1 rfl).2 (by decide) hrd_282 hup_283).1 h0 (hTo.at 0 rfl).1 2 (hTo.at 0 rfl).2 4 (by decide)).trans hk_265
      have hk_288 : rd f_281 h0 5 = .int sg_261 := ((Fr.put (cs := [(5, 5)]) (a := o) (ci := 5) Fr.rf Ext.rf (hTo.at 1 rfl).2 (by decide) hrd_282 hup_283).1 h0 (hTo.at 0 rfl).1 2 (hTo.at 0 rfl).2 5 (by decide)).trans hk_266
      have hk_289 : rd f_281 tok 3 = .int zz := ((Fr.put (cs := [(5, 5)]) (a := o) (ci := 5) Fr.rf Ext.rf (hTo.at 1 rfl).2 (by decide) hrd_282 hup_283).1 tok (hTo.at 2 rfl).1 6 (hTo.at 2 rfl).2 3 (by decide)).trans hk_273
      have hk_290 : rd f_281 o 0 = .int wd := ((Fr.put (cs := [(5, 5)]) (a := o) (ci := 5) Fr.rf Ext.rf (hTo.at 1 rfl).2 (by decide) hrd_282 hup_283).1 o (hTo.at 1 rfl).1 5 (hTo.at 1 rfl).2 0 (by decide)).trans hk_274
      refine lv_aload_n hx hb dX2_readBuilt_93 rfl (lv_at hl 0 rfl) ?_
      refine T_get (ci := 2) (C := RX2) (T := TX2) (N := 6) (t := tI) hx hb hts inw_X2_readBuilt_2 hown hK hP hT 0 rfl rfl 2 (by decide) (hts (.fieldLink RX2 44 "VatHouse$Reader" "token" "I") (by decide +kernel)) (fun _ h9 => h9) rfl dX2_readBuilt_94 (fun v_293 hv_291 hr_292 => ?_)
      obtain rfl : v_293 = .int tn_258 := hr_292.symm.trans hk_285
      refine lv_bipush (v := 13) hx hb dX2_readBuilt_97 (by decide) ?_
      refine lv_icmp_ne (tgt := 158) hx hb dX2_readBuilt_99 (by decide) (fun c_294 => ?_) (fun c_294 => ?_)
      · exact K_vZ hx hb hr hlocks hP hD hK hS hT hE ⟨rfl, hF, _, _, _, _, _, hk_284, hk_285, hk_286, hk_287, hk_288, trivial, trivial, trivial, trivial, hrel_271, ⟨qn_276, Or.inr (Or.inr (Or.inl ⟨c_226, _, hev_277, Or.inl ⟨fun h9 => c_294 (hrq_278.K.trans h9), rfl⟩⟩)), hrq_278, (by first | exact ⟨hsg_279, hn3_280⟩ | (simp only [gpa_nd, gnu_nd, gpl_nd, gte_nd, gob_nd, grf_nd]; exact ⟨hsg_279, hn3_280⟩))⟩⟩ (⟨_, _, hk_286, hk_288, by omega⟩) (by first | exact Nat.le_of_ble_eq_true rfl | (simp only [rm_X2_readBuilt]; omega) | omega) (by first | exact Nat.le_of_ble_eq_true rfl | (simp only [rm_X2_readBuilt]; omega) | omega) (by first | exact Nat.le_of_ble_eq_true rfl | (simp only [rm_X2_readBuilt]; omega) | omega) dX2_readBuilt_158
      · refine lv_aload_n hx hb dX2_readBuilt_102 rfl (lv_at hl 0 rfl) ?_
        refine lv_bipush (v := 13) hx hb dX2_readBuilt_103 (by decide) ?_
        have hTo := hT
        refine K_V ⟨hx, hb, hml, hown, hts⟩ (t_X2_pass l dC dI sa hlt g _ _ tt ln M qn_276 h0 13 tok ka sta vaa ax_257 tn_258 fa_259 pw_260 zz _ (hT.sub [0, 2, 3, 4, 5] rfl)  hk_284 hk_285 hk_286 hk_287 hk_289 ((hF.1 h0 (hT0.at 0 rfl).1 2 (hT0.at 0 rfl).2 0 (by decide)).trans h_tok) ((hF.1 tok (hT0.at 2 rfl).1 6 (hT0.at 2 rfl).2 4 (by decide)).trans h_ka) ((hF.1 tok (hT0.at 2 rfl).1 6 (hT0.at 2 rfl).2 5 (by decide)).trans h_sta) ((hF.1 tok (hT0.at 2 rfl).1 6 (hT0.at 2 rfl).2 6 (by decide)).trans h_vaa) hzz (hTK.go (hF.2 ka (hT0.at 3 rfl).1 0 _ _ (hT0.at 3 rfl).2 (by decide)) (hF.2 sta (hT0.at 4 rfl).1 0 _ _ (hT0.at 4 rfl).2 (by decide)) (hF.2 vaa (hT0.at 5 rfl).1 0 _ _ (hT0.at 5 rfl).2 (by decide))) hrq_278 (Or.inl (by decide))) (cwV 1 hts gX2_readBuilt_X2_pass rfl rfl rfl (by decide +kernel) ⟨(by first | exact Nat.le_of_ble_eq_true rfl | (simp only [rm_X2_pass, rm_X2_readBuilt]; omega)), (by first | exact Nat.le_of_ble_eq_true rfl | (simp only [rm_X2_pass, rm_X2_readBuilt]; omega))⟩) hP hD hK hS hA hev hT 0 2 rfl rfl rfl rfl hl.1 rfl (Nat.le_of_ble_eq_true rfl) dX2_readBuilt_105 ⟨(by first | exact Nat.le_of_ble_eq_true rfl | (simp only [rm_X2_readBuilt]; omega) | omega), (by first | exact Nat.le_of_ble_eq_true rfl | (simp only [rm_X2_readBuilt]; omega) | omega)⟩ (fun r L_295 f_296 H locs hw_297 hP hD hS hT hE1 => ?_)
        have hF := Fr.call hF hE hw_297.2.1 (by decide)
        have hE := hE.tr hE1
        obtain ⟨rfl, hw_297⟩ := hw_297
        obtain ⟨hfr_298, ax_299, tn_300, fa_301, pw_302, hk_303, hk_304, hk_305, hk_306, hrel_307, hrel_308, hrel_309, hrel_310, hex_311⟩ := hw_297
        have hk_312 : rd f_296 h0 5 = .int sg_261 := (hfr_298.1 h0 (hTo.at 0 rfl).1 2 (hTo.at 0 rfl).2 5 (by decide)).trans hk_288
        have hk_313 : rd f_296 tok 3 = .int zz := (hfr_298.1 tok (hTo.at 2 rfl).1 6 (hTo.at 2 rfl).2 3 (by decide)).trans hk_289
        have hk_314 : rd f_296 o 0 = .int wd := (hfr_298.1 o (hTo.at 1 rfl).1 5 (hTo.at 1 rfl).2 0 (by decide)).trans hk_290
        have hq_315 : pot fa_301 sg_261 ≤ pot fa_259 sg_261 := pot_le (fun h9 => (hrel_309 h9).1)
        have hrq_316 := hex_311
        refine W.eq (g2 := F0 m 108 ls []) rfl ?_
        refine lv_aload_n hx hb dX2_readBuilt_108 rfl (lv_at hl 1 rfl) ?_
        refine lv_aload_n hx hb dX2_readBuilt_109 rfl (lv_at hl 0 rfl) ?_
        refine lv_iload_n hx hb dX2_readBuilt_110 rfl (lv_at hl 2 rfl) ?_
        have hTo := hT
        refine K_VZ ⟨hx, hb, hml, hown, hts⟩ (t_X2_readBlock l dC dI sa hlt g _ _ j d (pot fa_301 sg_261) tt ln M (gpa (Kp tt ln) (nq tt ln) 13 qn_276) h0 dep tok ka sta vaa ax_299 tn_300 fa_301 pw_302 sg_261 zz _ (hT.sub [0, 2, 3, 4, 5] rfl)  hk_303 hk_304 hk_305 hk_306 hk_312 hk_313 ((hF.1 h0 (hT0.at 0 rfl).1 2 (hT0.at 0 rfl).2 0 (by decide)).trans h_tok) ((hF.1 tok (hT0.at 2 rfl).1 6 (hT0.at 2 rfl).2 4 (by decide)).trans h_ka) ((hF.1 tok (hT0.at 2 rfl).1 6 (hT0.at 2 rfl).2 5 (by decide)).trans h_sta) ((hF.1 tok (hT0.at 2 rfl).1 6 (hT0.at 2 rfl).2 6 (by decide)).trans h_vaa) hd hdj rfl hrel_271 hzz (hTK.go (hF.2 ka (hT0.at 3 rfl).1 0 _ _ (hT0.at 3 rfl).2 (by decide)) (hF.2 sta (hT0.at 4 rfl).1 0 _ _ (hT0.at 4 rfl).2 (by decide)) (hF.2 vaa (hT0.at 5 rfl).1 0 _ _ (hT0.at 5 rfl).2 (by decide))) hrq_316 (by first | exact ⟨hsg_279, hn3_280⟩ | (simp only [gpa_nd, gnu_nd, gpl_nd, gte_nd, gob_nd, grf_nd]; exact ⟨hsg_279, hn3_280⟩)) IHR) (cwV 1 hts gX2_readBuilt_X2_readBlock rfl rfl rfl (by decide +kernel) ⟨(by first | exact Nat.le_of_ble_eq_true rfl | (simp only [rm_X2_readBlock, rm_X2_readBuilt]; omega)), (by first | exact Nat.le_of_ble_eq_true rfl | (simp only [rm_X2_readBlock, rm_X2_readBuilt]; omega))⟩) hP hD hK hS hA hev hT 0 2 rfl rfl rfl rfl hl.1 rfl (Nat.le_of_ble_eq_true rfl) dX2_readBuilt_111 ⟨(by first | exact Nat.le_of_ble_eq_true rfl | (simp only [rm_X2_readBuilt]; omega) | omega), (by first | exact Nat.le_of_ble_eq_true rfl | (simp only [rm_X2_readBuilt]; omega) | omega)⟩ (fun r L_317 f_318 n_320 H locs hw_319 hn_321 hP hD hS hT hE1 => ?_)
        have hF := Fr.call hF hE hw_319.2.1 (by decide)
        have hE := hE.tr hE1
        obtain ⟨⟨v_322, rfl, hv9⟩, hw_319⟩ := hw_319
        rcases hv9 with rfl | ⟨b_323, rfl, hb9⟩
        · obtain ⟨hfr_324, ax_325, tn_326, fa_327, pw_328, sg_329, hk_330, hk_331, hk_332, hk_333, hk_334, hrel_335, hrel_336, hrel_337, hrel_338, hrel_339, hex_340⟩ := hw_319
          have hk_341 : rd f_318 tok 3 = .int zz := (hfr_324.1 tok (hTo.at 2 rfl).1 6 (hTo.at 2 rfl).2 3 (by decide)).trans hk_313
          have hk_342 : rd f_318 o 0 = .int wd := (hfr_324.1 o (hTo.at 1 rfl).1 5 (hTo.at 1 rfl).2 0 (by decide)).trans hk_314
          have hq_343 : n_320 + pot fa_327 sg_329 ≤ pot fa_301 sg_261 := by
            obtain ⟨a9, b9, g1, g2, g3⟩ := hn_321
            cases g1.symm.trans hk_332
            cases g2.symm.trans hk_334
            exact g3
          obtain ⟨qn_344, hev_345, hrq_346, hsg_347, hn3_348⟩ := hex_340
          refine W.eq (g2 := F0 m 114 ls [.null, .ref o]) rfl ?_
          have hTo := hT
          refine T_put (ci := 5) (v := .null) (ty := .object "VatHouse$Step") (t := (2, 0, 5, 0)) (C := RX5) (T := TX5) (N := 8) hx hb hts inw_X2_readBuilt_5 tyX5 tyX5_ok nmX5 hown hK hP hD hS hT 1 rfl rfl 6 (by decide) (hts (.fieldLink RX2 91 "VatHouse$Step" "other" "LVatHouse$Step;") (by decide +kernel)) (fun _ h9 => h9) rfl (by decide +kernel) rfl rfl rfl (Or.inl rfl) dX2_readBuilt_114 (fun f_349 H locs hP hD hS hT hE1 hrd_350 hup_351 => ?_)
          have hF := Fr.put (a := o) (ci := 5) hF hE ((hE1 o (hT.at 1 rfl).1).2.symm.trans (hT.at 1 rfl).2) (by decide) hrd_350 hup_351
          have hE := hE.tr hE1
          have hk_352 : rd f_349 h0 1 = .int ax_325 := ((Fr.put (cs := [(5, 6)]) (a := o) (ci := 5) Fr.rf Ext.rf (hTo.at 1 rfl).2 (by decide) hrd_350 hup_351).1 h0 (hTo.at 0 rfl).1 2 (hTo.at 0 rfl).2 1 (by decide)).trans hk_330
          have hk_353 : rd f_349 h0 2 = .int tn_326 := ((Fr.put (cs := [(5, 6)]) (a := o) (ci := 5) Fr.rf Ext.rf (hTo.at 1 rfl).2 (by decide) hrd_350 hup_351).1 h0 (hTo.at 0 rfl).1 2 (hTo.at 0 rfl).2 2 (by decide)).trans hk_331
          have hk_354 : rd f_349 h0 3 = .int fa_327 := ((Fr.put (cs := [(5, 6)]) (a := o) (ci := 5) Fr.rf Ext.rf (hTo.at 1 rfl).2 (by decide) hrd_350 hup_351).1 h0 (hTo.at 0 rfl).1 2 (hTo.at 0 rfl).2 3 (by decide)).trans hk_332
          have hk_355 : rd f_349 h0 4 = .int pw_328 := ((Fr.put (cs := [(5, 6)]) (a := o) (ci := 5) Fr.rf Ext.rf (hTo.at 1 rfl).2 (by decide) hrd_350 hup_351).1 h0 (hTo.at 0 rfl).1 2 (hTo.at 0 rfl).2 4 (by decide)).trans hk_333
          have hk_356 : rd f_349 h0 5 = .int sg_329 := ((Fr.put (cs := [(5, 6)]) (a := o) (ci := 5) Fr.rf Ext.rf (hTo.at 1 rfl).2 (by decide) hrd_350 hup_351).1 h0 (hTo.at 0 rfl).1 2 (hTo.at 0 rfl).2 5 (by decide)).trans hk_334
          have hk_357 : rd f_349 tok 3 = .int zz := ((Fr.put (cs := [(5, 6)]) (a := o) (ci := 5) Fr.rf Ext.rf (hTo.at 1 rfl).2 (by decide) hrd_350 hup_351).1 tok (hTo.at 2 rfl).1 6 (hTo.at 2 rfl).2 3 (by decide)).trans hk_341
          have hk_358 : rd f_349 o 0 = .int wd := ((Fr.put (cs := [(5, 6)]) (a := o) (ci := 5) Fr.rf Ext.rf (hTo.at 1 rfl).2 (by decide) hrd_350 hup_351).1 o (hTo.at 1 rfl).1 5 (hTo.at 1 rfl).2 0 (by decide)).trans hk_342
          refine lv_goto (tgt := 158) hx hb dX2_readBuilt_117 (by decide) ?_
          exact K_vZ hx hb hr hlocks hP hD hK hS hT hE ⟨rfl, hF, _, _, _, _, _, hk_352, hk_353, hk_354, hk_355, hk_356, trivial, trivial, trivial, trivial, hrel_339, ⟨qn_344, Or.inr (Or.inr (Or.inl ⟨c_226, _, hev_277, Or.inr ⟨hrq_278.K.symm.trans c_294, hev_345⟩⟩)), hrq_346, (by first | exact ⟨hsg_347, hn3_348⟩ | (simp only [gpa_nd, gnu_nd, gpl_nd, gte_nd, gob_nd, grf_nd]; exact ⟨hsg_347, hn3_348⟩))⟩⟩ (⟨_, _, hk_354, hk_356, by omega⟩) (by first | exact Nat.le_of_ble_eq_true rfl | (simp only [rm_X2_readBuilt]; omega) | omega) (by first | exact Nat.le_of_ble_eq_true rfl | (simp only [rm_X2_readBuilt]; omega) | omega) (by first | exact Nat.le_of_ble_eq_true rfl | (simp only [rm_X2_readBuilt]; omega) | omega) dX2_readBuilt_158
        · have hT := hT.add hb9
          obtain ⟨hfr_359, ax_360, tn_361, fa_362, pw_363, sg_364, hk_365, hk_366, hk_367, hk_368, hk_369, hrel_370, hrel_371, hrel_372, hrel_373, hrel_374, hex_375⟩ := hw_319
          have hk_376 : rd f_318 tok 3 = .int zz := (hfr_359.1 tok (hTo.at 2 rfl).1 6 (hTo.at 2 rfl).2 3 (by decide)).trans hk_313
          have hk_377 : rd f_318 o 0 = .int wd := (hfr_359.1 o (hTo.at 1 rfl).1 5 (hTo.at 1 rfl).2 0 (by decide)).trans hk_314
          have hq_378 : n_320 + pot fa_362 sg_364 ≤ pot fa_301 sg_261 := by
            obtain ⟨a9, b9, g1, g2, g3⟩ := hn_321
            cases g1.symm.trans hk_367
            cases g2.symm.trans hk_369
            exact g3
          obtain ⟨qn_379, hev_380, hrq_381, hsg_382, hn3_383⟩ := hex_375
          refine W.eq (g2 := F0 m 114 ls [.ref b_323, .ref o]) rfl ?_
          have hTo := hT
          refine T_put (ci := 5) (v := .ref b_323) (ty := .object "VatHouse$Step") (t := (2, 0, 5, 0)) (C := RX5) (T := TX5) (N := 8) hx hb hts inw_X2_readBuilt_5 tyX5 tyX5_ok nmX5 hown hK hP hD hS hT 2 rfl rfl 6 (by decide) (hts (.fieldLink RX2 91 "VatHouse$Step" "other" "LVatHouse$Step;") (by decide +kernel)) (fun _ h9 => h9) rfl (by decide +kernel) rfl rfl rfl (Or.inr ⟨_, rfl, hT.at 0 rfl⟩) dX2_readBuilt_114 (fun f_384 H locs hP hD hS hT hE1 hrd_385 hup_386 => ?_)
          have hF := Fr.put (a := o) (ci := 5) hF hE ((hE1 o (hT.at 2 rfl).1).2.symm.trans (hT.at 2 rfl).2) (by decide) hrd_385 hup_386
          have hE := hE.tr hE1
          have hk_387 : rd f_384 h0 1 = .int ax_360 := ((Fr.put (cs := [(5, 6)]) (a := o) (ci := 5) Fr.rf Ext.rf (hTo.at 2 rfl).2 (by decide) hrd_385 hup_386).1 h0 (hTo.at 1 rfl).1 2 (hTo.at 1 rfl).2 1 (by decide)).trans hk_365
          have hk_388 : rd f_384 h0 2 = .int tn_361 := ((Fr.put (cs := [(5, 6)]) (a := o) (ci := 5) Fr.rf Ext.rf (hTo.at 2 rfl).2 (by decide) hrd_385 hup_386).1 h0 (hTo.at 1 rfl).1 2 (hTo.at 1 rfl).2 2 (by decide)).trans hk_366
          have hk_389 : rd f_384 h0 3 = .int fa_362 := ((Fr.put (cs := [(5, 6)]) (a := o) (ci := 5) Fr.rf Ext.rf (hTo.at 2 rfl).2 (by decide) hrd_385 hup_386).1 h0 (hTo.at 1 rfl).1 2 (hTo.at 1 rfl).2 3 (by decide)).trans hk_367
          have hk_390 : rd f_384 h0 4 = .int pw_363 := ((Fr.put (cs := [(5, 6)]) (a := o) (ci := 5) Fr.rf Ext.rf (hTo.at 2 rfl).2 (by decide) hrd_385 hup_386).1 h0 (hTo.at 1 rfl).1 2 (hTo.at 1 rfl).2 4 (by decide)).trans hk_368
          have hk_391 : rd f_384 h0 5 = .int sg_364 := ((Fr.put (cs := [(5, 6)]) (a := o) (ci := 5) Fr.rf Ext.rf (hTo.at 2 rfl).2 (by decide) hrd_385 hup_386).1 h0 (hTo.at 1 rfl).1 2 (hTo.at 1 rfl).2 5 (by decide)).trans hk_369
          have hk_392 : rd f_384 tok 3 = .int zz := ((Fr.put (cs := [(5, 6)]) (a := o) (ci := 5) Fr.rf Ext.rf (hTo.at 2 rfl).2 (by decide) hrd_385 hup_386).1 tok (hTo.at 3 rfl).1 6 (hTo.at 3 rfl).2 3 (by decide)).trans hk_376
          have hk_393 : rd f_384 o 0 = .int wd := ((Fr.put (cs := [(5, 6)]) (a := o) (ci := 5) Fr.rf Ext.rf (hTo.at 2 rfl).2 (by decide) hrd_385 hup_386).1 o (hTo.at 2 rfl).1 5 (hTo.at 2 rfl).2 0 (by decide)).trans hk_377
          refine lv_goto (tgt := 158) hx hb dX2_readBuilt_117 (by decide) ?_
          exact K_vZ hx hb hr hlocks hP hD hK hS hT hE ⟨rfl, hF, _, _, _, _, _, hk_387, hk_388, hk_389, hk_390, hk_391, trivial, trivial, trivial, trivial, hrel_374, ⟨qn_379, Or.inr (Or.inr (Or.inl ⟨c_226, _, hev_277, Or.inr ⟨hrq_278.K.symm.trans c_294, hev_380⟩⟩)), hrq_381, (by first | exact ⟨hsg_382, hn3_383⟩ | (simp only [gpa_nd, gnu_nd, gpl_nd, gte_nd, gob_nd, grf_nd]; exact ⟨hsg_382, hn3_383⟩))⟩⟩ (⟨_, _, hk_389, hk_391, by omega⟩) (by first | exact Nat.le_of_ble_eq_true rfl | (simp only [rm_X2_readBuilt]; omega) | omega) (by first | exact Nat.le_of_ble_eq_true rfl | (simp only [rm_X2_readBuilt]; omega) | omega) (by first | exact Nat.le_of_ble_eq_true rfl | (simp only [rm_X2_readBuilt]; omega) | omega) dX2_readBuilt_158
    · have hT := hT.add hb9
      obtain ⟨hfr_394, ax_395, tn_396, fa_397, pw_398, sg_399, hk_400, hk_401, hk_402, hk_403, hk_404, hrel_405, hrel_406, hrel_407, hrel_408, hrel_409, hex_410⟩ := hw_251
      have hk_411 : rd f_250 tok 3 = .int zz := (hfr_394.1 tok (hTo.at 2 rfl).1 6 (hTo.at 2 rfl).2 3 (by decide)).trans hk_245
      have hk_412 : rd f_250 o 0 = .int wd := (hfr_394.1 o (hTo.at 1 rfl).1 5 (hTo.at 1 rfl).2 0 (by decide)).trans hk_246
      have hq_413 : n_252 + pot fa_397 sg_399 ≤ pot fa_233 sg := by
        obtain ⟨a9, b9, g1, g2, g3⟩ := hn_253
        cases g1.symm.trans hk_402
        cases g2.symm.trans hk_404
        exact g3
      obtain ⟨qn_414, hev_415, hrq_416, hsg_417, hn3_418⟩ := hex_410
      refine W.eq (g2 := F0 m 90 ls [.ref b_255, .ref o]) rfl ?_
      have hTo := hT
      refine T_put (ci := 5) (v := .ref b_255) (ty := .object "VatHouse$Step") (t := (2, 0, 5, 0)) (C := RX5) (T := TX5) (N := 8) hx hb hts inw_X2_readBuilt_5 tyX5 tyX5_ok nmX5 hown hK hP hD hS hT 2 rfl rfl 5 (by decide) (hts (.fieldLink RX2 85 "VatHouse$Step" "block" "LVatHouse$Step;") (by decide +kernel)) (fun _ h9 => h9) rfl (by decide +kernel) rfl rfl rfl (Or.inr ⟨_, rfl, hT.at 0 rfl⟩) dX2_readBuilt_90 (fun f_419 H locs hP hD hS hT hE1 hrd_420 hup_421 => ?_)
      have hF := Fr.put (a := o) (ci := 5) hF hE ((hE1 o (hT.at 2 rfl).1).2.symm.trans (hT.at 2 rfl).2) (by decide) hrd_420 hup_421
      have hE := hE.tr hE1
      have hk_422 : rd f_419 h0 1 = .int ax_395 := ((Fr.put (cs := [(5, 5)]) (a := o) (ci := 5) Fr.rf Ext.rf (hTo.at 2 rfl).2 (by decide) hrd_420 hup_421).1 h0 (hTo.at 1 rfl).1 2 (hTo.at 1 rfl).2 1 (by decide)).trans hk_400
      have hk_423 : rd f_419 h0 2 = .int tn_396 := ((Fr.put (cs := [(5, 5)]) (a := o) (ci := 5) Fr.rf Ext.rf (hTo.at 2 rfl).2 (by decide) hrd_420 hup_421).1 h0 (hTo.at 1 rfl).1 2 (hTo.at 1 rfl).2 2 (by decide)).trans hk_401
      have hk_424 : rd f_419 h0 3 = .int fa_397 := ((Fr.put (cs := [(5, 5)]) (a := o) (ci := 5) Fr.rf Ext.rf (hTo.at 2 rfl).2 (by decide) hrd_420 hup_421).1 h0 (hTo.at 1 rfl).1 2 (hTo.at 1 rfl).2 3 (by decide)).trans hk_402
      have hk_425 : rd f_419 h0 4 = .int pw_398 := ((Fr.put (cs := [(5, 5)]) (a := o) (ci := 5) Fr.rf Ext.rf (hTo.at 2 rfl).2 (by decide) hrd_420 hup_421).1 h0 (hTo.at 1 rfl).1 2 (hTo.at 1 rfl).2 4 (by decide)).trans hk_403
      have hk_426 : rd f_419 h0 5 = .int sg_399 := ((Fr.put (cs := [(5, 5)]) (a := o) (ci := 5) Fr.rf Ext.rf (hTo.at 2 rfl).2 (by decide) hrd_420 hup_421).1 h0 (hTo.at 1 rfl).1 2 (hTo.at 1 rfl).2 5 (by decide)).trans hk_404
      have hk_427 : rd f_419 tok 3 = .int zz := ((Fr.put (cs := [(5, 5)]) (a := o) (ci := 5) Fr.rf Ext.rf (hTo.at 2 rfl).2 (by decide) hrd_420 hup_421).1 tok (hTo.at 3 rfl).1 6 (hTo.at 3 rfl).2 3 (by decide)).trans hk_411
      have hk_428 : rd f_419 o 0 = .int wd := ((Fr.put (cs := [(5, 5)]) (a := o) (ci := 5) Fr.rf Ext.rf (hTo.at 2 rfl).2 (by decide) hrd_420 hup_421).1 o (hTo.at 2 rfl).1 5 (hTo.at 2 rfl).2 0 (by decide)).trans hk_412
      refine lv_aload_n hx hb dX2_readBuilt_93 rfl (lv_at hl 0 rfl) ?_
      refine T_get (ci := 2) (C := RX2) (T := TX2) (N := 6) (t := tI) hx hb hts inw_X2_readBuilt_2 hown hK hP hT 1 rfl rfl 2 (by decide) (hts (.fieldLink RX2 44 "VatHouse$Reader" "token" "I") (by decide +kernel)) (fun _ h9 => h9) rfl dX2_readBuilt_94 (fun v_431 hv_429 hr_430 => ?_)
      obtain rfl : v_431 = .int tn_396 := hr_430.symm.trans hk_423
      refine lv_bipush (v := 13) hx hb dX2_readBuilt_97 (by decide) ?_
      refine lv_icmp_ne (tgt := 158) hx hb dX2_readBuilt_99 (by decide) (fun c_432 => ?_) (fun c_432 => ?_)
      · exact K_vZ hx hb hr hlocks hP hD hK hS hT hE ⟨rfl, hF, _, _, _, _, _, hk_422, hk_423, hk_424, hk_425, hk_426, trivial, trivial, trivial, trivial, hrel_409, ⟨qn_414, Or.inr (Or.inr (Or.inl ⟨c_226, _, hev_415, Or.inl ⟨fun h9 => c_432 (hrq_416.K.trans h9), rfl⟩⟩)), hrq_416, (by first | exact ⟨hsg_417, hn3_418⟩ | (simp only [gpa_nd, gnu_nd, gpl_nd, gte_nd, gob_nd, grf_nd]; exact ⟨hsg_417, hn3_418⟩))⟩⟩ (⟨_, _, hk_424, hk_426, by omega⟩) (by first | exact Nat.le_of_ble_eq_true rfl | (simp only [rm_X2_readBuilt]; omega) | omega) (by first | exact Nat.le_of_ble_eq_true rfl | (simp only [rm_X2_readBuilt]; omega) | omega) (by first | exact Nat.le_of_ble_eq_true rfl | (simp only [rm_X2_readBuilt]; omega) | omega) dX2_readBuilt_158
      · refine lv_aload_n hx hb dX2_readBuilt_102 rfl (lv_at hl 0 rfl) ?_
        refine lv_bipush (v := 13) hx hb dX2_readBuilt_103 (by decide) ?_
        have hTo := hT
        refine K_V ⟨hx, hb, hml, hown, hts⟩ (t_X2_pass l dC dI sa hlt g _ _ tt ln M qn_414 h0 13 tok ka sta vaa ax_395 tn_396 fa_397 pw_398 zz _ (hT.sub [1, 3, 4, 5, 6] rfl)  hk_422 hk_423 hk_424 hk_425 hk_427 ((hF.1 h0 (hT0.at 0 rfl).1 2 (hT0.at 0 rfl).2 0 (by decide)).trans h_tok) ((hF.1 tok (hT0.at 2 rfl).1 6 (hT0.at 2 rfl).2 4 (by decide)).trans h_ka) ((hF.1 tok (hT0.at 2 rfl).1 6 (hT0.at 2 rfl).2 5 (by decide)).trans h_sta) ((hF.1 tok (hT0.at 2 rfl).1 6 (hT0.at 2 rfl).2 6 (by decide)).trans h_vaa) hzz (hTK.go (hF.2 ka (hT0.at 3 rfl).1 0 _ _ (hT0.at 3 rfl).2 (by decide)) (hF.2 sta (hT0.at 4 rfl).1 0 _ _ (hT0.at 4 rfl).2 (by decide)) (hF.2 vaa (hT0.at 5 rfl).1 0 _ _ (hT0.at 5 rfl).2 (by decide))) hrq_416 (Or.inl (by decide))) (cwV 1 hts gX2_readBuilt_X2_pass rfl rfl rfl (by decide +kernel) ⟨(by first | exact Nat.le_of_ble_eq_true rfl | (simp only [rm_X2_pass, rm_X2_readBuilt]; omega)), (by first | exact Nat.le_of_ble_eq_true rfl | (simp only [rm_X2_pass, rm_X2_readBuilt]; omega))⟩) hP hD hK hS hA hev hT 1 2 rfl rfl rfl rfl hl.1 rfl (Nat.le_of_ble_eq_true rfl) dX2_readBuilt_105 ⟨(by first | exact Nat.le_of_ble_eq_true rfl | (simp only [rm_X2_readBuilt]; omega) | omega), (by first | exact Nat.le_of_ble_eq_true rfl | (simp only [rm_X2_readBuilt]; omega) | omega)⟩ (fun r L_433 f_434 H locs hw_435 hP hD hS hT hE1 => ?_)
        have hF := Fr.call hF hE hw_435.2.1 (by decide)
        have hE := hE.tr hE1
        obtain ⟨rfl, hw_435⟩ := hw_435
        obtain ⟨hfr_436, ax_437, tn_438, fa_439, pw_440, hk_441, hk_442, hk_443, hk_444, hrel_445, hrel_446, hrel_447, hrel_448, hex_449⟩ := hw_435
        have hk_450 : rd f_434 h0 5 = .int sg_399 := (hfr_436.1 h0 (hTo.at 1 rfl).1 2 (hTo.at 1 rfl).2 5 (by decide)).trans hk_426
        have hk_451 : rd f_434 tok 3 = .int zz := (hfr_436.1 tok (hTo.at 3 rfl).1 6 (hTo.at 3 rfl).2 3 (by decide)).trans hk_427
        have hk_452 : rd f_434 o 0 = .int wd := (hfr_436.1 o (hTo.at 2 rfl).1 5 (hTo.at 2 rfl).2 0 (by decide)).trans hk_428
        have hq_453 : pot fa_439 sg_399 ≤ pot fa_397 sg_399 := pot_le (fun h9 => (hrel_447 h9).1)
        have hrq_454 := hex_449
        refine W.eq (g2 := F0 m 108 ls []) rfl ?_
        refine lv_aload_n hx hb dX2_readBuilt_108 rfl (lv_at hl 1 rfl) ?_
        refine lv_aload_n hx hb dX2_readBuilt_109 rfl (lv_at hl 0 rfl) ?_
        refine lv_iload_n hx hb dX2_readBuilt_110 rfl (lv_at hl 2 rfl) ?_
        have hTo := hT
        refine K_VZ ⟨hx, hb, hml, hown, hts⟩ (t_X2_readBlock l dC dI sa hlt g _ _ j d (pot fa_439 sg_399) tt ln M (gpa (Kp tt ln) (nq tt ln) 13 qn_414) h0 dep tok ka sta vaa ax_437 tn_438 fa_439 pw_440 sg_399 zz _ (hT.sub [1, 3, 4, 5, 6] rfl)  hk_441 hk_442 hk_443 hk_444 hk_450 hk_451 ((hF.1 h0 (hT0.at 0 rfl).1 2 (hT0.at 0 rfl).2 0 (by decide)).trans h_tok) ((hF.1 tok (hT0.at 2 rfl).1 6 (hT0.at 2 rfl).2 4 (by decide)).trans h_ka) ((hF.1 tok (hT0.at 2 rfl).1 6 (hT0.at 2 rfl).2 5 (by decide)).trans h_sta) ((hF.1 tok (hT0.at 2 rfl).1 6 (hT0.at 2 rfl).2 6 (by decide)).trans h_vaa) hd hdj rfl hrel_409 hzz (hTK.go (hF.2 ka (hT0.at 3 rfl).1 0 _ _ (hT0.at 3 rfl).2 (by decide)) (hF.2 sta (hT0.at 4 rfl).1 0 _ _ (hT0.at 4 rfl).2 (by decide)) (hF.2 vaa (hT0.at 5 rfl).1 0 _ _ (hT0.at 5 rfl).2 (by decide))) hrq_454 (by first | exact ⟨hsg_417, hn3_418⟩ | (simp only [gpa_nd, gnu_nd, gpl_nd, gte_nd, gob_nd, grf_nd]; exact ⟨hsg_417, hn3_418⟩)) IHR) (cwV 1 hts gX2_readBuilt_X2_readBlock rfl rfl rfl (by decide +kernel) ⟨(by first | exact Nat.le_of_ble_eq_true rfl | (simp only [rm_X2_readBlock, rm_X2_readBuilt]; omega)), (by first | exact Nat.le_of_ble_eq_true rfl | (simp only [rm_X2_readBlock, rm_X2_readBuilt]; omega))⟩) hP hD hK hS hA hev hT 1 2 rfl rfl rfl rfl hl.1 rfl (Nat.le_of_ble_eq_true rfl) dX2_readBuilt_111 ⟨(by first | exact Nat.le_of_ble_eq_true rfl | (simp only [rm_X2_readBuilt]; omega) | omega), (by first | exact Nat.le_of_ble_eq_true rfl | (simp only [rm_X2_readBuilt]; omega) | omega)⟩ (fun r L_455 f_456 n_458 H locs hw_457 hn_459 hP hD hS hT hE1 => ?_)
        have hF := Fr.call hF hE hw_457.2.1 (by decide)
        have hE := hE.tr hE1
        obtain ⟨⟨v_460, rfl, hv9⟩, hw_457⟩ := hw_457
        rcases hv9 with rfl | ⟨b_461, rfl, hb9⟩
        · obtain ⟨hfr_462, ax_463, tn_464, fa_465, pw_466, sg_467, hk_468, hk_469, hk_470, hk_471, hk_472, hrel_473, hrel_474, hrel_475, hrel_476, hrel_477, hex_478⟩ := hw_457
          have hk_479 : rd f_456 tok 3 = .int zz := (hfr_462.1 tok (hTo.at 3 rfl).1 6 (hTo.at 3 rfl).2 3 (by decide)).trans hk_451
          have hk_480 : rd f_456 o 0 = .int wd := (hfr_462.1 o (hTo.at 2 rfl).1 5 (hTo.at 2 rfl).2 0 (by decide)).trans hk_452
          have hq_481 : n_458 + pot fa_465 sg_467 ≤ pot fa_439 sg_399 := by
            obtain ⟨a9, b9, g1, g2, g3⟩ := hn_459
            cases g1.symm.trans hk_470
            cases g2.symm.trans hk_472
            exact g3
          obtain ⟨qn_482, hev_483, hrq_484, hsg_485, hn3_486⟩ := hex_478
          refine W.eq (g2 := F0 m 114 ls [.null, .ref o]) rfl ?_
          have hTo := hT
          refine T_put (ci := 5) (v := .null) (ty := .object "VatHouse$Step") (t := (2, 0, 5, 0)) (C := RX5) (T := TX5) (N := 8) hx hb hts inw_X2_readBuilt_5 tyX5 tyX5_ok nmX5 hown hK hP hD hS hT 2 rfl rfl 6 (by decide) (hts (.fieldLink RX2 91 "VatHouse$Step" "other" "LVatHouse$Step;") (by decide +kernel)) (fun _ h9 => h9) rfl (by decide +kernel) rfl rfl rfl (Or.inl rfl) dX2_readBuilt_114 (fun f_487 H locs hP hD hS hT hE1 hrd_488 hup_489 => ?_)
          have hF := Fr.put (a := o) (ci := 5) hF hE ((hE1 o (hT.at 2 rfl).1).2.symm.trans (hT.at 2 rfl).2) (by decide) hrd_488 hup_489
          have hE := hE.tr hE1
          have hk_490 : rd f_487 h0 1 = .int ax_463 := ((Fr.put (cs := [(5, 6)]) (a := o) (ci := 5) Fr.rf Ext.rf (hTo.at 2 rfl).2 (by decide) hrd_488 hup_489).1 h0 (hTo.at 1 rfl).1 2 (hTo.at 1 rfl).2 1 (by decide)).trans hk_468
          have hk_491 : rd f_487 h0 2 = .int tn_464 := ((Fr.put (cs := [(5, 6)]) (a := o) (ci := 5) Fr.rf Ext.rf (hTo.at 2 rfl).2 (by decide) hrd_488 hup_489).1 h0 (hTo.at 1 rfl).1 2 (hTo.at 1 rfl).2 2 (by decide)).trans hk_469
          have hk_492 : rd f_487 h0 3 = .int fa_465 := ((Fr.put (cs := [(5, 6)]) (a := o) (ci := 5) Fr.rf Ext.rf (hTo.at 2 rfl).2 (by decide) hrd_488 hup_489).1 h0 (hTo.at 1 rfl).1 2 (hTo.at 1 rfl).2 3 (by decide)).trans hk_470
          have hk_493 : rd f_487 h0 4 = .int pw_466 := ((Fr.put (cs := [(5, 6)]) (a := o) (ci := 5) Fr.rf Ext.rf (hTo.at 2 rfl).2 (by decide) hrd_488 hup_489).1 h0 (hTo.at 1 rfl).1 2 (hTo.at 1 rfl).2 4 (by decide)).trans hk_471
          have hk_494 : rd f_487 h0 5 = .int sg_467 := ((Fr.put (cs := [(5, 6)]) (a := o) (ci := 5) Fr.rf Ext.rf (hTo.at 2 rfl).2 (by decide) hrd_488 hup_489).1 h0 (hTo.at 1 rfl).1 2 (hTo.at 1 rfl).2 5 (by decide)).trans hk_472
          have hk_495 : rd f_487 tok 3 = .int zz := ((Fr.put (cs := [(5, 6)]) (a := o) (ci := 5) Fr.rf Ext.rf (hTo.at 2 rfl).2 (by decide) hrd_488 hup_489).1 tok (hTo.at 3 rfl).1 6 (hTo.at 3 rfl).2 3 (by decide)).trans hk_479
          have hk_496 : rd f_487 o 0 = .int wd := ((Fr.put (cs := [(5, 6)]) (a := o) (ci := 5) Fr.rf Ext.rf (hTo.at 2 rfl).2 (by decide) hrd_488 hup_489).1 o (hTo.at 2 rfl).1 5 (hTo.at 2 rfl).2 0 (by decide)).trans hk_480
          refine lv_goto (tgt := 158) hx hb dX2_readBuilt_117 (by decide) ?_
          exact K_vZ hx hb hr hlocks hP hD hK hS hT hE ⟨rfl, hF, _, _, _, _, _, hk_490, hk_491, hk_492, hk_493, hk_494, trivial, trivial, trivial, trivial, hrel_477, ⟨qn_482, Or.inr (Or.inr (Or.inl ⟨c_226, _, hev_415, Or.inr ⟨hrq_416.K.symm.trans c_432, hev_483⟩⟩)), hrq_484, (by first | exact ⟨hsg_485, hn3_486⟩ | (simp only [gpa_nd, gnu_nd, gpl_nd, gte_nd, gob_nd, grf_nd]; exact ⟨hsg_485, hn3_486⟩))⟩⟩ (⟨_, _, hk_492, hk_494, by omega⟩) (by first | exact Nat.le_of_ble_eq_true rfl | (simp only [rm_X2_readBuilt]; omega) | omega) (by first | exact Nat.le_of_ble_eq_true rfl | (simp only [rm_X2_readBuilt]; omega) | omega) (by first | exact Nat.le_of_ble_eq_true rfl | (simp only [rm_X2_readBuilt]; omega) | omega) dX2_readBuilt_158
        · have hT := hT.add hb9
          obtain ⟨hfr_497, ax_498, tn_499, fa_500, pw_501, sg_502, hk_503, hk_504, hk_505, hk_506, hk_507, hrel_508, hrel_509, hrel_510, hrel_511, hrel_512, hex_513⟩ := hw_457
          have hk_514 : rd f_456 tok 3 = .int zz := (hfr_497.1 tok (hTo.at 3 rfl).1 6 (hTo.at 3 rfl).2 3 (by decide)).trans hk_451
          have hk_515 : rd f_456 o 0 = .int wd := (hfr_497.1 o (hTo.at 2 rfl).1 5 (hTo.at 2 rfl).2 0 (by decide)).trans hk_452
          have hq_516 : n_458 + pot fa_500 sg_502 ≤ pot fa_439 sg_399 := by
            obtain ⟨a9, b9, g1, g2, g3⟩ := hn_459
            cases g1.symm.trans hk_505
            cases g2.symm.trans hk_507
            exact g3
          obtain ⟨qn_517, hev_518, hrq_519, hsg_520, hn3_521⟩ := hex_513
          refine W.eq (g2 := F0 m 114 ls [.ref b_461, .ref o]) rfl ?_
          have hTo := hT
          refine T_put (ci := 5) (v := .ref b_461) (ty := .object "VatHouse$Step") (t := (2, 0, 5, 0)) (C := RX5) (T := TX5) (N := 8) hx hb hts inw_X2_readBuilt_5 tyX5 tyX5_ok nmX5 hown hK hP hD hS hT 3 rfl rfl 6 (by decide) (hts (.fieldLink RX2 91 "VatHouse$Step" "other" "LVatHouse$Step;") (by decide +kernel)) (fun _ h9 => h9) rfl (by decide +kernel) rfl rfl rfl (Or.inr ⟨_, rfl, hT.at 0 rfl⟩) dX2_readBuilt_114 (fun f_522 H locs hP hD hS hT hE1 hrd_523 hup_524 => ?_)
          have hF := Fr.put (a := o) (ci := 5) hF hE ((hE1 o (hT.at 3 rfl).1).2.symm.trans (hT.at 3 rfl).2) (by decide) hrd_523 hup_524
          have hE := hE.tr hE1
          have hk_525 : rd f_522 h0 1 = .int ax_498 := ((Fr.put (cs := [(5, 6)]) (a := o) (ci := 5) Fr.rf Ext.rf (hTo.at 3 rfl).2 (by decide) hrd_523 hup_524).1 h0 (hTo.at 2 rfl).1 2 (hTo.at 2 rfl).2 1 (by decide)).trans hk_503
          have hk_526 : rd f_522 h0 2 = .int tn_499 := ((Fr.put (cs := [(5, 6)]) (a := o) (ci := 5) Fr.rf Ext.rf (hTo.at 3 rfl).2 (by decide) hrd_523 hup_524).1 h0 (hTo.at 2 rfl).1 2 (hTo.at 2 rfl).2 2 (by decide)).trans hk_504
          have hk_527 : rd f_522 h0 3 = .int fa_500 := ((Fr.put (cs := [(5, 6)]) (a := o) (ci := 5) Fr.rf Ext.rf (hTo.at 3 rfl).2 (by decide) hrd_523 hup_524).1 h0 (hTo.at 2 rfl).1 2 (hTo.at 2 rfl).2 3 (by decide)).trans hk_505
          have hk_528 : rd f_522 h0 4 = .int pw_501 := ((Fr.put (cs := [(5, 6)]) (a := o) (ci := 5) Fr.rf Ext.rf (hTo.at 3 rfl).2 (by decide) hrd_523 hup_524).1 h0 (hTo.at 2 rfl).1 2 (hTo.at 2 rfl).2 4 (by decide)).trans hk_506
          have hk_529 : rd f_522 h0 5 = .int sg_502 := ((Fr.put (cs := [(5, 6)]) (a := o) (ci := 5) Fr.rf Ext.rf (hTo.at 3 rfl).2 (by decide) hrd_523 hup_524).1 h0 (hTo.at 2 rfl).1 2 (hTo.at 2 rfl).2 5 (by decide)).trans hk_507
          have hk_530 : rd f_522 tok 3 = .int zz := ((Fr.put (cs := [(5, 6)]) (a := o) (ci := 5) Fr.rf Ext.rf (hTo.at 3 rfl).2 (by decide) hrd_523 hup_524).1 tok (hTo.at 4 rfl).1 6 (hTo.at 4 rfl).2 3 (by decide)).trans hk_514
          have hk_531 : rd f_522 o 0 = .int wd := ((Fr.put (cs := [(5, 6)]) (a := o) (ci := 5) Fr.rf Ext.rf (hTo.at 3 rfl).2 (by decide) hrd_523 hup_524).1 o (hTo.at 3 rfl).1 5 (hTo.at 3 rfl).2 0 (by decide)).trans hk_515
          refine lv_goto (tgt := 158) hx hb dX2_readBuilt_117 (by decide) ?_
          exact K_vZ hx hb hr hlocks hP hD hK hS hT hE ⟨rfl, hF, _, _, _, _, _, hk_525, hk_526, hk_527, hk_528, hk_529, trivial, trivial, trivial, trivial, hrel_512, ⟨qn_517, Or.inr (Or.inr (Or.inl ⟨c_226, _, hev_415, Or.inr ⟨hrq_416.K.symm.trans c_432, hev_518⟩⟩)), hrq_519, (by first | exact ⟨hsg_520, hn3_521⟩ | (simp only [gpa_nd, gnu_nd, gpl_nd, gte_nd, gob_nd, grf_nd]; exact ⟨hsg_520, hn3_521⟩))⟩⟩ (⟨_, _, hk_527, hk_529, by omega⟩) (by first | exact Nat.le_of_ble_eq_true rfl | (simp only [rm_X2_readBuilt]; omega) | omega) (by first | exact Nat.le_of_ble_eq_true rfl | (simp only [rm_X2_readBuilt]; omega) | omega) (by first | exact Nat.le_of_ble_eq_true rfl | (simp only [rm_X2_readBuilt]; omega) | omega) dX2_readBuilt_158
  refine lv_tableOut (tgt := 120) hx hb dX2_readBuilt_4 (tab_out_8_10 c_4 c_115 c_226) (by decide) ?_
  refine lv_aload_n hx hb dX2_readBuilt_120 rfl (lv_at hl 1 rfl) ?_
  refine lv_aload_n hx hb dX2_readBuilt_121 rfl (lv_at hl 0 rfl) ?_
  refine lv_iload_n hx hb dX2_readBuilt_122 rfl (lv_at hl 2 rfl) ?_
  have hTo := hT
  refine K_VZ ⟨hx, hb, hml, hown, hts⟩ (t_X2_readBlock l dC dI sa hlt g _ _ j d (pot fa sg) tt ln M q h0 dep tok ka sta vaa ax tn fa pw sg zz _ (hT.sub [0, 2, 3, 4, 5] rfl)  hm_ax hm_tn hm_fa hm_pw hm_sg hm_zz ((hF.1 h0 (hT0.at 0 rfl).1 2 (hT0.at 0 rfl).2 0 (by decide)).trans h_tok) ((hF.1 tok (hT0.at 2 rfl).1 6 (hT0.at 2 rfl).2 4 (by decide)).trans h_ka) ((hF.1 tok (hT0.at 2 rfl).1 6 (hT0.at 2 rfl).2 5 (by decide)).trans h_sta) ((hF.1 tok (hT0.at 2 rfl).1 6 (hT0.at 2 rfl).2 6 (by decide)).trans h_vaa) hd hdj rfl hs3 hzz (hTK.go (hF.2 ka (hT0.at 3 rfl).1 0 _ _ (hT0.at 3 rfl).2 (by decide)) (hF.2 sta (hT0.at 4 rfl).1 0 _ _ (hT0.at 4 rfl).2 (by decide)) (hF.2 vaa (hT0.at 5 rfl).1 0 _ _ (hT0.at 5 rfl).2 (by decide))) hRQ (by first | exact hnd | (simp only [gpa_nd, gnu_nd, gpl_nd, gte_nd, gob_nd, grf_nd]; exact hnd)) IHR) (cwV 1 hts gX2_readBuilt_X2_readBlock rfl rfl rfl (by decide +kernel) ⟨(by first | exact Nat.le_of_ble_eq_true rfl | (simp only [rm_X2_readBlock, rm_X2_readBuilt]; omega)), (by first | exact Nat.le_of_ble_eq_true rfl | (simp only [rm_X2_readBlock, rm_X2_readBuilt]; omega))⟩) hP hD hK hS hA hev hT 0 2 rfl rfl rfl rfl hl.1 rfl (Nat.le_of_ble_eq_true rfl) dX2_readBuilt_123 ⟨(by first | exact Nat.le_of_ble_eq_true rfl | (simp only [rm_X2_readBuilt]; omega) | omega), (by first | exact Nat.le_of_ble_eq_true rfl | (simp only [rm_X2_readBuilt]; omega) | omega)⟩ (fun r L_532 f_533 n_535 H locs hw_534 hn_536 hP hD hS hT hE1 => ?_)
  have hF := Fr.call hF hE hw_534.2.1 (by decide)
  have hE := hE.tr hE1
  obtain ⟨⟨v_537, rfl, hv9⟩, hw_534⟩ := hw_534
  rcases hv9 with rfl | ⟨b_538, rfl, hb9⟩
  · obtain ⟨hfr_539, ax_540, tn_541, fa_542, pw_543, sg_544, hk_545, hk_546, hk_547, hk_548, hk_549, hrel_550, hrel_551, hrel_552, hrel_553, hrel_554, hex_555⟩ := hw_534
    have hk_556 : rd f_533 tok 3 = .int zz := (hfr_539.1 tok (hTo.at 2 rfl).1 6 (hTo.at 2 rfl).2 3 (by decide)).trans hm_zz
    have hk_557 : rd f_533 o 0 = .int wd := (hfr_539.1 o (hTo.at 1 rfl).1 5 (hTo.at 1 rfl).2 0 (by decide)).trans hm_wd
    have hq_558 : n_535 + pot fa_542 sg_544 ≤ pot fa sg := by
      obtain ⟨a9, b9, g1, g2, g3⟩ := hn_536
      cases g1.symm.trans hk_547
      cases g2.symm.trans hk_549
      exact g3
    obtain ⟨qn_559, hev_560, hrq_561, hsg_562, hn3_563⟩ := hex_555
    refine W.eq (g2 := F0 m 126 ls [.null, .ref o]) rfl ?_
    have hTo := hT
    refine T_put (ci := 5) (v := .null) (ty := .object "VatHouse$Step") (t := (2, 0, 5, 0)) (C := RX5) (T := TX5) (N := 8) hx hb hts inw_X2_readBuilt_5 tyX5 tyX5_ok nmX5 hown hK hP hD hS hT 1 rfl rfl 5 (by decide) (hts (.fieldLink RX2 85 "VatHouse$Step" "block" "LVatHouse$Step;") (by decide +kernel)) (fun _ h9 => h9) rfl (by decide +kernel) rfl rfl rfl (Or.inl rfl) dX2_readBuilt_126 (fun f_564 H locs hP hD hS hT hE1 hrd_565 hup_566 => ?_)
    have hF := Fr.put (a := o) (ci := 5) hF hE ((hE1 o (hT.at 1 rfl).1).2.symm.trans (hT.at 1 rfl).2) (by decide) hrd_565 hup_566
    have hE := hE.tr hE1
    have hk_567 : rd f_564 h0 1 = .int ax_540 := ((Fr.put (cs := [(5, 5)]) (a := o) (ci := 5) Fr.rf Ext.rf (hTo.at 1 rfl).2 (by decide) hrd_565 hup_566).1 h0 (hTo.at 0 rfl).1 2 (hTo.at 0 rfl).2 1 (by decide)).trans hk_545
    have hk_568 : rd f_564 h0 2 = .int tn_541 := ((Fr.put (cs := [(5, 5)]) (a := o) (ci := 5) Fr.rf Ext.rf (hTo.at 1 rfl).2 (by decide) hrd_565 hup_566).1 h0 (hTo.at 0 rfl).1 2 (hTo.at 0 rfl).2 2 (by decide)).trans hk_546
    have hk_569 : rd f_564 h0 3 = .int fa_542 := ((Fr.put (cs := [(5, 5)]) (a := o) (ci := 5) Fr.rf Ext.rf (hTo.at 1 rfl).2 (by decide) hrd_565 hup_566).1 h0 (hTo.at 0 rfl).1 2 (hTo.at 0 rfl).2 3 (by decide)).trans hk_547
    have hk_570 : rd f_564 h0 4 = .int pw_543 := ((Fr.put (cs := [(5, 5)]) (a := o) (ci := 5) Fr.rf Ext.rf (hTo.at 1 rfl).2 (by decide) hrd_565 hup_566).1 h0 (hTo.at 0 rfl).1 2 (hTo.at 0 rfl).2 4 (by decide)).trans hk_548
    have hk_571 : rd f_564 h0 5 = .int sg_544 := ((Fr.put (cs := [(5, 5)]) (a := o) (ci := 5) Fr.rf Ext.rf (hTo.at 1 rfl).2 (by decide) hrd_565 hup_566).1 h0 (hTo.at 0 rfl).1 2 (hTo.at 0 rfl).2 5 (by decide)).trans hk_549
    have hk_572 : rd f_564 tok 3 = .int zz := ((Fr.put (cs := [(5, 5)]) (a := o) (ci := 5) Fr.rf Ext.rf (hTo.at 1 rfl).2 (by decide) hrd_565 hup_566).1 tok (hTo.at 2 rfl).1 6 (hTo.at 2 rfl).2 3 (by decide)).trans hk_556
    have hk_573 : rd f_564 o 0 = .int wd := ((Fr.put (cs := [(5, 5)]) (a := o) (ci := 5) Fr.rf Ext.rf (hTo.at 1 rfl).2 (by decide) hrd_565 hup_566).1 o (hTo.at 1 rfl).1 5 (hTo.at 1 rfl).2 0 (by decide)).trans hk_557
    refine lv_aload_n hx hb dX2_readBuilt_129 rfl (lv_at hl 0 rfl) ?_
    refine lv_aload_n hx hb dX2_readBuilt_130 rfl (lv_at hl 1 rfl) ?_
    refine T_get (ci := 5) (C := RX5) (T := TX5) (N := 8) (t := tI) hx hb hts inw_X2_readBuilt_5 hown hK hP hT 1 rfl rfl 0 (by decide) (hts (.fieldLink RX2 61 "VatHouse$Step" "word" "I") (by decide +kernel)) (fun _ h9 => h9) rfl dX2_readBuilt_131 (fun v_576 hv_574 hr_575 => ?_)
    obtain rfl : v_576 = .int wd := hr_575.symm.trans hk_573
    refine lv_bipush (v := 11) hx hb dX2_readBuilt_134 (by decide) ?_
    refine lv_icmp_ne (tgt := 144) hx hb dX2_readBuilt_136 (by decide) (fun c_577 => ?_) (fun c_577 => ?_)
    · refine lv_bipush (v := 14) hx hb dX2_readBuilt_144 (by decide) ?_
      have hTo := hT
      refine K_V ⟨hx, hb, hml, hown, hts⟩ (t_X2_pass l dC dI sa hlt g _ _ tt ln M qn_559 h0 14 tok ka sta vaa ax_540 tn_541 fa_542 pw_543 zz _ (hT.sub [0, 2, 3, 4, 5] rfl)  hk_567 hk_568 hk_569 hk_570 hk_572 ((hF.1 h0 (hT0.at 0 rfl).1 2 (hT0.at 0 rfl).2 0 (by decide)).trans h_tok) ((hF.1 tok (hT0.at 2 rfl).1 6 (hT0.at 2 rfl).2 4 (by decide)).trans h_ka) ((hF.1 tok (hT0.at 2 rfl).1 6 (hT0.at 2 rfl).2 5 (by decide)).trans h_sta) ((hF.1 tok (hT0.at 2 rfl).1 6 (hT0.at 2 rfl).2 6 (by decide)).trans h_vaa) hzz (hTK.go (hF.2 ka (hT0.at 3 rfl).1 0 _ _ (hT0.at 3 rfl).2 (by decide)) (hF.2 sta (hT0.at 4 rfl).1 0 _ _ (hT0.at 4 rfl).2 (by decide)) (hF.2 vaa (hT0.at 5 rfl).1 0 _ _ (hT0.at 5 rfl).2 (by decide))) hrq_561 (Or.inl (by decide))) (cwV 1 hts gX2_readBuilt_X2_pass rfl rfl rfl (by decide +kernel) ⟨(by first | exact Nat.le_of_ble_eq_true rfl | (simp only [rm_X2_pass, rm_X2_readBuilt]; omega)), (by first | exact Nat.le_of_ble_eq_true rfl | (simp only [rm_X2_pass, rm_X2_readBuilt]; omega))⟩) hP hD hK hS hA hev hT 0 2 rfl rfl rfl rfl hl.1 rfl (Nat.le_of_ble_eq_true rfl) dX2_readBuilt_146 ⟨(by first | exact Nat.le_of_ble_eq_true rfl | (simp only [rm_X2_readBuilt]; omega) | omega), (by first | exact Nat.le_of_ble_eq_true rfl | (simp only [rm_X2_readBuilt]; omega) | omega)⟩ (fun r L_578 f_579 H locs hw_580 hP hD hS hT hE1 => ?_)
      have hF := Fr.call hF hE hw_580.2.1 (by decide)
      have hE := hE.tr hE1
      obtain ⟨rfl, hw_580⟩ := hw_580
      obtain ⟨hfr_581, ax_582, tn_583, fa_584, pw_585, hk_586, hk_587, hk_588, hk_589, hrel_590, hrel_591, hrel_592, hrel_593, hex_594⟩ := hw_580
      have hk_595 : rd f_579 h0 5 = .int sg_544 := (hfr_581.1 h0 (hTo.at 0 rfl).1 2 (hTo.at 0 rfl).2 5 (by decide)).trans hk_571
      have hk_596 : rd f_579 tok 3 = .int zz := (hfr_581.1 tok (hTo.at 2 rfl).1 6 (hTo.at 2 rfl).2 3 (by decide)).trans hk_572
      have hk_597 : rd f_579 o 0 = .int wd := (hfr_581.1 o (hTo.at 1 rfl).1 5 (hTo.at 1 rfl).2 0 (by decide)).trans hk_573
      have hq_598 : pot fa_584 sg_544 ≤ pot fa_542 sg_544 := pot_le (fun h9 => (hrel_592 h9).1)
      have hrq_599 := hex_594
      refine W.eq (g2 := F0 m 149 ls []) rfl ?_
      refine lv_aload_n hx hb dX2_readBuilt_149 rfl (lv_at hl 1 rfl) ?_
      refine lv_aload_n hx hb dX2_readBuilt_150 rfl (lv_at hl 0 rfl) ?_
      refine lv_iload_n hx hb dX2_readBuilt_151 rfl (lv_at hl 2 rfl) ?_
      have hTo := hT
      refine K_VZ ⟨hx, hb, hml, hown, hts⟩ (t_X2_readBlock l dC dI sa hlt g _ _ j d (pot fa_584 sg_544) tt ln M (gpa (Kp tt ln) (nq tt ln) 14 qn_559) h0 dep tok ka sta vaa ax_582 tn_583 fa_584 pw_585 sg_544 zz _ (hT.sub [0, 2, 3, 4, 5] rfl)  hk_586 hk_587 hk_588 hk_589 hk_595 hk_596 ((hF.1 h0 (hT0.at 0 rfl).1 2 (hT0.at 0 rfl).2 0 (by decide)).trans h_tok) ((hF.1 tok (hT0.at 2 rfl).1 6 (hT0.at 2 rfl).2 4 (by decide)).trans h_ka) ((hF.1 tok (hT0.at 2 rfl).1 6 (hT0.at 2 rfl).2 5 (by decide)).trans h_sta) ((hF.1 tok (hT0.at 2 rfl).1 6 (hT0.at 2 rfl).2 6 (by decide)).trans h_vaa) hd hdj rfl hrel_554 hzz (hTK.go (hF.2 ka (hT0.at 3 rfl).1 0 _ _ (hT0.at 3 rfl).2 (by decide)) (hF.2 sta (hT0.at 4 rfl).1 0 _ _ (hT0.at 4 rfl).2 (by decide)) (hF.2 vaa (hT0.at 5 rfl).1 0 _ _ (hT0.at 5 rfl).2 (by decide))) hrq_599 (by first | exact ⟨hsg_562, hn3_563⟩ | (simp only [gpa_nd, gnu_nd, gpl_nd, gte_nd, gob_nd, grf_nd]; exact ⟨hsg_562, hn3_563⟩)) IHR) (cwV 1 hts gX2_readBuilt_X2_readBlock rfl rfl rfl (by decide +kernel) ⟨(by first | exact Nat.le_of_ble_eq_true rfl | (simp only [rm_X2_readBlock, rm_X2_readBuilt]; omega)), (by first | exact Nat.le_of_ble_eq_true rfl | (simp only [rm_X2_readBlock, rm_X2_readBuilt]; omega))⟩) hP hD hK hS hA hev hT 0 2 rfl rfl rfl rfl hl.1 rfl (Nat.le_of_ble_eq_true rfl) dX2_readBuilt_152 ⟨(by first | exact Nat.le_of_ble_eq_true rfl | (simp only [rm_X2_readBuilt]; omega) | omega), (by first | exact Nat.le_of_ble_eq_true rfl | (simp only [rm_X2_readBuilt]; omega) | omega)⟩ (fun r L_600 f_601 n_603 H locs hw_602 hn_604 hP hD hS hT hE1 => ?_)
      have hF := Fr.call hF hE hw_602.2.1 (by decide)
      have hE := hE.tr hE1
      obtain ⟨⟨v_605, rfl, hv9⟩, hw_602⟩ := hw_602
      rcases hv9 with rfl | ⟨b_606, rfl, hb9⟩
      · obtain ⟨hfr_607, ax_608, tn_609, fa_610, pw_611, sg_612, hk_613, hk_614, hk_615, hk_616, hk_617, hrel_618, hrel_619, hrel_620, hrel_621, hrel_622, hex_623⟩ := hw_602
        have hk_624 : rd f_601 tok 3 = .int zz := (hfr_607.1 tok (hTo.at 2 rfl).1 6 (hTo.at 2 rfl).2 3 (by decide)).trans hk_596
        have hk_625 : rd f_601 o 0 = .int wd := (hfr_607.1 o (hTo.at 1 rfl).1 5 (hTo.at 1 rfl).2 0 (by decide)).trans hk_597
        have hq_626 : n_603 + pot fa_610 sg_612 ≤ pot fa_584 sg_544 := by
          obtain ⟨a9, b9, g1, g2, g3⟩ := hn_604
          cases g1.symm.trans hk_615
          cases g2.symm.trans hk_617
          exact g3
        obtain ⟨qn_627, hev_628, hrq_629, hsg_630, hn3_631⟩ := hex_623
        refine W.eq (g2 := F0 m 155 ls [.null, .ref o]) rfl ?_
        have hTo := hT
        refine T_put (ci := 5) (v := .null) (ty := .object "VatHouse$Step") (t := (2, 0, 5, 0)) (C := RX5) (T := TX5) (N := 8) hx hb hts inw_X2_readBuilt_5 tyX5 tyX5_ok nmX5 hown hK hP hD hS hT 1 rfl rfl 6 (by decide) (hts (.fieldLink RX2 91 "VatHouse$Step" "other" "LVatHouse$Step;") (by decide +kernel)) (fun _ h9 => h9) rfl (by decide +kernel) rfl rfl rfl (Or.inl rfl) dX2_readBuilt_155 (fun f_632 H locs hP hD hS hT hE1 hrd_633 hup_634 => ?_)
        have hF := Fr.put (a := o) (ci := 5) hF hE ((hE1 o (hT.at 1 rfl).1).2.symm.trans (hT.at 1 rfl).2) (by decide) hrd_633 hup_634
        have hE := hE.tr hE1
        have hk_635 : rd f_632 h0 1 = .int ax_608 := ((Fr.put (cs := [(5, 6)]) (a := o) (ci := 5) Fr.rf Ext.rf (hTo.at 1 rfl).2 (by decide) hrd_633 hup_634).1 h0 (hTo.at 0 rfl).1 2 (hTo.at 0 rfl).2 1 (by decide)).trans hk_613
        have hk_636 : rd f_632 h0 2 = .int tn_609 := ((Fr.put (cs := [(5, 6)]) (a := o) (ci := 5) Fr.rf Ext.rf (hTo.at 1 rfl).2 (by decide) hrd_633 hup_634).1 h0 (hTo.at 0 rfl).1 2 (hTo.at 0 rfl).2 2 (by decide)).trans hk_614
        have hk_637 : rd f_632 h0 3 = .int fa_610 := ((Fr.put (cs := [(5, 6)]) (a := o) (ci := 5) Fr.rf Ext.rf (hTo.at 1 rfl).2 (by decide) hrd_633 hup_634).1 h0 (hTo.at 0 rfl).1 2 (hTo.at 0 rfl).2 3 (by decide)).trans hk_615
        have hk_638 : rd f_632 h0 4 = .int pw_611 := ((Fr.put (cs := [(5, 6)]) (a := o) (ci := 5) Fr.rf Ext.rf (hTo.at 1 rfl).2 (by decide) hrd_633 hup_634).1 h0 (hTo.at 0 rfl).1 2 (hTo.at 0 rfl).2 4 (by decide)).trans hk_616
        have hk_639 : rd f_632 h0 5 = .int sg_612 := ((Fr.put (cs := [(5, 6)]) (a := o) (ci := 5) Fr.rf Ext.rf (hTo.at 1 rfl).2 (by decide) hrd_633 hup_634).1 h0 (hTo.at 0 rfl).1 2 (hTo.at 0 rfl).2 5 (by decide)).trans hk_617
        have hk_640 : rd f_632 tok 3 = .int zz := ((Fr.put (cs := [(5, 6)]) (a := o) (ci := 5) Fr.rf Ext.rf (hTo.at 1 rfl).2 (by decide) hrd_633 hup_634).1 tok (hTo.at 2 rfl).1 6 (hTo.at 2 rfl).2 3 (by decide)).trans hk_624
        have hk_641 : rd f_632 o 0 = .int wd := ((Fr.put (cs := [(5, 6)]) (a := o) (ci := 5) Fr.rf Ext.rf (hTo.at 1 rfl).2 (by decide) hrd_633 hup_634).1 o (hTo.at 1 rfl).1 5 (hTo.at 1 rfl).2 0 (by decide)).trans hk_625
        exact K_vZ hx hb hr hlocks hP hD hK hS hT hE ⟨rfl, hF, _, _, _, _, _, hk_635, hk_636, hk_637, hk_638, hk_639, trivial, trivial, trivial, trivial, hrel_622, ⟨qn_627, Or.inr (Or.inr (Or.inr ⟨⟨c_4, c_115, c_226⟩, _, hev_560, by rw [if_neg c_577]; exact hev_628⟩)), hrq_629, (by first | exact ⟨hsg_630, hn3_631⟩ | (simp only [gpa_nd, gnu_nd, gpl_nd, gte_nd, gob_nd, grf_nd]; exact ⟨hsg_630, hn3_631⟩))⟩⟩ (⟨_, _, hk_637, hk_639, by omega⟩) (by first | exact Nat.le_of_ble_eq_true rfl | (simp only [rm_X2_readBuilt]; omega) | omega) (by first | exact Nat.le_of_ble_eq_true rfl | (simp only [rm_X2_readBuilt]; omega) | omega) (by first | exact Nat.le_of_ble_eq_true rfl | (simp only [rm_X2_readBuilt]; omega) | omega) dX2_readBuilt_158
      · have hT := hT.add hb9
        obtain ⟨hfr_642, ax_643, tn_644, fa_645, pw_646, sg_647, hk_648, hk_649, hk_650, hk_651, hk_652, hrel_653, hrel_654, hrel_655, hrel_656, hrel_657, hex_658⟩ := hw_602
        have hk_659 : rd f_601 tok 3 = .int zz := (hfr_642.1 tok (hTo.at 2 rfl).1 6 (hTo.at 2 rfl).2 3 (by decide)).trans hk_596
        have hk_660 : rd f_601 o 0 = .int wd := (hfr_642.1 o (hTo.at 1 rfl).1 5 (hTo.at 1 rfl).2 0 (by decide)).trans hk_597
        have hq_661 : n_603 + pot fa_645 sg_647 ≤ pot fa_584 sg_544 := by
          obtain ⟨a9, b9, g1, g2, g3⟩ := hn_604
          cases g1.symm.trans hk_650
          cases g2.symm.trans hk_652
          exact g3
        obtain ⟨qn_662, hev_663, hrq_664, hsg_665, hn3_666⟩ := hex_658
        refine W.eq (g2 := F0 m 155 ls [.ref b_606, .ref o]) rfl ?_
        have hTo := hT
        refine T_put (ci := 5) (v := .ref b_606) (ty := .object "VatHouse$Step") (t := (2, 0, 5, 0)) (C := RX5) (T := TX5) (N := 8) hx hb hts inw_X2_readBuilt_5 tyX5 tyX5_ok nmX5 hown hK hP hD hS hT 2 rfl rfl 6 (by decide) (hts (.fieldLink RX2 91 "VatHouse$Step" "other" "LVatHouse$Step;") (by decide +kernel)) (fun _ h9 => h9) rfl (by decide +kernel) rfl rfl rfl (Or.inr ⟨_, rfl, hT.at 0 rfl⟩) dX2_readBuilt_155 (fun f_667 H locs hP hD hS hT hE1 hrd_668 hup_669 => ?_)
        have hF := Fr.put (a := o) (ci := 5) hF hE ((hE1 o (hT.at 2 rfl).1).2.symm.trans (hT.at 2 rfl).2) (by decide) hrd_668 hup_669
        have hE := hE.tr hE1
        have hk_670 : rd f_667 h0 1 = .int ax_643 := ((Fr.put (cs := [(5, 6)]) (a := o) (ci := 5) Fr.rf Ext.rf (hTo.at 2 rfl).2 (by decide) hrd_668 hup_669).1 h0 (hTo.at 1 rfl).1 2 (hTo.at 1 rfl).2 1 (by decide)).trans hk_648
        have hk_671 : rd f_667 h0 2 = .int tn_644 := ((Fr.put (cs := [(5, 6)]) (a := o) (ci := 5) Fr.rf Ext.rf (hTo.at 2 rfl).2 (by decide) hrd_668 hup_669).1 h0 (hTo.at 1 rfl).1 2 (hTo.at 1 rfl).2 2 (by decide)).trans hk_649
        have hk_672 : rd f_667 h0 3 = .int fa_645 := ((Fr.put (cs := [(5, 6)]) (a := o) (ci := 5) Fr.rf Ext.rf (hTo.at 2 rfl).2 (by decide) hrd_668 hup_669).1 h0 (hTo.at 1 rfl).1 2 (hTo.at 1 rfl).2 3 (by decide)).trans hk_650
        have hk_673 : rd f_667 h0 4 = .int pw_646 := ((Fr.put (cs := [(5, 6)]) (a := o) (ci := 5) Fr.rf Ext.rf (hTo.at 2 rfl).2 (by decide) hrd_668 hup_669).1 h0 (hTo.at 1 rfl).1 2 (hTo.at 1 rfl).2 4 (by decide)).trans hk_651
        have hk_674 : rd f_667 h0 5 = .int sg_647 := ((Fr.put (cs := [(5, 6)]) (a := o) (ci := 5) Fr.rf Ext.rf (hTo.at 2 rfl).2 (by decide) hrd_668 hup_669).1 h0 (hTo.at 1 rfl).1 2 (hTo.at 1 rfl).2 5 (by decide)).trans hk_652
        have hk_675 : rd f_667 tok 3 = .int zz := ((Fr.put (cs := [(5, 6)]) (a := o) (ci := 5) Fr.rf Ext.rf (hTo.at 2 rfl).2 (by decide) hrd_668 hup_669).1 tok (hTo.at 3 rfl).1 6 (hTo.at 3 rfl).2 3 (by decide)).trans hk_659
        have hk_676 : rd f_667 o 0 = .int wd := ((Fr.put (cs := [(5, 6)]) (a := o) (ci := 5) Fr.rf Ext.rf (hTo.at 2 rfl).2 (by decide) hrd_668 hup_669).1 o (hTo.at 2 rfl).1 5 (hTo.at 2 rfl).2 0 (by decide)).trans hk_660
        exact K_vZ hx hb hr hlocks hP hD hK hS hT hE ⟨rfl, hF, _, _, _, _, _, hk_670, hk_671, hk_672, hk_673, hk_674, trivial, trivial, trivial, trivial, hrel_657, ⟨qn_662, Or.inr (Or.inr (Or.inr ⟨⟨c_4, c_115, c_226⟩, _, hev_560, by rw [if_neg c_577]; exact hev_663⟩)), hrq_664, (by first | exact ⟨hsg_665, hn3_666⟩ | (simp only [gpa_nd, gnu_nd, gpl_nd, gte_nd, gob_nd, grf_nd]; exact ⟨hsg_665, hn3_666⟩))⟩⟩ (⟨_, _, hk_672, hk_674, by omega⟩) (by first | exact Nat.le_of_ble_eq_true rfl | (simp only [rm_X2_readBuilt]; omega) | omega) (by first | exact Nat.le_of_ble_eq_true rfl | (simp only [rm_X2_readBuilt]; omega) | omega) (by first | exact Nat.le_of_ble_eq_true rfl | (simp only [rm_X2_readBuilt]; omega) | omega) dX2_readBuilt_158
    · refine lv_bipush (v := 13) hx hb dX2_readBuilt_139 (by decide) ?_
      refine lv_goto (tgt := 146) hx hb dX2_readBuilt_141 (by decide) ?_
      have hTo := hT
      refine K_V ⟨hx, hb, hml, hown, hts⟩ (t_X2_pass l dC dI sa hlt g _ _ tt ln M qn_559 h0 13 tok ka sta vaa ax_540 tn_541 fa_542 pw_543 zz _ (hT.sub [0, 2, 3, 4, 5] rfl)  hk_567 hk_568 hk_569 hk_570 hk_572 ((hF.1 h0 (hT0.at 0 rfl).1 2 (hT0.at 0 rfl).2 0 (by decide)).trans h_tok) ((hF.1 tok (hT0.at 2 rfl).1 6 (hT0.at 2 rfl).2 4 (by decide)).trans h_ka) ((hF.1 tok (hT0.at 2 rfl).1 6 (hT0.at 2 rfl).2 5 (by decide)).trans h_sta) ((hF.1 tok (hT0.at 2 rfl).1 6 (hT0.at 2 rfl).2 6 (by decide)).trans h_vaa) hzz (hTK.go (hF.2 ka (hT0.at 3 rfl).1 0 _ _ (hT0.at 3 rfl).2 (by decide)) (hF.2 sta (hT0.at 4 rfl).1 0 _ _ (hT0.at 4 rfl).2 (by decide)) (hF.2 vaa (hT0.at 5 rfl).1 0 _ _ (hT0.at 5 rfl).2 (by decide))) hrq_561 (Or.inl (by decide))) (cwV 1 hts gX2_readBuilt_X2_pass rfl rfl rfl (by decide +kernel) ⟨(by first | exact Nat.le_of_ble_eq_true rfl | (simp only [rm_X2_pass, rm_X2_readBuilt]; omega)), (by first | exact Nat.le_of_ble_eq_true rfl | (simp only [rm_X2_pass, rm_X2_readBuilt]; omega))⟩) hP hD hK hS hA hev hT 0 2 rfl rfl rfl rfl hl.1 rfl (Nat.le_of_ble_eq_true rfl) dX2_readBuilt_146 ⟨(by first | exact Nat.le_of_ble_eq_true rfl | (simp only [rm_X2_readBuilt]; omega) | omega), (by first | exact Nat.le_of_ble_eq_true rfl | (simp only [rm_X2_readBuilt]; omega) | omega)⟩ (fun r L_677 f_678 H locs hw_679 hP hD hS hT hE1 => ?_)
      have hF := Fr.call hF hE hw_679.2.1 (by decide)
      have hE := hE.tr hE1
      obtain ⟨rfl, hw_679⟩ := hw_679
      obtain ⟨hfr_680, ax_681, tn_682, fa_683, pw_684, hk_685, hk_686, hk_687, hk_688, hrel_689, hrel_690, hrel_691, hrel_692, hex_693⟩ := hw_679
      have hk_694 : rd f_678 h0 5 = .int sg_544 := (hfr_680.1 h0 (hTo.at 0 rfl).1 2 (hTo.at 0 rfl).2 5 (by decide)).trans hk_571
      have hk_695 : rd f_678 tok 3 = .int zz := (hfr_680.1 tok (hTo.at 2 rfl).1 6 (hTo.at 2 rfl).2 3 (by decide)).trans hk_572
      have hk_696 : rd f_678 o 0 = .int wd := (hfr_680.1 o (hTo.at 1 rfl).1 5 (hTo.at 1 rfl).2 0 (by decide)).trans hk_573
      have hq_697 : pot fa_683 sg_544 ≤ pot fa_542 sg_544 := pot_le (fun h9 => (hrel_691 h9).1)
      have hrq_698 := hex_693
      refine W.eq (g2 := F0 m 149 ls []) rfl ?_
      refine lv_aload_n hx hb dX2_readBuilt_149 rfl (lv_at hl 1 rfl) ?_
      refine lv_aload_n hx hb dX2_readBuilt_150 rfl (lv_at hl 0 rfl) ?_
      refine lv_iload_n hx hb dX2_readBuilt_151 rfl (lv_at hl 2 rfl) ?_
      have hTo := hT
      refine K_VZ ⟨hx, hb, hml, hown, hts⟩ (t_X2_readBlock l dC dI sa hlt g _ _ j d (pot fa_683 sg_544) tt ln M (gpa (Kp tt ln) (nq tt ln) 13 qn_559) h0 dep tok ka sta vaa ax_681 tn_682 fa_683 pw_684 sg_544 zz _ (hT.sub [0, 2, 3, 4, 5] rfl)  hk_685 hk_686 hk_687 hk_688 hk_694 hk_695 ((hF.1 h0 (hT0.at 0 rfl).1 2 (hT0.at 0 rfl).2 0 (by decide)).trans h_tok) ((hF.1 tok (hT0.at 2 rfl).1 6 (hT0.at 2 rfl).2 4 (by decide)).trans h_ka) ((hF.1 tok (hT0.at 2 rfl).1 6 (hT0.at 2 rfl).2 5 (by decide)).trans h_sta) ((hF.1 tok (hT0.at 2 rfl).1 6 (hT0.at 2 rfl).2 6 (by decide)).trans h_vaa) hd hdj rfl hrel_554 hzz (hTK.go (hF.2 ka (hT0.at 3 rfl).1 0 _ _ (hT0.at 3 rfl).2 (by decide)) (hF.2 sta (hT0.at 4 rfl).1 0 _ _ (hT0.at 4 rfl).2 (by decide)) (hF.2 vaa (hT0.at 5 rfl).1 0 _ _ (hT0.at 5 rfl).2 (by decide))) hrq_698 (by first | exact ⟨hsg_562, hn3_563⟩ | (simp only [gpa_nd, gnu_nd, gpl_nd, gte_nd, gob_nd, grf_nd]; exact ⟨hsg_562, hn3_563⟩)) IHR) (cwV 1 hts gX2_readBuilt_X2_readBlock rfl rfl rfl (by decide +kernel) ⟨(by first | exact Nat.le_of_ble_eq_true rfl | (simp only [rm_X2_readBlock, rm_X2_readBuilt]; omega)), (by first | exact Nat.le_of_ble_eq_true rfl | (simp only [rm_X2_readBlock, rm_X2_readBuilt]; omega))⟩) hP hD hK hS hA hev hT 0 2 rfl rfl rfl rfl hl.1 rfl (Nat.le_of_ble_eq_true rfl) dX2_readBuilt_152 ⟨(by first | exact Nat.le_of_ble_eq_true rfl | (simp only [rm_X2_readBuilt]; omega) | omega), (by first | exact Nat.le_of_ble_eq_true rfl | (simp only [rm_X2_readBuilt]; omega) | omega)⟩ (fun r L_699 f_700 n_702 H locs hw_701 hn_703 hP hD hS hT hE1 => ?_)
      have hF := Fr.call hF hE hw_701.2.1 (by decide)
      have hE := hE.tr hE1
      obtain ⟨⟨v_704, rfl, hv9⟩, hw_701⟩ := hw_701
      rcases hv9 with rfl | ⟨b_705, rfl, hb9⟩
      · obtain ⟨hfr_706, ax_707, tn_708, fa_709, pw_710, sg_711, hk_712, hk_713, hk_714, hk_715, hk_716, hrel_717, hrel_718, hrel_719, hrel_720, hrel_721, hex_722⟩ := hw_701
        have hk_723 : rd f_700 tok 3 = .int zz := (hfr_706.1 tok (hTo.at 2 rfl).1 6 (hTo.at 2 rfl).2 3 (by decide)).trans hk_695
        have hk_724 : rd f_700 o 0 = .int wd := (hfr_706.1 o (hTo.at 1 rfl).1 5 (hTo.at 1 rfl).2 0 (by decide)).trans hk_696
        have hq_725 : n_702 + pot fa_709 sg_711 ≤ pot fa_683 sg_544 := by
          obtain ⟨a9, b9, g1, g2, g3⟩ := hn_703
          cases g1.symm.trans hk_714
          cases g2.symm.trans hk_716
          exact g3
        obtain ⟨qn_726, hev_727, hrq_728, hsg_729, hn3_730⟩ := hex_722
        refine W.eq (g2 := F0 m 155 ls [.null, .ref o]) rfl ?_
        have hTo := hT
        refine T_put (ci := 5) (v := .null) (ty := .object "VatHouse$Step") (t := (2, 0, 5, 0)) (C := RX5) (T := TX5) (N := 8) hx hb hts inw_X2_readBuilt_5 tyX5 tyX5_ok nmX5 hown hK hP hD hS hT 1 rfl rfl 6 (by decide) (hts (.fieldLink RX2 91 "VatHouse$Step" "other" "LVatHouse$Step;") (by decide +kernel)) (fun _ h9 => h9) rfl (by decide +kernel) rfl rfl rfl (Or.inl rfl) dX2_readBuilt_155 (fun f_731 H locs hP hD hS hT hE1 hrd_732 hup_733 => ?_)
        have hF := Fr.put (a := o) (ci := 5) hF hE ((hE1 o (hT.at 1 rfl).1).2.symm.trans (hT.at 1 rfl).2) (by decide) hrd_732 hup_733
        have hE := hE.tr hE1
        have hk_734 : rd f_731 h0 1 = .int ax_707 := ((Fr.put (cs := [(5, 6)]) (a := o) (ci := 5) Fr.rf Ext.rf (hTo.at 1 rfl).2 (by decide) hrd_732 hup_733).1 h0 (hTo.at 0 rfl).1 2 (hTo.at 0 rfl).2 1 (by decide)).trans hk_712
        have hk_735 : rd f_731 h0 2 = .int tn_708 := ((Fr.put (cs := [(5, 6)]) (a := o) (ci := 5) Fr.rf Ext.rf (hTo.at 1 rfl).2 (by decide) hrd_732 hup_733).1 h0 (hTo.at 0 rfl).1 2 (hTo.at 0 rfl).2 2 (by decide)).trans hk_713
        have hk_736 : rd f_731 h0 3 = .int fa_709 := ((Fr.put (cs := [(5, 6)]) (a := o) (ci := 5) Fr.rf Ext.rf (hTo.at 1 rfl).2 (by decide) hrd_732 hup_733).1 h0 (hTo.at 0 rfl).1 2 (hTo.at 0 rfl).2 3 (by decide)).trans hk_714
        have hk_737 : rd f_731 h0 4 = .int pw_710 := ((Fr.put (cs := [(5, 6)]) (a := o) (ci := 5) Fr.rf Ext.rf (hTo.at 1 rfl).2 (by decide) hrd_732 hup_733).1 h0 (hTo.at 0 rfl).1 2 (hTo.at 0 rfl).2 4 (by decide)).trans hk_715
        have hk_738 : rd f_731 h0 5 = .int sg_711 := ((Fr.put (cs := [(5, 6)]) (a := o) (ci := 5) Fr.rf Ext.rf (hTo.at 1 rfl).2 (by decide) hrd_732 hup_733).1 h0 (hTo.at 0 rfl).1 2 (hTo.at 0 rfl).2 5 (by decide)).trans hk_716
        have hk_739 : rd f_731 tok 3 = .int zz := ((Fr.put (cs := [(5, 6)]) (a := o) (ci := 5) Fr.rf Ext.rf (hTo.at 1 rfl).2 (by decide) hrd_732 hup_733).1 tok (hTo.at 2 rfl).1 6 (hTo.at 2 rfl).2 3 (by decide)).trans hk_723
        have hk_740 : rd f_731 o 0 = .int wd := ((Fr.put (cs := [(5, 6)]) (a := o) (ci := 5) Fr.rf Ext.rf (hTo.at 1 rfl).2 (by decide) hrd_732 hup_733).1 o (hTo.at 1 rfl).1 5 (hTo.at 1 rfl).2 0 (by decide)).trans hk_724
        exact K_vZ hx hb hr hlocks hP hD hK hS hT hE ⟨rfl, hF, _, _, _, _, _, hk_734, hk_735, hk_736, hk_737, hk_738, trivial, trivial, trivial, trivial, hrel_721, ⟨qn_726, Or.inr (Or.inr (Or.inr ⟨⟨c_4, c_115, c_226⟩, _, hev_560, by rw [if_pos c_577]; exact hev_727⟩)), hrq_728, (by first | exact ⟨hsg_729, hn3_730⟩ | (simp only [gpa_nd, gnu_nd, gpl_nd, gte_nd, gob_nd, grf_nd]; exact ⟨hsg_729, hn3_730⟩))⟩⟩ (⟨_, _, hk_736, hk_738, by omega⟩) (by first | exact Nat.le_of_ble_eq_true rfl | (simp only [rm_X2_readBuilt]; omega) | omega) (by first | exact Nat.le_of_ble_eq_true rfl | (simp only [rm_X2_readBuilt]; omega) | omega) (by first | exact Nat.le_of_ble_eq_true rfl | (simp only [rm_X2_readBuilt]; omega) | omega) dX2_readBuilt_158
      · have hT := hT.add hb9
        obtain ⟨hfr_741, ax_742, tn_743, fa_744, pw_745, sg_746, hk_747, hk_748, hk_749, hk_750, hk_751, hrel_752, hrel_753, hrel_754, hrel_755, hrel_756, hex_757⟩ := hw_701
        have hk_758 : rd f_700 tok 3 = .int zz := (hfr_741.1 tok (hTo.at 2 rfl).1 6 (hTo.at 2 rfl).2 3 (by decide)).trans hk_695
        have hk_759 : rd f_700 o 0 = .int wd := (hfr_741.1 o (hTo.at 1 rfl).1 5 (hTo.at 1 rfl).2 0 (by decide)).trans hk_696
        have hq_760 : n_702 + pot fa_744 sg_746 ≤ pot fa_683 sg_544 := by
          obtain ⟨a9, b9, g1, g2, g3⟩ := hn_703
          cases g1.symm.trans hk_749
          cases g2.symm.trans hk_751
          exact g3
        obtain ⟨qn_761, hev_762, hrq_763, hsg_764, hn3_765⟩ := hex_757
        refine W.eq (g2 := F0 m 155 ls [.ref b_705, .ref o]) rfl ?_
        have hTo := hT
        refine T_put (ci := 5) (v := .ref b_705) (ty := .object "VatHouse$Step") (t := (2, 0, 5, 0)) (C := RX5) (T := TX5) (N := 8) hx hb hts inw_X2_readBuilt_5 tyX5 tyX5_ok nmX5 hown hK hP hD hS hT 2 rfl rfl 6 (by decide) (hts (.fieldLink RX2 91 "VatHouse$Step" "other" "LVatHouse$Step;") (by decide +kernel)) (fun _ h9 => h9) rfl (by decide +kernel) rfl rfl rfl (Or.inr ⟨_, rfl, hT.at 0 rfl⟩) dX2_readBuilt_155 (fun f_766 H locs hP hD hS hT hE1 hrd_767 hup_768 => ?_)
        have hF := Fr.put (a := o) (ci := 5) hF hE ((hE1 o (hT.at 2 rfl).1).2.symm.trans (hT.at 2 rfl).2) (by decide) hrd_767 hup_768
        have hE := hE.tr hE1
        have hk_769 : rd f_766 h0 1 = .int ax_742 := ((Fr.put (cs := [(5, 6)]) (a := o) (ci := 5) Fr.rf Ext.rf (hTo.at 2 rfl).2 (by decide) hrd_767 hup_768).1 h0 (hTo.at 1 rfl).1 2 (hTo.at 1 rfl).2 1 (by decide)).trans hk_747
        have hk_770 : rd f_766 h0 2 = .int tn_743 := ((Fr.put (cs := [(5, 6)]) (a := o) (ci := 5) Fr.rf Ext.rf (hTo.at 2 rfl).2 (by decide) hrd_767 hup_768).1 h0 (hTo.at 1 rfl).1 2 (hTo.at 1 rfl).2 2 (by decide)).trans hk_748
        have hk_771 : rd f_766 h0 3 = .int fa_744 := ((Fr.put (cs := [(5, 6)]) (a := o) (ci := 5) Fr.rf Ext.rf (hTo.at 2 rfl).2 (by decide) hrd_767 hup_768).1 h0 (hTo.at 1 rfl).1 2 (hTo.at 1 rfl).2 3 (by decide)).trans hk_749
        have hk_772 : rd f_766 h0 4 = .int pw_745 := ((Fr.put (cs := [(5, 6)]) (a := o) (ci := 5) Fr.rf Ext.rf (hTo.at 2 rfl).2 (by decide) hrd_767 hup_768).1 h0 (hTo.at 1 rfl).1 2 (hTo.at 1 rfl).2 4 (by decide)).trans hk_750
        have hk_773 : rd f_766 h0 5 = .int sg_746 := ((Fr.put (cs := [(5, 6)]) (a := o) (ci := 5) Fr.rf Ext.rf (hTo.at 2 rfl).2 (by decide) hrd_767 hup_768).1 h0 (hTo.at 1 rfl).1 2 (hTo.at 1 rfl).2 5 (by decide)).trans hk_751
        have hk_774 : rd f_766 tok 3 = .int zz := ((Fr.put (cs := [(5, 6)]) (a := o) (ci := 5) Fr.rf Ext.rf (hTo.at 2 rfl).2 (by decide) hrd_767 hup_768).1 tok (hTo.at 3 rfl).1 6 (hTo.at 3 rfl).2 3 (by decide)).trans hk_758
        have hk_775 : rd f_766 o 0 = .int wd := ((Fr.put (cs := [(5, 6)]) (a := o) (ci := 5) Fr.rf Ext.rf (hTo.at 2 rfl).2 (by decide) hrd_767 hup_768).1 o (hTo.at 2 rfl).1 5 (hTo.at 2 rfl).2 0 (by decide)).trans hk_759
        exact K_vZ hx hb hr hlocks hP hD hK hS hT hE ⟨rfl, hF, _, _, _, _, _, hk_769, hk_770, hk_771, hk_772, hk_773, trivial, trivial, trivial, trivial, hrel_756, ⟨qn_761, Or.inr (Or.inr (Or.inr ⟨⟨c_4, c_115, c_226⟩, _, hev_560, by rw [if_pos c_577]; exact hev_762⟩)), hrq_763, (by first | exact ⟨hsg_764, hn3_765⟩ | (simp only [gpa_nd, gnu_nd, gpl_nd, gte_nd, gob_nd, grf_nd]; exact ⟨hsg_764, hn3_765⟩))⟩⟩ (⟨_, _, hk_771, hk_773, by omega⟩) (by first | exact Nat.le_of_ble_eq_true rfl | (simp only [rm_X2_readBuilt]; omega) | omega) (by first | exact Nat.le_of_ble_eq_true rfl | (simp only [rm_X2_readBuilt]; omega) | omega) (by first | exact Nat.le_of_ble_eq_true rfl | (simp only [rm_X2_readBuilt]; omega) | omega) dX2_readBuilt_158
  · have hT := hT.add hb9
    obtain ⟨hfr_776, ax_777, tn_778, fa_779, pw_780, sg_781, hk_782, hk_783, hk_784, hk_785, hk_786, hrel_787, hrel_788, hrel_789, hrel_790, hrel_791, hex_792⟩ := hw_534
    have hk_793 : rd f_533 tok 3 = .int zz := (hfr_776.1 tok (hTo.at 2 rfl).1 6 (hTo.at 2 rfl).2 3 (by decide)).trans hm_zz
    have hk_794 : rd f_533 o 0 = .int wd := (hfr_776.1 o (hTo.at 1 rfl).1 5 (hTo.at 1 rfl).2 0 (by decide)).trans hm_wd
    have hq_795 : n_535 + pot fa_779 sg_781 ≤ pot fa sg := by
      obtain ⟨a9, b9, g1, g2, g3⟩ := hn_536
      cases g1.symm.trans hk_784
      cases g2.symm.trans hk_786
      exact g3
    obtain ⟨qn_796, hev_797, hrq_798, hsg_799, hn3_800⟩ := hex_792
    refine W.eq (g2 := F0 m 126 ls [.ref b_538, .ref o]) rfl ?_
    have hTo := hT
    refine T_put (ci := 5) (v := .ref b_538) (ty := .object "VatHouse$Step") (t := (2, 0, 5, 0)) (C := RX5) (T := TX5) (N := 8) hx hb hts inw_X2_readBuilt_5 tyX5 tyX5_ok nmX5 hown hK hP hD hS hT 2 rfl rfl 5 (by decide) (hts (.fieldLink RX2 85 "VatHouse$Step" "block" "LVatHouse$Step;") (by decide +kernel)) (fun _ h9 => h9) rfl (by decide +kernel) rfl rfl rfl (Or.inr ⟨_, rfl, hT.at 0 rfl⟩) dX2_readBuilt_126 (fun f_801 H locs hP hD hS hT hE1 hrd_802 hup_803 => ?_)
    have hF := Fr.put (a := o) (ci := 5) hF hE ((hE1 o (hT.at 2 rfl).1).2.symm.trans (hT.at 2 rfl).2) (by decide) hrd_802 hup_803
    have hE := hE.tr hE1
    have hk_804 : rd f_801 h0 1 = .int ax_777 := ((Fr.put (cs := [(5, 5)]) (a := o) (ci := 5) Fr.rf Ext.rf (hTo.at 2 rfl).2 (by decide) hrd_802 hup_803).1 h0 (hTo.at 1 rfl).1 2 (hTo.at 1 rfl).2 1 (by decide)).trans hk_782
    have hk_805 : rd f_801 h0 2 = .int tn_778 := ((Fr.put (cs := [(5, 5)]) (a := o) (ci := 5) Fr.rf Ext.rf (hTo.at 2 rfl).2 (by decide) hrd_802 hup_803).1 h0 (hTo.at 1 rfl).1 2 (hTo.at 1 rfl).2 2 (by decide)).trans hk_783
    have hk_806 : rd f_801 h0 3 = .int fa_779 := ((Fr.put (cs := [(5, 5)]) (a := o) (ci := 5) Fr.rf Ext.rf (hTo.at 2 rfl).2 (by decide) hrd_802 hup_803).1 h0 (hTo.at 1 rfl).1 2 (hTo.at 1 rfl).2 3 (by decide)).trans hk_784
    have hk_807 : rd f_801 h0 4 = .int pw_780 := ((Fr.put (cs := [(5, 5)]) (a := o) (ci := 5) Fr.rf Ext.rf (hTo.at 2 rfl).2 (by decide) hrd_802 hup_803).1 h0 (hTo.at 1 rfl).1 2 (hTo.at 1 rfl).2 4 (by decide)).trans hk_785
    have hk_808 : rd f_801 h0 5 = .int sg_781 := ((Fr.put (cs := [(5, 5)]) (a := o) (ci := 5) Fr.rf Ext.rf (hTo.at 2 rfl).2 (by decide) hrd_802 hup_803).1 h0 (hTo.at 1 rfl).1 2 (hTo.at 1 rfl).2 5 (by decide)).trans hk_786
    have hk_809 : rd f_801 tok 3 = .int zz := ((Fr.put (cs := [(5, 5)]) (a := o) (ci := 5) Fr.rf Ext.rf (hTo.at 2 rfl).2 (by decide) hrd_802 hup_803).1 tok (hTo.at 3 rfl).1 6 (hTo.at 3 rfl).2 3 (by decide)).trans hk_793
    have hk_810 : rd f_801 o 0 = .int wd := ((Fr.put (cs := [(5, 5)]) (a := o) (ci := 5) Fr.rf Ext.rf (hTo.at 2 rfl).2 (by decide) hrd_802 hup_803).1 o (hTo.at 2 rfl).1 5 (hTo.at 2 rfl).2 0 (by decide)).trans hk_794
    refine lv_aload_n hx hb dX2_readBuilt_129 rfl (lv_at hl 0 rfl) ?_
    refine lv_aload_n hx hb dX2_readBuilt_130 rfl (lv_at hl 1 rfl) ?_
    refine T_get (ci := 5) (C := RX5) (T := TX5) (N := 8) (t := tI) hx hb hts inw_X2_readBuilt_5 hown hK hP hT 2 rfl rfl 0 (by decide) (hts (.fieldLink RX2 61 "VatHouse$Step" "word" "I") (by decide +kernel)) (fun _ h9 => h9) rfl dX2_readBuilt_131 (fun v_813 hv_811 hr_812 => ?_)
    obtain rfl : v_813 = .int wd := hr_812.symm.trans hk_810
    refine lv_bipush (v := 11) hx hb dX2_readBuilt_134 (by decide) ?_
    refine lv_icmp_ne (tgt := 144) hx hb dX2_readBuilt_136 (by decide) (fun c_814 => ?_) (fun c_814 => ?_)
    · refine lv_bipush (v := 14) hx hb dX2_readBuilt_144 (by decide) ?_
      have hTo := hT
      refine K_V ⟨hx, hb, hml, hown, hts⟩ (t_X2_pass l dC dI sa hlt g _ _ tt ln M qn_796 h0 14 tok ka sta vaa ax_777 tn_778 fa_779 pw_780 zz _ (hT.sub [1, 3, 4, 5, 6] rfl)  hk_804 hk_805 hk_806 hk_807 hk_809 ((hF.1 h0 (hT0.at 0 rfl).1 2 (hT0.at 0 rfl).2 0 (by decide)).trans h_tok) ((hF.1 tok (hT0.at 2 rfl).1 6 (hT0.at 2 rfl).2 4 (by decide)).trans h_ka) ((hF.1 tok (hT0.at 2 rfl).1 6 (hT0.at 2 rfl).2 5 (by decide)).trans h_sta) ((hF.1 tok (hT0.at 2 rfl).1 6 (hT0.at 2 rfl).2 6 (by decide)).trans h_vaa) hzz (hTK.go (hF.2 ka (hT0.at 3 rfl).1 0 _ _ (hT0.at 3 rfl).2 (by decide)) (hF.2 sta (hT0.at 4 rfl).1 0 _ _ (hT0.at 4 rfl).2 (by decide)) (hF.2 vaa (hT0.at 5 rfl).1 0 _ _ (hT0.at 5 rfl).2 (by decide))) hrq_798 (Or.inl (by decide))) (cwV 1 hts gX2_readBuilt_X2_pass rfl rfl rfl (by decide +kernel) ⟨(by first | exact Nat.le_of_ble_eq_true rfl | (simp only [rm_X2_pass, rm_X2_readBuilt]; omega)), (by first | exact Nat.le_of_ble_eq_true rfl | (simp only [rm_X2_pass, rm_X2_readBuilt]; omega))⟩) hP hD hK hS hA hev hT 1 2 rfl rfl rfl rfl hl.1 rfl (Nat.le_of_ble_eq_true rfl) dX2_readBuilt_146 ⟨(by first | exact Nat.le_of_ble_eq_true rfl | (simp only [rm_X2_readBuilt]; omega) | omega), (by first | exact Nat.le_of_ble_eq_true rfl | (simp only [rm_X2_readBuilt]; omega) | omega)⟩ (fun r L_815 f_816 H locs hw_817 hP hD hS hT hE1 => ?_)
      have hF := Fr.call hF hE hw_817.2.1 (by decide)
      have hE := hE.tr hE1
      obtain ⟨rfl, hw_817⟩ := hw_817
      obtain ⟨hfr_818, ax_819, tn_820, fa_821, pw_822, hk_823, hk_824, hk_825, hk_826, hrel_827, hrel_828, hrel_829, hrel_830, hex_831⟩ := hw_817
      have hk_832 : rd f_816 h0 5 = .int sg_781 := (hfr_818.1 h0 (hTo.at 1 rfl).1 2 (hTo.at 1 rfl).2 5 (by decide)).trans hk_808
      have hk_833 : rd f_816 tok 3 = .int zz := (hfr_818.1 tok (hTo.at 3 rfl).1 6 (hTo.at 3 rfl).2 3 (by decide)).trans hk_809
      have hk_834 : rd f_816 o 0 = .int wd := (hfr_818.1 o (hTo.at 2 rfl).1 5 (hTo.at 2 rfl).2 0 (by decide)).trans hk_810
      have hq_835 : pot fa_821 sg_781 ≤ pot fa_779 sg_781 := pot_le (fun h9 => (hrel_829 h9).1)
      have hrq_836 := hex_831
      refine W.eq (g2 := F0 m 149 ls []) rfl ?_
      refine lv_aload_n hx hb dX2_readBuilt_149 rfl (lv_at hl 1 rfl) ?_
      refine lv_aload_n hx hb dX2_readBuilt_150 rfl (lv_at hl 0 rfl) ?_
      refine lv_iload_n hx hb dX2_readBuilt_151 rfl (lv_at hl 2 rfl) ?_
      have hTo := hT
      refine K_VZ ⟨hx, hb, hml, hown, hts⟩ (t_X2_readBlock l dC dI sa hlt g _ _ j d (pot fa_821 sg_781) tt ln M (gpa (Kp tt ln) (nq tt ln) 14 qn_796) h0 dep tok ka sta vaa ax_819 tn_820 fa_821 pw_822 sg_781 zz _ (hT.sub [1, 3, 4, 5, 6] rfl)  hk_823 hk_824 hk_825 hk_826 hk_832 hk_833 ((hF.1 h0 (hT0.at 0 rfl).1 2 (hT0.at 0 rfl).2 0 (by decide)).trans h_tok) ((hF.1 tok (hT0.at 2 rfl).1 6 (hT0.at 2 rfl).2 4 (by decide)).trans h_ka) ((hF.1 tok (hT0.at 2 rfl).1 6 (hT0.at 2 rfl).2 5 (by decide)).trans h_sta) ((hF.1 tok (hT0.at 2 rfl).1 6 (hT0.at 2 rfl).2 6 (by decide)).trans h_vaa) hd hdj rfl hrel_791 hzz (hTK.go (hF.2 ka (hT0.at 3 rfl).1 0 _ _ (hT0.at 3 rfl).2 (by decide)) (hF.2 sta (hT0.at 4 rfl).1 0 _ _ (hT0.at 4 rfl).2 (by decide)) (hF.2 vaa (hT0.at 5 rfl).1 0 _ _ (hT0.at 5 rfl).2 (by decide))) hrq_836 (by first | exact ⟨hsg_799, hn3_800⟩ | (simp only [gpa_nd, gnu_nd, gpl_nd, gte_nd, gob_nd, grf_nd]; exact ⟨hsg_799, hn3_800⟩)) IHR) (cwV 1 hts gX2_readBuilt_X2_readBlock rfl rfl rfl (by decide +kernel) ⟨(by first | exact Nat.le_of_ble_eq_true rfl | (simp only [rm_X2_readBlock, rm_X2_readBuilt]; omega)), (by first | exact Nat.le_of_ble_eq_true rfl | (simp only [rm_X2_readBlock, rm_X2_readBuilt]; omega))⟩) hP hD hK hS hA hev hT 1 2 rfl rfl rfl rfl hl.1 rfl (Nat.le_of_ble_eq_true rfl) dX2_readBuilt_152 ⟨(by first | exact Nat.le_of_ble_eq_true rfl | (simp only [rm_X2_readBuilt]; omega) | omega), (by first | exact Nat.le_of_ble_eq_true rfl | (simp only [rm_X2_readBuilt]; omega) | omega)⟩ (fun r L_837 f_838 n_840 H locs hw_839 hn_841 hP hD hS hT hE1 => ?_)
      have hF := Fr.call hF hE hw_839.2.1 (by decide)
      have hE := hE.tr hE1
      obtain ⟨⟨v_842, rfl, hv9⟩, hw_839⟩ := hw_839
      rcases hv9 with rfl | ⟨b_843, rfl, hb9⟩
      · obtain ⟨hfr_844, ax_845, tn_846, fa_847, pw_848, sg_849, hk_850, hk_851, hk_852, hk_853, hk_854, hrel_855, hrel_856, hrel_857, hrel_858, hrel_859, hex_860⟩ := hw_839
        have hk_861 : rd f_838 tok 3 = .int zz := (hfr_844.1 tok (hTo.at 3 rfl).1 6 (hTo.at 3 rfl).2 3 (by decide)).trans hk_833
        have hk_862 : rd f_838 o 0 = .int wd := (hfr_844.1 o (hTo.at 2 rfl).1 5 (hTo.at 2 rfl).2 0 (by decide)).trans hk_834
        have hq_863 : n_840 + pot fa_847 sg_849 ≤ pot fa_821 sg_781 := by
          obtain ⟨a9, b9, g1, g2, g3⟩ := hn_841
          cases g1.symm.trans hk_852
          cases g2.symm.trans hk_854
          exact g3
        obtain ⟨qn_864, hev_865, hrq_866, hsg_867, hn3_868⟩ := hex_860
        refine W.eq (g2 := F0 m 155 ls [.null, .ref o]) rfl ?_
        have hTo := hT
        refine T_put (ci := 5) (v := .null) (ty := .object "VatHouse$Step") (t := (2, 0, 5, 0)) (C := RX5) (T := TX5) (N := 8) hx hb hts inw_X2_readBuilt_5 tyX5 tyX5_ok nmX5 hown hK hP hD hS hT 2 rfl rfl 6 (by decide) (hts (.fieldLink RX2 91 "VatHouse$Step" "other" "LVatHouse$Step;") (by decide +kernel)) (fun _ h9 => h9) rfl (by decide +kernel) rfl rfl rfl (Or.inl rfl) dX2_readBuilt_155 (fun f_869 H locs hP hD hS hT hE1 hrd_870 hup_871 => ?_)
        have hF := Fr.put (a := o) (ci := 5) hF hE ((hE1 o (hT.at 2 rfl).1).2.symm.trans (hT.at 2 rfl).2) (by decide) hrd_870 hup_871
        have hE := hE.tr hE1
        have hk_872 : rd f_869 h0 1 = .int ax_845 := ((Fr.put (cs := [(5, 6)]) (a := o) (ci := 5) Fr.rf Ext.rf (hTo.at 2 rfl).2 (by decide) hrd_870 hup_871).1 h0 (hTo.at 1 rfl).1 2 (hTo.at 1 rfl).2 1 (by decide)).trans hk_850
        have hk_873 : rd f_869 h0 2 = .int tn_846 := ((Fr.put (cs := [(5, 6)]) (a := o) (ci := 5) Fr.rf Ext.rf (hTo.at 2 rfl).2 (by decide) hrd_870 hup_871).1 h0 (hTo.at 1 rfl).1 2 (hTo.at 1 rfl).2 2 (by decide)).trans hk_851
        have hk_874 : rd f_869 h0 3 = .int fa_847 := ((Fr.put (cs := [(5, 6)]) (a := o) (ci := 5) Fr.rf Ext.rf (hTo.at 2 rfl).2 (by decide) hrd_870 hup_871).1 h0 (hTo.at 1 rfl).1 2 (hTo.at 1 rfl).2 3 (by decide)).trans hk_852
        have hk_875 : rd f_869 h0 4 = .int pw_848 := ((Fr.put (cs := [(5, 6)]) (a := o) (ci := 5) Fr.rf Ext.rf (hTo.at 2 rfl).2 (by decide) hrd_870 hup_871).1 h0 (hTo.at 1 rfl).1 2 (hTo.at 1 rfl).2 4 (by decide)).trans hk_853
        have hk_876 : rd f_869 h0 5 = .int sg_849 := ((Fr.put (cs := [(5, 6)]) (a := o) (ci := 5) Fr.rf Ext.rf (hTo.at 2 rfl).2 (by decide) hrd_870 hup_871).1 h0 (hTo.at 1 rfl).1 2 (hTo.at 1 rfl).2 5 (by decide)).trans hk_854
        have hk_877 : rd f_869 tok 3 = .int zz := ((Fr.put (cs := [(5, 6)]) (a := o) (ci := 5) Fr.rf Ext.rf (hTo.at 2 rfl).2 (by decide) hrd_870 hup_871).1 tok (hTo.at 3 rfl).1 6 (hTo.at 3 rfl).2 3 (by decide)).trans hk_861
        have hk_878 : rd f_869 o 0 = .int wd := ((Fr.put (cs := [(5, 6)]) (a := o) (ci := 5) Fr.rf Ext.rf (hTo.at 2 rfl).2 (by decide) hrd_870 hup_871).1 o (hTo.at 2 rfl).1 5 (hTo.at 2 rfl).2 0 (by decide)).trans hk_862
        exact K_vZ hx hb hr hlocks hP hD hK hS hT hE ⟨rfl, hF, _, _, _, _, _, hk_872, hk_873, hk_874, hk_875, hk_876, trivial, trivial, trivial, trivial, hrel_859, ⟨qn_864, Or.inr (Or.inr (Or.inr ⟨⟨c_4, c_115, c_226⟩, _, hev_797, by rw [if_neg c_814]; exact hev_865⟩)), hrq_866, (by first | exact ⟨hsg_867, hn3_868⟩ | (simp only [gpa_nd, gnu_nd, gpl_nd, gte_nd, gob_nd, grf_nd]; exact ⟨hsg_867, hn3_868⟩))⟩⟩ (⟨_, _, hk_874, hk_876, by omega⟩) (by first | exact Nat.le_of_ble_eq_true rfl | (simp only [rm_X2_readBuilt]; omega) | omega) (by first | exact Nat.le_of_ble_eq_true rfl | (simp only [rm_X2_readBuilt]; omega) | omega) (by first | exact Nat.le_of_ble_eq_true rfl | (simp only [rm_X2_readBuilt]; omega) | omega) dX2_readBuilt_158
      · have hT := hT.add hb9
        obtain ⟨hfr_879, ax_880, tn_881, fa_882, pw_883, sg_884, hk_885, hk_886, hk_887, hk_888, hk_889, hrel_890, hrel_891, hrel_892, hrel_893, hrel_894, hex_895⟩ := hw_839
        have hk_896 : rd f_838 tok 3 = .int zz := (hfr_879.1 tok (hTo.at 3 rfl).1 6 (hTo.at 3 rfl).2 3 (by decide)).trans hk_833
        have hk_897 : rd f_838 o 0 = .int wd := (hfr_879.1 o (hTo.at 2 rfl).1 5 (hTo.at 2 rfl).2 0 (by decide)).trans hk_834
        have hq_898 : n_840 + pot fa_882 sg_884 ≤ pot fa_821 sg_781 := by
          obtain ⟨a9, b9, g1, g2, g3⟩ := hn_841
          cases g1.symm.trans hk_887
          cases g2.symm.trans hk_889
          exact g3
        obtain ⟨qn_899, hev_900, hrq_901, hsg_902, hn3_903⟩ := hex_895
        refine W.eq (g2 := F0 m 155 ls [.ref b_843, .ref o]) rfl ?_
        have hTo := hT
        refine T_put (ci := 5) (v := .ref b_843) (ty := .object "VatHouse$Step") (t := (2, 0, 5, 0)) (C := RX5) (T := TX5) (N := 8) hx hb hts inw_X2_readBuilt_5 tyX5 tyX5_ok nmX5 hown hK hP hD hS hT 3 rfl rfl 6 (by decide) (hts (.fieldLink RX2 91 "VatHouse$Step" "other" "LVatHouse$Step;") (by decide +kernel)) (fun _ h9 => h9) rfl (by decide +kernel) rfl rfl rfl (Or.inr ⟨_, rfl, hT.at 0 rfl⟩) dX2_readBuilt_155 (fun f_904 H locs hP hD hS hT hE1 hrd_905 hup_906 => ?_)
        have hF := Fr.put (a := o) (ci := 5) hF hE ((hE1 o (hT.at 3 rfl).1).2.symm.trans (hT.at 3 rfl).2) (by decide) hrd_905 hup_906
        have hE := hE.tr hE1
        have hk_907 : rd f_904 h0 1 = .int ax_880 := ((Fr.put (cs := [(5, 6)]) (a := o) (ci := 5) Fr.rf Ext.rf (hTo.at 3 rfl).2 (by decide) hrd_905 hup_906).1 h0 (hTo.at 2 rfl).1 2 (hTo.at 2 rfl).2 1 (by decide)).trans hk_885
        have hk_908 : rd f_904 h0 2 = .int tn_881 := ((Fr.put (cs := [(5, 6)]) (a := o) (ci := 5) Fr.rf Ext.rf (hTo.at 3 rfl).2 (by decide) hrd_905 hup_906).1 h0 (hTo.at 2 rfl).1 2 (hTo.at 2 rfl).2 2 (by decide)).trans hk_886
        have hk_909 : rd f_904 h0 3 = .int fa_882 := ((Fr.put (cs := [(5, 6)]) (a := o) (ci := 5) Fr.rf Ext.rf (hTo.at 3 rfl).2 (by decide) hrd_905 hup_906).1 h0 (hTo.at 2 rfl).1 2 (hTo.at 2 rfl).2 3 (by decide)).trans hk_887
        have hk_910 : rd f_904 h0 4 = .int pw_883 := ((Fr.put (cs := [(5, 6)]) (a := o) (ci := 5) Fr.rf Ext.rf (hTo.at 3 rfl).2 (by decide) hrd_905 hup_906).1 h0 (hTo.at 2 rfl).1 2 (hTo.at 2 rfl).2 4 (by decide)).trans hk_888
        have hk_911 : rd f_904 h0 5 = .int sg_884 := ((Fr.put (cs := [(5, 6)]) (a := o) (ci := 5) Fr.rf Ext.rf (hTo.at 3 rfl).2 (by decide) hrd_905 hup_906).1 h0 (hTo.at 2 rfl).1 2 (hTo.at 2 rfl).2 5 (by decide)).trans hk_889
        have hk_912 : rd f_904 tok 3 = .int zz := ((Fr.put (cs := [(5, 6)]) (a := o) (ci := 5) Fr.rf Ext.rf (hTo.at 3 rfl).2 (by decide) hrd_905 hup_906).1 tok (hTo.at 4 rfl).1 6 (hTo.at 4 rfl).2 3 (by decide)).trans hk_896
        have hk_913 : rd f_904 o 0 = .int wd := ((Fr.put (cs := [(5, 6)]) (a := o) (ci := 5) Fr.rf Ext.rf (hTo.at 3 rfl).2 (by decide) hrd_905 hup_906).1 o (hTo.at 3 rfl).1 5 (hTo.at 3 rfl).2 0 (by decide)).trans hk_897
        exact K_vZ hx hb hr hlocks hP hD hK hS hT hE ⟨rfl, hF, _, _, _, _, _, hk_907, hk_908, hk_909, hk_910, hk_911, trivial, trivial, trivial, trivial, hrel_894, ⟨qn_899, Or.inr (Or.inr (Or.inr ⟨⟨c_4, c_115, c_226⟩, _, hev_797, by rw [if_neg c_814]; exact hev_900⟩)), hrq_901, (by first | exact ⟨hsg_902, hn3_903⟩ | (simp only [gpa_nd, gnu_nd, gpl_nd, gte_nd, gob_nd, grf_nd]; exact ⟨hsg_902, hn3_903⟩))⟩⟩ (⟨_, _, hk_909, hk_911, by omega⟩) (by first | exact Nat.le_of_ble_eq_true rfl | (simp only [rm_X2_readBuilt]; omega) | omega) (by first | exact Nat.le_of_ble_eq_true rfl | (simp only [rm_X2_readBuilt]; omega) | omega) (by first | exact Nat.le_of_ble_eq_true rfl | (simp only [rm_X2_readBuilt]; omega) | omega) dX2_readBuilt_158
    · refine lv_bipush (v := 13) hx hb dX2_readBuilt_139 (by decide) ?_
      refine lv_goto (tgt := 146) hx hb dX2_readBuilt_141 (by decide) ?_
      have hTo := hT
      refine K_V ⟨hx, hb, hml, hown, hts⟩ (t_X2_pass l dC dI sa hlt g _ _ tt ln M qn_796 h0 13 tok ka sta vaa ax_777 tn_778 fa_779 pw_780 zz _ (hT.sub [1, 3, 4, 5, 6] rfl)  hk_804 hk_805 hk_806 hk_807 hk_809 ((hF.1 h0 (hT0.at 0 rfl).1 2 (hT0.at 0 rfl).2 0 (by decide)).trans h_tok) ((hF.1 tok (hT0.at 2 rfl).1 6 (hT0.at 2 rfl).2 4 (by decide)).trans h_ka) ((hF.1 tok (hT0.at 2 rfl).1 6 (hT0.at 2 rfl).2 5 (by decide)).trans h_sta) ((hF.1 tok (hT0.at 2 rfl).1 6 (hT0.at 2 rfl).2 6 (by decide)).trans h_vaa) hzz (hTK.go (hF.2 ka (hT0.at 3 rfl).1 0 _ _ (hT0.at 3 rfl).2 (by decide)) (hF.2 sta (hT0.at 4 rfl).1 0 _ _ (hT0.at 4 rfl).2 (by decide)) (hF.2 vaa (hT0.at 5 rfl).1 0 _ _ (hT0.at 5 rfl).2 (by decide))) hrq_798 (Or.inl (by decide))) (cwV 1 hts gX2_readBuilt_X2_pass rfl rfl rfl (by decide +kernel) ⟨(by first | exact Nat.le_of_ble_eq_true rfl | (simp only [rm_X2_pass, rm_X2_readBuilt]; omega)), (by first | exact Nat.le_of_ble_eq_true rfl | (simp only [rm_X2_pass, rm_X2_readBuilt]; omega))⟩) hP hD hK hS hA hev hT 1 2 rfl rfl rfl rfl hl.1 rfl (Nat.le_of_ble_eq_true rfl) dX2_readBuilt_146 ⟨(by first | exact Nat.le_of_ble_eq_true rfl | (simp only [rm_X2_readBuilt]; omega) | omega), (by first | exact Nat.le_of_ble_eq_true rfl | (simp only [rm_X2_readBuilt]; omega) | omega)⟩ (fun r L_914 f_915 H locs hw_916 hP hD hS hT hE1 => ?_)
      have hF := Fr.call hF hE hw_916.2.1 (by decide)
      have hE := hE.tr hE1
      obtain ⟨rfl, hw_916⟩ := hw_916
      obtain ⟨hfr_917, ax_918, tn_919, fa_920, pw_921, hk_922, hk_923, hk_924, hk_925, hrel_926, hrel_927, hrel_928, hrel_929, hex_930⟩ := hw_916
      have hk_931 : rd f_915 h0 5 = .int sg_781 := (hfr_917.1 h0 (hTo.at 1 rfl).1 2 (hTo.at 1 rfl).2 5 (by decide)).trans hk_808
      have hk_932 : rd f_915 tok 3 = .int zz := (hfr_917.1 tok (hTo.at 3 rfl).1 6 (hTo.at 3 rfl).2 3 (by decide)).trans hk_809
      have hk_933 : rd f_915 o 0 = .int wd := (hfr_917.1 o (hTo.at 2 rfl).1 5 (hTo.at 2 rfl).2 0 (by decide)).trans hk_810
      have hq_934 : pot fa_920 sg_781 ≤ pot fa_779 sg_781 := pot_le (fun h9 => (hrel_928 h9).1)
      have hrq_935 := hex_930
      refine W.eq (g2 := F0 m 149 ls []) rfl ?_
      refine lv_aload_n hx hb dX2_readBuilt_149 rfl (lv_at hl 1 rfl) ?_
      refine lv_aload_n hx hb dX2_readBuilt_150 rfl (lv_at hl 0 rfl) ?_
      refine lv_iload_n hx hb dX2_readBuilt_151 rfl (lv_at hl 2 rfl) ?_
      have hTo := hT
      refine K_VZ ⟨hx, hb, hml, hown, hts⟩ (t_X2_readBlock l dC dI sa hlt g _ _ j d (pot fa_920 sg_781) tt ln M (gpa (Kp tt ln) (nq tt ln) 13 qn_796) h0 dep tok ka sta vaa ax_918 tn_919 fa_920 pw_921 sg_781 zz _ (hT.sub [1, 3, 4, 5, 6] rfl)  hk_922 hk_923 hk_924 hk_925 hk_931 hk_932 ((hF.1 h0 (hT0.at 0 rfl).1 2 (hT0.at 0 rfl).2 0 (by decide)).trans h_tok) ((hF.1 tok (hT0.at 2 rfl).1 6 (hT0.at 2 rfl).2 4 (by decide)).trans h_ka) ((hF.1 tok (hT0.at 2 rfl).1 6 (hT0.at 2 rfl).2 5 (by decide)).trans h_sta) ((hF.1 tok (hT0.at 2 rfl).1 6 (hT0.at 2 rfl).2 6 (by decide)).trans h_vaa) hd hdj rfl hrel_791 hzz (hTK.go (hF.2 ka (hT0.at 3 rfl).1 0 _ _ (hT0.at 3 rfl).2 (by decide)) (hF.2 sta (hT0.at 4 rfl).1 0 _ _ (hT0.at 4 rfl).2 (by decide)) (hF.2 vaa (hT0.at 5 rfl).1 0 _ _ (hT0.at 5 rfl).2 (by decide))) hrq_935 (by first | exact ⟨hsg_799, hn3_800⟩ | (simp only [gpa_nd, gnu_nd, gpl_nd, gte_nd, gob_nd, grf_nd]; exact ⟨hsg_799, hn3_800⟩)) IHR) (cwV 1 hts gX2_readBuilt_X2_readBlock rfl rfl rfl (by decide +kernel) ⟨(by first | exact Nat.le_of_ble_eq_true rfl | (simp only [rm_X2_readBlock, rm_X2_readBuilt]; omega)), (by first | exact Nat.le_of_ble_eq_true rfl | (simp only [rm_X2_readBlock, rm_X2_readBuilt]; omega))⟩) hP hD hK hS hA hev hT 1 2 rfl rfl rfl rfl hl.1 rfl (Nat.le_of_ble_eq_true rfl) dX2_readBuilt_152 ⟨(by first | exact Nat.le_of_ble_eq_true rfl | (simp only [rm_X2_readBuilt]; omega) | omega), (by first | exact Nat.le_of_ble_eq_true rfl | (simp only [rm_X2_readBuilt]; omega) | omega)⟩ (fun r L_936 f_937 n_939 H locs hw_938 hn_940 hP hD hS hT hE1 => ?_)
      have hF := Fr.call hF hE hw_938.2.1 (by decide)
      have hE := hE.tr hE1
      obtain ⟨⟨v_941, rfl, hv9⟩, hw_938⟩ := hw_938
      rcases hv9 with rfl | ⟨b_942, rfl, hb9⟩
      · obtain ⟨hfr_943, ax_944, tn_945, fa_946, pw_947, sg_948, hk_949, hk_950, hk_951, hk_952, hk_953, hrel_954, hrel_955, hrel_956, hrel_957, hrel_958, hex_959⟩ := hw_938
        have hk_960 : rd f_937 tok 3 = .int zz := (hfr_943.1 tok (hTo.at 3 rfl).1 6 (hTo.at 3 rfl).2 3 (by decide)).trans hk_932
        have hk_961 : rd f_937 o 0 = .int wd := (hfr_943.1 o (hTo.at 2 rfl).1 5 (hTo.at 2 rfl).2 0 (by decide)).trans hk_933
        have hq_962 : n_939 + pot fa_946 sg_948 ≤ pot fa_920 sg_781 := by
          obtain ⟨a9, b9, g1, g2, g3⟩ := hn_940
          cases g1.symm.trans hk_951
          cases g2.symm.trans hk_953
          exact g3
        obtain ⟨qn_963, hev_964, hrq_965, hsg_966, hn3_967⟩ := hex_959
        refine W.eq (g2 := F0 m 155 ls [.null, .ref o]) rfl ?_
        have hTo := hT
        refine T_put (ci := 5) (v := .null) (ty := .object "VatHouse$Step") (t := (2, 0, 5, 0)) (C := RX5) (T := TX5) (N := 8) hx hb hts inw_X2_readBuilt_5 tyX5 tyX5_ok nmX5 hown hK hP hD hS hT 2 rfl rfl 6 (by decide) (hts (.fieldLink RX2 91 "VatHouse$Step" "other" "LVatHouse$Step;") (by decide +kernel)) (fun _ h9 => h9) rfl (by decide +kernel) rfl rfl rfl (Or.inl rfl) dX2_readBuilt_155 (fun f_968 H locs hP hD hS hT hE1 hrd_969 hup_970 => ?_)
        have hF := Fr.put (a := o) (ci := 5) hF hE ((hE1 o (hT.at 2 rfl).1).2.symm.trans (hT.at 2 rfl).2) (by decide) hrd_969 hup_970
        have hE := hE.tr hE1
        have hk_971 : rd f_968 h0 1 = .int ax_944 := ((Fr.put (cs := [(5, 6)]) (a := o) (ci := 5) Fr.rf Ext.rf (hTo.at 2 rfl).2 (by decide) hrd_969 hup_970).1 h0 (hTo.at 1 rfl).1 2 (hTo.at 1 rfl).2 1 (by decide)).trans hk_949
        have hk_972 : rd f_968 h0 2 = .int tn_945 := ((Fr.put (cs := [(5, 6)]) (a := o) (ci := 5) Fr.rf Ext.rf (hTo.at 2 rfl).2 (by decide) hrd_969 hup_970).1 h0 (hTo.at 1 rfl).1 2 (hTo.at 1 rfl).2 2 (by decide)).trans hk_950
        have hk_973 : rd f_968 h0 3 = .int fa_946 := ((Fr.put (cs := [(5, 6)]) (a := o) (ci := 5) Fr.rf Ext.rf (hTo.at 2 rfl).2 (by decide) hrd_969 hup_970).1 h0 (hTo.at 1 rfl).1 2 (hTo.at 1 rfl).2 3 (by decide)).trans hk_951
        have hk_974 : rd f_968 h0 4 = .int pw_947 := ((Fr.put (cs := [(5, 6)]) (a := o) (ci := 5) Fr.rf Ext.rf (hTo.at 2 rfl).2 (by decide) hrd_969 hup_970).1 h0 (hTo.at 1 rfl).1 2 (hTo.at 1 rfl).2 4 (by decide)).trans hk_952
        have hk_975 : rd f_968 h0 5 = .int sg_948 := ((Fr.put (cs := [(5, 6)]) (a := o) (ci := 5) Fr.rf Ext.rf (hTo.at 2 rfl).2 (by decide) hrd_969 hup_970).1 h0 (hTo.at 1 rfl).1 2 (hTo.at 1 rfl).2 5 (by decide)).trans hk_953
        have hk_976 : rd f_968 tok 3 = .int zz := ((Fr.put (cs := [(5, 6)]) (a := o) (ci := 5) Fr.rf Ext.rf (hTo.at 2 rfl).2 (by decide) hrd_969 hup_970).1 tok (hTo.at 3 rfl).1 6 (hTo.at 3 rfl).2 3 (by decide)).trans hk_960
        have hk_977 : rd f_968 o 0 = .int wd := ((Fr.put (cs := [(5, 6)]) (a := o) (ci := 5) Fr.rf Ext.rf (hTo.at 2 rfl).2 (by decide) hrd_969 hup_970).1 o (hTo.at 2 rfl).1 5 (hTo.at 2 rfl).2 0 (by decide)).trans hk_961
        exact K_vZ hx hb hr hlocks hP hD hK hS hT hE ⟨rfl, hF, _, _, _, _, _, hk_971, hk_972, hk_973, hk_974, hk_975, trivial, trivial, trivial, trivial, hrel_958, ⟨qn_963, Or.inr (Or.inr (Or.inr ⟨⟨c_4, c_115, c_226⟩, _, hev_797, by rw [if_pos c_814]; exact hev_964⟩)), hrq_965, (by first | exact ⟨hsg_966, hn3_967⟩ | (simp only [gpa_nd, gnu_nd, gpl_nd, gte_nd, gob_nd, grf_nd]; exact ⟨hsg_966, hn3_967⟩))⟩⟩ (⟨_, _, hk_973, hk_975, by omega⟩) (by first | exact Nat.le_of_ble_eq_true rfl | (simp only [rm_X2_readBuilt]; omega) | omega) (by first | exact Nat.le_of_ble_eq_true rfl | (simp only [rm_X2_readBuilt]; omega) | omega) (by first | exact Nat.le_of_ble_eq_true rfl | (simp only [rm_X2_readBuilt]; omega) | omega) dX2_readBuilt_158
      · have hT := hT.add hb9
        obtain ⟨hfr_978, ax_979, tn_980, fa_981, pw_982, sg_983, hk_984, hk_985, hk_986, hk_987, hk_988, hrel_989, hrel_990, hrel_991, hrel_992, hrel_993, hex_994⟩ := hw_938
        have hk_995 : rd f_937 tok 3 = .int zz := (hfr_978.1 tok (hTo.at 3 rfl).1 6 (hTo.at 3 rfl).2 3 (by decide)).trans hk_932
        have hk_996 : rd f_937 o 0 = .int wd := (hfr_978.1 o (hTo.at 2 rfl).1 5 (hTo.at 2 rfl).2 0 (by decide)).trans hk_933
        have hq_997 : n_939 + pot fa_981 sg_983 ≤ pot fa_920 sg_781 := by
          obtain ⟨a9, b9, g1, g2, g3⟩ := hn_940
          cases g1.symm.trans hk_986
          cases g2.symm.trans hk_988
          exact g3
        obtain ⟨qn_998, hev_999, hrq_1000, hsg_1001, hn3_1002⟩ := hex_994
        refine W.eq (g2 := F0 m 155 ls [.ref b_942, .ref o]) rfl ?_
        have hTo := hT
        refine T_put (ci := 5) (v := .ref b_942) (ty := .object "VatHouse$Step") (t := (2, 0, 5, 0)) (C := RX5) (T := TX5) (N := 8) hx hb hts inw_X2_readBuilt_5 tyX5 tyX5_ok nmX5 hown hK hP hD hS hT 3 rfl rfl 6 (by decide) (hts (.fieldLink RX2 91 "VatHouse$Step" "other" "LVatHouse$Step;") (by decide +kernel)) (fun _ h9 => h9) rfl (by decide +kernel) rfl rfl rfl (Or.inr ⟨_, rfl, hT.at 0 rfl⟩) dX2_readBuilt_155 (fun f_1003 H locs hP hD hS hT hE1 hrd_1004 hup_1005 => ?_)
        have hF := Fr.put (a := o) (ci := 5) hF hE ((hE1 o (hT.at 3 rfl).1).2.symm.trans (hT.at 3 rfl).2) (by decide) hrd_1004 hup_1005
        have hE := hE.tr hE1
        have hk_1006 : rd f_1003 h0 1 = .int ax_979 := ((Fr.put (cs := [(5, 6)]) (a := o) (ci := 5) Fr.rf Ext.rf (hTo.at 3 rfl).2 (by decide) hrd_1004 hup_1005).1 h0 (hTo.at 2 rfl).1 2 (hTo.at 2 rfl).2 1 (by decide)).trans hk_984
        have hk_1007 : rd f_1003 h0 2 = .int tn_980 := ((Fr.put (cs := [(5, 6)]) (a := o) (ci := 5) Fr.rf Ext.rf (hTo.at 3 rfl).2 (by decide) hrd_1004 hup_1005).1 h0 (hTo.at 2 rfl).1 2 (hTo.at 2 rfl).2 2 (by decide)).trans hk_985
        have hk_1008 : rd f_1003 h0 3 = .int fa_981 := ((Fr.put (cs := [(5, 6)]) (a := o) (ci := 5) Fr.rf Ext.rf (hTo.at 3 rfl).2 (by decide) hrd_1004 hup_1005).1 h0 (hTo.at 2 rfl).1 2 (hTo.at 2 rfl).2 3 (by decide)).trans hk_986
        have hk_1009 : rd f_1003 h0 4 = .int pw_982 := ((Fr.put (cs := [(5, 6)]) (a := o) (ci := 5) Fr.rf Ext.rf (hTo.at 3 rfl).2 (by decide) hrd_1004 hup_1005).1 h0 (hTo.at 2 rfl).1 2 (hTo.at 2 rfl).2 4 (by decide)).trans hk_987
        have hk_1010 : rd f_1003 h0 5 = .int sg_983 := ((Fr.put (cs := [(5, 6)]) (a := o) (ci := 5) Fr.rf Ext.rf (hTo.at 3 rfl).2 (by decide) hrd_1004 hup_1005).1 h0 (hTo.at 2 rfl).1 2 (hTo.at 2 rfl).2 5 (by decide)).trans hk_988
        have hk_1011 : rd f_1003 tok 3 = .int zz := ((Fr.put (cs := [(5, 6)]) (a := o) (ci := 5) Fr.rf Ext.rf (hTo.at 3 rfl).2 (by decide) hrd_1004 hup_1005).1 tok (hTo.at 4 rfl).1 6 (hTo.at 4 rfl).2 3 (by decide)).trans hk_995
        have hk_1012 : rd f_1003 o 0 = .int wd := ((Fr.put (cs := [(5, 6)]) (a := o) (ci := 5) Fr.rf Ext.rf (hTo.at 3 rfl).2 (by decide) hrd_1004 hup_1005).1 o (hTo.at 3 rfl).1 5 (hTo.at 3 rfl).2 0 (by decide)).trans hk_996
        exact K_vZ hx hb hr hlocks hP hD hK hS hT hE ⟨rfl, hF, _, _, _, _, _, hk_1006, hk_1007, hk_1008, hk_1009, hk_1010, trivial, trivial, trivial, trivial, hrel_993, ⟨qn_998, Or.inr (Or.inr (Or.inr ⟨⟨c_4, c_115, c_226⟩, _, hev_797, by rw [if_pos c_814]; exact hev_999⟩)), hrq_1000, (by first | exact ⟨hsg_1001, hn3_1002⟩ | (simp only [gpa_nd, gnu_nd, gpl_nd, gte_nd, gob_nd, grf_nd]; exact ⟨hsg_1001, hn3_1002⟩))⟩⟩ (⟨_, _, hk_1008, hk_1010, by omega⟩) (by first | exact Nat.le_of_ble_eq_true rfl | (simp only [rm_X2_readBuilt]; omega) | omega) (by first | exact Nat.le_of_ble_eq_true rfl | (simp only [rm_X2_readBuilt]; omega) | omega) (by first | exact Nat.le_of_ble_eq_true rfl | (simp only [rm_X2_readBuilt]; omega) | omega) dX2_readBuilt_158

theorem inw_X2_readStep_2 : ∀ w ∈ wsX20, w ∈ wsX2_readStep := by decide +kernel
theorem inw_X2_readStep_5 : ∀ w ∈ wsX50, w ∈ wsX2_readStep := by decide +kernel
set_option maxHeartbeats 800000 in
set_option maxRecDepth 100000 in
theorem t_X2_readStep (l : Launch) (dC : Nat → ClassId) (dI : Nat → Nat → Nat) (sa : Nat → Nat) (hlt : l.stackTraces = false) (g : Nat → Nat) (L : List Nat) (f : Nat → va_E) (j : Nat) (d : Nat) (P : Nat) (tt : Nat → Int32) (ln : Nat) (M : Nat) (q : SG) (h0 : Nat) (dep : Int32) (tok : Nat) (ka : Nat) (sta : Nat) (vaa : Nat) (ax : Int32) (tn : Int32) (fa : Int32) (pw : Int32) (sg : Int32) (zz : Int32) (sz : Nat) (hT : TP g L f [(h0, (0, 2, 0)), (tok, (0, 6, 0)), (ka, (1, g 0, 1501)), (sta, (1, g 5, 1501)), (vaa, (1, g 6, 1501))]) (hm_ax : rd f h0 1 = .int ax) (hm_tn : rd f h0 2 = .int tn) (hm_fa : rd f h0 3 = .int fa) (hm_pw : rd f h0 4 = .int pw) (hm_sg : rd f h0 5 = .int sg) (hm_zz : rd f tok 3 = .int zz) (h_tok : rd f h0 0 = .ref tok) (h_ka : rd f tok 4 = .ref ka) (h_sta : rd f tok 5 = .ref sta) (h_vaa : rd f tok 6 = .ref vaa) (hd : dep = nI d) (hdj : d + j = 8) (hP0 : pot fa sg = P) (hs3 : sg.toInt ≤ 300) (hzz : zz = nI (M + 1)) (hTK : TKS f ka sta vaa tt ln M) (hRQ : RQ tt ln M q ax tn fa pw) (hnd : sg = nI q.2.1 ∧ q.2.1 ≤ 300) (IHR : ∀ j' d' : Nat, d' + j' = 8 → j = j' + 1 → ∀ (L : List Nat) (f : Nat → va_E) (P : Nat) (tt : Nat → Int32) (ln : Nat) (M : Nat) (q : SG) (h0 : Nat) (dep : Int32) (tok : Nat) (ka : Nat) (sta : Nat) (vaa : Nat) (ax : Int32) (tn : Int32) (fa : Int32) (pw : Int32) (sg : Int32) (zz : Int32) (sz : Nat) (hT : TP g L f [(h0, (0, 2, 0)), (tok, (0, 6, 0)), (ka, (1, g 0, 1501)), (sta, (1, g 5, 1501)), (vaa, (1, g 6, 1501))]) (hm_ax : rd f h0 1 = .int ax) (hm_tn : rd f h0 2 = .int tn) (hm_fa : rd f h0 3 = .int fa) (hm_pw : rd f h0 4 = .int pw) (hm_sg : rd f h0 5 = .int sg) (hm_zz : rd f tok 3 = .int zz) (h_tok : rd f h0 0 = .ref tok) (h_ka : rd f tok 4 = .ref ka) (h_sta : rd f tok 5 = .ref sta) (h_vaa : rd f tok 6 = .ref vaa) (hd : dep = nI d') (hP0 : pot fa sg = P) (hs3 : sg.toInt ≤ 300) (hzz : zz = nI (M + 1)) (hTK : TKS f ka sta vaa tt ln M) (hRQ : RQ tt ln M q ax tn fa pw) (hnd : sg = nI q.2.1 ∧ q.2.1 ≤ 300), KZ l dC dI sa g yX2_readSteps wsX2_readSteps (rm_X2_readSteps j' d' P tt ln M q) [.ref h0, .int dep] L f sz (fun r L' f' => (∃ v : Value, r = some v ∧ okv L' f' (2, 0, 5, 0) v) ∧ Fr [(2, 1), (2, 2), (2, 3), (2, 4), (5, 1), (5, 2), (5, 3), (5, 4), (5, 5), (5, 6), (5, 7), (2, 5)] L f f' ∧ (∃ ax' : Int32, ∃ tn' : Int32, ∃ fa' : Int32, ∃ pw' : Int32, ∃ sg' : Int32, rd f' h0 1 = .int ax' ∧ rd f' h0 2 = .int tn' ∧ rd f' h0 3 = .int fa' ∧ rd f' h0 4 = .int pw' ∧ rd f' h0 5 = .int sg' ∧ (True) ∧ (True) ∧ (True) ∧ (True) ∧ (sg'.toInt ≤ 300) ∧ (∃ qn : SG, Ev (Kp tt ln) (Vp tt ln) (nq tt ln) 0 d' q qn ∧ RQ tt ln M qn ax' tn' fa' pw' ∧ sg' = nI qn.2.1 ∧ qn.2.1 ≤ 300))) (fun n f' => ∃ a b : Int32, rd f' h0 3 = .int a ∧ rd f' h0 5 = .int b ∧ n + pot a b ≤ P) P (8 * P)) (hf0 : fa = 0) (htn : ¬ tn < 1 ∧ ¬ 12 < tn) : KZ l dC dI sa g yX2_readStep wsX2_readStep (rm_X2_readStep j d P tt ln M q) [.ref h0, .int dep] L f sz (fun r L' f' => (∃ v : Value, r = some v ∧ okv L' f' (1, 0, 5, 0) v) ∧ Fr [(2, 1), (2, 2), (2, 3), (2, 4), (5, 1), (5, 2), (5, 3), (5, 4), (5, 5), (5, 6), (5, 7), (2, 5)] L f f' ∧ (∃ ax' : Int32, ∃ tn' : Int32, ∃ fa' : Int32, ∃ pw' : Int32, ∃ sg' : Int32, rd f' h0 1 = .int ax' ∧ rd f' h0 2 = .int tn' ∧ rd f' h0 3 = .int fa' ∧ rd f' h0 4 = .int pw' ∧ rd f' h0 5 = .int sg' ∧ (True) ∧ (True) ∧ (True) ∧ (True) ∧ (sg'.toInt ≤ 300) ∧ (∃ qn : SG, Ev (Kp tt ln) (Vp tt ln) (nq tt ln) 1 d q qn ∧ RQ tt ln M qn ax' tn' fa' pw' ∧ sg' = nI qn.2.1 ∧ qn.2.1 ≤ 300))) (fun n f' => ∃ a b : Int32, rd f' h0 3 = .int a ∧ rd f' h0 5 = .int b ∧ n + pot a b ≤ P) P (8 * P) := by
  refine KZ.start (cc := cX2_readStep) (maxL := 3) (ret := (some (.object "VatHouse$Step"))) (by decide) rfl (Nat.le_of_ble_eq_true rfl) ?_
  intro p e s m below meth c ls hst hP hK hD hev hS hl
  obtain ⟨hx, hb, hr, hml, hts, hown, hlocks, hin⟩ := hst
  have hown : s.vm.findClass RX2 = some m.cls := hown
  have hin : meth.name = yX2_readStep.name := hin
  have hA : ∀ q : Nat, s.heap.size ≤ q → va_A (va_pl L f) s.heap.size q := fun _ h => Or.inr h
  have hE : Ext L f L f := Ext.rf
  have hF : Fr [(2, 1), (2, 2), (2, 3), (2, 4), (5, 1), (5, 2), (5, 3), (5, 4), (5, 5), (5, 6), (5, 7), (2, 5)] L f f := Fr.rf
  have hl : lv_has ls 3 [(0, .ref h0), (1, .int dep)] := hl
  have hT0 := hT
  have hpp := pot_pos hf0 hs3
  have hTo := hT
  refine T_new (ci := 5) (fs := [.int 0, .int 0, .int 0, .int 0, .int 0, .null, .null, .null]) (C := RX5) (T := TX5) (N := 8) hx hb hts inw_X2_readStep_5 tyX5 tyX5_ok hown (hts (.classLink RX2 51 RX5) (by decide +kernel)) (hts (.instantiable RX5 8) (by decide +kernel)) (hts (.initialized RX5) (by decide +kernel)) hK hP hD hS hA hT rfl nfX5 (okn_5 g) (by first | exact Nat.le_of_ble_eq_true rfl | (simp only [rm_X2_readStep]; omega) | omega) (by first | exact Nat.le_of_ble_eq_true rfl | (simp only [rm_X2_readStep]; omega) | omega) dX2_readStep_0 (fun q_1 L_2 f_3 H hq_4 hL_5 hP hD hS hT hE1 hrd_6 hrq_7 hup => ?_)
  have hF := Fr.new hF hE hq_4 hrd_6 hup
  have hE := hE.tr hE1
  have hk_8 := (hrd_6 h0 1 (fun h9 => hq_4 (h9 ▸ (hTo.at 0 rfl).1))).trans hm_ax
  have hk_9 := (hrd_6 h0 2 (fun h9 => hq_4 (h9 ▸ (hTo.at 0 rfl).1))).trans hm_tn
  have hk_10 := (hrd_6 h0 3 (fun h9 => hq_4 (h9 ▸ (hTo.at 0 rfl).1))).trans hm_fa
  have hk_11 := (hrd_6 h0 4 (fun h9 => hq_4 (h9 ▸ (hTo.at 0 rfl).1))).trans hm_pw
  have hk_12 := (hrd_6 h0 5 (fun h9 => hq_4 (h9 ▸ (hTo.at 0 rfl).1))).trans hm_sg
  have hk_13 := (hrd_6 tok 3 (fun h9 => hq_4 (h9 ▸ (hTo.at 1 rfl).1))).trans hm_zz
  refine lv_dup hx hb dX2_readStep_3 rfl ?_
  refine lv_aload_n hx hb dX2_readStep_4 rfl (lv_at hl 0 rfl) ?_
  refine T_get (ci := 2) (C := RX2) (T := TX2) (N := 6) (t := tI) hx hb hts inw_X2_readStep_2 hown hK hP hT 1 rfl rfl 2 (by decide) (hts (.fieldLink RX2 44 "VatHouse$Reader" "token" "I") (by decide +kernel)) (fun _ h9 => h9) rfl dX2_readStep_5 (fun v_16 hv_14 hr_15 => ?_)
  obtain rfl : v_16 = .int tn := hr_15.symm.trans hk_9
  have hTo := hT
  refine K_I ⟨hx, hb, hml, hown, hts⟩ (t_X5_initX l dC dI sa hlt g _ _ q_1 tn _ (hT.sub [0] rfl)  ) (cwI 1 hts gX2_readStep_X5_init rfl rfl rfl (hts (.initialized RX5) (by decide +kernel)) (hts (.methodLink RX2 56 yX5_init) (by decide +kernel)) (hts (.instanceMethod yX5_init) (by decide +kernel)) rfl (by decide +kernel) ⟨(by first | exact Nat.le_of_ble_eq_true rfl | (simp only [rm_X5_initX, rm_X2_readStep]; omega)), (by first | exact Nat.le_of_ble_eq_true rfl | (simp only [rm_X5_initX, rm_X2_readStep]; omega))⟩) hP hD hK hS hA hev hT rfl hl.1 rfl (Nat.le_of_ble_eq_true rfl) dX2_readStep_8 ⟨(by first | exact Nat.le_of_ble_eq_true rfl | (simp only [rm_X2_readStep]; omega) | omega), (by first | exact Nat.le_of_ble_eq_true rfl | (simp only [rm_X2_readStep]; omega) | omega)⟩ (fun r L_17 f_18 H locs hw_19 hP hD hS hT hE1 => ?_)
  have hF := Fr.fresh hF hE hq_4 (by obtain ⟨_, _, _, h9⟩ := hw_19.2.2; exact h9)
  have hE := hE.tr hE1
  obtain ⟨rfl, hw_19⟩ := hw_19
  obtain ⟨hfr_20, wd_21, hk_22, hrel_23, hex_24⟩ := hw_19
  have hk_25 : rd f_18 h0 1 = .int ax := (hfr_20.1 h0 (hTo.at 1 rfl).1 2 (hTo.at 1 rfl).2 1 (by decide)).trans hk_8
  have hk_26 : rd f_18 h0 2 = .int tn := (hfr_20.1 h0 (hTo.at 1 rfl).1 2 (hTo.at 1 rfl).2 2 (by decide)).trans hk_9
  have hk_27 : rd f_18 h0 3 = .int fa := (hfr_20.1 h0 (hTo.at 1 rfl).1 2 (hTo.at 1 rfl).2 3 (by decide)).trans hk_10
  have hk_28 : rd f_18 h0 4 = .int pw := (hfr_20.1 h0 (hTo.at 1 rfl).1 2 (hTo.at 1 rfl).2 4 (by decide)).trans hk_11
  have hk_29 : rd f_18 h0 5 = .int sg := (hfr_20.1 h0 (hTo.at 1 rfl).1 2 (hTo.at 1 rfl).2 5 (by decide)).trans hk_12
  have hk_30 : rd f_18 tok 3 = .int zz := (hfr_20.1 tok (hTo.at 2 rfl).1 6 (hTo.at 2 rfl).2 3 (by decide)).trans hk_13
  refine W.eq (g2 := F0 m 11 ls [.ref q_1]) rfl ?_
  refine lv_astore_n (lv' := [(2, .ref q_1), (0, .ref h0), (1, .int dep)]) hx hb dX2_readStep_11 rfl hl (by decide) rfl (fun ls hl => ?_)
  have hw0 : wd_21 = tn := hrel_23
  refine lv_aload_n hx hb dX2_readStep_12 rfl (lv_at hl 1 rfl) ?_
  refine T_get (ci := 2) (C := RX2) (T := TX2) (N := 6) (t := tI) hx hb hts inw_X2_readStep_2 hown hK hP hT 1 rfl rfl 5 (by decide) (hts (.fieldLink RX2 31 "VatHouse$Reader" "steps" "I") (by decide +kernel)) (fun _ h9 => h9) rfl dX2_readStep_13 (fun v_33 hv_31 hr_32 => ?_)
  obtain rfl : v_33 = .int sg := hr_32.symm.trans hk_29
  refine lv_sipush (v := 300) hx hb dX2_readStep_16 (by decide) ?_
  refine lv_icmp_lt (tgt := 29) hx hb dX2_readStep_19 (by decide) (fun c_34 => ?_) (fun c_34 => ?_)
  · refine lv_aload_n hx hb dX2_readStep_29 rfl (lv_at hl 1 rfl) ?_
    refine lv_dup hx hb dX2_readStep_30 rfl ?_
    refine T_get (ci := 2) (C := RX2) (T := TX2) (N := 6) (t := tI) hx hb hts inw_X2_readStep_2 hown hK hP hT 1 rfl rfl 5 (by decide) (hts (.fieldLink RX2 31 "VatHouse$Reader" "steps" "I") (by decide +kernel)) (fun _ h9 => h9) rfl dX2_readStep_31 (fun v_37 hv_35 hr_36 => ?_)
    obtain rfl : v_37 = .int sg := hr_36.symm.trans hk_29
    refine lv_iconst (v := 1) hx hb dX2_readStep_34 (by decide) ?_
    refine lv_iadd hx hb dX2_readStep_35 ?_
    refine lv_topi (fun z_38 ez_38 => ?_)
    have hTo := hT
    refine T_put (ci := 2) (v := .int z_38) (ty := .int) (t := tI) (C := RX2) (T := TX2) (N := 6) hx hb hts inw_X2_readStep_2 tyX2 tyX2_ok nmX2 hown hK hP hD hS hT 1 rfl rfl 5 (by decide) (hts (.fieldLink RX2 31 "VatHouse$Reader" "steps" "I") (by decide +kernel)) (fun _ h9 => h9) rfl (by decide +kernel) rfl rfl rfl ⟨_, rfl⟩ dX2_readStep_36 (fun f_39 H locs hP hD hS hT hE1 hrd_40 hup_41 => ?_)
    have hF := Fr.put (a := h0) (ci := 2) hF hE ((hE1 h0 (hT.at 1 rfl).1).2.symm.trans (hT.at 1 rfl).2) (by decide) hrd_40 hup_41
    have hE := hE.tr hE1
    have hk_42 : rd f_39 h0 1 = .int ax := ((Fr.put (cs := [(2, 5)]) (a := h0) (ci := 2) Fr.rf Ext.rf (hTo.at 1 rfl).2 (by decide) hrd_40 hup_41).1 h0 (hTo.at 1 rfl).1 2 (hTo.at 1 rfl).2 1 (by decide)).trans hk_25
    have hk_43 : rd f_39 h0 2 = .int tn := ((Fr.put (cs := [(2, 5)]) (a := h0) (ci := 2) Fr.rf Ext.rf (hTo.at 1 rfl).2 (by decide) hrd_40 hup_41).1 h0 (hTo.at 1 rfl).1 2 (hTo.at 1 rfl).2 2 (by decide)).trans hk_26
    have hk_44 : rd f_39 h0 3 = .int fa := ((Fr.put (cs := [(2, 5)]) (a := h0) (ci := 2) Fr.rf Ext.rf (hTo.at 1 rfl).2 (by decide) hrd_40 hup_41).1 h0 (hTo.at 1 rfl).1 2 (hTo.at 1 rfl).2 3 (by decide)).trans hk_27
    have hk_45 : rd f_39 h0 4 = .int pw := ((Fr.put (cs := [(2, 5)]) (a := h0) (ci := 2) Fr.rf Ext.rf (hTo.at 1 rfl).2 (by decide) hrd_40 hup_41).1 h0 (hTo.at 1 rfl).1 2 (hTo.at 1 rfl).2 4 (by decide)).trans hk_28
    have hk_46 : rd f_39 h0 5 = .int z_38 := (hrd_40 h0 5).trans (if_pos ⟨rfl, rfl⟩)
    have hk_47 : rd f_39 tok 3 = .int zz := ((Fr.put (cs := [(2, 5)]) (a := h0) (ci := 2) Fr.rf Ext.rf (hTo.at 1 rfl).2 (by decide) hrd_40 hup_41).1 tok (hTo.at 2 rfl).1 6 (hTo.at 2 rfl).2 3 (by decide)).trans hk_30
    have hk_48 : rd f_39 q_1 0 = .int wd_21 := ((Fr.put (cs := [(2, 5)]) (a := h0) (ci := 2) Fr.rf Ext.rf (hTo.at 1 rfl).2 (by decide) hrd_40 hup_41).1 q_1 (hTo.at 0 rfl).1 5 (hTo.at 0 rfl).2 0 (by decide)).trans hk_22
    obtain ⟨hinc, hz3⟩ := pot_inc hf0 c_34 ez_38
    obtain ⟨hng, h300⟩ := n299 hnd c_34 ez_38
    refine lv_aload_n hx hb dX2_readStep_39 rfl (lv_at hl 1 rfl) ?_
    refine lv_aload_n hx hb dX2_readStep_40 rfl (lv_at hl 0 rfl) ?_
    refine T_get (ci := 5) (C := RX5) (T := TX5) (N := 8) (t := tI) hx hb hts inw_X2_readStep_5 hown hK hP hT 0 rfl rfl 0 (by decide) (hts (.fieldLink RX2 61 "VatHouse$Step" "word" "I") (by decide +kernel)) (fun _ h9 => h9) rfl dX2_readStep_41 (fun v_51 hv_49 hr_50 => ?_)
    obtain rfl : v_51 = .int wd_21 := hr_50.symm.trans hk_48
    have hTo := hT
    refine K_V ⟨hx, hb, hml, hown, hts⟩ (t_X2_pass l dC dI sa hlt g _ _ tt ln M q h0 wd_21 tok ka sta vaa ax tn fa pw zz _ (hT.sub [1, 2, 3, 4, 5] rfl)  hk_42 hk_43 hk_44 hk_45 hk_47 ((hF.1 h0 (hT0.at 0 rfl).1 2 (hT0.at 0 rfl).2 0 (by decide)).trans h_tok) ((hF.1 tok (hT0.at 1 rfl).1 6 (hT0.at 1 rfl).2 4 (by decide)).trans h_ka) ((hF.1 tok (hT0.at 1 rfl).1 6 (hT0.at 1 rfl).2 5 (by decide)).trans h_sta) ((hF.1 tok (hT0.at 1 rfl).1 6 (hT0.at 1 rfl).2 6 (by decide)).trans h_vaa) hzz (hTK.go (hF.2 ka (hT0.at 2 rfl).1 0 _ _ (hT0.at 2 rfl).2 (by decide)) (hF.2 sta (hT0.at 3 rfl).1 0 _ _ (hT0.at 3 rfl).2 (by decide)) (hF.2 vaa (hT0.at 4 rfl).1 0 _ _ (hT0.at 4 rfl).2 (by decide))) hRQ (Or.inl (by rw [hw0]; intro h9; exact htn.1 (h9 ▸ (by decide : (0 : Int32) < 1))))) (cwV 1 hts gX2_readStep_X2_pass rfl rfl rfl (by decide +kernel) ⟨(by first | exact Nat.le_of_ble_eq_true rfl | (simp only [rm_X2_pass, rm_X2_readStep]; omega)), (by first | exact Nat.le_of_ble_eq_true rfl | (simp only [rm_X2_pass, rm_X2_readStep]; omega))⟩) hP hD hK hS hA hev hT 1 2 rfl rfl rfl rfl hl.1 rfl (Nat.le_of_ble_eq_true rfl) dX2_readStep_44 ⟨(by first | exact Nat.le_of_ble_eq_true rfl | (simp only [rm_X2_readStep]; omega) | omega), (by first | exact Nat.le_of_ble_eq_true rfl | (simp only [rm_X2_readStep]; omega) | omega)⟩ (fun r L_52 f_53 H locs hw_54 hP hD hS hT hE1 => ?_)
    have hF := Fr.call hF hE hw_54.2.1 (by decide)
    have hE := hE.tr hE1
    obtain ⟨rfl, hw_54⟩ := hw_54
    obtain ⟨hfr_55, ax_56, tn_57, fa_58, pw_59, hk_60, hk_61, hk_62, hk_63, hrel_64, hrel_65, hrel_66, hrel_67, hex_68⟩ := hw_54
    have hk_69 : rd f_53 h0 5 = .int z_38 := (hfr_55.1 h0 (hTo.at 1 rfl).1 2 (hTo.at 1 rfl).2 5 (by decide)).trans hk_46
    have hk_70 : rd f_53 tok 3 = .int zz := (hfr_55.1 tok (hTo.at 2 rfl).1 6 (hTo.at 2 rfl).2 3 (by decide)).trans hk_47
    have hk_71 : rd f_53 q_1 0 = .int wd_21 := (hfr_55.1 q_1 (hTo.at 0 rfl).1 5 (hTo.at 0 rfl).2 0 (by decide)).trans hk_48
    have hq_72 : pot fa_58 z_38 ≤ pot fa z_38 := pot_le (fun h9 => (hrel_66 h9).1)
    have hrq_73 := hex_68
    refine W.eq (g2 := F0 m 47 ls []) rfl ?_
    have hrq_74 := hRQ.gad hf0 hw0 hrq_73
    refine lv_aload_n hx hb dX2_readStep_47 rfl (lv_at hl 0 rfl) ?_
    refine T_get (ci := 5) (C := RX5) (T := TX5) (N := 8) (t := tI) hx hb hts inw_X2_readStep_5 hown hK hP hT 0 rfl rfl 0 (by decide) (hts (.fieldLink RX2 61 "VatHouse$Step" "word" "I") (by decide +kernel)) (fun _ h9 => h9) rfl dX2_readStep_48 (fun v_77 hv_75 hr_76 => ?_)
    obtain rfl : v_77 = .int wd_21 := hr_76.symm.trans hk_71
    refine lv_bipush (v := 8) hx hb dX2_readStep_51 (by decide) ?_
    refine lv_icmp_ge (tgt := 70) hx hb dX2_readStep_53 (by decide) (fun c_78 => ?_) (fun c_78 => ?_)
    · refine lv_aload_n hx hb dX2_readStep_70 rfl (lv_at hl 1 rfl) ?_
      refine lv_aload_n hx hb dX2_readStep_71 rfl (lv_at hl 0 rfl) ?_
      refine lv_iload_n hx hb dX2_readStep_72 rfl (lv_at hl 2 rfl) ?_
      have hTo := hT
      refine K_VZ ⟨hx, hb, hml, hown, hts⟩ (t_X2_readBuilt l dC dI sa hlt g _ _ j d (pot fa_58 z_38) tt ln M (gad (nq tt ln) q) h0 q_1 dep tok ka sta vaa ax_56 tn_57 fa_58 pw_59 z_38 zz wd_21 _ (hT.sub [1, 0, 2, 3, 4, 5] rfl)  hk_60 hk_61 hk_62 hk_63 hk_69 hk_70 hk_71 ((hF.1 h0 (hT0.at 0 rfl).1 2 (hT0.at 0 rfl).2 0 (by decide)).trans h_tok) ((hF.1 tok (hT0.at 1 rfl).1 6 (hT0.at 1 rfl).2 4 (by decide)).trans h_ka) ((hF.1 tok (hT0.at 1 rfl).1 6 (hT0.at 1 rfl).2 5 (by decide)).trans h_sta) ((hF.1 tok (hT0.at 1 rfl).1 6 (hT0.at 1 rfl).2 6 (by decide)).trans h_vaa) hd hdj rfl hz3 hzz (hTK.go (hF.2 ka (hT0.at 2 rfl).1 0 _ _ (hT0.at 2 rfl).2 (by decide)) (hF.2 sta (hT0.at 3 rfl).1 0 _ _ (hT0.at 3 rfl).2 (by decide)) (hF.2 vaa (hT0.at 4 rfl).1 0 _ _ (hT0.at 4 rfl).2 (by decide))) hrq_74 (by first | exact hng | (simp only [gpa_nd, gnu_nd, gpl_nd, gte_nd, gob_nd, grf_nd]; exact hng)) IHR) (cwV 2 hts gX2_readStep_X2_readBuilt rfl rfl rfl (by decide +kernel) ⟨(by first | exact Nat.le_of_ble_eq_true rfl | (simp only [rm_X2_readBuilt, rm_X2_readStep]; omega)), (by first | exact Nat.le_of_ble_eq_true rfl | (simp only [rm_X2_readBuilt, rm_X2_readStep]; omega))⟩) hP hD hK hS hA hev hT 1 2 rfl rfl rfl rfl hl.1 rfl (Nat.le_of_ble_eq_true rfl) dX2_readStep_73 ⟨(by first | exact Nat.le_of_ble_eq_true rfl | (simp only [rm_X2_readStep]; omega) | omega), (by first | exact Nat.le_of_ble_eq_true rfl | (simp only [rm_X2_readStep]; omega) | omega)⟩ (fun r L_79 f_80 n_82 H locs hw_81 hn_83 hP hD hS hT hE1 => ?_)
      have hF := Fr.call hF hE hw_81.2.1 (by decide)
      have hE := hE.tr hE1
      obtain ⟨rfl, hw_81⟩ := hw_81
      obtain ⟨hfr_84, ax_85, tn_86, fa_87, pw_88, sg_89, hk_90, hk_91, hk_92, hk_93, hk_94, hrel_95, hrel_96, hrel_97, hrel_98, hrel_99, hex_100⟩ := hw_81
      have hk_101 : rd f_80 tok 3 = .int zz := (hfr_84.1 tok (hTo.at 2 rfl).1 6 (hTo.at 2 rfl).2 3 (by decide)).trans hk_70
      have hk_102 : rd f_80 q_1 0 = .int wd_21 := (hfr_84.1 q_1 (hTo.at 0 rfl).1 5 (hTo.at 0 rfl).2 0 (by decide)).trans hk_71
      have hq_103 : n_82 + pot fa_87 sg_89 ≤ pot fa_58 z_38 := by
        obtain ⟨a9, b9, g1, g2, g3⟩ := hn_83
        cases g1.symm.trans hk_92
        cases g2.symm.trans hk_94
        exact g3
      obtain ⟨qn_104, hev_105, hrq_106, hsg_107, hn3_108⟩ := hex_100
      refine W.eq (g2 := F0 m 76 ls []) rfl ?_
      refine lv_aload_n hx hb dX2_readStep_76 rfl (lv_at hl 0 rfl) ?_
      exact K_aZ hx hb hr (Or.inl ⟨_, rfl⟩) (Or.inr ⟨_, rfl⟩) hlocks hP hD hK hS hT hE ⟨⟨_, rfl, _, rfl, hT.at 0 rfl⟩, hF, _, _, _, _, _, hk_90, hk_91, hk_92, hk_93, hk_94, trivial, trivial, trivial, trivial, hrel_99, ⟨qn_104, Ev.built h300 (by rw [← hRQ.K, ← hw0]; exact nlt_of_le c_78) (by rw [← hRQ.K, ← hw0]; exact hev_105), hrq_106, (by first | exact ⟨hsg_107, hn3_108⟩ | (simp only [gpa_nd, gnu_nd, gpl_nd, gte_nd, gob_nd, grf_nd]; exact ⟨hsg_107, hn3_108⟩))⟩⟩ (⟨_, _, hk_92, hk_94, by omega⟩) (by first | exact Nat.le_of_ble_eq_true rfl | (simp only [rm_X2_readStep]; omega) | omega) (by first | exact Nat.le_of_ble_eq_true rfl | (simp only [rm_X2_readStep]; omega) | omega) (by first | exact Nat.le_of_ble_eq_true rfl | (simp only [rm_X2_readStep]; omega) | omega) dX2_readStep_77
    · refine lv_aload_n hx hb dX2_readStep_56 rfl (lv_at hl 1 rfl) ?_
      refine lv_aload_n hx hb dX2_readStep_57 rfl (lv_at hl 0 rfl) ?_
      have hTo := hT
      refine K_V ⟨hx, hb, hml, hown, hts⟩ (t_X2_readPlain l dC dI sa hlt g _ _ tt ln M (gad (nq tt ln) q) h0 q_1 tok ka sta vaa ax_56 tn_57 fa_58 pw_59 wd_21 zz _ (hT.sub [1, 0, 2, 3, 4, 5] rfl)  hk_60 hk_61 hk_62 hk_63 hk_71 hk_70 ((hF.1 h0 (hT0.at 0 rfl).1 2 (hT0.at 0 rfl).2 0 (by decide)).trans h_tok) ((hF.1 tok (hT0.at 1 rfl).1 6 (hT0.at 1 rfl).2 4 (by decide)).trans h_ka) ((hF.1 tok (hT0.at 1 rfl).1 6 (hT0.at 1 rfl).2 5 (by decide)).trans h_sta) ((hF.1 tok (hT0.at 1 rfl).1 6 (hT0.at 1 rfl).2 6 (by decide)).trans h_vaa) hzz (hTK.go (hF.2 ka (hT0.at 2 rfl).1 0 _ _ (hT0.at 2 rfl).2 (by decide)) (hF.2 sta (hT0.at 3 rfl).1 0 _ _ (hT0.at 3 rfl).2 (by decide)) (hF.2 vaa (hT0.at 4 rfl).1 0 _ _ (hT0.at 4 rfl).2 (by decide))) hrq_74) (cwV 1 hts gX2_readStep_X2_readPlain rfl rfl rfl (by decide +kernel) ⟨(by first | exact Nat.le_of_ble_eq_true rfl | (simp only [rm_X2_readPlain, rm_X2_readStep]; omega)), (by first | exact Nat.le_of_ble_eq_true rfl | (simp only [rm_X2_readPlain, rm_X2_readStep]; omega))⟩) hP hD hK hS hA hev hT 1 2 rfl rfl rfl rfl hl.1 rfl (Nat.le_of_ble_eq_true rfl) dX2_readStep_58 ⟨(by first | exact Nat.le_of_ble_eq_true rfl | (simp only [rm_X2_readStep]; omega) | omega), (by first | exact Nat.le_of_ble_eq_true rfl | (simp only [rm_X2_readStep]; omega) | omega)⟩ (fun r L_109 f_110 H locs hw_111 hP hD hS hT hE1 => ?_)
      have hF := Fr.call hF hE hw_111.2.1 (by decide)
      have hE := hE.tr hE1
      obtain ⟨rfl, hw_111⟩ := hw_111
      obtain ⟨hfr_112, ax_113, tn_114, fa_115, pw_116, hk_117, hk_118, hk_119, hk_120, hrel_121, hrel_122, hrel_123, hrel_124, hex_125⟩ := hw_111
      have hk_126 : rd f_110 h0 5 = .int z_38 := (hfr_112.1 h0 (hTo.at 1 rfl).1 2 (hTo.at 1 rfl).2 5 (by decide)).trans hk_69
      have hk_127 : rd f_110 tok 3 = .int zz := (hfr_112.1 tok (hTo.at 2 rfl).1 6 (hTo.at 2 rfl).2 3 (by decide)).trans hk_70
      have hk_128 : rd f_110 q_1 0 = .int wd_21 := (hfr_112.1 q_1 (hTo.at 0 rfl).1 5 (hTo.at 0 rfl).2 0 (by decide)).trans hk_71
      have hq_129 : pot fa_115 z_38 ≤ pot fa_58 z_38 := pot_le (fun h9 => (hrel_123 h9))
      have hrq_130 := hex_125
      refine W.eq (g2 := F0 m 61 ls []) rfl ?_
      refine lv_aload_n hx hb dX2_readStep_61 rfl (lv_at hl 1 rfl) ?_
      refine lv_bipush (v := 59) hx hb dX2_readStep_62 (by decide) ?_
      have hTo := hT
      refine K_V ⟨hx, hb, hml, hown, hts⟩ (t_X2_pass l dC dI sa hlt g _ _ tt ln M (gpl (Kp tt ln) (Vp tt ln) (nq tt ln) wd_21 (gad (nq tt ln) q)) h0 59 tok ka sta vaa ax_113 tn_114 fa_115 pw_116 zz _ (hT.sub [1, 2, 3, 4, 5] rfl)  hk_117 hk_118 hk_119 hk_120 hk_127 ((hF.1 h0 (hT0.at 0 rfl).1 2 (hT0.at 0 rfl).2 0 (by decide)).trans h_tok) ((hF.1 tok (hT0.at 1 rfl).1 6 (hT0.at 1 rfl).2 4 (by decide)).trans h_ka) ((hF.1 tok (hT0.at 1 rfl).1 6 (hT0.at 1 rfl).2 5 (by decide)).trans h_sta) ((hF.1 tok (hT0.at 1 rfl).1 6 (hT0.at 1 rfl).2 6 (by decide)).trans h_vaa) hzz (hTK.go (hF.2 ka (hT0.at 2 rfl).1 0 _ _ (hT0.at 2 rfl).2 (by decide)) (hF.2 sta (hT0.at 3 rfl).1 0 _ _ (hT0.at 3 rfl).2 (by decide)) (hF.2 vaa (hT0.at 4 rfl).1 0 _ _ (hT0.at 4 rfl).2 (by decide))) hrq_130 (Or.inl (by decide))) (cwV 1 hts gX2_readStep_X2_pass rfl rfl rfl (by decide +kernel) ⟨(by first | exact Nat.le_of_ble_eq_true rfl | (simp only [rm_X2_pass, rm_X2_readStep]; omega)), (by first | exact Nat.le_of_ble_eq_true rfl | (simp only [rm_X2_pass, rm_X2_readStep]; omega))⟩) hP hD hK hS hA hev hT 1 2 rfl rfl rfl rfl hl.1 rfl (Nat.le_of_ble_eq_true rfl) dX2_readStep_64 ⟨(by first | exact Nat.le_of_ble_eq_true rfl | (simp only [rm_X2_readStep]; omega) | omega), (by first | exact Nat.le_of_ble_eq_true rfl | (simp only [rm_X2_readStep]; omega) | omega)⟩ (fun r L_131 f_132 H locs hw_133 hP hD hS hT hE1 => ?_)
      have hF := Fr.call hF hE hw_133.2.1 (by decide)
      have hE := hE.tr hE1
      obtain ⟨rfl, hw_133⟩ := hw_133
      obtain ⟨hfr_134, ax_135, tn_136, fa_137, pw_138, hk_139, hk_140, hk_141, hk_142, hrel_143, hrel_144, hrel_145, hrel_146, hex_147⟩ := hw_133
      have hk_148 : rd f_132 h0 5 = .int z_38 := (hfr_134.1 h0 (hTo.at 1 rfl).1 2 (hTo.at 1 rfl).2 5 (by decide)).trans hk_126
      have hk_149 : rd f_132 tok 3 = .int zz := (hfr_134.1 tok (hTo.at 2 rfl).1 6 (hTo.at 2 rfl).2 3 (by decide)).trans hk_127
      have hk_150 : rd f_132 q_1 0 = .int wd_21 := (hfr_134.1 q_1 (hTo.at 0 rfl).1 5 (hTo.at 0 rfl).2 0 (by decide)).trans hk_128
      have hq_151 : pot fa_137 z_38 ≤ pot fa_115 z_38 := pot_le (fun h9 => (hrel_145 h9).1)
      have hrq_152 := hex_147
      refine W.eq (g2 := F0 m 67 ls []) rfl ?_
      refine lv_goto (tgt := 76) hx hb dX2_readStep_67 (by decide) ?_
      refine lv_aload_n hx hb dX2_readStep_76 rfl (lv_at hl 0 rfl) ?_
      exact K_aZ hx hb hr (Or.inl ⟨_, rfl⟩) (Or.inr ⟨_, rfl⟩) hlocks hP hD hK hS hT hE ⟨⟨_, rfl, _, rfl, hT.at 0 rfl⟩, hF, _, _, _, _, _, hk_139, hk_140, hk_141, hk_142, hk_148, trivial, trivial, trivial, trivial, hz3, ⟨(gpa (Kp tt ln) (nq tt ln) 59 (gpl (Kp tt ln) (Vp tt ln) (nq tt ln) wd_21 (gad (nq tt ln) q))), (by rw [hw0, hRQ.K]; exact Ev.plain h300 (by rw [← hRQ.K, ← hw0]; exact nle_lt c_78)), hrq_152, (by first | exact hng | (simp only [gpa_nd, gnu_nd, gpl_nd, gte_nd, gob_nd, grf_nd]; exact hng))⟩⟩ (⟨_, _, hk_141, hk_148, by omega⟩) (by first | exact Nat.le_of_ble_eq_true rfl | (simp only [rm_X2_readStep]; omega) | omega) (by first | exact Nat.le_of_ble_eq_true rfl | (simp only [rm_X2_readStep]; omega) | omega) (by first | exact Nat.le_of_ble_eq_true rfl | (simp only [rm_X2_readStep]; omega) | omega) dX2_readStep_77
  · refine lv_aload_n hx hb dX2_readStep_22 rfl (lv_at hl 1 rfl) ?_
    refine lv_iconst (v := 2) hx hb dX2_readStep_23 (by decide) ?_
    have hTo := hT
    refine K_V ⟨hx, hb, hml, hown, hts⟩ (t_X2_refuse l dC dI sa hlt g _ _ tt ln M q h0 2 tok ka sta vaa ax tn fa pw _ (hT.sub [1, 2, 3, 4, 5] rfl)  hk_25 hk_26 hk_27 hk_28 ((hF.1 h0 (hT0.at 0 rfl).1 2 (hT0.at 0 rfl).2 0 (by decide)).trans h_tok) ((hF.1 tok (hT0.at 1 rfl).1 6 (hT0.at 1 rfl).2 4 (by decide)).trans h_ka) ((hF.1 tok (hT0.at 1 rfl).1 6 (hT0.at 1 rfl).2 5 (by decide)).trans h_sta) ((hF.1 tok (hT0.at 1 rfl).1 6 (hT0.at 1 rfl).2 6 (by decide)).trans h_vaa) (by decide) (hTK.go (hF.2 ka (hT0.at 2 rfl).1 0 _ _ (hT0.at 2 rfl).2 (by decide)) (hF.2 sta (hT0.at 3 rfl).1 0 _ _ (hT0.at 3 rfl).2 (by decide)) (hF.2 vaa (hT0.at 4 rfl).1 0 _ _ (hT0.at 4 rfl).2 (by decide))) hRQ) (cwV 1 hts gX2_readStep_X2_refuse rfl rfl rfl (by decide +kernel) ⟨(by first | exact Nat.le_of_ble_eq_true rfl | (simp only [rm_X2_refuse, rm_X2_readStep]; omega)), (by first | exact Nat.le_of_ble_eq_true rfl | (simp only [rm_X2_refuse, rm_X2_readStep]; omega))⟩) hP hD hK hS hA hev hT 1 2 rfl rfl rfl rfl hl.1 rfl (Nat.le_of_ble_eq_true rfl) dX2_readStep_24 ⟨(by first | exact Nat.le_of_ble_eq_true rfl | (simp only [rm_X2_readStep]; omega) | omega), (by first | exact Nat.le_of_ble_eq_true rfl | (simp only [rm_X2_readStep]; omega) | omega)⟩ (fun r L_153 f_154 H locs hw_155 hP hD hS hT hE1 => ?_)
    have hF := Fr.call hF hE hw_155.2.1 (by decide)
    have hE := hE.tr hE1
    obtain ⟨rfl, hw_155⟩ := hw_155
    obtain ⟨hfr_156, fa_157, pw_158, hk_159, hk_160, hrel_161, hrel_162, hex_163⟩ := hw_155
    have hk_164 : rd f_154 h0 1 = .int ax := (hfr_156.1 h0 (hTo.at 1 rfl).1 2 (hTo.at 1 rfl).2 1 (by decide)).trans hk_25
    have hk_165 : rd f_154 h0 2 = .int tn := (hfr_156.1 h0 (hTo.at 1 rfl).1 2 (hTo.at 1 rfl).2 2 (by decide)).trans hk_26
    have hk_166 : rd f_154 h0 5 = .int sg := (hfr_156.1 h0 (hTo.at 1 rfl).1 2 (hTo.at 1 rfl).2 5 (by decide)).trans hk_29
    have hk_167 : rd f_154 tok 3 = .int zz := (hfr_156.1 tok (hTo.at 2 rfl).1 6 (hTo.at 2 rfl).2 3 (by decide)).trans hk_30
    have hk_168 : rd f_154 q_1 0 = .int wd_21 := (hfr_156.1 q_1 (hTo.at 0 rfl).1 5 (hTo.at 0 rfl).2 0 (by decide)).trans hk_22
    have hq_169 := pot_ne sg hrel_161
    have hrq_170 := hex_163
    refine W.eq (g2 := F0 m 27 ls []) rfl ?_
    refine lv_aload_n hx hb dX2_readStep_27 rfl (lv_at hl 0 rfl) ?_
    exact K_aZ hx hb hr (Or.inl ⟨_, rfl⟩) (Or.inr ⟨_, rfl⟩) hlocks hP hD hK hS hT hE ⟨⟨_, rfl, _, rfl, hT.at 0 rfl⟩, hF, _, _, _, _, _, hk_164, hk_165, hk_159, hk_160, hk_166, trivial, trivial, trivial, trivial, hs3, ⟨(grf 2 q), Ev.full (n300 hnd c_34), hrq_170, (by first | exact hnd | (simp only [gpa_nd, gnu_nd, gpl_nd, gte_nd, gob_nd, grf_nd]; exact hnd))⟩⟩ (⟨_, _, hk_159, hk_166, by omega⟩) (by first | exact Nat.le_of_ble_eq_true rfl | (simp only [rm_X2_readStep]; omega) | omega) (by first | exact Nat.le_of_ble_eq_true rfl | (simp only [rm_X2_readStep]; omega) | omega) (by first | exact Nat.le_of_ble_eq_true rfl | (simp only [rm_X2_readStep]; omega) | omega) dX2_readStep_28

theorem ss_cnt {K V : Nat → Int32} {N : Nat → Nat} {d : Nat} {q1 q2 : SG} {ii k3 : Int32} (he : Ev K V N 1 d q1 q2) (h0 : k3 = 0) (hn : q1.2.1 ≤ 300) (hc : k3 = 0 → ∃ a : Nat, ii = nI a ∧ a ≤ q1.2.1 ∧ a ≤ 301) (hf : q2.2.2.1 = 0) : ∃ a : Nat, ii + 1 = nI a ∧ a ≤ q2.2.1 ∧ a ≤ 301 := by
  obtain ⟨a, g1, g2, g3⟩ := hc h0
  have := he.nd.2.1 rfl hf
  exact ⟨a + 1, by rw [g1]; exact nI_1 a, by omega, by omega⟩
theorem ss_301 {q1 : SG} {ii k3 : Int32} (hn : q1.2.1 ≤ 300) (hc : k3 = 0 → ∃ a : Nat, ii = nI a ∧ a ≤ q1.2.1 ∧ a ≤ 301) (hf : k3 = 0) (c : 300 < ii) : False := by
  obtain ⟨a, g1, g2, g3⟩ := hc hf
  rw [g1] at c
  have c : nI 300 < nI a := c
  rw [nI_ltI (by omega) (by omega)] at c
  omega

theorem inw_X2_readSteps_2 : ∀ w ∈ wsX20, w ∈ wsX2_readSteps := by decide +kernel
theorem inw_X2_readSteps_5 : ∀ w ∈ wsX50, w ∈ wsX2_readSteps := by decide +kernel
set_option maxHeartbeats 800000 in
set_option maxRecDepth 100000 in
theorem t_X2_readSteps (l : Launch) (dC : Nat → ClassId) (dI : Nat → Nat → Nat) (sa : Nat → Nat) (hlt : l.stackTraces = false) (g : Nat → Nat) (L : List Nat) (f : Nat → va_E) (j : Nat) (d : Nat) (P : Nat) (tt : Nat → Int32) (ln : Nat) (M : Nat) (q : SG) (h0 : Nat) (dep : Int32) (tok : Nat) (ka : Nat) (sta : Nat) (vaa : Nat) (ax : Int32) (tn : Int32) (fa : Int32) (pw : Int32) (sg : Int32) (zz : Int32) (sz : Nat) (hT : TP g L f [(h0, (0, 2, 0)), (tok, (0, 6, 0)), (ka, (1, g 0, 1501)), (sta, (1, g 5, 1501)), (vaa, (1, g 6, 1501))]) (hm_ax : rd f h0 1 = .int ax) (hm_tn : rd f h0 2 = .int tn) (hm_fa : rd f h0 3 = .int fa) (hm_pw : rd f h0 4 = .int pw) (hm_sg : rd f h0 5 = .int sg) (hm_zz : rd f tok 3 = .int zz) (h_tok : rd f h0 0 = .ref tok) (h_ka : rd f tok 4 = .ref ka) (h_sta : rd f tok 5 = .ref sta) (h_vaa : rd f tok 6 = .ref vaa) (hd : dep = nI d) (hdj : d + j = 8) (hP0 : pot fa sg = P) (hs3 : sg.toInt ≤ 300) (hzz : zz = nI (M + 1)) (hTK : TKS f ka sta vaa tt ln M) (hRQ : RQ tt ln M q ax tn fa pw) (hnd : sg = nI q.2.1 ∧ q.2.1 ≤ 300) (IHR : ∀ j' d' : Nat, d' + j' = 8 → j = j' + 1 → ∀ (L : List Nat) (f : Nat → va_E) (P : Nat) (tt : Nat → Int32) (ln : Nat) (M : Nat) (q : SG) (h0 : Nat) (dep : Int32) (tok : Nat) (ka : Nat) (sta : Nat) (vaa : Nat) (ax : Int32) (tn : Int32) (fa : Int32) (pw : Int32) (sg : Int32) (zz : Int32) (sz : Nat) (hT : TP g L f [(h0, (0, 2, 0)), (tok, (0, 6, 0)), (ka, (1, g 0, 1501)), (sta, (1, g 5, 1501)), (vaa, (1, g 6, 1501))]) (hm_ax : rd f h0 1 = .int ax) (hm_tn : rd f h0 2 = .int tn) (hm_fa : rd f h0 3 = .int fa) (hm_pw : rd f h0 4 = .int pw) (hm_sg : rd f h0 5 = .int sg) (hm_zz : rd f tok 3 = .int zz) (h_tok : rd f h0 0 = .ref tok) (h_ka : rd f tok 4 = .ref ka) (h_sta : rd f tok 5 = .ref sta) (h_vaa : rd f tok 6 = .ref vaa) (hd : dep = nI d') (hP0 : pot fa sg = P) (hs3 : sg.toInt ≤ 300) (hzz : zz = nI (M + 1)) (hTK : TKS f ka sta vaa tt ln M) (hRQ : RQ tt ln M q ax tn fa pw) (hnd : sg = nI q.2.1 ∧ q.2.1 ≤ 300), KZ l dC dI sa g yX2_readSteps wsX2_readSteps (rm_X2_readSteps j' d' P tt ln M q) [.ref h0, .int dep] L f sz (fun r L' f' => (∃ v : Value, r = some v ∧ okv L' f' (2, 0, 5, 0) v) ∧ Fr [(2, 1), (2, 2), (2, 3), (2, 4), (5, 1), (5, 2), (5, 3), (5, 4), (5, 5), (5, 6), (5, 7), (2, 5)] L f f' ∧ (∃ ax' : Int32, ∃ tn' : Int32, ∃ fa' : Int32, ∃ pw' : Int32, ∃ sg' : Int32, rd f' h0 1 = .int ax' ∧ rd f' h0 2 = .int tn' ∧ rd f' h0 3 = .int fa' ∧ rd f' h0 4 = .int pw' ∧ rd f' h0 5 = .int sg' ∧ (True) ∧ (True) ∧ (True) ∧ (True) ∧ (sg'.toInt ≤ 300) ∧ (∃ qn : SG, Ev (Kp tt ln) (Vp tt ln) (nq tt ln) 0 d' q qn ∧ RQ tt ln M qn ax' tn' fa' pw' ∧ sg' = nI qn.2.1 ∧ qn.2.1 ≤ 300))) (fun n f' => ∃ a b : Int32, rd f' h0 3 = .int a ∧ rd f' h0 5 = .int b ∧ n + pot a b ≤ P) P (8 * P)) : KZ l dC dI sa g yX2_readSteps wsX2_readSteps (rm_X2_readSteps j d P tt ln M q) [.ref h0, .int dep] L f sz (fun r L' f' => (∃ v : Value, r = some v ∧ okv L' f' (2, 0, 5, 0) v) ∧ Fr [(2, 1), (2, 2), (2, 3), (2, 4), (5, 1), (5, 2), (5, 3), (5, 4), (5, 5), (5, 6), (5, 7), (2, 5)] L f f' ∧ (∃ ax' : Int32, ∃ tn' : Int32, ∃ fa' : Int32, ∃ pw' : Int32, ∃ sg' : Int32, rd f' h0 1 = .int ax' ∧ rd f' h0 2 = .int tn' ∧ rd f' h0 3 = .int fa' ∧ rd f' h0 4 = .int pw' ∧ rd f' h0 5 = .int sg' ∧ (True) ∧ (True) ∧ (True) ∧ (True) ∧ (sg'.toInt ≤ 300) ∧ (∃ qn : SG, Ev (Kp tt ln) (Vp tt ln) (nq tt ln) 0 d q qn ∧ RQ tt ln M qn ax' tn' fa' pw' ∧ sg' = nI qn.2.1 ∧ qn.2.1 ≤ 300))) (fun n f' => ∃ a b : Int32, rd f' h0 3 = .int a ∧ rd f' h0 5 = .int b ∧ n + pot a b ≤ P) P (8 * P) := by
  refine KZ.start (cc := cX2_readSteps) (maxL := 6) (ret := (some (.object "VatHouse$Step"))) (by decide) rfl (Nat.le_of_ble_eq_true rfl) ?_
  intro p e s m below meth c ls hst hP hK hD hev hS hl
  obtain ⟨hx, hb, hr, hml, hts, hown, hlocks, hin⟩ := hst
  have hown : s.vm.findClass RX2 = some m.cls := hown
  have hin : meth.name = yX2_readSteps.name := hin
  have hA : ∀ q : Nat, s.heap.size ≤ q → va_A (va_pl L f) s.heap.size q := fun _ h => Or.inr h
  have hE : Ext L f L f := Ext.rf
  have hF : Fr [(2, 1), (2, 2), (2, 3), (2, 4), (5, 1), (5, 2), (5, 3), (5, 4), (5, 5), (5, 6), (5, 7), (2, 5)] L f f := Fr.rf
  have hl : lv_has ls 6 [(0, .ref h0), (1, .int dep)] := hl
  have hT0 := hT
  refine lv_null hx hb dX2_readSteps_0 ?_
  refine lv_astore_nN (lv' := [(2, .null), (0, .ref h0), (1, .int dep)]) hx hb dX2_readSteps_1 rfl hl (by decide) rfl (fun ls hl => ?_)
  refine lv_null hx hb dX2_readSteps_2 ?_
  refine lv_astore_nN (lv' := [(3, .null), (2, .null), (0, .ref h0), (1, .int dep)]) hx hb dX2_readSteps_3 rfl hl (by decide) rfl (fun ls hl => ?_)
  refine lv_iconst (v := 0) hx hb dX2_readSteps_4 (by decide) ?_
  refine lv_istore (lv' := [(4, .int 0), (3, .null), (2, .null), (0, .ref h0), (1, .int dep)]) hx hb dX2_readSteps_5 hl (by decide) rfl (fun ls hl => ?_)
  have lp : ∀ (n : Nat) (fi : Value) (la : Value) (ii : Int32) (k1 : Int32) (k2 : Int32) (k3 : Int32) (k4 : Int32) (k5 : Int32) (kc : Nat) (L1 : List Nat) (f1 : Nat → va_E) (H : Heap) (locs : List Loc) (ls : Array Slot), (∃ a : Nat, ii = nI a ∧ a ≤ 300 + 1 ∧ 300 + 1 < a + n) → okv L1 f1 (2, 0, 5, 0) fi → okv L1 f1 (2, 0, 5, 0) la → rd f1 h0 1 = .int k1 → rd f1 h0 2 = .int k2 → rd f1 h0 3 = .int k3 → rd f1 h0 4 = .int k4 → rd f1 h0 5 = .int k5 → rd f1 tok 3 = .int zz → (kc + pot k3 k5 ≤ P) → (k5.toInt ≤ 300) → (∃ q1 : SG, RQ tt ln M q1 k1 k2 k3 k4 ∧ (k5 = nI q1.2.1 ∧ q1.2.1 ≤ 300) ∧ (∀ r9 : SG, Ev (Kp tt ln) (Vp tt ln) (nq tt ln) 0 d q1 r9 → Ev (Kp tt ln) (Vp tt ln) (nq tt ln) 0 d q r9) ∧ (k3 = 0 → ∃ a : Nat, ii = nI a ∧ a ≤ q1.2.1 ∧ a ≤ 301)) → va_P (dC, dI) vwCl (va_pl L1 f1) H → va_D (va_A (va_pl L f) s.heap.size) (va_pl L1 f1) → va_S (va_A (va_pl L f) s.heap.size) s.heap H locs → TP g L1 f1 [(h0, (0, 2, 0)), (tok, (0, 6, 0)), (ka, (1, g 0, 1501)), (sta, (1, g 5, 1501)), (vaa, (1, g 6, 1501))] → Ext L f L1 f1 → Fr [(2, 1), (2, 2), (2, 3), (2, 4), (5, 1), (5, 2), (5, 3), (5, 4), (5, 5), (5, 6), (5, 7), (2, 5)] L f f1 → lv_has ls 6 [(2, fi), (3, la), (4, .int ii), (0, .ref h0), (1, .int dep)] → W p l e (rm_X2_readSteps j d P tt ln M q) s m [.ref h0, .int dep].toArray below meth c H locs kc (8 * kc) (MQ below (Qz dC dI g L f (va_A (va_pl L f) s.heap.size) (fun r L' f' => (∃ v : Value, r = some v ∧ okv L' f' (2, 0, 5, 0) v) ∧ Fr [(2, 1), (2, 2), (2, 3), (2, 4), (5, 1), (5, 2), (5, 3), (5, 4), (5, 5), (5, 6), (5, 7), (2, 5)] L f f' ∧ (∃ ax' : Int32, ∃ tn' : Int32, ∃ fa' : Int32, ∃ pw' : Int32, ∃ sg' : Int32, rd f' h0 1 = .int ax' ∧ rd f' h0 2 = .int tn' ∧ rd f' h0 3 = .int fa' ∧ rd f' h0 4 = .int pw' ∧ rd f' h0 5 = .int sg' ∧ (True) ∧ (True) ∧ (True) ∧ (True) ∧ (sg'.toInt ≤ 300) ∧ (∃ qn : SG, Ev (Kp tt ln) (Vp tt ln) (nq tt ln) 0 d q qn ∧ RQ tt ln M qn ax' tn' fa' pw' ∧ sg' = nI qn.2.1 ∧ qn.2.1 ≤ 300))) (fun n f' => ∃ a b : Int32, rd f' h0 3 = .int a ∧ rd f' h0 5 = .int b ∧ n + pot a b ≤ P)) [.ref h0, .int dep].toArray s (P) (8 * P) (va_A (va_pl L f) s.heap.size)) (F0 m 7 ls []) := by
    intro n
    induction n with
    | zero => intro fi la ii k1 k2 k3 k4 k5 kc L1 f1 H locs ls hm hn_fi hn_la hk_h0_1 hk_h0_2 hk_h0_3 hk_h0_4 hk_h0_5 hk_tok_3 hkc hk5 hR hP hD hS hT hE hF hl; exact absurd hm (by rintro ⟨a, -, h1, h2⟩; omega)
    | succ n ih =>
      intro fi la ii k1 k2 k3 k4 k5 kc L1 f1 H locs ls hm hn_fi hn_la hk_h0_1 hk_h0_2 hk_h0_3 hk_h0_4 hk_h0_5 hk_tok_3 hkc hk5 hR hP hD hS hT hE hF hl
      rcases hn_fi with rfl | ⟨b_1, rfl, hb9⟩
      · rcases hn_la with rfl | ⟨b_2, rfl, hb9⟩
        · have hl : lv_has ls 6 [(2, .null), (3, .null), (4, .int ii), (0, .ref h0), (1, .int dep)] := hl
          refine lv_iload hx hb dX2_readSteps_7 (lv_at hl 2 rfl) ?_
          obtain ⟨q1, hrq1, hnd1, hall, hcnt⟩ := hR
          refine lv_sipush (v := 300) hx hb dX2_readSteps_9 (by decide) ?_
          refine lv_icmp_gt (tgt := 71) hx hb dX2_readSteps_12 (by decide) (fun c_3 => ?_) (fun c_3 => ?_)
          · refine lv_aload_nN hx hb dX2_readSteps_71 rfl (lv_at hl 0 rfl) ?_
            exact K_aZ hx hb hr (Or.inl ⟨_, rfl⟩) (Or.inl rfl) hlocks hP hD hK hS hT hE ⟨⟨_, rfl, Or.inl rfl⟩, hF, _, _, _, _, _, hk_h0_1, hk_h0_2, hk_h0_3, hk_h0_4, hk_h0_5, trivial, trivial, trivial, trivial, hk5, ⟨q1, hall _ (Ev.stop (fun h9 => ss_301 hnd1.2 hcnt (hrq1.F.trans h9.1) c_3)), hrq1, (by first | exact hnd1 | (simp only [gpa_nd, gnu_nd, gpl_nd, gte_nd, gob_nd, grf_nd]; exact hnd1))⟩⟩ (⟨_, _, hk_h0_3, hk_h0_5, by omega⟩) (by first | exact Nat.le_of_ble_eq_true rfl | (simp only [rm_X2_readSteps]; omega) | omega) (by first | exact Nat.le_of_ble_eq_true rfl | (simp only [rm_X2_readSteps]; omega) | omega) (by first | exact Nat.le_of_ble_eq_true rfl | (simp only [rm_X2_readSteps]; omega) | omega) dX2_readSteps_72
          · refine lv_aload_n hx hb dX2_readSteps_15 rfl (lv_at hl 3 rfl) ?_
            refine T_get (ci := 2) (C := RX2) (T := TX2) (N := 6) (t := tI) hx hb hts inw_X2_readSteps_2 hown hK hP hT 0 rfl rfl 3 (by decide) (hts (.fieldLink RX2 28 "VatHouse$Reader" "fault" "I") (by decide +kernel)) (fun _ h9 => h9) rfl dX2_readSteps_16 (fun v_6 hv_4 hr_5 => ?_)
            obtain rfl : v_6 = .int k3 := hr_5.symm.trans hk_h0_3
            refine lv_if_ne (tgt := 71) hx hb dX2_readSteps_19 (by decide) (fun c_7 => ?_) (fun c_7 => ?_)
            · refine lv_aload_nN hx hb dX2_readSteps_71 rfl (lv_at hl 0 rfl) ?_
              exact K_aZ hx hb hr (Or.inl ⟨_, rfl⟩) (Or.inl rfl) hlocks hP hD hK hS hT hE ⟨⟨_, rfl, Or.inl rfl⟩, hF, _, _, _, _, _, hk_h0_1, hk_h0_2, hk_h0_3, hk_h0_4, hk_h0_5, trivial, trivial, trivial, trivial, hk5, ⟨q1, hall _ (Ev.stop (fun h9 => c_7 (hrq1.F.trans h9.1))), hrq1, (by first | exact hnd1 | (simp only [gpa_nd, gnu_nd, gpl_nd, gte_nd, gob_nd, grf_nd]; exact hnd1))⟩⟩ (⟨_, _, hk_h0_3, hk_h0_5, by omega⟩) (by first | exact Nat.le_of_ble_eq_true rfl | (simp only [rm_X2_readSteps]; omega) | omega) (by first | exact Nat.le_of_ble_eq_true rfl | (simp only [rm_X2_readSteps]; omega) | omega) (by first | exact Nat.le_of_ble_eq_true rfl | (simp only [rm_X2_readSteps]; omega) | omega) dX2_readSteps_72
            · refine lv_aload_n hx hb dX2_readSteps_22 rfl (lv_at hl 3 rfl) ?_
              refine T_get (ci := 2) (C := RX2) (T := TX2) (N := 6) (t := tI) hx hb hts inw_X2_readSteps_2 hown hK hP hT 0 rfl rfl 2 (by decide) (hts (.fieldLink RX2 44 "VatHouse$Reader" "token" "I") (by decide +kernel)) (fun _ h9 => h9) rfl dX2_readSteps_23 (fun v_10 hv_8 hr_9 => ?_)
              obtain rfl : v_10 = .int k2 := hr_9.symm.trans hk_h0_2
              refine lv_iconst (v := 1) hx hb dX2_readSteps_26 (by decide) ?_
              refine lv_icmp_lt (tgt := 71) hx hb dX2_readSteps_27 (by decide) (fun c_11 => ?_) (fun c_11 => ?_)
              · refine lv_aload_nN hx hb dX2_readSteps_71 rfl (lv_at hl 0 rfl) ?_
                exact K_aZ hx hb hr (Or.inl ⟨_, rfl⟩) (Or.inl rfl) hlocks hP hD hK hS hT hE ⟨⟨_, rfl, Or.inl rfl⟩, hF, _, _, _, _, _, hk_h0_1, hk_h0_2, hk_h0_3, hk_h0_4, hk_h0_5, trivial, trivial, trivial, trivial, hk5, ⟨q1, hall _ (Ev.stop (fun h9 => nlt_of_le h9.2.1 (by rw [← hrq1.K]; exact c_11))), hrq1, (by first | exact hnd1 | (simp only [gpa_nd, gnu_nd, gpl_nd, gte_nd, gob_nd, grf_nd]; exact hnd1))⟩⟩ (⟨_, _, hk_h0_3, hk_h0_5, by omega⟩) (by first | exact Nat.le_of_ble_eq_true rfl | (simp only [rm_X2_readSteps]; omega) | omega) (by first | exact Nat.le_of_ble_eq_true rfl | (simp only [rm_X2_readSteps]; omega) | omega) (by first | exact Nat.le_of_ble_eq_true rfl | (simp only [rm_X2_readSteps]; omega) | omega) dX2_readSteps_72
              · refine lv_aload_n hx hb dX2_readSteps_30 rfl (lv_at hl 3 rfl) ?_
                refine T_get (ci := 2) (C := RX2) (T := TX2) (N := 6) (t := tI) hx hb hts inw_X2_readSteps_2 hown hK hP hT 0 rfl rfl 2 (by decide) (hts (.fieldLink RX2 44 "VatHouse$Reader" "token" "I") (by decide +kernel)) (fun _ h9 => h9) rfl dX2_readSteps_31 (fun v_14 hv_12 hr_13 => ?_)
                obtain rfl : v_14 = .int k2 := hr_13.symm.trans hk_h0_2
                refine lv_bipush (v := 12) hx hb dX2_readSteps_34 (by decide) ?_
                refine lv_icmp_gt (tgt := 71) hx hb dX2_readSteps_36 (by decide) (fun c_15 => ?_) (fun c_15 => ?_)
                · refine lv_aload_nN hx hb dX2_readSteps_71 rfl (lv_at hl 0 rfl) ?_
                  exact K_aZ hx hb hr (Or.inl ⟨_, rfl⟩) (Or.inl rfl) hlocks hP hD hK hS hT hE ⟨⟨_, rfl, Or.inl rfl⟩, hF, _, _, _, _, _, hk_h0_1, hk_h0_2, hk_h0_3, hk_h0_4, hk_h0_5, trivial, trivial, trivial, trivial, hk5, ⟨q1, hall _ (Ev.stop (fun h9 => nlt_of_le h9.2.2 (by rw [← hrq1.K]; exact c_15))), hrq1, (by first | exact hnd1 | (simp only [gpa_nd, gnu_nd, gpl_nd, gte_nd, gob_nd, grf_nd]; exact hnd1))⟩⟩ (⟨_, _, hk_h0_3, hk_h0_5, by omega⟩) (by first | exact Nat.le_of_ble_eq_true rfl | (simp only [rm_X2_readSteps]; omega) | omega) (by first | exact Nat.le_of_ble_eq_true rfl | (simp only [rm_X2_readSteps]; omega) | omega) (by first | exact Nat.le_of_ble_eq_true rfl | (simp only [rm_X2_readSteps]; omega) | omega) dX2_readSteps_72
                · refine lv_aload_n hx hb dX2_readSteps_39 rfl (lv_at hl 3 rfl) ?_
                  refine lv_iload_n hx hb dX2_readSteps_40 rfl (lv_at hl 4 rfl) ?_
                  have hTo := hT
                  refine K_VZ ⟨hx, hb, hml, hown, hts⟩ (t_X2_readStep l dC dI sa hlt g _ _ j d (pot k3 k5) tt ln M q1 h0 dep tok ka sta vaa k1 k2 k3 k4 k5 zz _ (hT.sub [0, 1, 2, 3, 4] rfl)  hk_h0_1 hk_h0_2 hk_h0_3 hk_h0_4 hk_h0_5 hk_tok_3 ((hF.1 h0 (hT0.at 0 rfl).1 2 (hT0.at 0 rfl).2 0 (by decide)).trans h_tok) ((hF.1 tok (hT0.at 1 rfl).1 6 (hT0.at 1 rfl).2 4 (by decide)).trans h_ka) ((hF.1 tok (hT0.at 1 rfl).1 6 (hT0.at 1 rfl).2 5 (by decide)).trans h_sta) ((hF.1 tok (hT0.at 1 rfl).1 6 (hT0.at 1 rfl).2 6 (by decide)).trans h_vaa) hd hdj rfl hk5 hzz (hTK.go (hF.2 ka (hT0.at 2 rfl).1 0 _ _ (hT0.at 2 rfl).2 (by decide)) (hF.2 sta (hT0.at 3 rfl).1 0 _ _ (hT0.at 3 rfl).2 (by decide)) (hF.2 vaa (hT0.at 4 rfl).1 0 _ _ (hT0.at 4 rfl).2 (by decide))) hrq1 (by first | exact hnd1 | (simp only [gpa_nd, gnu_nd, gpl_nd, gte_nd, gob_nd, grf_nd]; exact hnd1)) IHR c_7 ⟨c_11, c_15⟩) (cwV 1 hts gX2_readSteps_X2_readStep rfl rfl rfl (by decide +kernel) ⟨(by first | exact Nat.le_of_ble_eq_true rfl | (simp only [rm_X2_readStep, rm_X2_readSteps]; omega)), (by first | exact Nat.le_of_ble_eq_true rfl | (simp only [rm_X2_readStep, rm_X2_readSteps]; omega))⟩) hP hD hK hS hA hev hT 0 2 rfl rfl rfl rfl hl.1 rfl (Nat.le_of_ble_eq_true rfl) dX2_readSteps_41 ⟨(by first | exact Nat.le_of_ble_eq_true rfl | (simp only [rm_X2_readSteps]; omega) | omega), (by first | exact Nat.le_of_ble_eq_true rfl | (simp only [rm_X2_readSteps]; omega) | omega)⟩ (fun r L_16 f_17 n_19 H locs hw_18 hn_20 hP hD hS hT hE1 => ?_)
                  have hF := Fr.call hF hE hw_18.2.1 (by decide)
                  have hE := hE.tr hE1
                  obtain ⟨⟨v_21, rfl, hv9⟩, hw_18⟩ := hw_18
                  obtain ⟨b_22, rfl, hb9⟩ := hv9
                  have hT := hT.add hb9
                  obtain ⟨hfr_23, ax_24, tn_25, fa_26, pw_27, sg_28, hk_29, hk_30, hk_31, hk_32, hk_33, hrel_34, hrel_35, hrel_36, hrel_37, hrel_38, hex_39⟩ := hw_18
                  have hk_40 : rd f_17 tok 3 = .int zz := (hfr_23.1 tok (hTo.at 1 rfl).1 6 (hTo.at 1 rfl).2 3 (by decide)).trans hk_tok_3
                  have hq_41 : n_19 + pot fa_26 sg_28 ≤ pot k3 k5 := by
                    obtain ⟨a9, b9, g1, g2, g3⟩ := hn_20
                    cases g1.symm.trans hk_31
                    cases g2.symm.trans hk_33
                    exact g3
                  obtain ⟨qn_42, hev_43, hrq_44, hsg_45, hn3_46⟩ := hex_39
                  refine W.eq (g2 := F0 m 44 ls [.ref b_22]) rfl ?_
                  refine lv_astore (lv' := [(5, .ref b_22), (2, .null), (3, .null), (4, .int ii), (0, .ref h0), (1, .int dep)]) hx hb dX2_readSteps_44 hl (by decide) rfl (fun ls hl => ?_)
                  refine lv_aload_nN hx hb dX2_readSteps_46 rfl (lv_at hl 2 rfl) ?_
                  refine lv_ifnonnullN hx hb dX2_readSteps_47 ?_
                  refine lv_aload hx hb dX2_readSteps_50 (lv_at hl 0 rfl) ?_
                  refine lv_astore_n (lv' := [(2, .ref b_22), (5, .ref b_22), (3, .null), (4, .int ii), (0, .ref h0), (1, .int dep)]) hx hb dX2_readSteps_52 rfl hl (by decide) rfl (fun ls hl => ?_)
                  refine lv_goto (tgt := 62) hx hb dX2_readSteps_53 (by decide) ?_
                  refine lv_aload hx hb dX2_readSteps_62 (lv_at hl 1 rfl) ?_
                  refine lv_astore_n (lv' := [(3, .ref b_22), (2, .ref b_22), (5, .ref b_22), (4, .int ii), (0, .ref h0), (1, .int dep)]) hx hb dX2_readSteps_64 rfl hl (by decide) rfl (fun ls hl => ?_)
                  refine lv_iinc (v := (ii + 1)) (lv' := [(4, .int (ii + 1)), (3, .ref b_22), (2, .ref b_22), (5, .ref b_22), (0, .ref h0), (1, .int dep)]) hx hb dX2_readSteps_65 hl (k := 3) rfl rfl (by decide) rfl (fun ls hl => ?_)
                  refine lv_goto (tgt := 7) hx hb dX2_readSteps_68 (by decide) ?_
                  exact W.widen (by first | exact Nat.le_of_ble_eq_true rfl | (simp only [rm_X2_readSteps]; omega) | omega) (by first | exact Nat.le_of_ble_eq_true rfl | (simp only [rm_X2_readSteps]; omega) | omega) (ih (.ref b_22) (.ref b_22) (ii + 1) ax_24 tn_25 fa_26 pw_27 sg_28 (kc + n_19) _ _ _ _ _ (up_le (by decide) hm c_3) (Or.inr ⟨_, rfl, hT.at 0 rfl⟩) (Or.inr ⟨_, rfl, hT.at 0 rfl⟩) hk_29 hk_30 hk_31 hk_32 hk_33 hk_40 (by omega) (hrel_38) (⟨qn_42, hrq_44, ⟨hsg_45, hn3_46⟩, fun r9 h9 => hall r9 (Ev.go ⟨hrq1.F.symm.trans c_7, tn_rg hrq1.K c_11 c_15⟩ hev_43 h9), fun h9 => ss_cnt hev_43 c_7 hnd1.2 hcnt (hrq_44.F.symm.trans h9)⟩) hP hD hS (hT.sub [1, 2, 3, 4, 5] rfl) hE hF (lv_sub hl [2, 1, 0, 4, 5] rfl))
        · have hT := hT.add hb9
          have hl : lv_has ls 6 [(2, .null), (3, .ref b_2), (4, .int ii), (0, .ref h0), (1, .int dep)] := hl
          refine lv_iload hx hb dX2_readSteps_7 (lv_at hl 2 rfl) ?_
          obtain ⟨q1, hrq1, hnd1, hall, hcnt⟩ := hR
          refine lv_sipush (v := 300) hx hb dX2_readSteps_9 (by decide) ?_
          refine lv_icmp_gt (tgt := 71) hx hb dX2_readSteps_12 (by decide) (fun c_47 => ?_) (fun c_47 => ?_)
          · refine lv_aload_nN hx hb dX2_readSteps_71 rfl (lv_at hl 0 rfl) ?_
            exact K_aZ hx hb hr (Or.inl ⟨_, rfl⟩) (Or.inl rfl) hlocks hP hD hK hS hT hE ⟨⟨_, rfl, Or.inl rfl⟩, hF, _, _, _, _, _, hk_h0_1, hk_h0_2, hk_h0_3, hk_h0_4, hk_h0_5, trivial, trivial, trivial, trivial, hk5, ⟨q1, hall _ (Ev.stop (fun h9 => ss_301 hnd1.2 hcnt (hrq1.F.trans h9.1) c_47)), hrq1, (by first | exact hnd1 | (simp only [gpa_nd, gnu_nd, gpl_nd, gte_nd, gob_nd, grf_nd]; exact hnd1))⟩⟩ (⟨_, _, hk_h0_3, hk_h0_5, by omega⟩) (by first | exact Nat.le_of_ble_eq_true rfl | (simp only [rm_X2_readSteps]; omega) | omega) (by first | exact Nat.le_of_ble_eq_true rfl | (simp only [rm_X2_readSteps]; omega) | omega) (by first | exact Nat.le_of_ble_eq_true rfl | (simp only [rm_X2_readSteps]; omega) | omega) dX2_readSteps_72
          · refine lv_aload_n hx hb dX2_readSteps_15 rfl (lv_at hl 3 rfl) ?_
            refine T_get (ci := 2) (C := RX2) (T := TX2) (N := 6) (t := tI) hx hb hts inw_X2_readSteps_2 hown hK hP hT 1 rfl rfl 3 (by decide) (hts (.fieldLink RX2 28 "VatHouse$Reader" "fault" "I") (by decide +kernel)) (fun _ h9 => h9) rfl dX2_readSteps_16 (fun v_50 hv_48 hr_49 => ?_)
            obtain rfl : v_50 = .int k3 := hr_49.symm.trans hk_h0_3
            refine lv_if_ne (tgt := 71) hx hb dX2_readSteps_19 (by decide) (fun c_51 => ?_) (fun c_51 => ?_)
            · refine lv_aload_nN hx hb dX2_readSteps_71 rfl (lv_at hl 0 rfl) ?_
              exact K_aZ hx hb hr (Or.inl ⟨_, rfl⟩) (Or.inl rfl) hlocks hP hD hK hS hT hE ⟨⟨_, rfl, Or.inl rfl⟩, hF, _, _, _, _, _, hk_h0_1, hk_h0_2, hk_h0_3, hk_h0_4, hk_h0_5, trivial, trivial, trivial, trivial, hk5, ⟨q1, hall _ (Ev.stop (fun h9 => c_51 (hrq1.F.trans h9.1))), hrq1, (by first | exact hnd1 | (simp only [gpa_nd, gnu_nd, gpl_nd, gte_nd, gob_nd, grf_nd]; exact hnd1))⟩⟩ (⟨_, _, hk_h0_3, hk_h0_5, by omega⟩) (by first | exact Nat.le_of_ble_eq_true rfl | (simp only [rm_X2_readSteps]; omega) | omega) (by first | exact Nat.le_of_ble_eq_true rfl | (simp only [rm_X2_readSteps]; omega) | omega) (by first | exact Nat.le_of_ble_eq_true rfl | (simp only [rm_X2_readSteps]; omega) | omega) dX2_readSteps_72
            · refine lv_aload_n hx hb dX2_readSteps_22 rfl (lv_at hl 3 rfl) ?_
              refine T_get (ci := 2) (C := RX2) (T := TX2) (N := 6) (t := tI) hx hb hts inw_X2_readSteps_2 hown hK hP hT 1 rfl rfl 2 (by decide) (hts (.fieldLink RX2 44 "VatHouse$Reader" "token" "I") (by decide +kernel)) (fun _ h9 => h9) rfl dX2_readSteps_23 (fun v_54 hv_52 hr_53 => ?_)
              obtain rfl : v_54 = .int k2 := hr_53.symm.trans hk_h0_2
              refine lv_iconst (v := 1) hx hb dX2_readSteps_26 (by decide) ?_
              refine lv_icmp_lt (tgt := 71) hx hb dX2_readSteps_27 (by decide) (fun c_55 => ?_) (fun c_55 => ?_)
              · refine lv_aload_nN hx hb dX2_readSteps_71 rfl (lv_at hl 0 rfl) ?_
                exact K_aZ hx hb hr (Or.inl ⟨_, rfl⟩) (Or.inl rfl) hlocks hP hD hK hS hT hE ⟨⟨_, rfl, Or.inl rfl⟩, hF, _, _, _, _, _, hk_h0_1, hk_h0_2, hk_h0_3, hk_h0_4, hk_h0_5, trivial, trivial, trivial, trivial, hk5, ⟨q1, hall _ (Ev.stop (fun h9 => nlt_of_le h9.2.1 (by rw [← hrq1.K]; exact c_55))), hrq1, (by first | exact hnd1 | (simp only [gpa_nd, gnu_nd, gpl_nd, gte_nd, gob_nd, grf_nd]; exact hnd1))⟩⟩ (⟨_, _, hk_h0_3, hk_h0_5, by omega⟩) (by first | exact Nat.le_of_ble_eq_true rfl | (simp only [rm_X2_readSteps]; omega) | omega) (by first | exact Nat.le_of_ble_eq_true rfl | (simp only [rm_X2_readSteps]; omega) | omega) (by first | exact Nat.le_of_ble_eq_true rfl | (simp only [rm_X2_readSteps]; omega) | omega) dX2_readSteps_72
              · refine lv_aload_n hx hb dX2_readSteps_30 rfl (lv_at hl 3 rfl) ?_
                refine T_get (ci := 2) (C := RX2) (T := TX2) (N := 6) (t := tI) hx hb hts inw_X2_readSteps_2 hown hK hP hT 1 rfl rfl 2 (by decide) (hts (.fieldLink RX2 44 "VatHouse$Reader" "token" "I") (by decide +kernel)) (fun _ h9 => h9) rfl dX2_readSteps_31 (fun v_58 hv_56 hr_57 => ?_)
                obtain rfl : v_58 = .int k2 := hr_57.symm.trans hk_h0_2
                refine lv_bipush (v := 12) hx hb dX2_readSteps_34 (by decide) ?_
                refine lv_icmp_gt (tgt := 71) hx hb dX2_readSteps_36 (by decide) (fun c_59 => ?_) (fun c_59 => ?_)
                · refine lv_aload_nN hx hb dX2_readSteps_71 rfl (lv_at hl 0 rfl) ?_
                  exact K_aZ hx hb hr (Or.inl ⟨_, rfl⟩) (Or.inl rfl) hlocks hP hD hK hS hT hE ⟨⟨_, rfl, Or.inl rfl⟩, hF, _, _, _, _, _, hk_h0_1, hk_h0_2, hk_h0_3, hk_h0_4, hk_h0_5, trivial, trivial, trivial, trivial, hk5, ⟨q1, hall _ (Ev.stop (fun h9 => nlt_of_le h9.2.2 (by rw [← hrq1.K]; exact c_59))), hrq1, (by first | exact hnd1 | (simp only [gpa_nd, gnu_nd, gpl_nd, gte_nd, gob_nd, grf_nd]; exact hnd1))⟩⟩ (⟨_, _, hk_h0_3, hk_h0_5, by omega⟩) (by first | exact Nat.le_of_ble_eq_true rfl | (simp only [rm_X2_readSteps]; omega) | omega) (by first | exact Nat.le_of_ble_eq_true rfl | (simp only [rm_X2_readSteps]; omega) | omega) (by first | exact Nat.le_of_ble_eq_true rfl | (simp only [rm_X2_readSteps]; omega) | omega) dX2_readSteps_72
                · refine lv_aload_n hx hb dX2_readSteps_39 rfl (lv_at hl 3 rfl) ?_
                  refine lv_iload_n hx hb dX2_readSteps_40 rfl (lv_at hl 4 rfl) ?_
                  have hTo := hT
                  refine K_VZ ⟨hx, hb, hml, hown, hts⟩ (t_X2_readStep l dC dI sa hlt g _ _ j d (pot k3 k5) tt ln M q1 h0 dep tok ka sta vaa k1 k2 k3 k4 k5 zz _ (hT.sub [1, 2, 3, 4, 5] rfl)  hk_h0_1 hk_h0_2 hk_h0_3 hk_h0_4 hk_h0_5 hk_tok_3 ((hF.1 h0 (hT0.at 0 rfl).1 2 (hT0.at 0 rfl).2 0 (by decide)).trans h_tok) ((hF.1 tok (hT0.at 1 rfl).1 6 (hT0.at 1 rfl).2 4 (by decide)).trans h_ka) ((hF.1 tok (hT0.at 1 rfl).1 6 (hT0.at 1 rfl).2 5 (by decide)).trans h_sta) ((hF.1 tok (hT0.at 1 rfl).1 6 (hT0.at 1 rfl).2 6 (by decide)).trans h_vaa) hd hdj rfl hk5 hzz (hTK.go (hF.2 ka (hT0.at 2 rfl).1 0 _ _ (hT0.at 2 rfl).2 (by decide)) (hF.2 sta (hT0.at 3 rfl).1 0 _ _ (hT0.at 3 rfl).2 (by decide)) (hF.2 vaa (hT0.at 4 rfl).1 0 _ _ (hT0.at 4 rfl).2 (by decide))) hrq1 (by first | exact hnd1 | (simp only [gpa_nd, gnu_nd, gpl_nd, gte_nd, gob_nd, grf_nd]; exact hnd1)) IHR c_51 ⟨c_55, c_59⟩) (cwV 1 hts gX2_readSteps_X2_readStep rfl rfl rfl (by decide +kernel) ⟨(by first | exact Nat.le_of_ble_eq_true rfl | (simp only [rm_X2_readStep, rm_X2_readSteps]; omega)), (by first | exact Nat.le_of_ble_eq_true rfl | (simp only [rm_X2_readStep, rm_X2_readSteps]; omega))⟩) hP hD hK hS hA hev hT 1 2 rfl rfl rfl rfl hl.1 rfl (Nat.le_of_ble_eq_true rfl) dX2_readSteps_41 ⟨(by first | exact Nat.le_of_ble_eq_true rfl | (simp only [rm_X2_readSteps]; omega) | omega), (by first | exact Nat.le_of_ble_eq_true rfl | (simp only [rm_X2_readSteps]; omega) | omega)⟩ (fun r L_60 f_61 n_63 H locs hw_62 hn_64 hP hD hS hT hE1 => ?_)
                  have hF := Fr.call hF hE hw_62.2.1 (by decide)
                  have hE := hE.tr hE1
                  obtain ⟨⟨v_65, rfl, hv9⟩, hw_62⟩ := hw_62
                  obtain ⟨b_66, rfl, hb9⟩ := hv9
                  have hT := hT.add hb9
                  obtain ⟨hfr_67, ax_68, tn_69, fa_70, pw_71, sg_72, hk_73, hk_74, hk_75, hk_76, hk_77, hrel_78, hrel_79, hrel_80, hrel_81, hrel_82, hex_83⟩ := hw_62
                  have hk_84 : rd f_61 tok 3 = .int zz := (hfr_67.1 tok (hTo.at 2 rfl).1 6 (hTo.at 2 rfl).2 3 (by decide)).trans hk_tok_3
                  have hq_85 : n_63 + pot fa_70 sg_72 ≤ pot k3 k5 := by
                    obtain ⟨a9, b9, g1, g2, g3⟩ := hn_64
                    cases g1.symm.trans hk_75
                    cases g2.symm.trans hk_77
                    exact g3
                  obtain ⟨qn_86, hev_87, hrq_88, hsg_89, hn3_90⟩ := hex_83
                  refine W.eq (g2 := F0 m 44 ls [.ref b_66]) rfl ?_
                  refine lv_astore (lv' := [(5, .ref b_66), (2, .null), (3, .ref b_2), (4, .int ii), (0, .ref h0), (1, .int dep)]) hx hb dX2_readSteps_44 hl (by decide) rfl (fun ls hl => ?_)
                  refine lv_aload_n hx hb dX2_readSteps_46 rfl (lv_at hl 2 rfl) ?_
                  refine lv_ifnonnull (tgt := 56) hx hb dX2_readSteps_47 (by decide) ?_
                  refine lv_aload_n hx hb dX2_readSteps_56 rfl (lv_at hl 2 rfl) ?_
                  refine lv_aload hx hb dX2_readSteps_57 (lv_at hl 0 rfl) ?_
                  have hTo := hT
                  refine T_put (ci := 5) (v := .ref b_66) (ty := .object "VatHouse$Step") (t := (2, 0, 5, 0)) (C := RX5) (T := TX5) (N := 8) hx hb hts inw_X2_readSteps_5 tyX5 tyX5_ok nmX5 hown hK hP hD hS hT 1 rfl rfl 7 (by decide) (hts (.fieldLink RX2 50 "VatHouse$Step" "next" "LVatHouse$Step;") (by decide +kernel)) (fun _ h9 => h9) rfl (by decide +kernel) rfl rfl rfl (Or.inr ⟨_, rfl, hT.at 0 rfl⟩) dX2_readSteps_59 (fun f_91 H locs hP hD hS hT hE1 hrd_92 hup_93 => ?_)
                  have hF := Fr.put (a := b_2) (ci := 5) hF hE ((hE1 b_2 (hT.at 1 rfl).1).2.symm.trans (hT.at 1 rfl).2) (by decide) hrd_92 hup_93
                  have hE := hE.tr hE1
                  have hk_94 : rd f_91 h0 1 = .int ax_68 := ((Fr.put (cs := [(5, 7)]) (a := b_2) (ci := 5) Fr.rf Ext.rf (hTo.at 1 rfl).2 (by decide) hrd_92 hup_93).1 h0 (hTo.at 2 rfl).1 2 (hTo.at 2 rfl).2 1 (by decide)).trans hk_73
                  have hk_95 : rd f_91 h0 2 = .int tn_69 := ((Fr.put (cs := [(5, 7)]) (a := b_2) (ci := 5) Fr.rf Ext.rf (hTo.at 1 rfl).2 (by decide) hrd_92 hup_93).1 h0 (hTo.at 2 rfl).1 2 (hTo.at 2 rfl).2 2 (by decide)).trans hk_74
                  have hk_96 : rd f_91 h0 3 = .int fa_70 := ((Fr.put (cs := [(5, 7)]) (a := b_2) (ci := 5) Fr.rf Ext.rf (hTo.at 1 rfl).2 (by decide) hrd_92 hup_93).1 h0 (hTo.at 2 rfl).1 2 (hTo.at 2 rfl).2 3 (by decide)).trans hk_75
                  have hk_97 : rd f_91 h0 4 = .int pw_71 := ((Fr.put (cs := [(5, 7)]) (a := b_2) (ci := 5) Fr.rf Ext.rf (hTo.at 1 rfl).2 (by decide) hrd_92 hup_93).1 h0 (hTo.at 2 rfl).1 2 (hTo.at 2 rfl).2 4 (by decide)).trans hk_76
                  have hk_98 : rd f_91 h0 5 = .int sg_72 := ((Fr.put (cs := [(5, 7)]) (a := b_2) (ci := 5) Fr.rf Ext.rf (hTo.at 1 rfl).2 (by decide) hrd_92 hup_93).1 h0 (hTo.at 2 rfl).1 2 (hTo.at 2 rfl).2 5 (by decide)).trans hk_77
                  have hk_99 : rd f_91 tok 3 = .int zz := ((Fr.put (cs := [(5, 7)]) (a := b_2) (ci := 5) Fr.rf Ext.rf (hTo.at 1 rfl).2 (by decide) hrd_92 hup_93).1 tok (hTo.at 3 rfl).1 6 (hTo.at 3 rfl).2 3 (by decide)).trans hk_84
                  refine lv_aload hx hb dX2_readSteps_62 (lv_at hl 0 rfl) ?_
                  refine lv_astore_n (lv' := [(3, .ref b_66), (5, .ref b_66), (2, .null), (4, .int ii), (0, .ref h0), (1, .int dep)]) hx hb dX2_readSteps_64 rfl hl (by decide) rfl (fun ls hl => ?_)
                  refine lv_iinc (v := (ii + 1)) (lv' := [(4, .int (ii + 1)), (3, .ref b_66), (5, .ref b_66), (2, .null), (0, .ref h0), (1, .int dep)]) hx hb dX2_readSteps_65 hl (k := 3) rfl rfl (by decide) rfl (fun ls hl => ?_)
                  refine lv_goto (tgt := 7) hx hb dX2_readSteps_68 (by decide) ?_
                  exact W.widen (by first | exact Nat.le_of_ble_eq_true rfl | (simp only [rm_X2_readSteps]; omega) | omega) (by first | exact Nat.le_of_ble_eq_true rfl | (simp only [rm_X2_readSteps]; omega) | omega) (ih .null (.ref b_66) (ii + 1) ax_68 tn_69 fa_70 pw_71 sg_72 (kc + n_63) _ _ _ _ _ (up_le (by decide) hm c_47) (Or.inl rfl) (Or.inr ⟨_, rfl, hT.at 0 rfl⟩) hk_94 hk_95 hk_96 hk_97 hk_98 hk_99 (by omega) (hrel_82) (⟨qn_86, hrq_88, ⟨hsg_89, hn3_90⟩, fun r9 h9 => hall r9 (Ev.go ⟨hrq1.F.symm.trans c_51, tn_rg hrq1.K c_55 c_59⟩ hev_87 h9), fun h9 => ss_cnt hev_87 c_51 hnd1.2 hcnt (hrq_88.F.symm.trans h9)⟩) hP hD hS (hT.sub [2, 3, 4, 5, 6] rfl) hE hF (lv_sub hl [3, 1, 0, 4, 5] rfl))
      · have hT := hT.add hb9
        rcases hn_la with rfl | ⟨b_100, rfl, hb9⟩
        · have hl : lv_has ls 6 [(2, .ref b_1), (3, .null), (4, .int ii), (0, .ref h0), (1, .int dep)] := hl
          refine lv_iload hx hb dX2_readSteps_7 (lv_at hl 2 rfl) ?_
          obtain ⟨q1, hrq1, hnd1, hall, hcnt⟩ := hR
          refine lv_sipush (v := 300) hx hb dX2_readSteps_9 (by decide) ?_
          refine lv_icmp_gt (tgt := 71) hx hb dX2_readSteps_12 (by decide) (fun c_101 => ?_) (fun c_101 => ?_)
          · refine lv_aload_n hx hb dX2_readSteps_71 rfl (lv_at hl 0 rfl) ?_
            exact K_aZ hx hb hr (Or.inl ⟨_, rfl⟩) (Or.inr ⟨_, rfl⟩) hlocks hP hD hK hS hT hE ⟨⟨_, rfl, Or.inr ⟨_, rfl, hT.at 0 rfl⟩⟩, hF, _, _, _, _, _, hk_h0_1, hk_h0_2, hk_h0_3, hk_h0_4, hk_h0_5, trivial, trivial, trivial, trivial, hk5, ⟨q1, hall _ (Ev.stop (fun h9 => ss_301 hnd1.2 hcnt (hrq1.F.trans h9.1) c_101)), hrq1, (by first | exact hnd1 | (simp only [gpa_nd, gnu_nd, gpl_nd, gte_nd, gob_nd, grf_nd]; exact hnd1))⟩⟩ (⟨_, _, hk_h0_3, hk_h0_5, by omega⟩) (by first | exact Nat.le_of_ble_eq_true rfl | (simp only [rm_X2_readSteps]; omega) | omega) (by first | exact Nat.le_of_ble_eq_true rfl | (simp only [rm_X2_readSteps]; omega) | omega) (by first | exact Nat.le_of_ble_eq_true rfl | (simp only [rm_X2_readSteps]; omega) | omega) dX2_readSteps_72
          · refine lv_aload_n hx hb dX2_readSteps_15 rfl (lv_at hl 3 rfl) ?_
            refine T_get (ci := 2) (C := RX2) (T := TX2) (N := 6) (t := tI) hx hb hts inw_X2_readSteps_2 hown hK hP hT 1 rfl rfl 3 (by decide) (hts (.fieldLink RX2 28 "VatHouse$Reader" "fault" "I") (by decide +kernel)) (fun _ h9 => h9) rfl dX2_readSteps_16 (fun v_104 hv_102 hr_103 => ?_)
            obtain rfl : v_104 = .int k3 := hr_103.symm.trans hk_h0_3
            refine lv_if_ne (tgt := 71) hx hb dX2_readSteps_19 (by decide) (fun c_105 => ?_) (fun c_105 => ?_)
            · refine lv_aload_n hx hb dX2_readSteps_71 rfl (lv_at hl 0 rfl) ?_
              exact K_aZ hx hb hr (Or.inl ⟨_, rfl⟩) (Or.inr ⟨_, rfl⟩) hlocks hP hD hK hS hT hE ⟨⟨_, rfl, Or.inr ⟨_, rfl, hT.at 0 rfl⟩⟩, hF, _, _, _, _, _, hk_h0_1, hk_h0_2, hk_h0_3, hk_h0_4, hk_h0_5, trivial, trivial, trivial, trivial, hk5, ⟨q1, hall _ (Ev.stop (fun h9 => c_105 (hrq1.F.trans h9.1))), hrq1, (by first | exact hnd1 | (simp only [gpa_nd, gnu_nd, gpl_nd, gte_nd, gob_nd, grf_nd]; exact hnd1))⟩⟩ (⟨_, _, hk_h0_3, hk_h0_5, by omega⟩) (by first | exact Nat.le_of_ble_eq_true rfl | (simp only [rm_X2_readSteps]; omega) | omega) (by first | exact Nat.le_of_ble_eq_true rfl | (simp only [rm_X2_readSteps]; omega) | omega) (by first | exact Nat.le_of_ble_eq_true rfl | (simp only [rm_X2_readSteps]; omega) | omega) dX2_readSteps_72
            · refine lv_aload_n hx hb dX2_readSteps_22 rfl (lv_at hl 3 rfl) ?_
              refine T_get (ci := 2) (C := RX2) (T := TX2) (N := 6) (t := tI) hx hb hts inw_X2_readSteps_2 hown hK hP hT 1 rfl rfl 2 (by decide) (hts (.fieldLink RX2 44 "VatHouse$Reader" "token" "I") (by decide +kernel)) (fun _ h9 => h9) rfl dX2_readSteps_23 (fun v_108 hv_106 hr_107 => ?_)
              obtain rfl : v_108 = .int k2 := hr_107.symm.trans hk_h0_2
              refine lv_iconst (v := 1) hx hb dX2_readSteps_26 (by decide) ?_
              refine lv_icmp_lt (tgt := 71) hx hb dX2_readSteps_27 (by decide) (fun c_109 => ?_) (fun c_109 => ?_)
              · refine lv_aload_n hx hb dX2_readSteps_71 rfl (lv_at hl 0 rfl) ?_
                exact K_aZ hx hb hr (Or.inl ⟨_, rfl⟩) (Or.inr ⟨_, rfl⟩) hlocks hP hD hK hS hT hE ⟨⟨_, rfl, Or.inr ⟨_, rfl, hT.at 0 rfl⟩⟩, hF, _, _, _, _, _, hk_h0_1, hk_h0_2, hk_h0_3, hk_h0_4, hk_h0_5, trivial, trivial, trivial, trivial, hk5, ⟨q1, hall _ (Ev.stop (fun h9 => nlt_of_le h9.2.1 (by rw [← hrq1.K]; exact c_109))), hrq1, (by first | exact hnd1 | (simp only [gpa_nd, gnu_nd, gpl_nd, gte_nd, gob_nd, grf_nd]; exact hnd1))⟩⟩ (⟨_, _, hk_h0_3, hk_h0_5, by omega⟩) (by first | exact Nat.le_of_ble_eq_true rfl | (simp only [rm_X2_readSteps]; omega) | omega) (by first | exact Nat.le_of_ble_eq_true rfl | (simp only [rm_X2_readSteps]; omega) | omega) (by first | exact Nat.le_of_ble_eq_true rfl | (simp only [rm_X2_readSteps]; omega) | omega) dX2_readSteps_72
              · refine lv_aload_n hx hb dX2_readSteps_30 rfl (lv_at hl 3 rfl) ?_
                refine T_get (ci := 2) (C := RX2) (T := TX2) (N := 6) (t := tI) hx hb hts inw_X2_readSteps_2 hown hK hP hT 1 rfl rfl 2 (by decide) (hts (.fieldLink RX2 44 "VatHouse$Reader" "token" "I") (by decide +kernel)) (fun _ h9 => h9) rfl dX2_readSteps_31 (fun v_112 hv_110 hr_111 => ?_)
                obtain rfl : v_112 = .int k2 := hr_111.symm.trans hk_h0_2
                refine lv_bipush (v := 12) hx hb dX2_readSteps_34 (by decide) ?_
                refine lv_icmp_gt (tgt := 71) hx hb dX2_readSteps_36 (by decide) (fun c_113 => ?_) (fun c_113 => ?_)
                · refine lv_aload_n hx hb dX2_readSteps_71 rfl (lv_at hl 0 rfl) ?_
                  exact K_aZ hx hb hr (Or.inl ⟨_, rfl⟩) (Or.inr ⟨_, rfl⟩) hlocks hP hD hK hS hT hE ⟨⟨_, rfl, Or.inr ⟨_, rfl, hT.at 0 rfl⟩⟩, hF, _, _, _, _, _, hk_h0_1, hk_h0_2, hk_h0_3, hk_h0_4, hk_h0_5, trivial, trivial, trivial, trivial, hk5, ⟨q1, hall _ (Ev.stop (fun h9 => nlt_of_le h9.2.2 (by rw [← hrq1.K]; exact c_113))), hrq1, (by first | exact hnd1 | (simp only [gpa_nd, gnu_nd, gpl_nd, gte_nd, gob_nd, grf_nd]; exact hnd1))⟩⟩ (⟨_, _, hk_h0_3, hk_h0_5, by omega⟩) (by first | exact Nat.le_of_ble_eq_true rfl | (simp only [rm_X2_readSteps]; omega) | omega) (by first | exact Nat.le_of_ble_eq_true rfl | (simp only [rm_X2_readSteps]; omega) | omega) (by first | exact Nat.le_of_ble_eq_true rfl | (simp only [rm_X2_readSteps]; omega) | omega) dX2_readSteps_72
                · refine lv_aload_n hx hb dX2_readSteps_39 rfl (lv_at hl 3 rfl) ?_
                  refine lv_iload_n hx hb dX2_readSteps_40 rfl (lv_at hl 4 rfl) ?_
                  have hTo := hT
                  refine K_VZ ⟨hx, hb, hml, hown, hts⟩ (t_X2_readStep l dC dI sa hlt g _ _ j d (pot k3 k5) tt ln M q1 h0 dep tok ka sta vaa k1 k2 k3 k4 k5 zz _ (hT.sub [1, 2, 3, 4, 5] rfl)  hk_h0_1 hk_h0_2 hk_h0_3 hk_h0_4 hk_h0_5 hk_tok_3 ((hF.1 h0 (hT0.at 0 rfl).1 2 (hT0.at 0 rfl).2 0 (by decide)).trans h_tok) ((hF.1 tok (hT0.at 1 rfl).1 6 (hT0.at 1 rfl).2 4 (by decide)).trans h_ka) ((hF.1 tok (hT0.at 1 rfl).1 6 (hT0.at 1 rfl).2 5 (by decide)).trans h_sta) ((hF.1 tok (hT0.at 1 rfl).1 6 (hT0.at 1 rfl).2 6 (by decide)).trans h_vaa) hd hdj rfl hk5 hzz (hTK.go (hF.2 ka (hT0.at 2 rfl).1 0 _ _ (hT0.at 2 rfl).2 (by decide)) (hF.2 sta (hT0.at 3 rfl).1 0 _ _ (hT0.at 3 rfl).2 (by decide)) (hF.2 vaa (hT0.at 4 rfl).1 0 _ _ (hT0.at 4 rfl).2 (by decide))) hrq1 (by first | exact hnd1 | (simp only [gpa_nd, gnu_nd, gpl_nd, gte_nd, gob_nd, grf_nd]; exact hnd1)) IHR c_105 ⟨c_109, c_113⟩) (cwV 1 hts gX2_readSteps_X2_readStep rfl rfl rfl (by decide +kernel) ⟨(by first | exact Nat.le_of_ble_eq_true rfl | (simp only [rm_X2_readStep, rm_X2_readSteps]; omega)), (by first | exact Nat.le_of_ble_eq_true rfl | (simp only [rm_X2_readStep, rm_X2_readSteps]; omega))⟩) hP hD hK hS hA hev hT 1 2 rfl rfl rfl rfl hl.1 rfl (Nat.le_of_ble_eq_true rfl) dX2_readSteps_41 ⟨(by first | exact Nat.le_of_ble_eq_true rfl | (simp only [rm_X2_readSteps]; omega) | omega), (by first | exact Nat.le_of_ble_eq_true rfl | (simp only [rm_X2_readSteps]; omega) | omega)⟩ (fun r L_114 f_115 n_117 H locs hw_116 hn_118 hP hD hS hT hE1 => ?_)
                  have hF := Fr.call hF hE hw_116.2.1 (by decide)
                  have hE := hE.tr hE1
                  obtain ⟨⟨v_119, rfl, hv9⟩, hw_116⟩ := hw_116
                  obtain ⟨b_120, rfl, hb9⟩ := hv9
                  have hT := hT.add hb9
                  obtain ⟨hfr_121, ax_122, tn_123, fa_124, pw_125, sg_126, hk_127, hk_128, hk_129, hk_130, hk_131, hrel_132, hrel_133, hrel_134, hrel_135, hrel_136, hex_137⟩ := hw_116
                  have hk_138 : rd f_115 tok 3 = .int zz := (hfr_121.1 tok (hTo.at 2 rfl).1 6 (hTo.at 2 rfl).2 3 (by decide)).trans hk_tok_3
                  have hq_139 : n_117 + pot fa_124 sg_126 ≤ pot k3 k5 := by
                    obtain ⟨a9, b9, g1, g2, g3⟩ := hn_118
                    cases g1.symm.trans hk_129
                    cases g2.symm.trans hk_131
                    exact g3
                  obtain ⟨qn_140, hev_141, hrq_142, hsg_143, hn3_144⟩ := hex_137
                  refine W.eq (g2 := F0 m 44 ls [.ref b_120]) rfl ?_
                  refine lv_astore (lv' := [(5, .ref b_120), (2, .ref b_1), (3, .null), (4, .int ii), (0, .ref h0), (1, .int dep)]) hx hb dX2_readSteps_44 hl (by decide) rfl (fun ls hl => ?_)
                  refine lv_aload_nN hx hb dX2_readSteps_46 rfl (lv_at hl 2 rfl) ?_
                  refine lv_ifnonnullN hx hb dX2_readSteps_47 ?_
                  refine lv_aload hx hb dX2_readSteps_50 (lv_at hl 0 rfl) ?_
                  refine lv_astore_n (lv' := [(2, .ref b_120), (5, .ref b_120), (3, .null), (4, .int ii), (0, .ref h0), (1, .int dep)]) hx hb dX2_readSteps_52 rfl hl (by decide) rfl (fun ls hl => ?_)
                  refine lv_goto (tgt := 62) hx hb dX2_readSteps_53 (by decide) ?_
                  refine lv_aload hx hb dX2_readSteps_62 (lv_at hl 1 rfl) ?_
                  refine lv_astore_n (lv' := [(3, .ref b_120), (2, .ref b_120), (5, .ref b_120), (4, .int ii), (0, .ref h0), (1, .int dep)]) hx hb dX2_readSteps_64 rfl hl (by decide) rfl (fun ls hl => ?_)
                  refine lv_iinc (v := (ii + 1)) (lv' := [(4, .int (ii + 1)), (3, .ref b_120), (2, .ref b_120), (5, .ref b_120), (0, .ref h0), (1, .int dep)]) hx hb dX2_readSteps_65 hl (k := 3) rfl rfl (by decide) rfl (fun ls hl => ?_)
                  refine lv_goto (tgt := 7) hx hb dX2_readSteps_68 (by decide) ?_
                  exact W.widen (by first | exact Nat.le_of_ble_eq_true rfl | (simp only [rm_X2_readSteps]; omega) | omega) (by first | exact Nat.le_of_ble_eq_true rfl | (simp only [rm_X2_readSteps]; omega) | omega) (ih (.ref b_120) (.ref b_120) (ii + 1) ax_122 tn_123 fa_124 pw_125 sg_126 (kc + n_117) _ _ _ _ _ (up_le (by decide) hm c_101) (Or.inr ⟨_, rfl, hT.at 0 rfl⟩) (Or.inr ⟨_, rfl, hT.at 0 rfl⟩) hk_127 hk_128 hk_129 hk_130 hk_131 hk_138 (by omega) (hrel_136) (⟨qn_140, hrq_142, ⟨hsg_143, hn3_144⟩, fun r9 h9 => hall r9 (Ev.go ⟨hrq1.F.symm.trans c_105, tn_rg hrq1.K c_109 c_113⟩ hev_141 h9), fun h9 => ss_cnt hev_141 c_105 hnd1.2 hcnt (hrq_142.F.symm.trans h9)⟩) hP hD hS (hT.sub [2, 3, 4, 5, 6] rfl) hE hF (lv_sub hl [2, 1, 0, 4, 5] rfl))
        · have hT := hT.add hb9
          have hl : lv_has ls 6 [(2, .ref b_1), (3, .ref b_100), (4, .int ii), (0, .ref h0), (1, .int dep)] := hl
          refine lv_iload hx hb dX2_readSteps_7 (lv_at hl 2 rfl) ?_
          obtain ⟨q1, hrq1, hnd1, hall, hcnt⟩ := hR
          refine lv_sipush (v := 300) hx hb dX2_readSteps_9 (by decide) ?_
          refine lv_icmp_gt (tgt := 71) hx hb dX2_readSteps_12 (by decide) (fun c_145 => ?_) (fun c_145 => ?_)
          · refine lv_aload_n hx hb dX2_readSteps_71 rfl (lv_at hl 0 rfl) ?_
            exact K_aZ hx hb hr (Or.inl ⟨_, rfl⟩) (Or.inr ⟨_, rfl⟩) hlocks hP hD hK hS hT hE ⟨⟨_, rfl, Or.inr ⟨_, rfl, hT.at 1 rfl⟩⟩, hF, _, _, _, _, _, hk_h0_1, hk_h0_2, hk_h0_3, hk_h0_4, hk_h0_5, trivial, trivial, trivial, trivial, hk5, ⟨q1, hall _ (Ev.stop (fun h9 => ss_301 hnd1.2 hcnt (hrq1.F.trans h9.1) c_145)), hrq1, (by first | exact hnd1 | (simp only [gpa_nd, gnu_nd, gpl_nd, gte_nd, gob_nd, grf_nd]; exact hnd1))⟩⟩ (⟨_, _, hk_h0_3, hk_h0_5, by omega⟩) (by first | exact Nat.le_of_ble_eq_true rfl | (simp only [rm_X2_readSteps]; omega) | omega) (by first | exact Nat.le_of_ble_eq_true rfl | (simp only [rm_X2_readSteps]; omega) | omega) (by first | exact Nat.le_of_ble_eq_true rfl | (simp only [rm_X2_readSteps]; omega) | omega) dX2_readSteps_72
          · refine lv_aload_n hx hb dX2_readSteps_15 rfl (lv_at hl 3 rfl) ?_
            refine T_get (ci := 2) (C := RX2) (T := TX2) (N := 6) (t := tI) hx hb hts inw_X2_readSteps_2 hown hK hP hT 2 rfl rfl 3 (by decide) (hts (.fieldLink RX2 28 "VatHouse$Reader" "fault" "I") (by decide +kernel)) (fun _ h9 => h9) rfl dX2_readSteps_16 (fun v_148 hv_146 hr_147 => ?_)
            obtain rfl : v_148 = .int k3 := hr_147.symm.trans hk_h0_3
            refine lv_if_ne (tgt := 71) hx hb dX2_readSteps_19 (by decide) (fun c_149 => ?_) (fun c_149 => ?_)
            · refine lv_aload_n hx hb dX2_readSteps_71 rfl (lv_at hl 0 rfl) ?_
              exact K_aZ hx hb hr (Or.inl ⟨_, rfl⟩) (Or.inr ⟨_, rfl⟩) hlocks hP hD hK hS hT hE ⟨⟨_, rfl, Or.inr ⟨_, rfl, hT.at 1 rfl⟩⟩, hF, _, _, _, _, _, hk_h0_1, hk_h0_2, hk_h0_3, hk_h0_4, hk_h0_5, trivial, trivial, trivial, trivial, hk5, ⟨q1, hall _ (Ev.stop (fun h9 => c_149 (hrq1.F.trans h9.1))), hrq1, (by first | exact hnd1 | (simp only [gpa_nd, gnu_nd, gpl_nd, gte_nd, gob_nd, grf_nd]; exact hnd1))⟩⟩ (⟨_, _, hk_h0_3, hk_h0_5, by omega⟩) (by first | exact Nat.le_of_ble_eq_true rfl | (simp only [rm_X2_readSteps]; omega) | omega) (by first | exact Nat.le_of_ble_eq_true rfl | (simp only [rm_X2_readSteps]; omega) | omega) (by first | exact Nat.le_of_ble_eq_true rfl | (simp only [rm_X2_readSteps]; omega) | omega) dX2_readSteps_72
            · refine lv_aload_n hx hb dX2_readSteps_22 rfl (lv_at hl 3 rfl) ?_
              refine T_get (ci := 2) (C := RX2) (T := TX2) (N := 6) (t := tI) hx hb hts inw_X2_readSteps_2 hown hK hP hT 2 rfl rfl 2 (by decide) (hts (.fieldLink RX2 44 "VatHouse$Reader" "token" "I") (by decide +kernel)) (fun _ h9 => h9) rfl dX2_readSteps_23 (fun v_152 hv_150 hr_151 => ?_)
              obtain rfl : v_152 = .int k2 := hr_151.symm.trans hk_h0_2
              refine lv_iconst (v := 1) hx hb dX2_readSteps_26 (by decide) ?_
              refine lv_icmp_lt (tgt := 71) hx hb dX2_readSteps_27 (by decide) (fun c_153 => ?_) (fun c_153 => ?_)
              · refine lv_aload_n hx hb dX2_readSteps_71 rfl (lv_at hl 0 rfl) ?_
                exact K_aZ hx hb hr (Or.inl ⟨_, rfl⟩) (Or.inr ⟨_, rfl⟩) hlocks hP hD hK hS hT hE ⟨⟨_, rfl, Or.inr ⟨_, rfl, hT.at 1 rfl⟩⟩, hF, _, _, _, _, _, hk_h0_1, hk_h0_2, hk_h0_3, hk_h0_4, hk_h0_5, trivial, trivial, trivial, trivial, hk5, ⟨q1, hall _ (Ev.stop (fun h9 => nlt_of_le h9.2.1 (by rw [← hrq1.K]; exact c_153))), hrq1, (by first | exact hnd1 | (simp only [gpa_nd, gnu_nd, gpl_nd, gte_nd, gob_nd, grf_nd]; exact hnd1))⟩⟩ (⟨_, _, hk_h0_3, hk_h0_5, by omega⟩) (by first | exact Nat.le_of_ble_eq_true rfl | (simp only [rm_X2_readSteps]; omega) | omega) (by first | exact Nat.le_of_ble_eq_true rfl | (simp only [rm_X2_readSteps]; omega) | omega) (by first | exact Nat.le_of_ble_eq_true rfl | (simp only [rm_X2_readSteps]; omega) | omega) dX2_readSteps_72
              · refine lv_aload_n hx hb dX2_readSteps_30 rfl (lv_at hl 3 rfl) ?_
                refine T_get (ci := 2) (C := RX2) (T := TX2) (N := 6) (t := tI) hx hb hts inw_X2_readSteps_2 hown hK hP hT 2 rfl rfl 2 (by decide) (hts (.fieldLink RX2 44 "VatHouse$Reader" "token" "I") (by decide +kernel)) (fun _ h9 => h9) rfl dX2_readSteps_31 (fun v_156 hv_154 hr_155 => ?_)
                obtain rfl : v_156 = .int k2 := hr_155.symm.trans hk_h0_2
                refine lv_bipush (v := 12) hx hb dX2_readSteps_34 (by decide) ?_
                refine lv_icmp_gt (tgt := 71) hx hb dX2_readSteps_36 (by decide) (fun c_157 => ?_) (fun c_157 => ?_)
                · refine lv_aload_n hx hb dX2_readSteps_71 rfl (lv_at hl 0 rfl) ?_
                  exact K_aZ hx hb hr (Or.inl ⟨_, rfl⟩) (Or.inr ⟨_, rfl⟩) hlocks hP hD hK hS hT hE ⟨⟨_, rfl, Or.inr ⟨_, rfl, hT.at 1 rfl⟩⟩, hF, _, _, _, _, _, hk_h0_1, hk_h0_2, hk_h0_3, hk_h0_4, hk_h0_5, trivial, trivial, trivial, trivial, hk5, ⟨q1, hall _ (Ev.stop (fun h9 => nlt_of_le h9.2.2 (by rw [← hrq1.K]; exact c_157))), hrq1, (by first | exact hnd1 | (simp only [gpa_nd, gnu_nd, gpl_nd, gte_nd, gob_nd, grf_nd]; exact hnd1))⟩⟩ (⟨_, _, hk_h0_3, hk_h0_5, by omega⟩) (by first | exact Nat.le_of_ble_eq_true rfl | (simp only [rm_X2_readSteps]; omega) | omega) (by first | exact Nat.le_of_ble_eq_true rfl | (simp only [rm_X2_readSteps]; omega) | omega) (by first | exact Nat.le_of_ble_eq_true rfl | (simp only [rm_X2_readSteps]; omega) | omega) dX2_readSteps_72
                · refine lv_aload_n hx hb dX2_readSteps_39 rfl (lv_at hl 3 rfl) ?_
                  refine lv_iload_n hx hb dX2_readSteps_40 rfl (lv_at hl 4 rfl) ?_
                  have hTo := hT
                  refine K_VZ ⟨hx, hb, hml, hown, hts⟩ (t_X2_readStep l dC dI sa hlt g _ _ j d (pot k3 k5) tt ln M q1 h0 dep tok ka sta vaa k1 k2 k3 k4 k5 zz _ (hT.sub [2, 3, 4, 5, 6] rfl)  hk_h0_1 hk_h0_2 hk_h0_3 hk_h0_4 hk_h0_5 hk_tok_3 ((hF.1 h0 (hT0.at 0 rfl).1 2 (hT0.at 0 rfl).2 0 (by decide)).trans h_tok) ((hF.1 tok (hT0.at 1 rfl).1 6 (hT0.at 1 rfl).2 4 (by decide)).trans h_ka) ((hF.1 tok (hT0.at 1 rfl).1 6 (hT0.at 1 rfl).2 5 (by decide)).trans h_sta) ((hF.1 tok (hT0.at 1 rfl).1 6 (hT0.at 1 rfl).2 6 (by decide)).trans h_vaa) hd hdj rfl hk5 hzz (hTK.go (hF.2 ka (hT0.at 2 rfl).1 0 _ _ (hT0.at 2 rfl).2 (by decide)) (hF.2 sta (hT0.at 3 rfl).1 0 _ _ (hT0.at 3 rfl).2 (by decide)) (hF.2 vaa (hT0.at 4 rfl).1 0 _ _ (hT0.at 4 rfl).2 (by decide))) hrq1 (by first | exact hnd1 | (simp only [gpa_nd, gnu_nd, gpl_nd, gte_nd, gob_nd, grf_nd]; exact hnd1)) IHR c_149 ⟨c_153, c_157⟩) (cwV 1 hts gX2_readSteps_X2_readStep rfl rfl rfl (by decide +kernel) ⟨(by first | exact Nat.le_of_ble_eq_true rfl | (simp only [rm_X2_readStep, rm_X2_readSteps]; omega)), (by first | exact Nat.le_of_ble_eq_true rfl | (simp only [rm_X2_readStep, rm_X2_readSteps]; omega))⟩) hP hD hK hS hA hev hT 2 2 rfl rfl rfl rfl hl.1 rfl (Nat.le_of_ble_eq_true rfl) dX2_readSteps_41 ⟨(by first | exact Nat.le_of_ble_eq_true rfl | (simp only [rm_X2_readSteps]; omega) | omega), (by first | exact Nat.le_of_ble_eq_true rfl | (simp only [rm_X2_readSteps]; omega) | omega)⟩ (fun r L_158 f_159 n_161 H locs hw_160 hn_162 hP hD hS hT hE1 => ?_)
                  have hF := Fr.call hF hE hw_160.2.1 (by decide)
                  have hE := hE.tr hE1
                  obtain ⟨⟨v_163, rfl, hv9⟩, hw_160⟩ := hw_160
                  obtain ⟨b_164, rfl, hb9⟩ := hv9
                  have hT := hT.add hb9
                  obtain ⟨hfr_165, ax_166, tn_167, fa_168, pw_169, sg_170, hk_171, hk_172, hk_173, hk_174, hk_175, hrel_176, hrel_177, hrel_178, hrel_179, hrel_180, hex_181⟩ := hw_160
                  have hk_182 : rd f_159 tok 3 = .int zz := (hfr_165.1 tok (hTo.at 3 rfl).1 6 (hTo.at 3 rfl).2 3 (by decide)).trans hk_tok_3
                  have hq_183 : n_161 + pot fa_168 sg_170 ≤ pot k3 k5 := by
                    obtain ⟨a9, b9, g1, g2, g3⟩ := hn_162
                    cases g1.symm.trans hk_173
                    cases g2.symm.trans hk_175
                    exact g3
                  obtain ⟨qn_184, hev_185, hrq_186, hsg_187, hn3_188⟩ := hex_181
                  refine W.eq (g2 := F0 m 44 ls [.ref b_164]) rfl ?_
                  refine lv_astore (lv' := [(5, .ref b_164), (2, .ref b_1), (3, .ref b_100), (4, .int ii), (0, .ref h0), (1, .int dep)]) hx hb dX2_readSteps_44 hl (by decide) rfl (fun ls hl => ?_)
                  refine lv_aload_n hx hb dX2_readSteps_46 rfl (lv_at hl 2 rfl) ?_
                  refine lv_ifnonnull (tgt := 56) hx hb dX2_readSteps_47 (by decide) ?_
                  refine lv_aload_n hx hb dX2_readSteps_56 rfl (lv_at hl 2 rfl) ?_
                  refine lv_aload hx hb dX2_readSteps_57 (lv_at hl 0 rfl) ?_
                  have hTo := hT
                  refine T_put (ci := 5) (v := .ref b_164) (ty := .object "VatHouse$Step") (t := (2, 0, 5, 0)) (C := RX5) (T := TX5) (N := 8) hx hb hts inw_X2_readSteps_5 tyX5 tyX5_ok nmX5 hown hK hP hD hS hT 1 rfl rfl 7 (by decide) (hts (.fieldLink RX2 50 "VatHouse$Step" "next" "LVatHouse$Step;") (by decide +kernel)) (fun _ h9 => h9) rfl (by decide +kernel) rfl rfl rfl (Or.inr ⟨_, rfl, hT.at 0 rfl⟩) dX2_readSteps_59 (fun f_189 H locs hP hD hS hT hE1 hrd_190 hup_191 => ?_)
                  have hF := Fr.put (a := b_100) (ci := 5) hF hE ((hE1 b_100 (hT.at 1 rfl).1).2.symm.trans (hT.at 1 rfl).2) (by decide) hrd_190 hup_191
                  have hE := hE.tr hE1
                  have hk_192 : rd f_189 h0 1 = .int ax_166 := ((Fr.put (cs := [(5, 7)]) (a := b_100) (ci := 5) Fr.rf Ext.rf (hTo.at 1 rfl).2 (by decide) hrd_190 hup_191).1 h0 (hTo.at 3 rfl).1 2 (hTo.at 3 rfl).2 1 (by decide)).trans hk_171
                  have hk_193 : rd f_189 h0 2 = .int tn_167 := ((Fr.put (cs := [(5, 7)]) (a := b_100) (ci := 5) Fr.rf Ext.rf (hTo.at 1 rfl).2 (by decide) hrd_190 hup_191).1 h0 (hTo.at 3 rfl).1 2 (hTo.at 3 rfl).2 2 (by decide)).trans hk_172
                  have hk_194 : rd f_189 h0 3 = .int fa_168 := ((Fr.put (cs := [(5, 7)]) (a := b_100) (ci := 5) Fr.rf Ext.rf (hTo.at 1 rfl).2 (by decide) hrd_190 hup_191).1 h0 (hTo.at 3 rfl).1 2 (hTo.at 3 rfl).2 3 (by decide)).trans hk_173
                  have hk_195 : rd f_189 h0 4 = .int pw_169 := ((Fr.put (cs := [(5, 7)]) (a := b_100) (ci := 5) Fr.rf Ext.rf (hTo.at 1 rfl).2 (by decide) hrd_190 hup_191).1 h0 (hTo.at 3 rfl).1 2 (hTo.at 3 rfl).2 4 (by decide)).trans hk_174
                  have hk_196 : rd f_189 h0 5 = .int sg_170 := ((Fr.put (cs := [(5, 7)]) (a := b_100) (ci := 5) Fr.rf Ext.rf (hTo.at 1 rfl).2 (by decide) hrd_190 hup_191).1 h0 (hTo.at 3 rfl).1 2 (hTo.at 3 rfl).2 5 (by decide)).trans hk_175
                  have hk_197 : rd f_189 tok 3 = .int zz := ((Fr.put (cs := [(5, 7)]) (a := b_100) (ci := 5) Fr.rf Ext.rf (hTo.at 1 rfl).2 (by decide) hrd_190 hup_191).1 tok (hTo.at 4 rfl).1 6 (hTo.at 4 rfl).2 3 (by decide)).trans hk_182
                  refine lv_aload hx hb dX2_readSteps_62 (lv_at hl 0 rfl) ?_
                  refine lv_astore_n (lv' := [(3, .ref b_164), (5, .ref b_164), (2, .ref b_1), (4, .int ii), (0, .ref h0), (1, .int dep)]) hx hb dX2_readSteps_64 rfl hl (by decide) rfl (fun ls hl => ?_)
                  refine lv_iinc (v := (ii + 1)) (lv' := [(4, .int (ii + 1)), (3, .ref b_164), (5, .ref b_164), (2, .ref b_1), (0, .ref h0), (1, .int dep)]) hx hb dX2_readSteps_65 hl (k := 3) rfl rfl (by decide) rfl (fun ls hl => ?_)
                  refine lv_goto (tgt := 7) hx hb dX2_readSteps_68 (by decide) ?_
                  exact W.widen (by first | exact Nat.le_of_ble_eq_true rfl | (simp only [rm_X2_readSteps]; omega) | omega) (by first | exact Nat.le_of_ble_eq_true rfl | (simp only [rm_X2_readSteps]; omega) | omega) (ih (.ref b_1) (.ref b_164) (ii + 1) ax_166 tn_167 fa_168 pw_169 sg_170 (kc + n_161) _ _ _ _ _ (up_le (by decide) hm c_145) (Or.inr ⟨_, rfl, hT.at 2 rfl⟩) (Or.inr ⟨_, rfl, hT.at 0 rfl⟩) hk_192 hk_193 hk_194 hk_195 hk_196 hk_197 (by omega) (hrel_180) (⟨qn_184, hrq_186, ⟨hsg_187, hn3_188⟩, fun r9 h9 => hall r9 (Ev.go ⟨hrq1.F.symm.trans c_149, tn_rg hrq1.K c_153 c_157⟩ hev_185 h9), fun h9 => ss_cnt hev_185 c_149 hnd1.2 hcnt (hrq_186.F.symm.trans h9)⟩) hP hD hS (hT.sub [3, 4, 5, 6, 7] rfl) hE hF (lv_sub hl [3, 1, 0, 4, 5] rfl))
  exact W.widen (by first | exact Nat.le_of_ble_eq_true rfl | (simp only [rm_X2_readSteps]; omega) | omega) (by first | exact Nat.le_of_ble_eq_true rfl | (simp only [rm_X2_readSteps]; omega) | omega) (lp 302 .null .null 0 ax tn fa pw sg (0) _ _ _ _ _ (⟨0, nI_0.symm, by omega, by omega⟩) (Or.inl rfl) (Or.inl rfl) hm_ax hm_tn hm_fa hm_pw hm_sg hm_zz (by omega) (hs3) (⟨q, hRQ, hnd, fun _ h9 => h9, fun _ => ⟨0, nI_0.symm, by omega, by omega⟩⟩) hP hD hS (hT.sub [0, 1, 2, 3, 4] rfl) hE hF (lv_sub hl [2, 1, 0, 3, 4] rfl))

theorem X2_readSteps_all (l : Launch) (dC : Nat → ClassId) (dI : Nat → Nat → Nat) (sa : Nat → Nat) (hlt : l.stackTraces = false) (g : Nat → Nat) : ∀ (j d : Nat), d + j = 8 → ∀ (L : List Nat) (f : Nat → va_E) (P : Nat) (tt : Nat → Int32) (ln : Nat) (M : Nat) (q : SG) (h0 : Nat) (dep : Int32) (tok : Nat) (ka : Nat) (sta : Nat) (vaa : Nat) (ax : Int32) (tn : Int32) (fa : Int32) (pw : Int32) (sg : Int32) (zz : Int32) (sz : Nat) (hT : TP g L f [(h0, (0, 2, 0)), (tok, (0, 6, 0)), (ka, (1, g 0, 1501)), (sta, (1, g 5, 1501)), (vaa, (1, g 6, 1501))]) (hm_ax : rd f h0 1 = .int ax) (hm_tn : rd f h0 2 = .int tn) (hm_fa : rd f h0 3 = .int fa) (hm_pw : rd f h0 4 = .int pw) (hm_sg : rd f h0 5 = .int sg) (hm_zz : rd f tok 3 = .int zz) (h_tok : rd f h0 0 = .ref tok) (h_ka : rd f tok 4 = .ref ka) (h_sta : rd f tok 5 = .ref sta) (h_vaa : rd f tok 6 = .ref vaa) (hd : dep = nI d) (hP0 : pot fa sg = P) (hs3 : sg.toInt ≤ 300) (hzz : zz = nI (M + 1)) (hTK : TKS f ka sta vaa tt ln M) (hRQ : RQ tt ln M q ax tn fa pw) (hnd : sg = nI q.2.1 ∧ q.2.1 ≤ 300), KZ l dC dI sa g yX2_readSteps wsX2_readSteps (rm_X2_readSteps j d P tt ln M q) [.ref h0, .int dep] L f sz (fun r L' f' => (∃ v : Value, r = some v ∧ okv L' f' (2, 0, 5, 0) v) ∧ Fr [(2, 1), (2, 2), (2, 3), (2, 4), (5, 1), (5, 2), (5, 3), (5, 4), (5, 5), (5, 6), (5, 7), (2, 5)] L f f' ∧ (∃ ax' : Int32, ∃ tn' : Int32, ∃ fa' : Int32, ∃ pw' : Int32, ∃ sg' : Int32, rd f' h0 1 = .int ax' ∧ rd f' h0 2 = .int tn' ∧ rd f' h0 3 = .int fa' ∧ rd f' h0 4 = .int pw' ∧ rd f' h0 5 = .int sg' ∧ (True) ∧ (True) ∧ (True) ∧ (True) ∧ (sg'.toInt ≤ 300) ∧ (∃ qn : SG, Ev (Kp tt ln) (Vp tt ln) (nq tt ln) 0 d q qn ∧ RQ tt ln M qn ax' tn' fa' pw' ∧ sg' = nI qn.2.1 ∧ qn.2.1 ≤ 300))) (fun n f' => ∃ a b : Int32, rd f' h0 3 = .int a ∧ rd f' h0 5 = .int b ∧ n + pot a b ≤ P) P (8 * P) := by
  intro j
  induction j with
  | zero => exact fun d hdj L f P tt ln M q h0 dep tok ka sta vaa ax tn fa pw sg zz sz hT hm1 hm2 hm3 hm4 hm5 hm6 hr1 hr2 hr3 hr4 hd hP0 hs3 hzz hTK hRQ hnd => t_X2_readSteps l dC dI sa hlt g L f 0 d P tt ln M q h0 dep tok ka sta vaa ax tn fa pw sg zz sz hT hm1 hm2 hm3 hm4 hm5 hm6 hr1 hr2 hr3 hr4 hd hdj hP0 hs3 hzz hTK hRQ hnd (fun j' d' _ h => absurd h (by omega))
  | succ j ih =>
    exact fun d hdj L f P tt ln M q h0 dep tok ka sta vaa ax tn fa pw sg zz sz hT hm1 hm2 hm3 hm4 hm5 hm6 hr1 hr2 hr3 hr4 hd hP0 hs3 hzz hTK hRQ hnd => t_X2_readSteps l dC dI sa hlt g L f (j + 1) d P tt ln M q h0 dep tok ka sta vaa ax tn fa pw sg zz sz hT hm1 hm2 hm3 hm4 hm5 hm6 hr1 hr2 hr3 hr4 hd hdj hP0 hs3 hzz hTK hRQ hnd (fun j' d' hdj' hj => by
      obtain rfl : j = j' := by omega
      exact ih d' hdj')

abbrev rm_X2_readRecipe (tt : Nat → Int32) (ln : Nat) : Room := { frames := 80, cells := 301, slots := 2408, locals := 2400 }
theorem inw_X2_readRecipe_2 : ∀ w ∈ wsX20, w ∈ wsX2_readRecipe := by decide +kernel
set_option maxHeartbeats 800000 in
set_option maxRecDepth 100000 in
theorem t_X2_readRecipe (l : Launch) (dC : Nat → ClassId) (dI : Nat → Nat → Nat) (sa : Nat → Nat) (hlt : l.stackTraces = false) (g : Nat → Nat) (L : List Nat) (f : Nat → va_E) (tt : Nat → Int32) (ln : Nat) (h0 : Nat) (nn : Int32) (tok : Nat) (tp : Nat) (ka : Nat) (sta : Nat) (vaa : Nat) (sz : Nat) (hT : TP g L f [(h0, (0, 2, 0)), (tok, (0, 6, 0)), (tp, (1, g 1, 1500)), (ka, (1, g 0, 1501)), (sta, (1, g 5, 1501)), (vaa, (1, g 6, 1501))]) (h_tok : rd f h0 0 = .ref tok) (h_tp : rd f tok 0 = .ref tp) (h_ka : rd f tok 4 = .ref ka) (h_sta : rd f tok 5 = .ref sta) (h_vaa : rd f tok 6 = .ref vaa) (hta : ia f tp = tt) (hnn : nn = nI ln ∧ ln ≤ 1500) (hds : ka ≠ sta ∧ ka ≠ vaa ∧ sta ≠ vaa) : KC l dC dI sa g yX2_readRecipe wsX2_readRecipe (rm_X2_readRecipe tt ln) [.ref h0, .int nn] L f sz (fun r L' f' => (∃ v : Value, r = some v ∧ okv L' f' (2, 0, 5, 0) v) ∧ Fr [(2, 1), (2, 2), (2, 3), (2, 4), (2, 5), (5, 1), (5, 2), (5, 3), (5, 4), (5, 5), (5, 6), (5, 7), (6, 1), (6, 2), (6, 3), (100, 1501)] L f f' ∧ (∃ fa' : Int32, ∃ pw' : Int32, ∃ sg' : Int32, rd f' h0 3 = .int fa' ∧ rd f' h0 4 = .int pw' ∧ rd f' h0 5 = .int sg' ∧ (True) ∧ (True) ∧ (True) ∧ (∃ qn : SG, Ev (Kp tt ln) (Vp tt ln) (nq tt ln) 0 0 (Sj tt ln 0, 0, 0, -1) qn ∧ fa' = (gpa (Kp tt ln) (nq tt ln) 0 qn).2.2.1 ∧ pw' = (gpa (Kp tt ln) (nq tt ln) 0 qn).2.2.2))) 301 2408 := by
  refine CT.start (cc := cX2_readRecipe) (maxL := 3) (ret := (some (.object "VatHouse$Step"))) (by decide) rfl (Nat.le_of_ble_eq_true rfl) ?_
  intro p e s m below meth c ls hst hP hK hD hev hS hl
  obtain ⟨hx, hb, hr, hml, hts, hown, hlocks, hin⟩ := hst
  have hown : s.vm.findClass RX2 = some m.cls := hown
  have hin : meth.name = yX2_readRecipe.name := hin
  have hA : ∀ q : Nat, s.heap.size ≤ q → va_A (va_pl L f) s.heap.size q := fun _ h => Or.inr h
  have hE : Ext L f L f := Ext.rf
  have hF : Fr [(2, 1), (2, 2), (2, 3), (2, 4), (2, 5), (5, 1), (5, 2), (5, 3), (5, 4), (5, 5), (5, 6), (5, 7), (6, 1), (6, 2), (6, 3), (100, 1501)] L f f := Fr.rf
  have hl : lv_has ls 3 [(0, .ref h0), (1, .int nn)] := hl
  have hT0 := hT
  have hp00 : pot 0 0 = 301 := by decide
  refine lv_aload_n hx hb dX2_readRecipe_0 rfl (lv_at hl 0 rfl) ?_
  refine T_get (ci := 2) (C := RX2) (T := TX2) (N := 6) (t := (1, 0, 6, 0)) hx hb hts inw_X2_readRecipe_2 hown hK hP hT 0 rfl rfl 0 (by decide) (hts (.fieldLink RX2 20 "VatHouse$Reader" "tokens" "LVatHouse$Tokens;") (by decide +kernel)) (fun _ h9 => h9) rfl dX2_readRecipe_1 (fun v_3 hv_1 hr_2 => ?_)
  obtain rfl : v_3 = .ref tok := hr_2.symm.trans ((hF.1 h0 (hT0.at 0 rfl).1 2 (hT0.at 0 rfl).2 0 (by decide)).trans h_tok)
  refine lv_iload_n hx hb dX2_readRecipe_4 rfl (lv_at hl 1 rfl) ?_
  refine K_V ⟨hx, hb, hml, hown, hts⟩ (t_X6_split l dC dI sa hlt g _ _ tt ln tok nn tp ka sta vaa _ (hT.sub [1, 2, 3, 4, 5] rfl)  ((hF.1 tok (hT0.at 1 rfl).1 6 (hT0.at 1 rfl).2 0 (by decide)).trans h_tp) ((hF.1 tok (hT0.at 1 rfl).1 6 (hT0.at 1 rfl).2 4 (by decide)).trans h_ka) ((hF.1 tok (hT0.at 1 rfl).1 6 (hT0.at 1 rfl).2 5 (by decide)).trans h_sta) ((hF.1 tok (hT0.at 1 rfl).1 6 (hT0.at 1 rfl).2 6 (by decide)).trans h_vaa) ((ia_eq (hF.2 tp (hT0.at 2 rfl).1 0 _ _ (hT0.at 2 rfl).2 (by decide))).trans hta) hnn hds) (cwV 1 hts gX2_readRecipe_X6_split rfl rfl rfl (by decide +kernel) ⟨(by first | exact Nat.le_of_ble_eq_true rfl | (simp only [rm_X6_split, rm_X2_readRecipe]; omega)), (by first | exact Nat.le_of_ble_eq_true rfl | (simp only [rm_X6_split, rm_X2_readRecipe]; omega))⟩) hP hD hK hS hA hev hT 1 6 rfl rfl rfl rfl hl.1 rfl (Nat.le_of_ble_eq_true rfl) dX2_readRecipe_5 ⟨(by first | exact Nat.le_of_ble_eq_true rfl | (simp only [rm_X2_readRecipe]; omega) | omega), (by first | exact Nat.le_of_ble_eq_true rfl | (simp only [rm_X2_readRecipe]; omega) | omega)⟩ (fun r L_4 f_5 H locs hw_6 hP hD hS hT hE1 => ?_)
  have hF := Fr.call hF hE hw_6.2.1 (by decide)
  have hE := hE.tr hE1
  obtain ⟨rfl, hw_6⟩ := hw_6
  obtain ⟨hfr_7, zz_8, hk_9, hrel_10, hex_11⟩ := hw_6
  obtain ⟨M, hM1, hM2, hM3, hzz⟩ := hex_11
  have hTK9 : TKS f_5 ka sta vaa tt ln M := ⟨hM3, hM1, hM2⟩
  refine W.eq (g2 := F0 m 8 ls []) rfl ?_
  refine lv_aload_n hx hb dX2_readRecipe_8 rfl (lv_at hl 0 rfl) ?_
  refine lv_iconst (v := 0) hx hb dX2_readRecipe_9 (by decide) ?_
  have hTo := hT
  refine T_put (ci := 2) (v := .int 0) (ty := .int) (t := tI) (C := RX2) (T := TX2) (N := 6) hx hb hts inw_X2_readRecipe_2 tyX2 tyX2_ok nmX2 hown hK hP hD hS hT 0 rfl rfl 3 (by decide) (hts (.fieldLink RX2 28 "VatHouse$Reader" "fault" "I") (by decide +kernel)) (fun _ h9 => h9) rfl (by decide +kernel) rfl rfl rfl ⟨_, rfl⟩ dX2_readRecipe_10 (fun f_12 H locs hP hD hS hT hE1 hrd_13 hup_14 => ?_)
  have hF := Fr.put (a := h0) (ci := 2) hF hE ((hE1 h0 (hT.at 0 rfl).1).2.symm.trans (hT.at 0 rfl).2) (by decide) hrd_13 hup_14
  have hE := hE.tr hE1
  have hk_15 : rd f_12 tok 3 = .int zz_8 := ((Fr.put (cs := [(2, 3)]) (a := h0) (ci := 2) Fr.rf Ext.rf (hTo.at 0 rfl).2 (by decide) hrd_13 hup_14).1 tok (hTo.at 1 rfl).1 6 (hTo.at 1 rfl).2 3 (by decide)).trans hk_9
  have hk_16 : rd f_12 h0 3 = .int 0 := (hrd_13 h0 3).trans (if_pos ⟨rfl, rfl⟩)
  have hak_17 : f_12 ka = f_5 ka := (hup_14 ka (ne_sh (hT0.at 3 rfl).2 (hT0.at 0 rfl).2 (by intro h9; cases h9))).trans rfl
  have hak_18 : f_12 sta = f_5 sta := (hup_14 sta (ne_sh (hT0.at 4 rfl).2 (hT0.at 0 rfl).2 (by intro h9; cases h9))).trans rfl
  have hak_19 : f_12 vaa = f_5 vaa := (hup_14 vaa (ne_sh (hT0.at 5 rfl).2 (hT0.at 0 rfl).2 (by intro h9; cases h9))).trans rfl
  refine lv_aload_n hx hb dX2_readRecipe_13 rfl (lv_at hl 0 rfl) ?_
  refine lv_iconst (v := (-1)) hx hb dX2_readRecipe_14 (by decide) ?_
  have hTo := hT
  refine T_put (ci := 2) (v := .int (-1)) (ty := .int) (t := tI) (C := RX2) (T := TX2) (N := 6) hx hb hts inw_X2_readRecipe_2 tyX2 tyX2_ok nmX2 hown hK hP hD hS hT 0 rfl rfl 4 (by decide) (hts (.fieldLink RX2 9 "VatHouse$Reader" "place" "I") (by decide +kernel)) (fun _ h9 => h9) rfl (by decide +kernel) rfl rfl rfl ⟨_, rfl⟩ dX2_readRecipe_15 (fun f_20 H locs hP hD hS hT hE1 hrd_21 hup_22 => ?_)
  have hF := Fr.put (a := h0) (ci := 2) hF hE ((hE1 h0 (hT.at 0 rfl).1).2.symm.trans (hT.at 0 rfl).2) (by decide) hrd_21 hup_22
  have hE := hE.tr hE1
  have hk_23 : rd f_20 tok 3 = .int zz_8 := ((Fr.put (cs := [(2, 4)]) (a := h0) (ci := 2) Fr.rf Ext.rf (hTo.at 0 rfl).2 (by decide) hrd_21 hup_22).1 tok (hTo.at 1 rfl).1 6 (hTo.at 1 rfl).2 3 (by decide)).trans hk_15
  have hk_24 : rd f_20 h0 3 = .int 0 := ((Fr.put (cs := [(2, 4)]) (a := h0) (ci := 2) Fr.rf Ext.rf (hTo.at 0 rfl).2 (by decide) hrd_21 hup_22).1 h0 (hTo.at 0 rfl).1 2 (hTo.at 0 rfl).2 3 (by decide)).trans hk_16
  have hk_25 : rd f_20 h0 4 = .int (-1) := (hrd_21 h0 4).trans (if_pos ⟨rfl, rfl⟩)
  have hak_26 : f_20 ka = f_5 ka := (hup_22 ka (ne_sh (hT0.at 3 rfl).2 (hT0.at 0 rfl).2 (by intro h9; cases h9))).trans hak_17
  have hak_27 : f_20 sta = f_5 sta := (hup_22 sta (ne_sh (hT0.at 4 rfl).2 (hT0.at 0 rfl).2 (by intro h9; cases h9))).trans hak_18
  have hak_28 : f_20 vaa = f_5 vaa := (hup_22 vaa (ne_sh (hT0.at 5 rfl).2 (hT0.at 0 rfl).2 (by intro h9; cases h9))).trans hak_19
  refine lv_aload_n hx hb dX2_readRecipe_18 rfl (lv_at hl 0 rfl) ?_
  refine lv_iconst (v := 0) hx hb dX2_readRecipe_19 (by decide) ?_
  have hTo := hT
  refine T_put (ci := 2) (v := .int 0) (ty := .int) (t := tI) (C := RX2) (T := TX2) (N := 6) hx hb hts inw_X2_readRecipe_2 tyX2 tyX2_ok nmX2 hown hK hP hD hS hT 0 rfl rfl 5 (by decide) (hts (.fieldLink RX2 31 "VatHouse$Reader" "steps" "I") (by decide +kernel)) (fun _ h9 => h9) rfl (by decide +kernel) rfl rfl rfl ⟨_, rfl⟩ dX2_readRecipe_20 (fun f_29 H locs hP hD hS hT hE1 hrd_30 hup_31 => ?_)
  have hF := Fr.put (a := h0) (ci := 2) hF hE ((hE1 h0 (hT.at 0 rfl).1).2.symm.trans (hT.at 0 rfl).2) (by decide) hrd_30 hup_31
  have hE := hE.tr hE1
  have hk_32 : rd f_29 tok 3 = .int zz_8 := ((Fr.put (cs := [(2, 5)]) (a := h0) (ci := 2) Fr.rf Ext.rf (hTo.at 0 rfl).2 (by decide) hrd_30 hup_31).1 tok (hTo.at 1 rfl).1 6 (hTo.at 1 rfl).2 3 (by decide)).trans hk_23
  have hk_33 : rd f_29 h0 3 = .int 0 := ((Fr.put (cs := [(2, 5)]) (a := h0) (ci := 2) Fr.rf Ext.rf (hTo.at 0 rfl).2 (by decide) hrd_30 hup_31).1 h0 (hTo.at 0 rfl).1 2 (hTo.at 0 rfl).2 3 (by decide)).trans hk_24
  have hk_34 : rd f_29 h0 4 = .int (-1) := ((Fr.put (cs := [(2, 5)]) (a := h0) (ci := 2) Fr.rf Ext.rf (hTo.at 0 rfl).2 (by decide) hrd_30 hup_31).1 h0 (hTo.at 0 rfl).1 2 (hTo.at 0 rfl).2 4 (by decide)).trans hk_25
  have hk_35 : rd f_29 h0 5 = .int 0 := (hrd_30 h0 5).trans (if_pos ⟨rfl, rfl⟩)
  have hak_36 : f_29 ka = f_5 ka := (hup_31 ka (ne_sh (hT0.at 3 rfl).2 (hT0.at 0 rfl).2 (by intro h9; cases h9))).trans hak_26
  have hak_37 : f_29 sta = f_5 sta := (hup_31 sta (ne_sh (hT0.at 4 rfl).2 (hT0.at 0 rfl).2 (by intro h9; cases h9))).trans hak_27
  have hak_38 : f_29 vaa = f_5 vaa := (hup_31 vaa (ne_sh (hT0.at 5 rfl).2 (hT0.at 0 rfl).2 (by intro h9; cases h9))).trans hak_28
  refine lv_aload_n hx hb dX2_readRecipe_23 rfl (lv_at hl 0 rfl) ?_
  refine lv_iconst (v := 0) hx hb dX2_readRecipe_24 (by decide) ?_
  have hTo := hT
  refine K_V ⟨hx, hb, hml, hown, hts⟩ (t_X2_moveTo l dC dI sa hlt g _ _ tt ln M h0 0 tok ka sta vaa zz_8 _ (hT.sub [0, 1, 3, 4, 5] rfl)  hk_32 ((hF.1 h0 (hT0.at 0 rfl).1 2 (hT0.at 0 rfl).2 0 (by decide)).trans h_tok) ((hF.1 tok (hT0.at 1 rfl).1 6 (hT0.at 1 rfl).2 4 (by decide)).trans h_ka) ((hF.1 tok (hT0.at 1 rfl).1 6 (hT0.at 1 rfl).2 5 (by decide)).trans h_sta) ((hF.1 tok (hT0.at 1 rfl).1 6 (hT0.at 1 rfl).2 6 (by decide)).trans h_vaa) hzz (hTK9.go hak_36 hak_37 hak_38)) (cwV 1 hts gX2_readRecipe_X2_moveTo rfl rfl rfl (by decide +kernel) ⟨(by first | exact Nat.le_of_ble_eq_true rfl | (simp only [rm_X2_moveTo, rm_X2_readRecipe]; omega)), (by first | exact Nat.le_of_ble_eq_true rfl | (simp only [rm_X2_moveTo, rm_X2_readRecipe]; omega))⟩) hP hD hK hS hA hev hT 0 2 rfl rfl rfl rfl hl.1 rfl (Nat.le_of_ble_eq_true rfl) dX2_readRecipe_25 ⟨(by first | exact Nat.le_of_ble_eq_true rfl | (simp only [rm_X2_readRecipe]; omega) | omega), (by first | exact Nat.le_of_ble_eq_true rfl | (simp only [rm_X2_readRecipe]; omega) | omega)⟩ (fun r L_39 f_40 H locs hw_41 hP hD hS hT hE1 => ?_)
  have hF := Fr.call hF hE hw_41.2.1 (by decide)
  have hE := hE.tr hE1
  obtain ⟨rfl, hw_41⟩ := hw_41
  obtain ⟨hfr_42, ax_43, tn_44, hk_45, hk_46, hrel_47, hrel_48, hex_49⟩ := hw_41
  have hk_50 : rd f_40 tok 3 = .int zz_8 := (hfr_42.1 tok (hTo.at 1 rfl).1 6 (hTo.at 1 rfl).2 3 (by decide)).trans hk_32
  have hk_51 : rd f_40 h0 3 = .int 0 := (hfr_42.1 h0 (hTo.at 0 rfl).1 2 (hTo.at 0 rfl).2 3 (by decide)).trans hk_33
  have hk_52 : rd f_40 h0 4 = .int (-1) := (hfr_42.1 h0 (hTo.at 0 rfl).1 2 (hTo.at 0 rfl).2 4 (by decide)).trans hk_34
  have hk_53 : rd f_40 h0 5 = .int 0 := (hfr_42.1 h0 (hTo.at 0 rfl).1 2 (hTo.at 0 rfl).2 5 (by decide)).trans hk_35
  have hak_54 : f_40 ka = f_5 ka := (hfr_42.2 ka (hTo.at 3 rfl).1 _ _ _ (hTo.at 3 rfl).2 (by decide)).trans hak_36
  have hak_55 : f_40 sta = f_5 sta := (hfr_42.2 sta (hTo.at 4 rfl).1 _ _ _ (hTo.at 4 rfl).2 (by decide)).trans hak_37
  have hak_56 : f_40 vaa = f_5 vaa := (hfr_42.2 vaa (hTo.at 5 rfl).1 _ _ _ (hTo.at 5 rfl).2 (by decide)).trans hak_38
  have hrq0 : RQ tt ln M (Sj tt ln 0, 0, 0, -1) ax_43 tn_44 0 (-1) := ⟨⟨0, hex_49.1.trans nI_0.symm, Nat.zero_le _, rfl⟩, hex_49.2 0 (Nat.zero_le _) nI_0.symm, rfl, rfl⟩
  refine W.eq (g2 := F0 m 28 ls []) rfl ?_
  refine lv_aload_n hx hb dX2_readRecipe_28 rfl (lv_at hl 0 rfl) ?_
  refine lv_iconst (v := 0) hx hb dX2_readRecipe_29 (by decide) ?_
  have hTo := hT
  refine K_VZ ⟨hx, hb, hml, hown, hts⟩ (X2_readSteps_all l dC dI sa hlt g 8 0 rfl _ _ (pot 0 0) tt ln M (Sj tt ln 0, 0, 0, -1) h0 0 tok ka sta vaa ax_43 tn_44 0 (-1) 0 zz_8 _ (hT.sub [0, 1, 3, 4, 5] rfl)  hk_45 hk_46 hk_51 hk_52 hk_53 hk_50 ((hF.1 h0 (hT0.at 0 rfl).1 2 (hT0.at 0 rfl).2 0 (by decide)).trans h_tok) ((hF.1 tok (hT0.at 1 rfl).1 6 (hT0.at 1 rfl).2 4 (by decide)).trans h_ka) ((hF.1 tok (hT0.at 1 rfl).1 6 (hT0.at 1 rfl).2 5 (by decide)).trans h_sta) ((hF.1 tok (hT0.at 1 rfl).1 6 (hT0.at 1 rfl).2 6 (by decide)).trans h_vaa) nI_0.symm rfl (by decide) hzz (hTK9.go hak_54 hak_55 hak_56) hrq0 ⟨nI_0.symm, Nat.zero_le _⟩) (cwV 1 hts gX2_readRecipe_X2_readSteps rfl rfl rfl (by decide +kernel) ⟨(by first | exact Nat.le_of_ble_eq_true rfl | (simp only [rm_X2_readSteps, rm_X2_readRecipe]; omega)), (by first | exact Nat.le_of_ble_eq_true rfl | (simp only [rm_X2_readSteps, rm_X2_readRecipe]; omega))⟩) hP hD hK hS hA hev hT 0 2 rfl rfl rfl rfl hl.1 rfl (Nat.le_of_ble_eq_true rfl) dX2_readRecipe_30 ⟨(by first | exact Nat.le_of_ble_eq_true rfl | (simp only [rm_X2_readRecipe]; omega) | omega), (by first | exact Nat.le_of_ble_eq_true rfl | (simp only [rm_X2_readRecipe]; omega) | omega)⟩ (fun r L_57 f_58 n_60 H locs hw_59 hn_61 hP hD hS hT hE1 => ?_)
  have hF := Fr.call hF hE hw_59.2.1 (by decide)
  have hE := hE.tr hE1
  obtain ⟨⟨v_62, rfl, hv9⟩, hw_59⟩ := hw_59
  rcases hv9 with rfl | ⟨b_63, rfl, hb9⟩
  · obtain ⟨hfr_64, ax_65, tn_66, fa_67, pw_68, sg_69, hk_70, hk_71, hk_72, hk_73, hk_74, hrel_75, hrel_76, hrel_77, hrel_78, hrel_79, hex_80⟩ := hw_59
    have hk_81 : rd f_58 tok 3 = .int zz_8 := (hfr_64.1 tok (hTo.at 1 rfl).1 6 (hTo.at 1 rfl).2 3 (by decide)).trans hk_50
    have hak_82 : f_58 ka = f_5 ka := (hfr_64.2 ka (hTo.at 3 rfl).1 _ _ _ (hTo.at 3 rfl).2 (by decide)).trans hak_54
    have hak_83 : f_58 sta = f_5 sta := (hfr_64.2 sta (hTo.at 4 rfl).1 _ _ _ (hTo.at 4 rfl).2 (by decide)).trans hak_55
    have hak_84 : f_58 vaa = f_5 vaa := (hfr_64.2 vaa (hTo.at 5 rfl).1 _ _ _ (hTo.at 5 rfl).2 (by decide)).trans hak_56
    have hq_85 : n_60 + pot fa_67 sg_69 ≤ pot 0 0 := by
      obtain ⟨a9, b9, g1, g2, g3⟩ := hn_61
      cases g1.symm.trans hk_72
      cases g2.symm.trans hk_74
      exact g3
    obtain ⟨qn_86, hev_87, hrq_88, hsg_89, hn3_90⟩ := hex_80
    refine W.eq (g2 := F0 m 33 ls [.null]) rfl ?_
    refine lv_astore_nN (lv' := [(2, .null), (0, .ref h0), (1, .int nn)]) hx hb dX2_readRecipe_33 rfl hl (by decide) rfl (fun ls hl => ?_)
    refine lv_aload_n hx hb dX2_readRecipe_34 rfl (lv_at hl 1 rfl) ?_
    refine lv_iconst (v := 0) hx hb dX2_readRecipe_35 (by decide) ?_
    have hTo := hT
    refine K_V ⟨hx, hb, hml, hown, hts⟩ (t_X2_passE l dC dI sa hlt g _ _ tt ln M qn_86 h0 0 tok ka sta vaa ax_65 tn_66 fa_67 pw_68 zz_8 _ (hT.sub [0, 1, 3, 4, 5] rfl)  hk_70 hk_71 hk_72 hk_73 hk_81 ((hF.1 h0 (hT0.at 0 rfl).1 2 (hT0.at 0 rfl).2 0 (by decide)).trans h_tok) ((hF.1 tok (hT0.at 1 rfl).1 6 (hT0.at 1 rfl).2 4 (by decide)).trans h_ka) ((hF.1 tok (hT0.at 1 rfl).1 6 (hT0.at 1 rfl).2 5 (by decide)).trans h_sta) ((hF.1 tok (hT0.at 1 rfl).1 6 (hT0.at 1 rfl).2 6 (by decide)).trans h_vaa) hzz (hTK9.go hak_82 hak_83 hak_84) hrq_88 rfl) (cwV 1 hts gX2_readRecipe_X2_pass rfl rfl rfl (by decide +kernel) ⟨(by first | exact Nat.le_of_ble_eq_true rfl | (simp only [rm_X2_passE, rm_X2_readRecipe]; omega)), (by first | exact Nat.le_of_ble_eq_true rfl | (simp only [rm_X2_passE, rm_X2_readRecipe]; omega))⟩) hP hD hK hS hA hev hT 0 2 rfl rfl rfl rfl hl.1 rfl (Nat.le_of_ble_eq_true rfl) dX2_readRecipe_36 ⟨(by first | exact Nat.le_of_ble_eq_true rfl | (simp only [rm_X2_readRecipe]; omega) | omega), (by first | exact Nat.le_of_ble_eq_true rfl | (simp only [rm_X2_readRecipe]; omega) | omega)⟩ (fun r L_91 f_92 H locs hw_93 hP hD hS hT hE1 => ?_)
    have hF := Fr.call hF hE hw_93.2.1 (by decide)
    have hE := hE.tr hE1
    obtain ⟨rfl, hw_93⟩ := hw_93
    obtain ⟨hfr_94, ax_95, tn_96, fa_97, pw_98, hk_99, hk_100, hk_101, hk_102, hrel_103, hrel_104, hrel_105, hrel_106, hex_107⟩ := hw_93
    have hk_108 : rd f_92 tok 3 = .int zz_8 := (hfr_94.1 tok (hTo.at 1 rfl).1 6 (hTo.at 1 rfl).2 3 (by decide)).trans hk_81
    have hk_109 : rd f_92 h0 5 = .int sg_69 := (hfr_94.1 h0 (hTo.at 0 rfl).1 2 (hTo.at 0 rfl).2 5 (by decide)).trans hk_74
    have hak_110 : f_92 ka = f_5 ka := (hfr_94.2 ka (hTo.at 3 rfl).1 _ _ _ (hTo.at 3 rfl).2 (by decide)).trans hak_82
    have hak_111 : f_92 sta = f_5 sta := (hfr_94.2 sta (hTo.at 4 rfl).1 _ _ _ (hTo.at 4 rfl).2 (by decide)).trans hak_83
    have hak_112 : f_92 vaa = f_5 vaa := (hfr_94.2 vaa (hTo.at 5 rfl).1 _ _ _ (hTo.at 5 rfl).2 (by decide)).trans hak_84
    refine W.eq (g2 := F0 m 39 ls []) rfl ?_
    refine lv_aload_nN hx hb dX2_readRecipe_39 rfl (lv_at hl 0 rfl) ?_
    exact K_a hx hb hr (Or.inl ⟨_, rfl⟩) (Or.inl rfl) hlocks hP hD hK hS hT hE ⟨⟨_, rfl, Or.inl rfl⟩, hF, _, _, _, hk_101, hk_102, hk_109, trivial, trivial, trivial, ⟨qn_86, hev_87, hex_107⟩⟩ (by first | exact Nat.le_of_ble_eq_true rfl | (simp only [rm_X2_readRecipe]; omega) | omega) (by first | exact Nat.le_of_ble_eq_true rfl | (simp only [rm_X2_readRecipe]; omega) | omega) dX2_readRecipe_40
  · have hT := hT.add hb9
    obtain ⟨hfr_113, ax_114, tn_115, fa_116, pw_117, sg_118, hk_119, hk_120, hk_121, hk_122, hk_123, hrel_124, hrel_125, hrel_126, hrel_127, hrel_128, hex_129⟩ := hw_59
    have hk_130 : rd f_58 tok 3 = .int zz_8 := (hfr_113.1 tok (hTo.at 1 rfl).1 6 (hTo.at 1 rfl).2 3 (by decide)).trans hk_50
    have hak_131 : f_58 ka = f_5 ka := (hfr_113.2 ka (hTo.at 3 rfl).1 _ _ _ (hTo.at 3 rfl).2 (by decide)).trans hak_54
    have hak_132 : f_58 sta = f_5 sta := (hfr_113.2 sta (hTo.at 4 rfl).1 _ _ _ (hTo.at 4 rfl).2 (by decide)).trans hak_55
    have hak_133 : f_58 vaa = f_5 vaa := (hfr_113.2 vaa (hTo.at 5 rfl).1 _ _ _ (hTo.at 5 rfl).2 (by decide)).trans hak_56
    have hq_134 : n_60 + pot fa_116 sg_118 ≤ pot 0 0 := by
      obtain ⟨a9, b9, g1, g2, g3⟩ := hn_61
      cases g1.symm.trans hk_121
      cases g2.symm.trans hk_123
      exact g3
    obtain ⟨qn_135, hev_136, hrq_137, hsg_138, hn3_139⟩ := hex_129
    refine W.eq (g2 := F0 m 33 ls [.ref b_63]) rfl ?_
    refine lv_astore_n (lv' := [(2, .ref b_63), (0, .ref h0), (1, .int nn)]) hx hb dX2_readRecipe_33 rfl hl (by decide) rfl (fun ls hl => ?_)
    refine lv_aload_n hx hb dX2_readRecipe_34 rfl (lv_at hl 1 rfl) ?_
    refine lv_iconst (v := 0) hx hb dX2_readRecipe_35 (by decide) ?_
    have hTo := hT
    refine K_V ⟨hx, hb, hml, hown, hts⟩ (t_X2_passE l dC dI sa hlt g _ _ tt ln M qn_135 h0 0 tok ka sta vaa ax_114 tn_115 fa_116 pw_117 zz_8 _ (hT.sub [1, 2, 4, 5, 6] rfl)  hk_119 hk_120 hk_121 hk_122 hk_130 ((hF.1 h0 (hT0.at 0 rfl).1 2 (hT0.at 0 rfl).2 0 (by decide)).trans h_tok) ((hF.1 tok (hT0.at 1 rfl).1 6 (hT0.at 1 rfl).2 4 (by decide)).trans h_ka) ((hF.1 tok (hT0.at 1 rfl).1 6 (hT0.at 1 rfl).2 5 (by decide)).trans h_sta) ((hF.1 tok (hT0.at 1 rfl).1 6 (hT0.at 1 rfl).2 6 (by decide)).trans h_vaa) hzz (hTK9.go hak_131 hak_132 hak_133) hrq_137 rfl) (cwV 1 hts gX2_readRecipe_X2_pass rfl rfl rfl (by decide +kernel) ⟨(by first | exact Nat.le_of_ble_eq_true rfl | (simp only [rm_X2_passE, rm_X2_readRecipe]; omega)), (by first | exact Nat.le_of_ble_eq_true rfl | (simp only [rm_X2_passE, rm_X2_readRecipe]; omega))⟩) hP hD hK hS hA hev hT 1 2 rfl rfl rfl rfl hl.1 rfl (Nat.le_of_ble_eq_true rfl) dX2_readRecipe_36 ⟨(by first | exact Nat.le_of_ble_eq_true rfl | (simp only [rm_X2_readRecipe]; omega) | omega), (by first | exact Nat.le_of_ble_eq_true rfl | (simp only [rm_X2_readRecipe]; omega) | omega)⟩ (fun r L_140 f_141 H locs hw_142 hP hD hS hT hE1 => ?_)
    have hF := Fr.call hF hE hw_142.2.1 (by decide)
    have hE := hE.tr hE1
    obtain ⟨rfl, hw_142⟩ := hw_142
    obtain ⟨hfr_143, ax_144, tn_145, fa_146, pw_147, hk_148, hk_149, hk_150, hk_151, hrel_152, hrel_153, hrel_154, hrel_155, hex_156⟩ := hw_142
    have hk_157 : rd f_141 tok 3 = .int zz_8 := (hfr_143.1 tok (hTo.at 2 rfl).1 6 (hTo.at 2 rfl).2 3 (by decide)).trans hk_130
    have hk_158 : rd f_141 h0 5 = .int sg_118 := (hfr_143.1 h0 (hTo.at 1 rfl).1 2 (hTo.at 1 rfl).2 5 (by decide)).trans hk_123
    have hak_159 : f_141 ka = f_5 ka := (hfr_143.2 ka (hTo.at 4 rfl).1 _ _ _ (hTo.at 4 rfl).2 (by decide)).trans hak_131
    have hak_160 : f_141 sta = f_5 sta := (hfr_143.2 sta (hTo.at 5 rfl).1 _ _ _ (hTo.at 5 rfl).2 (by decide)).trans hak_132
    have hak_161 : f_141 vaa = f_5 vaa := (hfr_143.2 vaa (hTo.at 6 rfl).1 _ _ _ (hTo.at 6 rfl).2 (by decide)).trans hak_133
    refine W.eq (g2 := F0 m 39 ls []) rfl ?_
    refine lv_aload_n hx hb dX2_readRecipe_39 rfl (lv_at hl 0 rfl) ?_
    exact K_a hx hb hr (Or.inl ⟨_, rfl⟩) (Or.inr ⟨_, rfl⟩) hlocks hP hD hK hS hT hE ⟨⟨_, rfl, Or.inr ⟨_, rfl, hT.at 0 rfl⟩⟩, hF, _, _, _, hk_150, hk_151, hk_158, trivial, trivial, trivial, ⟨qn_135, hev_136, hex_156⟩⟩ (by first | exact Nat.le_of_ble_eq_true rfl | (simp only [rm_X2_readRecipe]; omega) | omega) (by first | exact Nat.le_of_ble_eq_true rfl | (simp only [rm_X2_readRecipe]; omega) | omega) dX2_readRecipe_40
