noncomputable abbrev rm_X1_fewestK : Room := { frames := 27, cells := 0, slots := 0, locals := 624 }
set_option maxHeartbeats 3000000 in
set_option maxRecDepth 100000 in
theorem t_X1_fewestK (l : Launch) (dC : Nat → ClassId) (dI : Nat → Nat → Nat) (sa : Nat → Nat) (hlt : l.stackTraces = false) (g : Nat → Nat) (L : List Nat) (f : Nat → va_E) (tv : Nat → Nat) (va : Nat → Nat) (c9 : Nat) (g9 : Nat → Int32) (fo : Nat → Int32) (mi : Nat → Int32) (st : Nat → Int32) (w : Nat → Int32) (lo : Nat → Int32) (fa : Nat → Int32) (h0 : Nat) (o : Nat) (lw : Int32) (hg : Int32) (mo : Int32) (tvr : Nat) (tc : Nat) (ks : Nat) (wk : Nat) (vs : Nat) (sz : Nat) (hT : TP g L f [(h0, (0, 1, 0)), (o, (0, 0, 0)), (tvr, (2, g 10, 6)), (tc, (0, 0, 0)), (ks, (1, g 9, 3)), (wk, (0, 8, 0)), (vs, (2, g 2, 6))]) (h_tvr : rd f h0 1 = .ref tvr) (h_tc : rd f h0 2 = .ref tc) (h_ks : rd f h0 8 = .ref ks) (h_wk : rd f h0 0 = .ref wk) (h_vs : rd f wk 0 = .ref vs) (hTV : ∀ k : Nat, k < 6 → ra f tvr k = some (tv k)) (hVA : ∀ k : Nat, k < 6 → ra f vs k = some (va k)) (hTM : ∀ k : Nat, k < 6 → tv k ∈ L ∧ sh (f (tv k)) = (0, 7, 0)) (hinj : ∀ i j : Nat, i < 6 → j < 6 → tv i = tv j → i = j) (hdv : ∀ k : Nat, k < 6 → va k ∉ [(tv 0), (tv 1), (tv 2), (tv 3), (tv 4), (tv 5)]) (hVV : ∀ k : Nat, k < 6 → (va k ∈ L ∧ sh (f (va k)) = (0, 7, 0)) ∧ rd f (va k) 1 = .int (g9 k) ∧ rd f (va k) 2 = .int (fo k) ∧ rd f (va k) 3 = .int (mi k) ∧ rd f (va k) 4 = .int (st k)) (ho1 : rd f o 1 = .int (w c9)) (ho2 : rd f o 2 = .int (lo c9)) (ho3 : rd f o 3 = .int (fa c9)) (hIV : IVp g9 w lo fa c9) : KC l dC dI sa g yX1_fewest wsX1_fewest rm_X1_fewestK [.ref h0, .ref o, .int lw, .int hg, .int mo] L f sz (fun r L' f' => (∃ z : Int32, r = some (.int z)) ∧ Fr [(0, 1), (0, 2), (0, 3), (7, 1), (7, 2), (7, 3), (7, 4), (1, 3), (1, 4), (1, 5), (100, 3)] L f f' ∧ (OF 0 [tc] L f f' ∧ OF 7 [(tv 0), (tv 1), (tv 2), (tv 3), (tv 4), (tv 5)] L f f' ∧ (FWr g9 fo mi st w lo fa c9 lw hg mo r ∧ (∃ k5 : Int32, rd f' h0 5 = .int k5 ∧ ((r = some (.int (-1)) ∧ k5 = 0) ∨ r = some (.int k5)))))) 0 0 := by
  refine CT.start (cc := cX1_fewest) (maxL := 6) (ret := (some .int)) (by decide) rfl (Nat.le_of_ble_eq_true rfl) ?_
  intro p e s m below meth c ls hst hP hK hD hev hS hl
  obtain ⟨hx, hb, hr, hml, hts, hown, hlocks, hin⟩ := hst
  have hown : s.vm.findClass RX1 = some m.cls := hown
  have hin : meth.name = yX1_fewest.name := hin
  have hA : ∀ q : Nat, s.heap.size ≤ q → va_A (va_pl L f) s.heap.size q := fun _ h => Or.inr h
  have hE : Ext L f L f := Ext.rf
  have hF : Fr [(0, 1), (0, 2), (0, 3), (7, 1), (7, 2), (7, 3), (7, 4), (1, 3), (1, 4), (1, 5), (100, 3)] L f f := Fr.rf
  have hO0 : OF 0 [tc] L f f := OF.rf
  have hO7 : OF 7 [(tv 0), (tv 1), (tv 2), (tv 3), (tv 4), (tv 5)] L f f := OF.rf
  have hl : lv_has ls 6 [(0, .ref h0), (1, .ref o), (2, .int lw), (3, .int hg), (4, .int mo)] := hl
  have hT0 := hT
  refine lv_aload_n hx hb dX1_fewest_0 rfl (lv_at hl 0 rfl) ?_
  refine lv_iload_n hx hb dX1_fewest_1 rfl (lv_at hl 2 rfl) ?_
  have hTo := hT
  refine T_put (ci := 1) (v := .int lw) (ty := .int) (t := tI) (C := RX1) (T := TX1) (N := 9) hx hb hts inw_X1_fewest_1 tyX1 tyX1_ok nmX1 hown hK hP hD hS hT 0 rfl rfl 3 (by decide) (hts (.fieldLink RX1 43 "VatHouse$Planner" "low" "I") (List.mem_of_getElem? (i := 1) (by exact rfl))) (fun _ h9 => h9) rfl (tyX1_ok 3 (by decide)) rfl rfl rfl ⟨_, rfl⟩ dX1_fewest_2 (fun f_1 H locs hP hD hS hT hE1 hrd_2 hup_3 => ?_)
  have hO0 := OF.putN (a := h0) (cj := 1) hO0 hE ((hE1 h0 (hT.at 0 rfl).1).2.symm.trans (hT.at 0 rfl).2) (by decide) hrd_2
  have hO7 := OF.putN (a := h0) (cj := 1) hO7 hE ((hE1 h0 (hT.at 0 rfl).1).2.symm.trans (hT.at 0 rfl).2) (by decide) hrd_2
  have hF := Fr.put (a := h0) (ci := 1) hF hE ((hE1 h0 (hT.at 0 rfl).1).2.symm.trans (hT.at 0 rfl).2) (by decide) hrd_2 hup_3
  have hE := hE.tr hE1
  have hk_4 : rd f_1 o 1 = .int (w c9) := ((Fr.put (cs := [(1, 3)]) (a := h0) (ci := 1) Fr.rf Ext.rf (hTo.at 0 rfl).2 (by decide) hrd_2 hup_3).1 o (hTo.at 1 rfl).1 0 (hTo.at 1 rfl).2 1 (by decide)).trans ho1
  have hk_5 : rd f_1 o 2 = .int (lo c9) := ((Fr.put (cs := [(1, 3)]) (a := h0) (ci := 1) Fr.rf Ext.rf (hTo.at 0 rfl).2 (by decide) hrd_2 hup_3).1 o (hTo.at 1 rfl).1 0 (hTo.at 1 rfl).2 2 (by decide)).trans ho2
  have hk_6 : rd f_1 o 3 = .int (fa c9) := ((Fr.put (cs := [(1, 3)]) (a := h0) (ci := 1) Fr.rf Ext.rf (hTo.at 0 rfl).2 (by decide) hrd_2 hup_3).1 o (hTo.at 1 rfl).1 0 (hTo.at 1 rfl).2 3 (by decide)).trans ho3
  have hk_7 : rd f_1 h0 3 = .int lw := (hrd_2 h0 3).trans (if_pos ⟨rfl, rfl⟩)
  refine lv_aload_n hx hb dX1_fewest_5 rfl (lv_at hl 0 rfl) ?_
  refine lv_iload_n hx hb dX1_fewest_6 rfl (lv_at hl 3 rfl) ?_
  have hTo := hT
  refine T_put (ci := 1) (v := .int hg) (ty := .int) (t := tI) (C := RX1) (T := TX1) (N := 9) hx hb hts inw_X1_fewest_1 tyX1 tyX1_ok nmX1 hown hK hP hD hS hT 0 rfl rfl 4 (by decide) (hts (.fieldLink RX1 47 "VatHouse$Planner" "high" "I") (List.mem_of_getElem? (i := 2) (by exact rfl))) (fun _ h9 => h9) rfl (tyX1_ok 4 (by decide)) rfl rfl rfl ⟨_, rfl⟩ dX1_fewest_7 (fun f_8 H locs hP hD hS hT hE1 hrd_9 hup_10 => ?_)
  have hO0 := OF.putN (a := h0) (cj := 1) hO0 hE ((hE1 h0 (hT.at 0 rfl).1).2.symm.trans (hT.at 0 rfl).2) (by decide) hrd_9
  have hO7 := OF.putN (a := h0) (cj := 1) hO7 hE ((hE1 h0 (hT.at 0 rfl).1).2.symm.trans (hT.at 0 rfl).2) (by decide) hrd_9
  have hF := Fr.put (a := h0) (ci := 1) hF hE ((hE1 h0 (hT.at 0 rfl).1).2.symm.trans (hT.at 0 rfl).2) (by decide) hrd_9 hup_10
  have hE := hE.tr hE1
  have hk_11 : rd f_8 o 1 = .int (w c9) := ((Fr.put (cs := [(1, 4)]) (a := h0) (ci := 1) Fr.rf Ext.rf (hTo.at 0 rfl).2 (by decide) hrd_9 hup_10).1 o (hTo.at 1 rfl).1 0 (hTo.at 1 rfl).2 1 (by decide)).trans hk_4
  have hk_12 : rd f_8 o 2 = .int (lo c9) := ((Fr.put (cs := [(1, 4)]) (a := h0) (ci := 1) Fr.rf Ext.rf (hTo.at 0 rfl).2 (by decide) hrd_9 hup_10).1 o (hTo.at 1 rfl).1 0 (hTo.at 1 rfl).2 2 (by decide)).trans hk_5
  have hk_13 : rd f_8 o 3 = .int (fa c9) := ((Fr.put (cs := [(1, 4)]) (a := h0) (ci := 1) Fr.rf Ext.rf (hTo.at 0 rfl).2 (by decide) hrd_9 hup_10).1 o (hTo.at 1 rfl).1 0 (hTo.at 1 rfl).2 3 (by decide)).trans hk_6
  have hk_14 : rd f_8 h0 3 = .int lw := ((Fr.put (cs := [(1, 4)]) (a := h0) (ci := 1) Fr.rf Ext.rf (hTo.at 0 rfl).2 (by decide) hrd_9 hup_10).1 h0 (hTo.at 0 rfl).1 1 (hTo.at 0 rfl).2 3 (by decide)).trans hk_7
  have hk_15 : rd f_8 h0 4 = .int hg := (hrd_9 h0 4).trans (if_pos ⟨rfl, rfl⟩)
  refine lv_iconst (v := 0) hx hb dX1_fewest_10 (by decide) ?_
  refine lv_istore (lv' := [(5, .int 0), (0, .ref h0), (1, .ref o), (2, .int lw), (3, .int hg), (4, .int mo)]) hx hb dX1_fewest_11 hl (by decide) rfl (fun ls hl => ?_)
  have lp : ∀ (n : Nat) (ii : Int32) (L1 : List Nat) (f1 : Nat → va_E) (H : Heap) (locs : List Loc) (ls : Array Slot), (∃ a : Nat, ii = nI a ∧ a ≤ 6 ∧ 6 < a + n) → rd f1 o 1 = .int (w c9) → rd f1 o 2 = .int (lo c9) → rd f1 o 3 = .int (fa c9) → rd f1 h0 3 = .int lw → rd f1 h0 4 = .int hg → (OF 0 [tc] L f f1) → (OF 7 [(tv 0), (tv 1), (tv 2), (tv 3), (tv 4), (tv 5)] L f f1) → (∃ a : Nat, ii = nI a ∧ a ≤ 6 ∧ CPv f1 tv g9 fo mi st a) → va_P (dC, dI) vwCl (va_pl L1 f1) H → va_D (va_A (va_pl L f) s.heap.size) (va_pl L1 f1) → va_S (va_A (va_pl L f) s.heap.size) s.heap H locs → TP g L1 f1 [(h0, (0, 1, 0)), (o, (0, 0, 0)), (tvr, (2, g 10, 6)), (tc, (0, 0, 0)), (ks, (1, g 9, 3)), (wk, (0, 8, 0)), (vs, (2, g 2, 6))] → Ext L f L1 f1 → Fr [(0, 1), (0, 2), (0, 3), (7, 1), (7, 2), (7, 3), (7, 4), (1, 3), (1, 4), (1, 5), (100, 3)] L f f1 → lv_has ls 6 [(5, .int ii), (0, .ref h0), (1, .ref o), (2, .int lw), (3, .int hg), (4, .int mo)] → W p l e rm_X1_fewestK s m [.ref h0, .ref o, .int lw, .int hg, .int mo].toArray below meth c H locs 0 0 (MQ below (Qg (kpost g L f (fun r L' f' => (∃ z : Int32, r = some (.int z)) ∧ Fr [(0, 1), (0, 2), (0, 3), (7, 1), (7, 2), (7, 3), (7, 4), (1, 3), (1, 4), (1, 5), (100, 3)] L f f' ∧ (OF 0 [tc] L f f' ∧ OF 7 [(tv 0), (tv 1), (tv 2), (tv 3), (tv 4), (tv 5)] L f f' ∧ (FWr g9 fo mi st w lo fa c9 lw hg mo r ∧ (∃ k5 : Int32, rd f' h0 5 = .int k5 ∧ ((r = some (.int (-1)) ∧ k5 = 0) ∨ r = some (.int k5))))))) (fun (u : PL) t => QW dC dI (va_A (va_pl L f) s.heap.size) (va_pl u.1 u.2) [] t) (va_A (va_pl L f) s.heap.size)) [.ref h0, .ref o, .int lw, .int hg, .int mo].toArray s (0) (0) (va_A (va_pl L f) s.heap.size)) (F0 m 13 ls []) := by
    intro n
    induction n with
    | zero => intro ii L1 f1 H locs ls hm hk_o_1 hk_o_2 hk_o_3 hk_h0_3 hk_h0_4 hO0 hO7 hgC hP hD hS hT hE hF hl; exact absurd hm (by rintro ⟨a, -, h1, h2⟩; omega)
    | succ n ih =>
      intro ii L1 f1 H locs ls hm hk_o_1 hk_o_2 hk_o_3 hk_h0_3 hk_h0_4 hO0 hO7 hgC hP hD hS hT hE hF hl
      refine lv_iload hx hb dX1_fewest_13 (lv_at hl 0 rfl) ?_
      refine lv_aload_n hx hb dX1_fewest_15 rfl (lv_at hl 1 rfl) ?_
      refine T_get (ci := 1) (C := RX1) (T := TX1) (N := 9) (t := (1, 2, g 10, 6)) hx hb hts inw_X1_fewest_1 hown hK hP hT 0 rfl rfl 1 (by decide) (hts (.fieldLink RX1 11 "VatHouse$Planner" "trialVats" "[LVatHouse$Vat;") (List.mem_of_getElem? (i := 3) (by exact rfl))) (fun _ h9 => h9) rfl dX1_fewest_16 (fun v_18 hv_16 hr_17 => ?_)
      obtain rfl : v_18 = .ref tvr := hr_17.symm.trans ((hF.1 h0 (hT0.at 0 rfl).1 1 (hT0.at 0 rfl).2 1 (by decide)).trans h_tvr)
      refine T_alen hx hb hK hP hT 2 10 rfl rfl (v := 6) rfl dX1_fewest_19 ?_
      refine lv_icmp_ge (tgt := 48) hx hb dX1_fewest_20 (by decide) (fun c_19 => ?_) (fun c_19 => ?_)
      · obtain ⟨k9, hk9, hk69, hcp⟩ := hgC
        obtain rfl : k9 = 6 := up_ge hk9 hk69 (by decide) c_19
        have hTM1 : ∀ k : Nat, k < 6 → tv k ∈ L1 ∧ sh (f1 (tv k)) = (0, 7, 0) := (fun k9 h9 => ⟨(hE _ (hTM k9 h9).1).1, (hE _ (hTM k9 h9).1).2.trans (hTM k9 h9).2⟩)
        refine lv_aload_n hx hb dX1_fewest_48 rfl (lv_at hl 1 rfl) ?_
        refine T_get (ci := 1) (C := RX1) (T := TX1) (N := 9) (t := (1, 0, 0, 0)) hx hb hts inw_X1_fewest_1 hown hK hP hT 0 rfl rfl 2 (by decide) (hts (.fieldLink RX1 22 "VatHouse$Planner" "trialCloth" "LVatHouse$Cloth;") (List.mem_of_getElem? (i := 5) (by exact rfl))) (fun _ h9 => h9) rfl dX1_fewest_49 (fun v_22 hv_20 hr_21 => ?_)
        obtain rfl : v_22 = .ref tc := hr_21.symm.trans ((hF.1 h0 (hT0.at 0 rfl).1 1 (hT0.at 0 rfl).2 2 (by decide)).trans h_tc)
        refine lv_aload_n hx hb dX1_fewest_52 rfl (lv_at hl 2 rfl) ?_
        have hTo := hT
        refine K_V ⟨hx, hb, hml, hown, hts⟩ (t_X0_copyFromE l dC dI sa hlt g _ _ tc o (w c9) (lo c9) (fa c9) _ (hT.sub [3, 1] rfl)  hk_o_1 hk_o_2 hk_o_3 ) (cwV 1 hts gX1_fewest_X0_copyFrom rfl rfl rfl (by decide +kernel) ⟨Nat.le_of_ble_eq_true rfl, Nat.le_of_ble_eq_true rfl⟩) hP hD hK hS hA hev hT 3 0 rfl rfl rfl rfl hl.1 rfl (Nat.le_of_ble_eq_true rfl) dX1_fewest_53 ⟨Nat.le_of_ble_eq_true rfl, Nat.le_of_ble_eq_true rfl⟩ (fun r L_23 f_24 H locs hw_25 hP hD hS hT hE1 => ?_)
        have hEo := hE
        have hO7 := hO7.call hE (OF.fr hw_25.2.1 (by decide)) (by simp)
        have hF := Fr.call hF hE hw_25.2.1 (by decide)
        have hE := hE.tr hE1
        obtain ⟨rfl, hw_25⟩ := hw_25
        obtain ⟨hfr_26, y1_27, y2_28, y3_29, hk_30, hk_31, hk_32, hrel_33, hrel_34, hrel_35, hex_36⟩ := hw_25
        have hO0 := hO0.call hEo hex_36 (by simp)
        have hk_39 : rd f_24 h0 3 = .int lw := (hfr_26.1 h0 (hTo.at 0 rfl).1 1 (hTo.at 0 rfl).2 3 (by decide)).trans hk_h0_3
        have hk_40 : rd f_24 h0 4 = .int hg := (hfr_26.1 h0 (hTo.at 0 rfl).1 1 (hTo.at 0 rfl).2 4 (by decide)).trans hk_h0_4
        have hTS1 : TSp f_24 tv tc c9 g9 fo mi st w lo fa := TSp.mk9 hcp hTM1 hfr_26 (by decide) hk_30 hk_31 hk_32 hrel_33 hrel_34 hrel_35
        refine W.eq (g2 := F0 m 56 ls []) rfl ?_
        refine lv_iconst (v := 0) hx hb dX1_fewest_56 (by decide) ?_
        refine lv_istore (lv' := [(5, .int 0), (0, .ref h0), (1, .ref o), (2, .int lw), (3, .int hg), (4, .int mo)]) hx hb dX1_fewest_57 hl (by decide) rfl (fun ls hl => ?_)
        have lp : ∀ (n : Nat) (ii : Int32) (L1 : List Nat) (f1 : Nat → va_E) (H : Heap) (locs : List Loc) (ls : Array Slot), (∃ a : Nat, ii = nI a ∧ a ≤ 3 + 1 ∧ 3 + 1 < a + n) → rd f1 h0 3 = .int lw → rd f1 h0 4 = .int hg → (OF 0 [tc] L f f1) → (OF 7 [(tv 0), (tv 1), (tv 2), (tv 3), (tv 4), (tv 5)] L f f1) → (TSp f1 tv tc c9 g9 fo mi st w lo fa) → (∃ a : Nat, ii = nI a ∧ a ≤ 4 ∧ ∀ k : Nat, k < a → ¬ ldR k g9 fo mi st w lo fa c9 lw hg) → va_P (dC, dI) vwCl (va_pl L1 f1) H → va_D (va_A (va_pl L f) s.heap.size) (va_pl L1 f1) → va_S (va_A (va_pl L f) s.heap.size) s.heap H locs → TP g L1 f1 [(h0, (0, 1, 0)), (o, (0, 0, 0)), (tvr, (2, g 10, 6)), (tc, (0, 0, 0)), (ks, (1, g 9, 3)), (wk, (0, 8, 0)), (vs, (2, g 2, 6))] → Ext L f L1 f1 → Fr [(0, 1), (0, 2), (0, 3), (7, 1), (7, 2), (7, 3), (7, 4), (1, 3), (1, 4), (1, 5), (100, 3)] L f f1 → lv_has ls 6 [(5, .int ii), (0, .ref h0), (1, .ref o), (2, .int lw), (3, .int hg), (4, .int mo)] → W p l e rm_X1_fewestK s m [.ref h0, .ref o, .int lw, .int hg, .int mo].toArray below meth c H locs 0 0 (MQ below (Qg (kpost g L f (fun r L' f' => (∃ z : Int32, r = some (.int z)) ∧ Fr [(0, 1), (0, 2), (0, 3), (7, 1), (7, 2), (7, 3), (7, 4), (1, 3), (1, 4), (1, 5), (100, 3)] L f f' ∧ (OF 0 [tc] L f f' ∧ OF 7 [(tv 0), (tv 1), (tv 2), (tv 3), (tv 4), (tv 5)] L f f' ∧ (FWr g9 fo mi st w lo fa c9 lw hg mo r ∧ (∃ k5 : Int32, rd f' h0 5 = .int k5 ∧ ((r = some (.int (-1)) ∧ k5 = 0) ∨ r = some (.int k5))))))) (fun (u : PL) t => QW dC dI (va_A (va_pl L f) s.heap.size) (va_pl u.1 u.2) [] t) (va_A (va_pl L f) s.heap.size)) [.ref h0, .ref o, .int lw, .int hg, .int mo].toArray s (0) (0) (va_A (va_pl L f) s.heap.size)) (F0 m 59 ls []) := by
          intro n
          induction n with
          | zero => intro ii L1 f1 H locs ls hm hk_h0_3 hk_h0_4 hO0 hO7 hTSl hgP hP hD hS hT hE hF hl; exact absurd hm (by rintro ⟨a, -, h1, h2⟩; omega)
          | succ n ih =>
            intro ii L1 f1 H locs ls hm hk_h0_3 hk_h0_4 hO0 hO7 hTSl hgP hP hD hS hT hE hF hl
            refine lv_iload hx hb dX1_fewest_59 (lv_at hl 0 rfl) ?_
            refine lv_iload hx hb dX1_fewest_61 (lv_at hl 5 rfl) ?_
            refine lv_icmp_gt (tgt := 97) hx hb dX1_fewest_63 (by decide) (fun c_41 => ?_) (fun c_41 => ?_)
            · refine lv_aload_n hx hb dX1_fewest_97 rfl (lv_at hl 1 rfl) ?_
              refine lv_iconst (v := 0) hx hb dX1_fewest_98 (by decide) ?_
              have hTo := hT
              refine T_put (ci := 1) (v := .int 0) (ty := .int) (t := tI) (C := RX1) (T := TX1) (N := 9) hx hb hts inw_X1_fewest_1 tyX1 tyX1_ok nmX1 hown hK hP hD hS hT 0 rfl rfl 5 (by decide) (hts (.fieldLink RX1 67 "VatHouse$Planner" "kept" "I") (List.mem_of_getElem? (i := 6) (by exact rfl))) (fun _ h9 => h9) rfl (tyX1_ok 5 (by decide)) rfl rfl rfl ⟨_, rfl⟩ dX1_fewest_99 (fun f_42 H locs hP hD hS hT hE1 hrd_43 hup_44 => ?_)
              have hO0 := OF.putN (a := h0) (cj := 1) hO0 hE ((hE1 h0 (hT.at 0 rfl).1).2.symm.trans (hT.at 0 rfl).2) (by decide) hrd_43
              have hO7 := OF.putN (a := h0) (cj := 1) hO7 hE ((hE1 h0 (hT.at 0 rfl).1).2.symm.trans (hT.at 0 rfl).2) (by decide) hrd_43
              have hF := Fr.put (a := h0) (ci := 1) hF hE ((hE1 h0 (hT.at 0 rfl).1).2.symm.trans (hT.at 0 rfl).2) (by decide) hrd_43 hup_44
              have hE := hE.tr hE1
              have hk_45 : rd f_42 h0 3 = .int lw := ((Fr.put (cs := [(1, 5)]) (a := h0) (ci := 1) Fr.rf Ext.rf (hTo.at 0 rfl).2 (by decide) hrd_43 hup_44).1 h0 (hTo.at 0 rfl).1 1 (hTo.at 0 rfl).2 3 (by decide)).trans hk_h0_3
              have hk_46 : rd f_42 h0 4 = .int hg := ((Fr.put (cs := [(1, 5)]) (a := h0) (ci := 1) Fr.rf Ext.rf (hTo.at 0 rfl).2 (by decide) hrd_43 hup_44).1 h0 (hTo.at 0 rfl).1 1 (hTo.at 0 rfl).2 4 (by decide)).trans hk_h0_4
              have hk_47 : rd f_42 h0 5 = .int 0 := (hrd_43 h0 5).trans (if_pos ⟨rfl, rfl⟩)
              refine lv_iconst (v := (-1)) hx hb dX1_fewest_102 (by decide) ?_
              exact K_i hx hb hr hlocks hP hD hK hS hT hE ⟨⟨_, rfl⟩, hF, hO0, hO7, (by obtain ⟨q9, h1, h2, h3⟩ := hgP; exact fw_no h1 h2 (Or.inl c_41) h3), _, hk_47, Or.inl ⟨rfl, rfl⟩⟩ (Nat.le_of_ble_eq_true rfl) (Nat.le_of_ble_eq_true rfl) dX1_fewest_103
            · refine lv_iload hx hb dX1_fewest_66 (lv_at hl 0 rfl) ?_
              refine lv_iconst (v := 3) hx hb dX1_fewest_68 (by decide) ?_
              refine lv_icmp_gt (tgt := 97) hx hb dX1_fewest_69 (by decide) (fun c_48 => ?_) (fun c_48 => ?_)
              · refine lv_aload_n hx hb dX1_fewest_97 rfl (lv_at hl 1 rfl) ?_
                refine lv_iconst (v := 0) hx hb dX1_fewest_98 (by decide) ?_
                have hTo := hT
                refine T_put (ci := 1) (v := .int 0) (ty := .int) (t := tI) (C := RX1) (T := TX1) (N := 9) hx hb hts inw_X1_fewest_1 tyX1 tyX1_ok nmX1 hown hK hP hD hS hT 0 rfl rfl 5 (by decide) (hts (.fieldLink RX1 67 "VatHouse$Planner" "kept" "I") (List.mem_of_getElem? (i := 6) (by exact rfl))) (fun _ h9 => h9) rfl (tyX1_ok 5 (by decide)) rfl rfl rfl ⟨_, rfl⟩ dX1_fewest_99 (fun f_49 H locs hP hD hS hT hE1 hrd_50 hup_51 => ?_)
                have hO0 := OF.putN (a := h0) (cj := 1) hO0 hE ((hE1 h0 (hT.at 0 rfl).1).2.symm.trans (hT.at 0 rfl).2) (by decide) hrd_50
                have hO7 := OF.putN (a := h0) (cj := 1) hO7 hE ((hE1 h0 (hT.at 0 rfl).1).2.symm.trans (hT.at 0 rfl).2) (by decide) hrd_50
                have hF := Fr.put (a := h0) (ci := 1) hF hE ((hE1 h0 (hT.at 0 rfl).1).2.symm.trans (hT.at 0 rfl).2) (by decide) hrd_50 hup_51
                have hE := hE.tr hE1
                have hk_52 : rd f_49 h0 3 = .int lw := ((Fr.put (cs := [(1, 5)]) (a := h0) (ci := 1) Fr.rf Ext.rf (hTo.at 0 rfl).2 (by decide) hrd_50 hup_51).1 h0 (hTo.at 0 rfl).1 1 (hTo.at 0 rfl).2 3 (by decide)).trans hk_h0_3
                have hk_53 : rd f_49 h0 4 = .int hg := ((Fr.put (cs := [(1, 5)]) (a := h0) (ci := 1) Fr.rf Ext.rf (hTo.at 0 rfl).2 (by decide) hrd_50 hup_51).1 h0 (hTo.at 0 rfl).1 1 (hTo.at 0 rfl).2 4 (by decide)).trans hk_h0_4
                have hk_54 : rd f_49 h0 5 = .int 0 := (hrd_50 h0 5).trans (if_pos ⟨rfl, rfl⟩)
                refine lv_iconst (v := (-1)) hx hb dX1_fewest_102 (by decide) ?_
                exact K_i hx hb hr hlocks hP hD hK hS hT hE ⟨⟨_, rfl⟩, hF, hO0, hO7, (by obtain ⟨q9, h1, h2, h3⟩ := hgP; exact fw_no h1 h2 (Or.inr c_48) h3), _, hk_54, Or.inl ⟨rfl, rfl⟩⟩ (Nat.le_of_ble_eq_true rfl) (Nat.le_of_ble_eq_true rfl) dX1_fewest_103
              · refine lv_aload_n hx hb dX1_fewest_72 rfl (lv_at hl 1 rfl) ?_
                refine lv_iconst (v := 0) hx hb dX1_fewest_73 (by decide) ?_
                refine lv_iload hx hb dX1_fewest_74 (lv_at hl 0 rfl) ?_
                obtain ⟨q, hq1, hq4, hgn⟩ := hgP
                have hq3 := fw_q hq1 hq4 c_48
                have hTo := hT
                refine K_V ⟨hx, hb, hml, hown, hts⟩ (X1_reachesP_all l dC dI sa hlt g 3 0 rfl _ _ tv q c9 g9 fo mi st w lo fa h0 0 ii tvr tc ks lw hg _ (hT.sub [0, 2, 3, 4] rfl)  hk_h0_3 hk_h0_4 ((hF.1 h0 (hT0.at 0 rfl).1 1 (hT0.at 0 rfl).2 1 (by decide)).trans h_tvr) ((hF.1 h0 (hT0.at 0 rfl).1 1 (hT0.at 0 rfl).2 2 (by decide)).trans h_tc) ((hF.1 h0 (hT0.at 0 rfl).1 1 (hT0.at 0 rfl).2 8 (by decide)).trans h_ks) nI_0.symm (by rw [hq1]; exact congrArg nI (by omega)) (by omega) (fun k9 h9 => by rw [ra_eq (hF.2 tvr (hT0.at 2 rfl).1 1 _ _ (hT0.at 2 rfl).2 (by decide))]; exact hTV k9 h9) (fun k9 h9 => ⟨(hE _ (hTM k9 h9).1).1, (hE _ (hTM k9 h9).1).2.trans (hTM k9 h9).2⟩) hinj hTSl hIV) (cwV 2 hts gX1_fewest_X1_reaches rfl rfl rfl (by decide +kernel) ⟨Nat.le_of_ble_eq_true rfl, Nat.le_of_ble_eq_true rfl⟩) hP hD hK hS hA hev hT 0 1 rfl rfl rfl rfl hl.1 rfl (Nat.le_of_ble_eq_true rfl) dX1_fewest_76 ⟨Nat.le_of_ble_eq_true rfl, Nat.le_of_ble_eq_true rfl⟩ (fun r L_55 f_56 H locs hw_57 hP hD hS hT hE1 => ?_)
                have hEo := hE
                have hF := Fr.call hF hE hw_57.2.1 (by decide)
                have hE := hE.tr hE1
                obtain ⟨⟨rfl, hz2_58⟩ | ⟨rfl, hz2_58⟩, hw_57⟩ := hw_57
                · obtain ⟨hfr_59, hex_60⟩ := hw_57
                  obtain ⟨hof_61, hof_62, hex_63⟩ := hex_60
                  have hO0 := hO0.call hEo hof_61 (fun _ h9 => h9)
                  have hO7 := hO7.call hEo hof_62 (fun _ h9 => h9)
                  have hk_64 : rd f_56 h0 3 = .int lw := (hfr_59.1 h0 (hTo.at 0 rfl).1 1 (hTo.at 0 rfl).2 3 (by decide)).trans hk_h0_3
                  have hk_65 : rd f_56 h0 4 = .int hg := (hfr_59.1 h0 (hTo.at 0 rfl).1 1 (hTo.at 0 rfl).2 4 (by decide)).trans hk_h0_4
                  refine W.eq (g2 := F0 m 79 ls [.int 0]) rfl ?_
                  refine lv_if_eq (tgt := 91) hx hb dX1_fewest_79 (by decide) (fun c_66 => ?_) (fun c_66 => ?_)
                  rotate_left
                  · exact absurd c_66 (by decide)
                  refine lv_iinc (v := (ii + 1)) (lv' := [(5, .int (ii + 1)), (0, .ref h0), (1, .ref o), (2, .int lw), (3, .int hg), (4, .int mo)]) hx hb dX1_fewest_91 hl (k := 0) rfl rfl (by decide) rfl (fun ls hl => ?_)
                  refine lv_goto (tgt := 59) hx hb dX1_fewest_94 (by decide) ?_
                  exact ih (ii + 1) _ _ _ _ _ (up_le (by decide) hm c_48) hk_64 hk_65 (hO0) (hO7) (hex_63) (fw_nx hq1 hq3 hz2_58 hgn) hP hD hS (hT.sub [0, 1, 2, 3, 4, 5, 6] rfl) hE hF (lv_sub hl [0, 1, 2, 3, 4, 5] rfl)
                · obtain ⟨hfr_67, hex_68⟩ := hw_57
                  obtain ⟨hof_69, hof_70, hex_71⟩ := hex_68
                  have hO0 := hO0.call hEo hof_69 (fun _ h9 => h9)
                  have hO7 := hO7.call hEo hof_70 (fun _ h9 => h9)
                  have hk_72 : rd f_56 h0 3 = .int lw := (hfr_67.1 h0 (hTo.at 0 rfl).1 1 (hTo.at 0 rfl).2 3 (by decide)).trans hk_h0_3
                  have hk_73 : rd f_56 h0 4 = .int hg := (hfr_67.1 h0 (hTo.at 0 rfl).1 1 (hTo.at 0 rfl).2 4 (by decide)).trans hk_h0_4
                  refine W.eq (g2 := F0 m 79 ls [.int 1]) rfl ?_
                  refine lv_if_eq (tgt := 91) hx hb dX1_fewest_79 (by decide) (fun c_74 => ?_) (fun c_74 => ?_)
                  · exact absurd c_74 (by decide)
                  refine lv_aload_n hx hb dX1_fewest_82 rfl (lv_at hl 1 rfl) ?_
                  refine lv_iload hx hb dX1_fewest_83 (lv_at hl 0 rfl) ?_
                  have hTo := hT
                  refine T_put (ci := 1) (v := .int ii) (ty := .int) (t := tI) (C := RX1) (T := TX1) (N := 9) hx hb hts inw_X1_fewest_1 tyX1 tyX1_ok nmX1 hown hK hP hD hS hT 0 rfl rfl 5 (by decide) (hts (.fieldLink RX1 67 "VatHouse$Planner" "kept" "I") (List.mem_of_getElem? (i := 6) (by exact rfl))) (fun _ h9 => h9) rfl (tyX1_ok 5 (by decide)) rfl rfl rfl ⟨_, rfl⟩ dX1_fewest_85 (fun f_75 H locs hP hD hS hT hE1 hrd_76 hup_77 => ?_)
                  have hO0 := OF.putN (a := h0) (cj := 1) hO0 hE ((hE1 h0 (hT.at 0 rfl).1).2.symm.trans (hT.at 0 rfl).2) (by decide) hrd_76
                  have hO7 := OF.putN (a := h0) (cj := 1) hO7 hE ((hE1 h0 (hT.at 0 rfl).1).2.symm.trans (hT.at 0 rfl).2) (by decide) hrd_76
                  have hF := Fr.put (a := h0) (ci := 1) hF hE ((hE1 h0 (hT.at 0 rfl).1).2.symm.trans (hT.at 0 rfl).2) (by decide) hrd_76 hup_77
                  have hE := hE.tr hE1
                  have hk_78 : rd f_75 h0 3 = .int lw := ((Fr.put (cs := [(1, 5)]) (a := h0) (ci := 1) Fr.rf Ext.rf (hTo.at 0 rfl).2 (by decide) hrd_76 hup_77).1 h0 (hTo.at 0 rfl).1 1 (hTo.at 0 rfl).2 3 (by decide)).trans hk_72
                  have hk_79 : rd f_75 h0 4 = .int hg := ((Fr.put (cs := [(1, 5)]) (a := h0) (ci := 1) Fr.rf Ext.rf (hTo.at 0 rfl).2 (by decide) hrd_76 hup_77).1 h0 (hTo.at 0 rfl).1 1 (hTo.at 0 rfl).2 4 (by decide)).trans hk_73
                  have hk_80 : rd f_75 h0 5 = .int ii := (hrd_76 h0 5).trans (if_pos ⟨rfl, rfl⟩)
                  refine lv_iload hx hb dX1_fewest_88 (lv_at hl 0 rfl) ?_
                  exact K_i hx hb hr hlocks hP hD hK hS hT hE ⟨⟨_, rfl⟩, hF, hO0, hO7, (fw_yes hq1 hq3 c_41 hz2_58 hgn), _, hk_80, Or.inr rfl⟩ (Nat.le_of_ble_eq_true rfl) (Nat.le_of_ble_eq_true rfl) dX1_fewest_90
        exact lp 5 0 _ _ _ _ _ (⟨0, nI_0.symm, by omega, by omega⟩) hk_39 hk_40 (hO0) (hO7) (hTS1) (⟨0, nI_0.symm, by omega, fun k h9 => absurd h9 (Nat.not_lt_zero _)⟩) hP hD hS (hT.sub [0, 1, 2, 3, 4, 5, 6] rfl) hE hF (lv_sub hl [0, 1, 2, 3, 4, 5] rfl)
      · refine lv_aload_n hx hb dX1_fewest_23 rfl (lv_at hl 1 rfl) ?_
        refine T_get (ci := 1) (C := RX1) (T := TX1) (N := 9) (t := (1, 2, g 10, 6)) hx hb hts inw_X1_fewest_1 hown hK hP hT 0 rfl rfl 1 (by decide) (hts (.fieldLink RX1 11 "VatHouse$Planner" "trialVats" "[LVatHouse$Vat;") (List.mem_of_getElem? (i := 3) (by exact rfl))) (fun _ h9 => h9) rfl dX1_fewest_24 (fun v_83 hv_81 hr_82 => ?_)
        obtain rfl : v_83 = .ref tvr := hr_82.symm.trans ((hF.1 h0 (hT0.at 0 rfl).1 1 (hT0.at 0 rfl).2 1 (by decide)).trans h_tvr)
        refine lv_iload hx hb dX1_fewest_27 (lv_at hl 0 rfl) ?_
        refine T_vald hx hb hK hP hT 2 10 (Or.inr rfl) rfl rfl (up_in (by decide) hm (by decide) c_19 (by decide) (by decide)) dX1_fewest_29 (fun b_84 hb9 hra => ?_)
        have hT := hT.add hb9
        obtain ⟨k9, hk9, hk69, hcp⟩ := hgC
        have hk59 : k9 < 6 := up_lt (by decide) hk9 hk69 (by decide) c_19
        have hbq : b_84 = tv k9 := by
          rw [hk9, nI_clamp (by omega), ra_eq (hF.2 tvr (hT0.at 2 rfl).1 1 _ _ (hT0.at 2 rfl).2 (by decide)), hTV k9 hk59] at hra
          exact (Option.some.inj hra).symm
        have hTM1 : ∀ k : Nat, k < 6 → tv k ∈ L1 ∧ sh (f1 (tv k)) = (0, 7, 0) := (fun k9 h9 => ⟨(hE _ (hTM k9 h9).1).1, (hE _ (hTM k9 h9).1).2.trans (hTM k9 h9).2⟩)
        refine lv_aload_n hx hb dX1_fewest_30 rfl (lv_at hl 1 rfl) ?_
        refine T_get (ci := 1) (C := RX1) (T := TX1) (N := 9) (t := (1, 0, 8, 0)) hx hb hts inw_X1_fewest_1 hown hK hP hT 1 rfl rfl 0 (by decide) (hts (.fieldLink RX1 36 "VatHouse$Planner" "works" "LVatHouse$Works;") (List.mem_of_getElem? (i := 4) (by exact rfl))) (fun _ h9 => h9) rfl dX1_fewest_31 (fun v_87 hv_85 hr_86 => ?_)
        obtain rfl : v_87 = .ref wk := hr_86.symm.trans ((hF.1 h0 (hT0.at 0 rfl).1 1 (hT0.at 0 rfl).2 0 (by decide)).trans h_wk)
        refine lv_iload hx hb dX1_fewest_34 (lv_at hl 0 rfl) ?_
        have hTo := hT
        refine K_V ⟨hx, hb, hml, hown, hts⟩ (t_X8_vatAtE l dC dI sa hlt g _ _ k9 (va k9) wk ii vs _ (hT.sub [6, 7] rfl)  ((hF.1 wk (hT0.at 5 rfl).1 8 (hT0.at 5 rfl).2 0 (by decide)).trans h_vs) hk9 hk59 (by rw [ra_eq (hF.2 vs (hT0.at 6 rfl).1 1 _ _ (hT0.at 6 rfl).2 (by decide))]; exact hVA k9 hk59)) (cwV 1 hts gX1_fewest_X8_vatAt rfl rfl rfl (by decide +kernel) ⟨Nat.le_of_ble_eq_true rfl, Nat.le_of_ble_eq_true rfl⟩) hP hD hK hS hA hev hT 6 8 rfl rfl rfl rfl hl.1 rfl (Nat.le_of_ble_eq_true rfl) dX1_fewest_36 ⟨Nat.le_of_ble_eq_true rfl, Nat.le_of_ble_eq_true rfl⟩ (fun r L_88 f_89 H locs hw_90 hP hD hS hT hE1 => ?_)
        have hEo := hE
        have hO0 := hO0.call hE (OF.fr hw_90.2.1 (by decide)) (by simp)
        have hO7 := hO7.call hE (OF.fr hw_90.2.1 (by decide)) (by simp)
        have hF := Fr.call hF hE hw_90.2.1 (by decide)
        have hE := hE.tr hE1
        obtain ⟨⟨v_91, rfl, hv9⟩, hw_90⟩ := hw_90
        obtain ⟨b_92, rfl, hb9⟩ := hv9
        have hT := hT.add hb9
        obtain ⟨hfr_93, hex_94⟩ := hw_90
        have hk_95 : rd f_89 o 1 = .int (w c9) := (hfr_93.1 o (hTo.at 2 rfl).1 0 (hTo.at 2 rfl).2 1 (by decide)).trans hk_o_1
        have hk_96 : rd f_89 o 2 = .int (lo c9) := (hfr_93.1 o (hTo.at 2 rfl).1 0 (hTo.at 2 rfl).2 2 (by decide)).trans hk_o_2
        have hk_97 : rd f_89 o 3 = .int (fa c9) := (hfr_93.1 o (hTo.at 2 rfl).1 0 (hTo.at 2 rfl).2 3 (by decide)).trans hk_o_3
        have hk_98 : rd f_89 h0 3 = .int lw := (hfr_93.1 h0 (hTo.at 1 rfl).1 1 (hTo.at 1 rfl).2 3 (by decide)).trans hk_h0_3
        have hk_99 : rd f_89 h0 4 = .int hg := (hfr_93.1 h0 (hTo.at 1 rfl).1 1 (hTo.at 1 rfl).2 4 (by decide)).trans hk_h0_4
        have hEv := hE1
        have hbv : b_92 = va k9 := by have h9 := hex_94; injection h9 with h9; injection h9
        have hv_100 : rd f_89 b_92 1 = .int (g9 k9) := by rw [hbv]; exact (hO7 _ (hVV k9 hk59).1.1 (hVV k9 hk59).1.2 (hdv k9 hk59) 1).trans (hVV k9 hk59).2.1
        have hv_101 : rd f_89 b_92 2 = .int (fo k9) := by rw [hbv]; exact (hO7 _ (hVV k9 hk59).1.1 (hVV k9 hk59).1.2 (hdv k9 hk59) 2).trans (hVV k9 hk59).2.2.1
        have hv_102 : rd f_89 b_92 3 = .int (mi k9) := by rw [hbv]; exact (hO7 _ (hVV k9 hk59).1.1 (hVV k9 hk59).1.2 (hdv k9 hk59) 3).trans (hVV k9 hk59).2.2.2.1
        have hv_103 : rd f_89 b_92 4 = .int (st k9) := by rw [hbv]; exact (hO7 _ (hVV k9 hk59).1.1 (hVV k9 hk59).1.2 (hdv k9 hk59) 4).trans (hVV k9 hk59).2.2.2.2
        refine W.eq (g2 := F0 m 39 ls [.ref b_92, .ref b_84]) rfl ?_
        have hTo := hT
        refine K_V ⟨hx, hb, hml, hown, hts⟩ (t_X7_copyFromE l dC dI sa hlt g _ _ b_84 b_92 (g9 k9) (fo k9) (mi k9) (st k9) _ (hT.sub [1, 0] rfl)  hv_100 hv_101 hv_102 hv_103 ) (cwV 1 hts gX1_fewest_X7_copyFrom rfl rfl rfl (by decide +kernel) ⟨Nat.le_of_ble_eq_true rfl, Nat.le_of_ble_eq_true rfl⟩) hP hD hK hS hA hev hT 1 7 rfl rfl rfl rfl hl.1 rfl (Nat.le_of_ble_eq_true rfl) dX1_fewest_39 ⟨Nat.le_of_ble_eq_true rfl, Nat.le_of_ble_eq_true rfl⟩ (fun r L_104 f_105 H locs hw_106 hP hD hS hT hE1 => ?_)
        have hEo := hE
        have hO0 := hO0.call hE (OF.fr hw_106.2.1 (by decide)) (by simp)
        have hF := Fr.call hF hE hw_106.2.1 (by decide)
        have hE := hE.tr hE1
        obtain ⟨rfl, hw_106⟩ := hw_106
        obtain ⟨hfr_107, y1_108, y2_109, y3_110, y4_111, hk_112, hk_113, hk_114, hk_115, hrel_116, hrel_117, hrel_118, hrel_119, hex_120⟩ := hw_106
        have hO7 := hO7.call hEo hex_120 (fun a9 h9 => by rw [List.mem_singleton.mp h9]; exact (by rw [hbq]; exact tv_in hk59))
        have hk_123 : rd f_105 o 1 = .int (w c9) := (hfr_107.1 o (hTo.at 3 rfl).1 0 (hTo.at 3 rfl).2 1 (by decide)).trans hk_95
        have hk_124 : rd f_105 o 2 = .int (lo c9) := (hfr_107.1 o (hTo.at 3 rfl).1 0 (hTo.at 3 rfl).2 2 (by decide)).trans hk_96
        have hk_125 : rd f_105 o 3 = .int (fa c9) := (hfr_107.1 o (hTo.at 3 rfl).1 0 (hTo.at 3 rfl).2 3 (by decide)).trans hk_97
        have hk_126 : rd f_105 h0 3 = .int lw := (hfr_107.1 h0 (hTo.at 2 rfl).1 1 (hTo.at 2 rfl).2 3 (by decide)).trans hk_98
        have hk_127 : rd f_105 h0 4 = .int hg := (hfr_107.1 h0 (hTo.at 2 rfl).1 1 (hTo.at 2 rfl).2 4 (by decide)).trans hk_99
        have hcp2 : CPv f_105 tv g9 fo mi st (k9 + 1) := hcp.nx hinj hk59 hTM1 hfr_93 (by simp) hEv hex_120 hbq hk_112 hk_113 hk_114 hk_115 hrel_116 hrel_117 hrel_118 hrel_119
        refine W.eq (g2 := F0 m 42 ls []) rfl ?_
        refine lv_iinc (v := (ii + 1)) (lv' := [(5, .int (ii + 1)), (0, .ref h0), (1, .ref o), (2, .int lw), (3, .int hg), (4, .int mo)]) hx hb dX1_fewest_42 hl (k := 0) rfl rfl (by decide) rfl (fun ls hl => ?_)
        refine lv_goto (tgt := 13) hx hb dX1_fewest_45 (by decide) ?_
        exact ih (ii + 1) _ _ _ _ _ (up_nx (by decide) hm (by decide) c_19) hk_123 hk_124 hk_125 hk_126 hk_127 (hO0) (hO7) (⟨k9 + 1, by rw [hk9]; exact nI_1 k9, by omega, hcp2⟩) hP hD hS (hT.sub [2, 3, 4, 5, 6, 7, 8] rfl) hE hF (lv_sub hl [0, 1, 2, 3, 4, 5] rfl)
  exact lp 7 0 _ _ _ _ _ (⟨0, nI_0.symm, by omega, by omega⟩) hk_11 hk_12 hk_13 hk_14 hk_15 (hO0) (hO7) (⟨0, nI_0.symm, by omega, CPv.o⟩) hP hD hS (hT.sub [0, 1, 2, 3, 4, 5, 6] rfl) hE hF (lv_sub hl [0, 1, 2, 3, 4, 5] rfl)

noncomputable abbrev rm_X9_planK : Room := { frames := 28, cells := 2, slots := 12, locals := 649 }
set_option maxHeartbeats 800000 in
set_option maxRecDepth 100000 in
theorem t_X9_planK (l : Launch) (dC : Nat → ClassId) (dI : Nat → Nat → Nat) (sa : Nat → Nat) (hlt : l.stackTraces = false) (g : Nat → Nat) (L : List Nat) (f : Nat → va_E) (va : Nat → Nat) (sA : AS) (tv : Nat → Nat) (h0 : Nat) (a : Int32) (b : Int32) (cq : Int32) (dq : Int32) (wk : Nat) (vs : Nat) (cl : Nat) (ru : Nat) (pl : Nat) (tvr : Nat) (tc : Nat) (ks : Nat) (kq : Int32) (sz : Nat) (hT : TP g L f [(h0, (0, 9, 0)), (wk, (0, 8, 0)), (vs, (2, g 2, 6)), (cl, (2, g 3, 30)), (ru, (0, 4, 0)), (pl, (0, 1, 0)), (tvr, (2, g 10, 6)), (tc, (0, 0, 0)), (ks, (1, g 9, 3))]) (hm_kq : rd f pl 5 = .int kq) (h_wk : rd f h0 0 = .ref wk) (h_vs : rd f wk 0 = .ref vs) (h_cl : rd f h0 1 = .ref cl) (h_ru : rd f h0 9 = .ref ru) (h_pl : rd f h0 10 = .ref pl) (h_tvr : rd f pl 1 = .ref tvr) (h_tc : rd f pl 2 = .ref tc) (h_wk_pl_0 : rd f pl 0 = .ref wk) (h_ks : rd f pl 8 = .ref ks) (hSR : SR g L f (h0, wk, vs, cl, ru, va) sA) (hRG : RV sA ∧ RC sA ∧ 0 ≤ (sA.1 1).toInt ∧ (sA.1 1).toInt ≤ 9000000) (hTV : ∀ k : Nat, k < 6 → ra f tvr k = some (tv k)) (hdj : ∀ k : Nat, k < 6 → va k ∉ [(tv 0), (tv 1), (tv 2), (tv 3), (tv 4), (tv 5)]) (htc : ∀ k : Nat, (k : Int) < (sA.1 12).toInt → ¬ ra f cl k = some tc) (hTM : ∀ k : Nat, k < 6 → tv k ∈ L ∧ sh (f (tv k)) = (0, 7, 0)) (hinj : ∀ i j : Nat, i < 6 → j < 6 → tv i = tv j → i = j) : KX l dC dI sa g yX9_plan wsX9_plan rm_X9_planK [.ref h0, .int a, .int b, .int cq, .int dq] L f sz (fun r L' f' => (∃ z : Int32, r = some (.int z)) ∧ Fr [(0, 1), (0, 2), (0, 3), (7, 1), (7, 2), (7, 3), (7, 4), (1, 3), (1, 4), (1, 5), (100, 3)] L f f' ∧ (((∃ v : Int32, plS a b cq dq sA (0, v, sA) ∧ r = some (.int v)) ∧ SR g L' f' (h0, wk, vs, cl, ru, va) sA) ∧ (∃ k5 : Int32, rd f' pl 5 = .int k5 ∧ (¬ sA.2 16 a.toNatClampNeg = -1 → k5 = kq) ∧ (sA.2 16 a.toNatClampNeg = -1 → (r = some (.int (-1)) ∧ k5 = 0) ∨ r = some (.int k5))))) (fun E L' f' => ((E = NSE ∧ plS a b cq dq sA (1, 0, sA)) ∨ (E = IAE ∧ plS a b cq dq sA (2, 0, sA))) ∧ Fr [] L f f') 2 12 := by
  refine KX.start (cc := cX9_plan) (maxL := 6) (ret := (some .int)) (by decide) rfl (Nat.le_of_ble_eq_true rfl) ?_
  intro p e s m below meth c ls hst hno hP hK hD hev hS hl
  obtain ⟨hx, hb, hr, hml, hts, hown, hlocks, hin⟩ := hst
  have hown : s.vm.findClass RX9 = some m.cls := hown
  have hin : meth.name = yX9_plan.name := hin
  have hA : ∀ q : Nat, s.heap.size ≤ q → va_A (va_pl L f) s.heap.size q := fun _ h => Or.inr h
  have hE : Ext L f L f := Ext.rf
  have hF : Fr [(0, 1), (0, 2), (0, 3), (7, 1), (7, 2), (7, 3), (7, 4), (1, 3), (1, 4), (1, 5), (100, 3)] L f f := Fr.rf
  have hF0 : Fr [] L f f := Fr.rf
  have hl : lv_has ls 6 [(0, .ref h0), (1, .int a), (2, .int b), (3, .int cq), (4, .int dq)] := hl
  have hT0 := hT
  refine lv_aload_n hx hb dX9_plan_0 rfl (lv_at hl 0 rfl) ?_
  refine lv_iload_n hx hb dX9_plan_1 rfl (lv_at hl 1 rfl) ?_
  have hTo := hT
  refine K_VX ⟨hx, hb, hml, hown, hts⟩ (t_X9_clothAtX l dC dI sa hlt g _ _ wk vs ru va sA h0 a cl _ (hT.sub [0, 3] rfl)  ((hF.1 h0 (hT0.at 0 rfl).1 9 (hT0.at 0 rfl).2 1 (by decide)).trans h_cl) hSR hRG.2.1.1.2) (cwV 1 hts gX9_plan_X9_clothAt rfl rfl rfl (by decide +kernel) ⟨Nat.le_of_ble_eq_true rfl, Nat.le_of_ble_eq_true rfl⟩) hP hD hK hS hA hev hT 0 9 rfl rfl rfl rfl hl.1 rfl (Nat.le_of_ble_eq_true rfl) dX9_plan_2 ⟨Nat.le_of_ble_eq_true rfl, Nat.le_of_ble_eq_true rfl⟩ (fun E ce q9 L9 f9 H locs hpx hP hD hS hT hE1 hce hcv hcl => ?_) (fun r L_1 f_2 H locs hw_3 hP hD hS hT hE1 => ?_)
  · have hF := Fr.call hF0 hE hpx.2 (by decide)
    have hE := hE.tr hE1
    exact K_out hno hlocks ⟨Or.inl ⟨hpx.1.1, Or.inl ⟨hpx.1.2, rfl⟩⟩, hF⟩ hP hD hK hS hT hE hce hcv hcl (Nat.le_of_ble_eq_true rfl) (Nat.le_of_ble_eq_true rfl)
  have hF0 := Fr.call hF0 hE hw_3.2.1 (by decide)
  have hF := Fr.call hF hE hw_3.2.1 (by decide)
  have hE := hE.tr hE1
  obtain ⟨⟨v_4, rfl, hv9⟩, hw_3⟩ := hw_3
  obtain ⟨b_5, rfl, hb9⟩ := hv9
  have hT := hT.add hb9
  obtain ⟨hfr_6, hex_7⟩ := hw_3
  have hk_8 : rd f_2 pl 5 = .int kq := (hfr_6.1 pl (hTo.at 5 rfl).1 1 (hTo.at 5 rfl).2 5 (by decide)).trans hm_kq
  obtain ⟨hC_9, bq_10, hg_11, hcl_12⟩ := hex_7
  have hcl_12 : ra f cl a.toNatClampNeg = some b_5 := by have h9 := hg_11; injection h9 with h9; injection h9 with h9; rw [h9]; exact hcl_12
  have hc9 := (inC_c hC_9).2
  have hs_13 := SR.still hSR hE1 hfr_6 (by decide)
  refine W.eq (g2 := F0 m 5 ls [.ref b_5]) rfl ?_
  refine lv_astore (lv' := [(5, .ref b_5), (0, .ref h0), (1, .int a), (2, .int b), (3, .int cq), (4, .int dq)]) hx hb dX9_plan_5 hl (by decide) rfl (fun ls hl => ?_)
  refine lv_iload hx hb dX9_plan_7 (lv_at hl 5 rfl) ?_
  refine lv_if_lt (tgt := 31) hx hb dX9_plan_9 (by decide) (fun c_14 => ?_) (fun c_14 => ?_)
  · refine lv_iconst (v := 0) hx hb dX9_plan_31 (by decide) ?_
    have hTo := hT
    refine K_SX ⟨hx, hb, hml, hown, hts⟩ (t_X9_demandX l dC dI sa hlt g _ _ 0 _ (hT.sub [] rfl)  ) (va_cwS 1 hts gX9_plan_X9_demand rfl rfl rfl (by decide +kernel) ⟨Nat.le_of_ble_eq_true rfl, Nat.le_of_ble_eq_true rfl⟩) hP hD hK hS hA hev hT rfl hl.1 rfl (Nat.le_of_ble_eq_true rfl) dX9_plan_32 ⟨Nat.le_of_ble_eq_true rfl, Nat.le_of_ble_eq_true rfl⟩ (fun E ce q9 L9 f9 H locs hpx hP hD hS hT hE1 hce hcv hcl => ?_) (fun r L_15 f_16 H locs hw_17 hP hD hS hT hE1 => ?_)
    · have hF := Fr.call hF0 hE hpx.2 (by decide)
      have hE := hE.tr hE1
      exact K_out hno hlocks ⟨Or.inr ⟨hpx.1.1, Or.inr ⟨hC_9, Or.inl ⟨fun h8 => le_nlt h8.1 c_14, rfl⟩⟩⟩, hF⟩ hP hD hK hS hT hE hce hcv hcl (Nat.le_of_ble_eq_true rfl) (Nat.le_of_ble_eq_true rfl)
    have hF0 := Fr.call hF0 hE hw_17.2.1 (by decide)
    have hF := Fr.call hF hE hw_17.2.1 (by decide)
    have hE := hE.tr hE1
    obtain ⟨rfl, hw_17⟩ := hw_17
    obtain ⟨hfr_18, hex_19⟩ := hw_17
    have hk_20 : rd f_16 pl 5 = .int kq := (hfr_18.1 pl (hTo.at 6 rfl).1 1 (hTo.at 6 rfl).2 5 (by decide)).trans hk_8
    have hs_21 := SR.still hs_13 hE1 hfr_18 (by decide)
    refine W.eq (g2 := F0 m 35 ls []) rfl ?_
    exact absurd rfl hex_19
  · refine lv_iload hx hb dX9_plan_12 (lv_at hl 5 rfl) ?_
    refine lv_iconst (v := 3) hx hb dX9_plan_14 (by decide) ?_
    refine lv_icmp_gt (tgt := 31) hx hb dX9_plan_15 (by decide) (fun c_22 => ?_) (fun c_22 => ?_)
    · refine lv_iconst (v := 0) hx hb dX9_plan_31 (by decide) ?_
      have hTo := hT
      refine K_SX ⟨hx, hb, hml, hown, hts⟩ (t_X9_demandX l dC dI sa hlt g _ _ 0 _ (hT.sub [] rfl)  ) (va_cwS 1 hts gX9_plan_X9_demand rfl rfl rfl (by decide +kernel) ⟨Nat.le_of_ble_eq_true rfl, Nat.le_of_ble_eq_true rfl⟩) hP hD hK hS hA hev hT rfl hl.1 rfl (Nat.le_of_ble_eq_true rfl) dX9_plan_32 ⟨Nat.le_of_ble_eq_true rfl, Nat.le_of_ble_eq_true rfl⟩ (fun E ce q9 L9 f9 H locs hpx hP hD hS hT hE1 hce hcv hcl => ?_) (fun r L_23 f_24 H locs hw_25 hP hD hS hT hE1 => ?_)
      · have hF := Fr.call hF0 hE hpx.2 (by decide)
        have hE := hE.tr hE1
        exact K_out hno hlocks ⟨Or.inr ⟨hpx.1.1, Or.inr ⟨hC_9, Or.inl ⟨fun h8 => le_nlt h8.2.1 c_22, rfl⟩⟩⟩, hF⟩ hP hD hK hS hT hE hce hcv hcl (Nat.le_of_ble_eq_true rfl) (Nat.le_of_ble_eq_true rfl)
      have hF0 := Fr.call hF0 hE hw_25.2.1 (by decide)
      have hF := Fr.call hF hE hw_25.2.1 (by decide)
      have hE := hE.tr hE1
      obtain ⟨rfl, hw_25⟩ := hw_25
      obtain ⟨hfr_26, hex_27⟩ := hw_25
      have hk_28 : rd f_24 pl 5 = .int kq := (hfr_26.1 pl (hTo.at 6 rfl).1 1 (hTo.at 6 rfl).2 5 (by decide)).trans hk_8
      have hs_29 := SR.still hs_13 hE1 hfr_26 (by decide)
      refine W.eq (g2 := F0 m 35 ls []) rfl ?_
      exact absurd rfl hex_27
    · refine lv_iload_n hx hb dX9_plan_18 rfl (lv_at hl 3 rfl) ?_
      refine lv_if_lt (tgt := 31) hx hb dX9_plan_19 (by decide) (fun c_30 => ?_) (fun c_30 => ?_)
      · refine lv_iconst (v := 0) hx hb dX9_plan_31 (by decide) ?_
        have hTo := hT
        refine K_SX ⟨hx, hb, hml, hown, hts⟩ (t_X9_demandX l dC dI sa hlt g _ _ 0 _ (hT.sub [] rfl)  ) (va_cwS 1 hts gX9_plan_X9_demand rfl rfl rfl (by decide +kernel) ⟨Nat.le_of_ble_eq_true rfl, Nat.le_of_ble_eq_true rfl⟩) hP hD hK hS hA hev hT rfl hl.1 rfl (Nat.le_of_ble_eq_true rfl) dX9_plan_32 ⟨Nat.le_of_ble_eq_true rfl, Nat.le_of_ble_eq_true rfl⟩ (fun E ce q9 L9 f9 H locs hpx hP hD hS hT hE1 hce hcv hcl => ?_) (fun r L_31 f_32 H locs hw_33 hP hD hS hT hE1 => ?_)
        · have hF := Fr.call hF0 hE hpx.2 (by decide)
          have hE := hE.tr hE1
          exact K_out hno hlocks ⟨Or.inr ⟨hpx.1.1, Or.inr ⟨hC_9, Or.inl ⟨fun h8 => le_nlt h8.2.2.1 c_30, rfl⟩⟩⟩, hF⟩ hP hD hK hS hT hE hce hcv hcl (Nat.le_of_ble_eq_true rfl) (Nat.le_of_ble_eq_true rfl)
        have hF0 := Fr.call hF0 hE hw_33.2.1 (by decide)
        have hF := Fr.call hF hE hw_33.2.1 (by decide)
        have hE := hE.tr hE1
        obtain ⟨rfl, hw_33⟩ := hw_33
        obtain ⟨hfr_34, hex_35⟩ := hw_33
        have hk_36 : rd f_32 pl 5 = .int kq := (hfr_34.1 pl (hTo.at 6 rfl).1 1 (hTo.at 6 rfl).2 5 (by decide)).trans hk_8
        have hs_37 := SR.still hs_13 hE1 hfr_34 (by decide)
        refine W.eq (g2 := F0 m 35 ls []) rfl ?_
        exact absurd rfl hex_35
      · refine lv_iload_n hx hb dX9_plan_22 rfl (lv_at hl 3 rfl) ?_
        refine lv_iload_n hx hb dX9_plan_23 rfl (lv_at hl 4 rfl) ?_
        refine lv_icmp_gt (tgt := 31) hx hb dX9_plan_24 (by decide) (fun c_38 => ?_) (fun c_38 => ?_)
        · refine lv_iconst (v := 0) hx hb dX9_plan_31 (by decide) ?_
          have hTo := hT
          refine K_SX ⟨hx, hb, hml, hown, hts⟩ (t_X9_demandX l dC dI sa hlt g _ _ 0 _ (hT.sub [] rfl)  ) (va_cwS 1 hts gX9_plan_X9_demand rfl rfl rfl (by decide +kernel) ⟨Nat.le_of_ble_eq_true rfl, Nat.le_of_ble_eq_true rfl⟩) hP hD hK hS hA hev hT rfl hl.1 rfl (Nat.le_of_ble_eq_true rfl) dX9_plan_32 ⟨Nat.le_of_ble_eq_true rfl, Nat.le_of_ble_eq_true rfl⟩ (fun E ce q9 L9 f9 H locs hpx hP hD hS hT hE1 hce hcv hcl => ?_) (fun r L_39 f_40 H locs hw_41 hP hD hS hT hE1 => ?_)
          · have hF := Fr.call hF0 hE hpx.2 (by decide)
            have hE := hE.tr hE1
            exact K_out hno hlocks ⟨Or.inr ⟨hpx.1.1, Or.inr ⟨hC_9, Or.inl ⟨fun h8 => le_nlt h8.2.2.2 c_38, rfl⟩⟩⟩, hF⟩ hP hD hK hS hT hE hce hcv hcl (Nat.le_of_ble_eq_true rfl) (Nat.le_of_ble_eq_true rfl)
          have hF0 := Fr.call hF0 hE hw_41.2.1 (by decide)
          have hF := Fr.call hF hE hw_41.2.1 (by decide)
          have hE := hE.tr hE1
          obtain ⟨rfl, hw_41⟩ := hw_41
          obtain ⟨hfr_42, hex_43⟩ := hw_41
          have hk_44 : rd f_40 pl 5 = .int kq := (hfr_42.1 pl (hTo.at 6 rfl).1 1 (hTo.at 6 rfl).2 5 (by decide)).trans hk_8
          have hs_45 := SR.still hs_13 hE1 hfr_42 (by decide)
          refine W.eq (g2 := F0 m 35 ls []) rfl ?_
          exact absurd rfl hex_43
        · refine lv_iconst (v := 1) hx hb dX9_plan_27 (by decide) ?_
          refine lv_goto (tgt := 32) hx hb dX9_plan_28 (by decide) ?_
          have hTo := hT
          refine K_SX ⟨hx, hb, hml, hown, hts⟩ (t_X9_demandX l dC dI sa hlt g _ _ 1 _ (hT.sub [] rfl)  ) (va_cwS 1 hts gX9_plan_X9_demand rfl rfl rfl (by decide +kernel) ⟨Nat.le_of_ble_eq_true rfl, Nat.le_of_ble_eq_true rfl⟩) hP hD hK hS hA hev hT rfl hl.1 rfl (Nat.le_of_ble_eq_true rfl) dX9_plan_32 ⟨Nat.le_of_ble_eq_true rfl, Nat.le_of_ble_eq_true rfl⟩ (fun E ce q9 L9 f9 H locs hpx hP hD hS hT hE1 hce hcv hcl => ?_) (fun r L_46 f_47 H locs hw_48 hP hD hS hT hE1 => ?_)
          · have hF := Fr.call hF0 hE hpx.2 (by decide)
            have hE := hE.tr hE1
            exact absurd hpx.1.2 (by decide)
          have hF0 := Fr.call hF0 hE hw_48.2.1 (by decide)
          have hF := Fr.call hF hE hw_48.2.1 (by decide)
          have hE := hE.tr hE1
          obtain ⟨rfl, hw_48⟩ := hw_48
          obtain ⟨hfr_49, hex_50⟩ := hw_48
          have hk_51 : rd f_47 pl 5 = .int kq := (hfr_49.1 pl (hTo.at 6 rfl).1 1 (hTo.at 6 rfl).2 5 (by decide)).trans hk_8
          have hs_52 := SR.still hs_13 hE1 hfr_49 (by decide)
          refine W.eq (g2 := F0 m 35 ls []) rfl ?_
          refine lv_aload hx hb dX9_plan_35 (lv_at hl 0 rfl) ?_
          refine T_get (ci := 0) (C := RX0) (T := TX0) (N := 8) (t := tI) hx hb hts inw_X9_plan_0 hown hK hP hT 0 rfl rfl 4 (by decide) (hts (.fieldLink RX9 102 "VatHouse$Cloth" "dry" "Z") (List.mem_of_getElem? (i := 1) (by exact rfl))) (fun _ h9 => h9) rfl dX9_plan_37 (fun v_55 hv_53 hr_54 => ?_)
          obtain rfl : v_55 = .int (dyA (sA.2 16 a.toNatClampNeg)) := hr_54.symm.trans (SR.cf4 hs_52 hc9 (by rw [ra_eq (hF.2 cl hSR.1.1.2.2.2.1.1 1 _ _ hSR.1.1.2.2.2.1.2 (by decide))]; exact hcl_12))
          refine lv_if_eq (tgt := 45) hx hb dX9_plan_40 (by decide) (fun c_56 => ?_) (fun c_56 => ?_)
          · refine lv_aload_n hx hb dX9_plan_45 rfl (lv_at hl 1 rfl) ?_
            refine T_get (ci := 9) (C := RX9) (T := TX9) (N := 11) (t := (1, 0, 1, 0)) hx hb hts inw_X9_plan_9 hown hK hP hT 1 rfl rfl 10 (by decide) (hts (.fieldLink RX9 53 "VatHouse" "planner" "LVatHouse$Planner;") (List.mem_of_getElem? (i := 2) (by exact rfl))) (fun _ h9 => h9) rfl dX9_plan_46 (fun v_59 hv_57 hr_58 => ?_)
            obtain rfl : v_59 = .ref pl := hr_58.symm.trans ((hF.1 h0 (hT0.at 0 rfl).1 9 (hT0.at 0 rfl).2 10 (by decide)).trans h_pl)
            refine lv_aload hx hb dX9_plan_49 (lv_at hl 0 rfl) ?_
            refine lv_iload_n hx hb dX9_plan_51 rfl (lv_at hl 3 rfl) ?_
            refine lv_iload_n hx hb dX9_plan_52 rfl (lv_at hl 4 rfl) ?_
            refine lv_iload hx hb dX9_plan_53 (lv_at hl 5 rfl) ?_
            have hF9 := hF
            have hTo := hT
            refine K_V ⟨hx, hb, hml, hown, hts⟩ (t_X1_fewestK l dC dI sa hlt g _ _ tv va a.toNatClampNeg (sA.2 4) (sA.2 5) (sA.2 6) (sA.2 7) (sA.2 13) (sA.2 14) (sA.2 15) pl b_5 b cq dq tvr tc ks wk vs _ (hT.sub [6, 0, 7, 8, 9, 2, 3] rfl)  ((hF.1 pl (hT0.at 5 rfl).1 1 (hT0.at 5 rfl).2 1 (by decide)).trans h_tvr) ((hF.1 pl (hT0.at 5 rfl).1 1 (hT0.at 5 rfl).2 2 (by decide)).trans h_tc) ((hF.1 pl (hT0.at 5 rfl).1 1 (hT0.at 5 rfl).2 8 (by decide)).trans h_ks) ((hF.1 pl (hT0.at 5 rfl).1 1 (hT0.at 5 rfl).2 0 (by decide)).trans h_wk_pl_0) ((hF.1 wk (hT0.at 1 rfl).1 8 (hT0.at 1 rfl).2 0 (by decide)).trans h_vs) (fun k9 h9 => by rw [ra_eq (hF.2 tvr (hT0.at 6 rfl).1 1 _ _ (hT0.at 6 rfl).2 (by decide))]; exact hTV k9 h9) (fun k9 h9 => (hs_52.2.1 k9 h9).1) (fun k9 h9 => mem_ext (hTM k9 h9) hE) hinj hdj (fun k9 h9 => ⟨(hs_52.2.1 k9 h9).2.1, (hs_52.2.1 k9 h9).2.2.2.1, (hs_52.2.1 k9 h9).2.2.2.2.1, (hs_52.2.1 k9 h9).2.2.2.2.2.1, (hs_52.2.1 k9 h9).2.2.2.2.2.2.1⟩) (SR.cf1 hs_52 hc9 (by rw [ra_eq (hF.2 cl hSR.1.1.2.2.2.1.1 1 _ _ hSR.1.1.2.2.2.1.2 (by decide))]; exact hcl_12)) (SR.cf2 hs_52 hc9 (by rw [ra_eq (hF.2 cl hSR.1.1.2.2.2.1.1 1 _ _ hSR.1.1.2.2.2.1.2 (by decide))]; exact hcl_12)) (SR.cf3 hs_52 hc9 (by rw [ra_eq (hF.2 cl hSR.1.1.2.2.2.1.1 1 _ _ hSR.1.1.2.2.2.1.2 (by decide))]; exact hcl_12)) ⟨fun k9 h9 => (hRG.1 k9 h9).1, (hRG.2.1.2 _ hc9).1, (hRG.2.1.2 _ hc9).2.1, (hRG.2.1.2 _ hc9).2.2.1, (hRG.2.1.2 _ hc9).2.2.2.1⟩) (cwV 4 hts gX9_plan_X1_fewest rfl rfl rfl (by decide +kernel) ⟨Nat.le_of_ble_eq_true rfl, Nat.le_of_ble_eq_true rfl⟩) hP hD hK hS hA hev hT 6 1 rfl rfl rfl rfl hl.1 rfl (Nat.le_of_ble_eq_true rfl) dX9_plan_55 ⟨Nat.le_of_ble_eq_true rfl, Nat.le_of_ble_eq_true rfl⟩ (fun r L_60 f_61 H locs hw_62 hP hD hS hT hE1 => ?_)
            have hF := Fr.call hF hE hw_62.2.1 (by decide)
            have hE := hE.tr hE1
            obtain ⟨⟨z_63, rfl⟩, hw_62⟩ := hw_62
            obtain ⟨hfr_64, hex_65⟩ := hw_62
            obtain ⟨hof_66, hof_67, hex_68⟩ := hex_65
            have hs_69 := SR.pln hs_52 hE1 hfr_64 (by decide) (by decide) (by decide) (by decide) (by decide) hof_67 hof_66 hdj (fun k9 h9 => by rw [ra_eq (hF9.2 cl hSR.1.1.2.2.2.1.1 1 _ _ hSR.1.1.2.2.2.1.2 (by decide))]; exact htc k9 h9)
            refine W.eq (g2 := F0 m 58 ls [.int z_63]) rfl ?_
            refine vx_ret ?_
            exact K_i hx hb hr hlocks hP hD hK hS hT hE ⟨⟨_, rfl⟩, hF, ⟨⟨z_63, Or.inr ⟨hC_9, Or.inr ⟨⟨nlt_le c_14, nlt_le c_22, nlt_le c_30, nlt_le c_38⟩, Or.inr ⟨Decidable.not_not.mp (fun h9 => dyA_0.mpr h9 c_56), hex_68.1.imp (fun ⟨n9, _, h1, h2, h3, h4⟩ => ⟨n9, h1, h2, h3, by rw [sv h4]⟩) (fun h8 => ⟨fun n9 h9 => h8.1 n9 (by have h7 := nlt_i1 c_22 (k := 3) (by decide); omega) h9, by rw [sv h8.2]⟩)⟩⟩⟩, rfl⟩, hs_69⟩, (by obtain ⟨k5, h51, h52⟩ := hex_68.2; exact ⟨k5, h51, fun h8 => absurd (Decidable.not_not.mp (fun h9 => dyA_0.mpr h9 c_56)) h8, fun _ => h52⟩)⟩ (Nat.le_of_ble_eq_true rfl) (Nat.le_of_ble_eq_true rfl) dX9_plan_58
          · refine lv_iconst (v := (-1)) hx hb dX9_plan_43 (by decide) ?_
            refine vx_ret ?_
            exact K_i hx hb hr hlocks hP hD hK hS hT hE ⟨⟨_, rfl⟩, hF, ⟨⟨-1, Or.inr ⟨hC_9, Or.inr ⟨⟨nlt_le c_14, nlt_le c_22, nlt_le c_30, nlt_le c_38⟩, Or.inl ⟨dyA_0.mp c_56, rfl⟩⟩⟩, rfl⟩, hs_52⟩, _, hk_51, fun _ => rfl, fun h8 => absurd h8 (dyA_0.mp c_56)⟩ (Nat.le_of_ble_eq_true rfl) (Nat.le_of_ble_eq_true rfl) dX9_plan_44

noncomputable abbrev rm_X9_plannedK : Room := { frames := 6, cells := 1, slots := 6, locals := 82 }
set_option maxHeartbeats 800000 in
set_option maxRecDepth 100000 in
theorem t_X9_plannedK (l : Launch) (dC : Nat → ClassId) (dI : Nat → Nat → Nat) (sa : Nat → Nat) (hlt : l.stackTraces = false) (g : Nat → Nat) (L : List Nat) (f : Nat → va_E) (h0 : Nat) (a : Int32) (b : Int32) (pl : Nat) (kq : Int32) (sz : Nat) (hT : TP g L f [(h0, (0, 9, 0)), (pl, (0, 1, 0))]) (hm_kq : rd f pl 5 = .int kq) (h_pl : rd f h0 10 = .ref pl) : KX l dC dI sa g yX9_planned wsX9_planned rm_X9_plannedK [.ref h0, .int a, .int b] L f sz (fun r L' f' => (∃ z : Int32, r = some (.int z)) ∧ Fr [] L f f') (fun E L' f' => (E = NSE ∧ ¬ (a = 0 ∧ b = 0 ∧ kq = 1)) ∧ Fr [] L f f') 1 6 := by
  refine KX.start (cc := cX9_planned) (maxL := 3) (ret := (some .int)) (by decide) rfl (Nat.le_of_ble_eq_true rfl) ?_
  intro p e s m below meth c ls hst hno hP hK hD hev hS hl
  obtain ⟨hx, hb, hr, hml, hts, hown, hlocks, hin⟩ := hst
  have hown : s.vm.findClass RX9 = some m.cls := hown
  have hin : meth.name = yX9_planned.name := hin
  have hA : ∀ q : Nat, s.heap.size ≤ q → va_A (va_pl L f) s.heap.size q := fun _ h => Or.inr h
  have hE : Ext L f L f := Ext.rf
  have hF : Fr [] L f f := Fr.rf
  have hF0 : Fr [] L f f := Fr.rf
  have hl : lv_has ls 3 [(0, .ref h0), (1, .int a), (2, .int b)] := hl
  have hT0 := hT
  refine lv_iload_n hx hb dX9_planned_0 rfl (lv_at hl 1 rfl) ?_
  refine lv_if_lt (tgt := 20) hx hb dX9_planned_1 (by decide) (fun c_1 => ?_) (fun c_1 => ?_)
  · exact K_x (cls := NSE) hno hx hb hlt hlocks hown hts xg_0 xg_1 xg_2 xg_5 (by decide +kernel) (hts (.classLink RX9 149 NSE) (List.mem_of_getElem? (i := 1) (by exact rfl))) (hts (.initialized NSE) (List.mem_of_getElem? (i := 2) (by exact rfl))) hev.2.1.2.2.2.2 (inx_X9_planned_9) xb_9 hev.2.2.1.1 xo_9 hev (hl.1.trans hml.symm) dX9_planned_20 dX9_planned_23 dX9_planned_24 dX9_planned_26 dX9_planned_29 (Nat.le_of_ble_eq_true rfl) (Nat.le_of_ble_eq_true rfl) (Nat.le_of_ble_eq_true rfl) (Nat.le_of_ble_eq_true rfl) ⟨⟨rfl, fun h9 => by obtain ⟨e1, e2, e3⟩ := h9; subst e1; subst e2; subst e3; exact absurd c_1 (by decide)⟩, hF0⟩ hP hD hK hS hT hE (Nat.le_of_ble_eq_true rfl) (Nat.le_of_ble_eq_true rfl)
  · refine lv_iload_n hx hb dX9_planned_4 rfl (lv_at hl 1 rfl) ?_
    refine lv_aload_n hx hb dX9_planned_5 rfl (lv_at hl 0 rfl) ?_
    refine T_get (ci := 9) (C := RX9) (T := TX9) (N := 11) (t := (1, 0, 1, 0)) hx hb hts inw_X9_planned_9 hown hK hP hT 0 rfl rfl 10 (by decide) (hts (.fieldLink RX9 53 "VatHouse" "planner" "LVatHouse$Planner;") (List.mem_of_getElem? (i := 3) (by exact rfl))) (fun _ h9 => h9) rfl dX9_planned_6 (fun v_4 hv_2 hr_3 => ?_)
    obtain rfl : v_4 = .ref pl := hr_3.symm.trans ((hF.1 h0 (hT0.at 0 rfl).1 9 (hT0.at 0 rfl).2 10 (by decide)).trans h_pl)
    refine T_get (ci := 1) (C := RX1) (T := TX1) (N := 9) (t := tI) hx hb hts inw_X9_planned_1 hown hK hP hT 1 rfl rfl 5 (by decide) (hts (.fieldLink RX9 186 "VatHouse$Planner" "kept" "I") (List.mem_of_getElem? (i := 4) (by exact rfl))) (fun _ h9 => h9) rfl dX9_planned_9 (fun v_7 hv_5 hr_6 => ?_)
    obtain rfl : v_7 = .int kq := hr_6.symm.trans hm_kq
    refine lv_icmp_ge (tgt := 20) hx hb dX9_planned_12 (by decide) (fun c_8 => ?_) (fun c_8 => ?_)
    · exact K_x (cls := NSE) hno hx hb hlt hlocks hown hts xg_0 xg_1 xg_2 xg_5 (by decide +kernel) (hts (.classLink RX9 149 NSE) (List.mem_of_getElem? (i := 1) (by exact rfl))) (hts (.initialized NSE) (List.mem_of_getElem? (i := 2) (by exact rfl))) hev.2.1.2.2.2.2 (inx_X9_planned_9) xb_9 hev.2.2.1.1 xo_9 hev (hl.1.trans hml.symm) dX9_planned_20 dX9_planned_23 dX9_planned_24 dX9_planned_26 dX9_planned_29 (Nat.le_of_ble_eq_true rfl) (Nat.le_of_ble_eq_true rfl) (Nat.le_of_ble_eq_true rfl) (Nat.le_of_ble_eq_true rfl) ⟨⟨rfl, fun h9 => by obtain ⟨e1, e2, e3⟩ := h9; subst e1; subst e2; subst e3; exact absurd c_8 (by decide)⟩, hF0⟩ hP hD hK hS hT hE (Nat.le_of_ble_eq_true rfl) (Nat.le_of_ble_eq_true rfl)
    · refine lv_iload_n hx hb dX9_planned_15 rfl (lv_at hl 1 rfl) ?_
      refine lv_iconst (v := 3) hx hb dX9_planned_16 (by decide) ?_
      refine lv_icmp_lt (tgt := 30) hx hb dX9_planned_17 (by decide) (fun c_9 => ?_) (fun c_9 => ?_)
      · refine lv_iload_n hx hb dX9_planned_30 rfl (lv_at hl 2 rfl) ?_
        by_cases c_10 : b = 0
        · refine lv_tableIn (tgt := 56) hx hb dX9_planned_31 (by rw [c_10]; decide) (by rw [c_10]; decide) (by rw [c_10]; rfl) (by decide) ?_
          refine lv_aload_n hx hb dX9_planned_56 rfl (lv_at hl 0 rfl) ?_
          refine T_get (ci := 9) (C := RX9) (T := TX9) (N := 11) (t := (1, 0, 1, 0)) hx hb hts inw_X9_planned_9 hown hK hP hT 0 rfl rfl 10 (by decide) (hts (.fieldLink RX9 53 "VatHouse" "planner" "LVatHouse$Planner;") (List.mem_of_getElem? (i := 3) (by exact rfl))) (fun _ h9 => h9) rfl dX9_planned_57 (fun v_13 hv_11 hr_12 => ?_)
          obtain rfl : v_13 = .ref pl := hr_12.symm.trans ((hF.1 h0 (hT0.at 0 rfl).1 9 (hT0.at 0 rfl).2 10 (by decide)).trans h_pl)
          refine T_get (ci := 1) (C := RX1) (T := TX1) (N := 9) (t := (1, 1, g 7, 3)) hx hb hts inw_X9_planned_1 hown hK hP hT 1 rfl rfl 6 (by decide) (hts (.fieldLink RX9 191 "VatHouse$Planner" "keptVats" "[I") (List.mem_of_getElem? (i := 5) (by exact rfl))) (fun _ h9 => h9) rfl dX9_planned_60 (fun v_16 hv_14 hr_15 => ?_)
          obtain ⟨b_17, rfl, hb9⟩ := hv_14
          have hT := hT.add hb9
          refine lv_iload_n hx hb dX9_planned_63 rfl (lv_at hl 1 rfl) ?_
          refine T_iald hx hb hK hP hT 0 7 rfl rfl (vin 3 (by decide) rfl (by assumption) (lt_nle (by assumption))) dX9_planned_64 (fun z_18 ez_18 => ?_)
          refine vx_ret ?_
          exact K_i hx hb hr hlocks hP hD hK hS hT hE ⟨⟨_, rfl⟩, hF⟩ (Nat.le_of_ble_eq_true rfl) (Nat.le_of_ble_eq_true rfl) dX9_planned_65
        by_cases c_19 : b = 1
        · refine lv_tableIn (tgt := 66) hx hb dX9_planned_31 (by rw [c_19]; decide) (by rw [c_19]; decide) (by rw [c_19]; rfl) (by decide) ?_
          refine lv_aload_n hx hb dX9_planned_66 rfl (lv_at hl 0 rfl) ?_
          refine T_get (ci := 9) (C := RX9) (T := TX9) (N := 11) (t := (1, 0, 1, 0)) hx hb hts inw_X9_planned_9 hown hK hP hT 0 rfl rfl 10 (by decide) (hts (.fieldLink RX9 53 "VatHouse" "planner" "LVatHouse$Planner;") (List.mem_of_getElem? (i := 3) (by exact rfl))) (fun _ h9 => h9) rfl dX9_planned_67 (fun v_22 hv_20 hr_21 => ?_)
          obtain rfl : v_22 = .ref pl := hr_21.symm.trans ((hF.1 h0 (hT0.at 0 rfl).1 9 (hT0.at 0 rfl).2 10 (by decide)).trans h_pl)
          refine T_get (ci := 1) (C := RX1) (T := TX1) (N := 9) (t := (1, 1, g 8, 3)) hx hb hts inw_X9_planned_1 hown hK hP hT 1 rfl rfl 7 (by decide) (hts (.fieldLink RX9 195 "VatHouse$Planner" "keptMinutes" "[I") (List.mem_of_getElem? (i := 6) (by exact rfl))) (fun _ h9 => h9) rfl dX9_planned_70 (fun v_25 hv_23 hr_24 => ?_)
          obtain ⟨b_26, rfl, hb9⟩ := hv_23
          have hT := hT.add hb9
          refine lv_iload_n hx hb dX9_planned_73 rfl (lv_at hl 1 rfl) ?_
          refine T_iald hx hb hK hP hT 0 8 rfl rfl (vin 3 (by decide) rfl (by assumption) (lt_nle (by assumption))) dX9_planned_74 (fun z_27 ez_27 => ?_)
          refine vx_ret ?_
          exact K_i hx hb hr hlocks hP hD hK hS hT hE ⟨⟨_, rfl⟩, hF⟩ (Nat.le_of_ble_eq_true rfl) (Nat.le_of_ble_eq_true rfl) dX9_planned_75
        by_cases c_28 : b = 2
        · refine lv_tableIn (tgt := 76) hx hb dX9_planned_31 (by rw [c_28]; decide) (by rw [c_28]; decide) (by rw [c_28]; rfl) (by decide) ?_
          refine lv_aload_n hx hb dX9_planned_76 rfl (lv_at hl 0 rfl) ?_
          refine T_get (ci := 9) (C := RX9) (T := TX9) (N := 11) (t := (1, 0, 1, 0)) hx hb hts inw_X9_planned_9 hown hK hP hT 0 rfl rfl 10 (by decide) (hts (.fieldLink RX9 53 "VatHouse" "planner" "LVatHouse$Planner;") (List.mem_of_getElem? (i := 3) (by exact rfl))) (fun _ h9 => h9) rfl dX9_planned_77 (fun v_31 hv_29 hr_30 => ?_)
          obtain rfl : v_31 = .ref pl := hr_30.symm.trans ((hF.1 h0 (hT0.at 0 rfl).1 9 (hT0.at 0 rfl).2 10 (by decide)).trans h_pl)
          refine T_get (ci := 1) (C := RX1) (T := TX1) (N := 9) (t := (1, 1, g 9, 3)) hx hb hts inw_X9_planned_1 hown hK hP hT 1 rfl rfl 8 (by decide) (hts (.fieldLink RX9 198 "VatHouse$Planner" "keptShades" "[I") (List.mem_of_getElem? (i := 7) (by exact rfl))) (fun _ h9 => h9) rfl dX9_planned_80 (fun v_34 hv_32 hr_33 => ?_)
          obtain ⟨b_35, rfl, hb9⟩ := hv_32
          have hT := hT.add hb9
          refine lv_iload_n hx hb dX9_planned_83 rfl (lv_at hl 1 rfl) ?_
          refine T_iald hx hb hK hP hT 0 9 rfl rfl (vin 3 (by decide) rfl (by assumption) (lt_nle (by assumption))) dX9_planned_84 (fun z_36 ez_36 => ?_)
          refine vx_ret ?_
          exact K_i hx hb hr hlocks hP hD hK hS hT hE ⟨⟨_, rfl⟩, hF⟩ (Nat.le_of_ble_eq_true rfl) (Nat.le_of_ble_eq_true rfl) dX9_planned_85
        refine lv_tableOut (tgt := 86) hx hb dX9_planned_31 (tab_out3 c_10 c_19 c_28) (by decide) ?_
        exact K_x (cls := NSE) hno hx hb hlt hlocks hown hts xg_0 xg_1 xg_2 xg_5 (by decide +kernel) (hts (.classLink RX9 149 NSE) (List.mem_of_getElem? (i := 1) (by exact rfl))) (hts (.initialized NSE) (List.mem_of_getElem? (i := 2) (by exact rfl))) hev.2.1.2.2.2.1 (inx_X9_planned_9) xb_9 hev.2.2.1.1 xo_9 hev (hl.1.trans hml.symm) dX9_planned_86 dX9_planned_89 dX9_planned_90 dX9_planned_92 dX9_planned_95 (Nat.le_of_ble_eq_true rfl) (Nat.le_of_ble_eq_true rfl) (Nat.le_of_ble_eq_true rfl) (Nat.le_of_ble_eq_true rfl) ⟨⟨rfl, fun h9 => by exact absurd h9.2.1 (by assumption)⟩, hF0⟩ hP hD hK hS hT hE (Nat.le_of_ble_eq_true rfl) (Nat.le_of_ble_eq_true rfl)
      · exact K_x (cls := NSE) hno hx hb hlt hlocks hown hts xg_0 xg_1 xg_2 xg_5 (by decide +kernel) (hts (.classLink RX9 149 NSE) (List.mem_of_getElem? (i := 1) (by exact rfl))) (hts (.initialized NSE) (List.mem_of_getElem? (i := 2) (by exact rfl))) hev.2.1.2.2.2.2 (inx_X9_planned_9) xb_9 hev.2.2.1.1 xo_9 hev (hl.1.trans hml.symm) dX9_planned_20 dX9_planned_23 dX9_planned_24 dX9_planned_26 dX9_planned_29 (Nat.le_of_ble_eq_true rfl) (Nat.le_of_ble_eq_true rfl) (Nat.le_of_ble_eq_true rfl) (Nat.le_of_ble_eq_true rfl) ⟨⟨rfl, fun h9 => by obtain ⟨e1, e2, e3⟩ := h9; subst e1; subst e2; subst e3; exact absurd c_9 (by decide)⟩, hF0⟩ hP hD hK hS hT hE (Nat.le_of_ble_eq_true rfl) (Nat.le_of_ble_eq_true rfl)
