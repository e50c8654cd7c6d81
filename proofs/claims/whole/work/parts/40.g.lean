/-! the planner's own cells -/
section PLNS
variable {g : Nat → Nat} {L L' : List Nat} {f f' : Nat → va_E} {x0 wk vs cl ru tc : Nat} {va : Nat → Nat} {s : AS} {cs : List (Nat × Nat)} {as : List Nat}
theorem SR.pln (h : SR g L f (x0, wk, vs, cl, ru, va) s) (hE : Ext L f L' f') (hF : Fr cs L f f') (hc : ∀ c ∈ [(9, 0), (9, 1), (9, 9), (8, 0), (4, 0)], c ∉ cs) (hr : ∀ c ∈ [(200, 6), (200, 30)], c ∉ cs) (hw : ∀ c ∈ [(8, 1), (8, 2)], c ∉ cs) (hn : ∀ c ∈ [(9, 2), (9, 3), (9, 8)], c ∉ cs) (hrn : ∀ c ∈ [(4, 1), (4, 2), (4, 3), (4, 4), (4, 5), (4, 6), (4, 7)], c ∉ cs) (hO7 : OF 7 as L f f') (hO0 : OF 0 [tc] L f f') (hd : ∀ k : Nat, k < 6 → va k ∉ as) (ht : ∀ k : Nat, (k : Int) < (s.1 12).toInt → ¬ ra f cl k = some tc) : SR g L' f' (x0, wk, vs, cl, ru, va) s := by
  obtain ⟨p1, p2, p3⟩ := h.parts hE hF hc hr
  refine ⟨p1, fun k hk => ⟨by rw [ra_eq p2]; exact (h.2.1 k hk).1, (h.2.1 k hk).2.go hE (hO7 _ (h.2.1 k hk).2.1.1 (h.2.1 k hk).2.1.2 (hd k hk))⟩, fun k hk => ?_, h.wn hF hw rfl rfl, h.hn hF hn rfl rfl rfl, h.rn hF hrn (fun _ _ _ => rfl)⟩
  obtain ⟨b, g1, g2⟩ := h.2.2.1 k hk
  exact ⟨b, by rw [ra_eq p3]; exact g1, g2.go hE (hO0 _ g2.1.1 g2.1.2 (fun m => ht k hk (by rw [List.mem_singleton.mp m] at g1; exact g1)))⟩
theorem up_or {r' r : Nat → Option Nat} {n q : Nat} (h : r' = va_up r n (some q)) (hq : q ∉ L) : ∀ k : Nat, r' k = r k ∨ ∃ q : Nat, q ∉ L ∧ r' k = some q := fun k => by
  rw [h]
  by_cases e : k = n
  · exact Or.inr ⟨q, hq, by rw [e]; exact va_up_self _ _ _⟩
  · exact Or.inl (va_up_ne _ _ e)
end PLNS

noncomputable abbrev rm_X9_clothT : Room := { frames := 2, cells := 1, slots := 8, locals := 34 }
set_option maxHeartbeats 800000 in
set_option maxRecDepth 100000 in
theorem t_X9_clothT (l : Launch) (dC : Nat → ClassId) (dI : Nat → Nat → Nat) (sa : Nat → Nat) (hlt : l.stackTraces = false) (g : Nat → Nat) (L : List Nat) (f : Nat → va_E) (va : Nat → Nat) (sA : AS) (h0 : Nat) (a : Int32) (wk : Nat) (vs : Nat) (cl : Nat) (ru : Nat) (sz : Nat) (hT : TP g L f [(h0, (0, 9, 0)), (wk, (0, 8, 0)), (vs, (2, g 2, 6)), (cl, (2, g 3, 30)), (ru, (0, 4, 0))]) (h_wk : rd f h0 0 = .ref wk) (h_vs : rd f wk 0 = .ref vs) (h_cl : rd f h0 1 = .ref cl) (h_ru : rd f h0 9 = .ref ru) (hSR : SR g L f (h0, wk, vs, cl, ru, va) sA) (hRG : RV sA ∧ RC sA ∧ 0 ≤ (sA.1 1).toInt ∧ (sA.1 1).toInt ≤ 9000000) (hFRE : FRE sA) : KC l dC dI sa g yX9_cloth wsX9_cloth rm_X9_clothT [.ref h0, .int a] L f sz (fun r L' f' => (∃ z : Int32, r = some (.int z)) ∧ Fr [(0, 0), (0, 1), (0, 5), (9, 2), (200, 30)] L f f' ∧ (∃ (v : Int32) (s2 : AS), clS a sA = (0, v, s2) ∧ r = some (.int v) ∧ SR g L' f' (h0, wk, vs, cl, ru, va) s2 ∧ ∀ k : Nat, ra f' cl k = ra f cl k ∨ ∃ q : Nat, q ∉ L ∧ ra f' cl k = some q)) 1 8 := by
  refine CT.start (cc := cX9_cloth) (maxL := 2) (ret := (some .int)) (by decide) rfl (Nat.le_of_ble_eq_true rfl) ?_
  intro p e s m below meth c ls hst hP hK hD hev hS hl
  obtain ⟨hx, hb, hr, hml, hts, hown, hlocks, hin⟩ := hst
  have hown : s.vm.findClass RX9 = some m.cls := hown
  have hin : meth.name = yX9_cloth.name := hin
  have hA : ∀ q : Nat, s.heap.size ≤ q → va_A (va_pl L f) s.heap.size q := fun _ h => Or.inr h
  have hE : Ext L f L f := Ext.rf
  have hF : Fr [(0, 0), (0, 1), (0, 5), (9, 2), (200, 30)] L f f := Fr.rf
  have hl : lv_has ls 2 [(0, .ref h0), (1, .int a)] := hl
  have hT0 := hT
  have hk12 : rd f h0 2 = .int (sA.1 12) := hSR.2.2.2.2.1.1
  refine lv_aload_n hx hb dX9_cloth_0 rfl (lv_at hl 0 rfl) ?_
  refine T_get (ci := 9) (C := RX9) (T := TX9) (N := 11) (t := tI) hx hb hts inw_X9_cloth_9 hown hK hP hT 0 rfl rfl 2 (by decide) (hts (.fieldLink RX9 92 "VatHouse" "clothsMade" "I") (List.mem_of_getElem? (i := 1) (by exact rfl))) (fun _ h9 => h9) rfl dX9_cloth_1 (fun v_3 hv_1 hr_2 => ?_)
  obtain rfl : v_3 = .int (sA.1 12) := hr_2.symm.trans hk12
  refine lv_if_lt (tgt := 30) hx hb dX9_cloth_4 (by decide) (fun c_4 => ?_) (fun c_4 => ?_)
  · refine lv_iconst (v := (-1)) hx hb dX9_cloth_30 (by decide) ?_
    exact K_i hx hb hr hlocks hP hD hK hS hT hE ⟨⟨_, rfl⟩, hF, ⟨-1, sA, if_pos ((absurd c_4 (nneg hRG.2.1.1.1))), rfl, hSR, fun _ => Or.inl rfl⟩⟩ (Nat.le_of_ble_eq_true rfl) (Nat.le_of_ble_eq_true rfl) dX9_cloth_31
  · refine lv_aload_n hx hb dX9_cloth_7 rfl (lv_at hl 0 rfl) ?_
    refine T_get (ci := 9) (C := RX9) (T := TX9) (N := 11) (t := tI) hx hb hts inw_X9_cloth_9 hown hK hP hT 0 rfl rfl 2 (by decide) (hts (.fieldLink RX9 92 "VatHouse" "clothsMade" "I") (List.mem_of_getElem? (i := 1) (by exact rfl))) (fun _ h9 => h9) rfl dX9_cloth_8 (fun v_7 hv_5 hr_6 => ?_)
    obtain rfl : v_7 = .int (sA.1 12) := hr_6.symm.trans hk12
    refine lv_aload_n hx hb dX9_cloth_11 rfl (lv_at hl 0 rfl) ?_
    refine T_get (ci := 9) (C := RX9) (T := TX9) (N := 11) (t := (1, 2, g 3, 30)) hx hb hts inw_X9_cloth_9 hown hK hP hT 0 rfl rfl 1 (by decide) (hts (.fieldLink RX9 18 "VatHouse" "cloths" "[LVatHouse$Cloth;") (List.mem_of_getElem? (i := 2) (by exact rfl))) (fun _ h9 => h9) rfl dX9_cloth_12 (fun v_10 hv_8 hr_9 => ?_)
    obtain rfl : v_10 = .ref cl := hr_9.symm.trans ((hF.1 h0 (hT0.at 0 rfl).1 9 (hT0.at 0 rfl).2 1 (by decide)).trans h_cl)
    refine T_alen hx hb hK hP hT 3 3 rfl rfl (v := 30) rfl dX9_cloth_15 ?_
    refine lv_icmp_ge (tgt := 30) hx hb dX9_cloth_16 (by decide) (fun c_11 => ?_) (fun c_11 => ?_)
    · refine lv_iconst (v := (-1)) hx hb dX9_cloth_30 (by decide) ?_
      exact K_i hx hb hr hlocks hP hD hK hS hT hE ⟨⟨_, rfl⟩, hF, ⟨-1, sA, if_pos (Or.inl (c30_eq hRG.2.1.1.2 c_11)), rfl, hSR, fun _ => Or.inl rfl⟩⟩ (Nat.le_of_ble_eq_true rfl) (Nat.le_of_ble_eq_true rfl) dX9_cloth_31
    · refine lv_iload_n hx hb dX9_cloth_19 rfl (lv_at hl 1 rfl) ?_
      refine lv_iconst (v := 1) hx hb dX9_cloth_20 (by decide) ?_
      refine lv_icmp_lt (tgt := 30) hx hb dX9_cloth_21 (by decide) (fun c_12 => ?_) (fun c_12 => ?_)
      · refine lv_iconst (v := (-1)) hx hb dX9_cloth_30 (by decide) ?_
        exact K_i hx hb hr hlocks hP hD hK hS hT hE ⟨⟨_, rfl⟩, hF, ⟨-1, sA, if_pos (Or.inr (Or.inl c_12)), rfl, hSR, fun _ => Or.inl rfl⟩⟩ (Nat.le_of_ble_eq_true rfl) (Nat.le_of_ble_eq_true rfl) dX9_cloth_31
      · refine lv_iload_n hx hb dX9_cloth_24 rfl (lv_at hl 1 rfl) ?_
        refine lv_bipush (v := 50) hx hb dX9_cloth_25 (by decide) ?_
        refine lv_icmp_le (tgt := 32) hx hb dX9_cloth_27 (by decide) (fun c_13 => ?_) (fun c_13 => ?_)
        · have hc30 := c30_of c_4 c_11
          refine lv_aload_n hx hb dX9_cloth_32 rfl (lv_at hl 0 rfl) ?_
          refine T_get (ci := 9) (C := RX9) (T := TX9) (N := 11) (t := (1, 2, g 3, 30)) hx hb hts inw_X9_cloth_9 hown hK hP hT 0 rfl rfl 1 (by decide) (hts (.fieldLink RX9 18 "VatHouse" "cloths" "[LVatHouse$Cloth;") (List.mem_of_getElem? (i := 2) (by exact rfl))) (fun _ h9 => h9) rfl dX9_cloth_33 (fun v_16 hv_14 hr_15 => ?_)
          obtain rfl : v_16 = .ref cl := hr_15.symm.trans ((hF.1 h0 (hT0.at 0 rfl).1 9 (hT0.at 0 rfl).2 1 (by decide)).trans h_cl)
          refine lv_aload_n hx hb dX9_cloth_36 rfl (lv_at hl 0 rfl) ?_
          refine T_get (ci := 9) (C := RX9) (T := TX9) (N := 11) (t := tI) hx hb hts inw_X9_cloth_9 hown hK hP hT 0 rfl rfl 2 (by decide) (hts (.fieldLink RX9 92 "VatHouse" "clothsMade" "I") (List.mem_of_getElem? (i := 1) (by exact rfl))) (fun _ h9 => h9) rfl dX9_cloth_37 (fun v_19 hv_17 hr_18 => ?_)
          obtain rfl : v_19 = .int (sA.1 12) := hr_18.symm.trans hk12
          have hTo := hT
          refine T_new (ci := 0) (fs := [.int 0, .int 0, .int 0, .int 0, .int 0, .int 0, .int 0, .int 0]) (C := RX0) (T := TX0) (N := 8) hx hb hts inw_X9_cloth_0 tyX0 tyX0_ok hown (hts (.classLink RX9 16 RX0) (List.mem_of_getElem? (i := 3) (by exact rfl))) (hts (.instantiable RX0 8) (List.mem_of_getElem? (i := 4) (by exact rfl))) (hts (.initialized RX0) (List.mem_of_getElem? (i := 5) (by exact rfl))) hK hP hD hS hA hT rfl nfX0 (okn_0 g) (Nat.le_of_ble_eq_true rfl) (Nat.le_of_ble_eq_true rfl) dX9_cloth_40 (fun q_20 L_21 f_22 H hq_23 hL_24 hP hD hS hT hE1 hrd_25 hrq_26 hup => ?_)
          have hF := Fr.new hF hE hq_23 hrd_25 hup
          have hE := hE.tr hE1
          have hk_27 := (hrd_25 h0 2 (fun h9 => hq_23 (h9 ▸ (hTo.at 0 rfl).1))).trans hk12
          refine lv_dup hx hb dX9_cloth_43 rfl ?_
          refine lv_aload_n hx hb dX9_cloth_44 rfl (lv_at hl 0 rfl) ?_
          refine T_get (ci := 9) (C := RX9) (T := TX9) (N := 11) (t := tI) hx hb hts inw_X9_cloth_9 hown hK hP hT 1 rfl rfl 2 (by decide) (hts (.fieldLink RX9 92 "VatHouse" "clothsMade" "I") (List.mem_of_getElem? (i := 1) (by exact rfl))) (fun _ h9 => h9) rfl dX9_cloth_45 (fun v_30 hv_28 hr_29 => ?_)
          obtain rfl : v_30 = .int (sA.1 12) := hr_29.symm.trans hk_27
          refine lv_iload_n hx hb dX9_cloth_48 rfl (lv_at hl 1 rfl) ?_
          have hE0 := hE
          have hTo := hT
          refine K_I ⟨hx, hb, hml, hown, hts⟩ (t_X0_initE l dC dI sa hlt g _ _ q_20 (sA.1 12) a _ (hT.sub [0] rfl)  ) (cwI 2 hts gX9_cloth_X0_init rfl rfl rfl (hts (.initialized RX0) (List.mem_of_getElem? (i := 5) (by exact rfl))) (hts (.methodLink RX9 95 yX0_init) (List.mem_of_getElem? (i := 6) (by exact rfl))) (hts (.instanceMethod yX0_init) (List.mem_of_getElem? (i := 7) (by exact rfl))) rfl (by decide +kernel) ⟨Nat.le_of_ble_eq_true rfl, Nat.le_of_ble_eq_true rfl⟩) hP hD hK hS hA hev hT rfl hl.1 rfl (Nat.le_of_ble_eq_true rfl) dX9_cloth_49 ⟨Nat.le_of_ble_eq_true rfl, Nat.le_of_ble_eq_true rfl⟩ (fun r L_31 f_32 H locs hw_33 hP hD hS hT hE1 => ?_)
          have hF := Fr.call hF hE hw_33.2.1 (by decide)
          have hE := hE.tr hE1
          obtain ⟨rfl, hw_33⟩ := hw_33
          obtain ⟨hfr_34, q0_35, q1_36, q5_37, hk_38, hk_39, hk_40, hrel_41, hrel_42, hrel_43, hex_44⟩ := hw_33
          have hk_47 : rd f_32 h0 2 = .int (sA.1 12) := (hfr_34.1 h0 (hTo.at 1 rfl).1 9 (hTo.at 1 rfl).2 2 (by decide)).trans hk_27
          have hO1 : ∀ b ∈ L, sh (f b) = (0, 0, 0) → ∀ j : Nat, rd f_32 b j = rd f b j := fun b hb hs j => (hex_44 b (hE0 b hb).1 ((hE0 b hb).2.trans hs) (fun g9 => hq_23 (List.mem_singleton.mp g9 ▸ hb)) j).trans (hrd_25 b j (fun g9 => hq_23 (g9 ▸ hb)))
          have hK1 : rd f_32 q_20 0 = .int (sA.1 12) ∧ rd f_32 q_20 1 = .int a ∧ rd f_32 q_20 5 = .int (-1) := ⟨hrel_41 ▸ hk_38, hrel_42 ▸ hk_39, hrel_43 ▸ hk_40⟩
          have hK2 : ∀ j : Nat, (0, j) ∉ [(0, 0), (0, 1), (0, 5)] → rd f_32 q_20 j = [Value.int 0, .int 0, .int 0, .int 0, .int 0, .int 0, .int 0, .int 0].getD j .null := fun j hj => (hfr_34.1 q_20 (hTo.at 0 rfl).1 0 (hTo.at 0 rfl).2 j hj).trans (hrq_26 j)
          have hC1 : ra f_32 cl = ra f cl := by rw [ra_eq (hfr_34.2 cl (hE0 cl hSR.1.1.2.2.2.1.1).1 1 _ _ ((hE0 cl hSR.1.1.2.2.2.1.1).2.trans hSR.1.1.2.2.2.1.2) (by decide)), ra_eq (hup cl (fun g9 => hq_23 (g9 ▸ hSR.1.1.2.2.2.1.1)))]
          have hqn : q_20 ≠ h0 := fun g9 => hq_23 (g9 ▸ hSR.1.1.1.1)
          refine W.eq (g2 := F0 m 52 ls [.ref q_20, .int (sA.1 12), .ref cl]) rfl ?_
          have hTo := hT
          refine T_cast hx hb hK hP hD hS hT 4 3 0 rfl rfl rfl rfl (vin 30 (by decide) rfl (by assumption) (by assumption)) dX9_cloth_52 (fun f_48 H locs hP hD hS hT hE1 hrd_49 hup_50 hia_51 => ?_)
          have hF := Fr.arr (a := cl) hF hE ((hE1 cl (hT.at 4 rfl).1).2.symm.trans (hT.at 4 rfl).2) (by decide) hrd_49 hup_50
          have hE := hE.tr hE1
          have hk_52 : rd f_48 h0 2 = .int (sA.1 12) := (hrd_49 h0 2).trans hk_47
          have hk_53 : rd f_48 q_20 0 = .int q0_35 := (hrd_49 q_20 0).trans hk_38
          have hk_54 : rd f_48 q_20 1 = .int q1_36 := (hrd_49 q_20 1).trans hk_39
          have hk_55 : rd f_48 q_20 5 = .int q5_37 := (hrd_49 q_20 5).trans hk_40
          refine lv_aload_n hx hb dX9_cloth_53 rfl (lv_at hl 0 rfl) ?_
          refine lv_dup hx hb dX9_cloth_54 rfl ?_
          refine T_get (ci := 9) (C := RX9) (T := TX9) (N := 11) (t := tI) hx hb hts inw_X9_cloth_9 hown hK hP hT 1 rfl rfl 2 (by decide) (hts (.fieldLink RX9 92 "VatHouse" "clothsMade" "I") (List.mem_of_getElem? (i := 1) (by exact rfl))) (fun _ h9 => h9) rfl dX9_cloth_55 (fun v_58 hv_56 hr_57 => ?_)
          obtain rfl : v_58 = .int (sA.1 12) := hr_57.symm.trans hk_52
          refine lv_iconst (v := 1) hx hb dX9_cloth_58 (by decide) ?_
          refine lv_iadd hx hb dX9_cloth_59 ?_
          refine lv_topi (fun z_59 ez_59 => ?_)
          have hTo := hT
          refine T_put (ci := 9) (v := .int z_59) (ty := .int) (t := tI) (C := RX9) (T := TX9) (N := 11) hx hb hts inw_X9_cloth_9 tyX9 tyX9_ok nmX9 hown hK hP hD hS hT 1 rfl rfl 2 (by decide) (hts (.fieldLink RX9 92 "VatHouse" "clothsMade" "I") (List.mem_of_getElem? (i := 1) (by exact rfl))) (fun _ h9 => h9) rfl (tyX9_ok 2 (by decide)) rfl rfl rfl ⟨_, rfl⟩ dX9_cloth_60 (fun f_60 H locs hP hD hS hT hE1 hrd_61 hup_62 => ?_)
          have hF := Fr.put (a := h0) (ci := 9) hF hE ((hE1 h0 (hT.at 1 rfl).1).2.symm.trans (hT.at 1 rfl).2) (by decide) hrd_61 hup_62
          have hE := hE.tr hE1
          have hk_63 : rd f_60 h0 2 = .int z_59 := (hrd_61 h0 2).trans (if_pos ⟨rfl, rfl⟩)
          have hk_64 : rd f_60 q_20 0 = .int q0_35 := ((Fr.put (cs := [(9, 2)]) (a := h0) (ci := 9) Fr.rf Ext.rf (hTo.at 1 rfl).2 (by decide) hrd_61 hup_62).1 q_20 (hTo.at 0 rfl).1 0 (hTo.at 0 rfl).2 0 (by decide)).trans hk_53
          have hk_65 : rd f_60 q_20 1 = .int q1_36 := ((Fr.put (cs := [(9, 2)]) (a := h0) (ci := 9) Fr.rf Ext.rf (hTo.at 1 rfl).2 (by decide) hrd_61 hup_62).1 q_20 (hTo.at 0 rfl).1 0 (hTo.at 0 rfl).2 1 (by decide)).trans hk_54
          have hk_66 : rd f_60 q_20 5 = .int q5_37 := ((Fr.put (cs := [(9, 2)]) (a := h0) (ci := 9) Fr.rf Ext.rf (hTo.at 1 rfl).2 (by decide) hrd_61 hup_62).1 q_20 (hTo.at 0 rfl).1 0 (hTo.at 0 rfl).2 5 (by decide)).trans hk_55
          refine lv_aload_n hx hb dX9_cloth_63 rfl (lv_at hl 0 rfl) ?_
          refine T_get (ci := 9) (C := RX9) (T := TX9) (N := 11) (t := tI) hx hb hts inw_X9_cloth_9 hown hK hP hT 1 rfl rfl 2 (by decide) (hts (.fieldLink RX9 92 "VatHouse" "clothsMade" "I") (List.mem_of_getElem? (i := 1) (by exact rfl))) (fun _ h9 => h9) rfl dX9_cloth_64 (fun v_69 hv_67 hr_68 => ?_)
          obtain rfl : v_69 = .int z_59 := hr_68.symm.trans hk_63
          refine lv_iconst (v := 1) hx hb dX9_cloth_67 (by decide) ?_
          refine lv_isub hx hb dX9_cloth_68 ?_
          refine lv_topi (fun z_70 ez_70 => ?_)
          exact K_i hx hb hr hlocks hP hD hK hS hT hE ⟨⟨_, rfl⟩, hF, ⟨_, _, if_neg (by rintro (h9 | h9 | h9); exact absurd h9 (fun g9 => by rw [g9] at hc30; exact absurd hc30.2 (by decide)); exact c_12 h9; exact le_nlt c_13 h9), by rw [ez_70, ez_59], SR.nc hSR hc30 hFRE hE hF (fun b hb hs j => (hrd_61 b j).trans ((if_neg (fun g9 => by rw [g9.1, hSR.1.1.1.2] at hs; cases hs)).trans ((hrd_49 b j).trans (hO1 b hb hs j)))) (hT.at 0 rfl) (by rw [ra_eq (hup_62 cl (fun g9 => by have h8 := hSR.1.1.1.2; rw [← g9, hSR.1.1.2.2.2.1.2] at h8; cases h8)), hia_51, hC1]) ((hrd_61 _ _).trans ((if_neg (fun g9 => hqn g9.1)).trans ((hrd_49 _ _).trans (hK1.1)))) ((hrd_61 _ _).trans ((if_neg (fun g9 => hqn g9.1)).trans ((hrd_49 _ _).trans (hK1.2.1)))) ((hrd_61 _ _).trans ((if_neg (fun g9 => hqn g9.1)).trans ((hrd_49 _ _).trans (hK2 2 (by decide))))) ((hrd_61 _ _).trans ((if_neg (fun g9 => hqn g9.1)).trans ((hrd_49 _ _).trans (hK2 3 (by decide))))) ((hrd_61 _ _).trans ((if_neg (fun g9 => hqn g9.1)).trans ((hrd_49 _ _).trans (hK2 4 (by decide))))) ((hrd_61 _ _).trans ((if_neg (fun g9 => hqn g9.1)).trans ((hrd_49 _ _).trans (hK1.2.2)))) ((hrd_61 _ _).trans ((if_neg (fun g9 => hqn g9.1)).trans ((hrd_49 _ _).trans (hK2 6 (by decide))))) ((hrd_61 _ _).trans ((if_neg (fun g9 => hqn g9.1)).trans ((hrd_49 _ _).trans (hK2 7 (by decide))))) (by rw [← ez_59]; exact (hrd_61 _ _).trans (if_pos ⟨rfl, rfl⟩)), up_or (by rw [ra_eq (hup_62 cl (fun g9 => by have h8 := hSR.1.1.1.2; rw [← g9, hSR.1.1.2.2.2.1.2] at h8; cases h8)), hia_51, hC1]) hq_23⟩⟩ (Nat.le_of_ble_eq_true rfl) (Nat.le_of_ble_eq_true rfl) dX9_cloth_69
        · refine lv_iconst (v := (-1)) hx hb dX9_cloth_30 (by decide) ?_
          exact K_i hx hb hr hlocks hP hD hK hS hT hE ⟨⟨_, rfl⟩, hF, ⟨-1, sA, if_pos (Or.inr (Or.inr (nle_lt c_13))), rfl, hSR, fun _ => Or.inl rfl⟩⟩ (Nat.le_of_ble_eq_true rfl) (Nat.le_of_ble_eq_true rfl) dX9_cloth_31

