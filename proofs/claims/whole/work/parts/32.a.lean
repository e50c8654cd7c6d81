/-! what a method leaves of the objects of one class: all but some -/
noncomputable def OF (ci : Nat) (as L : List Nat) (f f' : Nat → va_E) : Prop := ∀ b ∈ L, sh (f b) = (0, ci, 0) → b ∉ as → ∀ k : Nat, rd f' b k = rd f b k
section OFS
variable {ci cj a k q : Nat} {as as2 L L1 : List Nat} {f f1 f2 : Nat → va_E} {v : Value} {cs : List (Nat × Nat)}
theorem OF.rf : OF ci as L f f := fun _ _ _ _ _ => rfl
theorem OF.put (h : OF ci as L f f1) (hrd : ∀ b j : Nat, rd f2 b j = if b = a ∧ j = k then v else rd f1 b j) (ha : a ∈ as) : OF ci as L f f2 := fun b hb hs hn j => by
  have hne : ¬ (b = a ∧ j = k) := fun g => hn (by rw [g.1]; exact ha)
  rw [hrd, if_neg hne]
  exact h b hb hs hn j
theorem OF.putN (h : OF ci as L f f1) (hE : Ext L f L1 f1) (hs1 : sh (f1 a) = (0, cj, 0)) (hc : cj ≠ ci) (hrd : ∀ b j : Nat, rd f2 b j = if b = a ∧ j = k then v else rd f1 b j) : OF ci as L f f2 := fun b hb hs hn j => by
  have hne : b ≠ a := fun g => by
    subst g
    have e := ((hE b hb).2.trans hs).symm.trans hs1
    exact hc (by simpa using (congrArg (fun t : shp => t.2.1) e).symm)
  have hn2 : ¬ (b = a ∧ j = k) := fun g => hne g.1
  rw [hrd, if_neg hn2]
  exact h b hb hs hn j
theorem OF.arr (h : OF ci as L f f1) (hrd : ∀ b j : Nat, rd f2 b j = rd f1 b j) : OF ci as L f f2 := fun b hb hs hn j => (hrd b j).trans (h b hb hs hn j)
theorem OF.new (h : OF ci as L f f1) (hE : Ext L f L1 f1) (hq : q ∉ L1) (hrd : ∀ b j : Nat, b ≠ q → rd f2 b j = rd f1 b j) : OF ci as L f f2 := fun b hb hs hn j => (hrd b j (fun g => hq (g ▸ (hE b hb).1))).trans (h b hb hs hn j)
theorem OF.call (h : OF ci as L f f1) (hE : Ext L f L1 f1) (h2 : OF ci as2 L1 f1 f2) (hs2 : ∀ a ∈ as2, a ∈ as) : OF ci as L f f2 := fun b hb hs hn j => (h2 b (hE b hb).1 ((hE b hb).2.trans hs) (fun g => hn (hs2 b g)) j).trans (h b hb hs hn j)
theorem OF.fr (hF : Fr cs L f f1) (hc : ∀ c ∈ cs, c.1 ≠ ci) : OF ci [] L f f1 := fun b hb hs _ j => hF.1 b hb ci hs j (fun g => hc _ g rfl)
end OFS
theorem mn_sw {a b : Int32} : (if b < a then b else a) = if a < b then a else b := by
  by_cases h : a < b
  · rw [if_pos h, if_neg]
    rw [Int32.lt_iff_toInt_lt] at h ⊢
    omega
  · rw [if_neg h]
    by_cases h2 : b < a
    · rw [if_pos h2]
    · rw [if_neg h2]
      rw [Int32.lt_iff_toInt_lt] at h h2
      exact Int32.toInt_inj.mp (by omega)

/-! what is done to a vat, by its numbers: grains, food, minutes, state -/
noncomputable def mvV (g st w lo fa m : Int32) : Int32 := if (if st = 1 then g * m / (100 + w) / 2 else g * m / (100 + w)) < 200 * w - lo - fa then (if st = 1 then g * m / (100 + w) / 2 else g * m / (100 + w)) else 200 * w - lo - fa
noncomputable def skF (fo m : Int32) : Int32 := if 1 ≤ fo - m then fo - m else 0
noncomputable def skS (mi fo st m : Int32) : Int32 := if 1 ≤ fo - m then (if mi + m ≤ 60 then st else 1) else 2
noncomputable def tfF (fo n : Int32) : Int32 := if 1000 < fo + n then 1000 else fo + n
noncomputable def tfS (fo st n : Int32) : Int32 := if 1000 < fo + n then 2 else st
noncomputable def liM (st mi : Int32) : Int32 := if st = 2 then 0 else mi
noncomputable def liS (st fo : Int32) : Int32 := if st = 2 then (if fo ≤ 0 then st else 1) else st
noncomputable def ltF (fo : Int32) : Int32 := if 0 < fo - 5 then fo - 5 else 0
noncomputable def ltS (fo st la h : Int32) : Int32 := if ltF fo = 0 then 2 else if st = 2 then st else if h - 1 ≤ la then st else 0
noncomputable def ltM (fo st mi la h : Int32) : Int32 := if ltF fo = 0 then mi else if st = 2 then mi else if h - 1 ≤ la then mi else 0
/-- the shade of a cloth -/
noncomputable def shC (w fa : Int32) : Int32 := if 1 ≤ w then fa / w else 0

noncomputable abbrev rm_X0_roomE : Room := { frames := 0, cells := 0, slots := 0, locals := 0 }
set_option maxHeartbeats 800000 in
set_option maxRecDepth 100000 in
theorem t_X0_roomE (l : Launch) (dC : Nat → ClassId) (dI : Nat → Nat → Nat) (sa : Nat → Nat) (hlt : l.stackTraces = false) (g : Nat → Nat) (L : List Nat) (f : Nat → va_E) (h0 : Nat) (we : Int32) (lo : Int32) (fa : Int32) (sz : Nat) (hT : TP g L f [(h0, (0, 0, 0))]) (hm_we : rd f h0 1 = .int we) (hm_lo : rd f h0 2 = .int lo) (hm_fa : rd f h0 3 = .int fa) : KC l dC dI sa g yX0_room wsX0_room rm_X0_roomE [.ref h0] L f sz (fun r L' f' => (∃ z : Int32, r = some (.int z)) ∧ Fr [] L f f' ∧ (r = some (.int (200 * we - lo - fa)))) 0 0 := by
  refine CT.start (cc := cX0_room) (maxL := 1) (ret := (some .int)) (by decide) rfl (Nat.le_of_ble_eq_true rfl) ?_
  intro p e s m below meth c ls hst hP hK hD hev hS hl
  obtain ⟨hx, hb, hr, hml, hts, hown, hlocks, hin⟩ := hst
  have hown : s.vm.findClass RX0 = some m.cls := hown
  have hin : meth.name = yX0_room.name := hin
  have hA : ∀ q : Nat, s.heap.size ≤ q → va_A (va_pl L f) s.heap.size q := fun _ h => Or.inr h
  have hE : Ext L f L f := Ext.rf
  have hF : Fr [] L f f := Fr.rf
  have hl : lv_has ls 1 [(0, .ref h0)] := hl
  refine lv_sipush (v := 200) hx hb dX0_room_0 (by decide) ?_
  refine lv_aload_n hx hb dX0_room_3 rfl (lv_at hl 0 rfl) ?_
  refine T_get (ci := 0) (C := RX0) (T := TX0) (N := 8) (t := tI) hx hb hts inw_X0_room_0 hown hK hP hT 0 rfl rfl 1 (by decide) (hts (.fieldLink RX0 18 "VatHouse$Cloth" "weight" "I") (List.mem_of_getElem? (i := 1) (by exact rfl))) (fun _ h9 => h9) rfl dX0_room_4 (fun v_3 hv_1 hr_2 => ?_)
  obtain rfl : v_3 = .int we := hr_2.symm.trans hm_we
  refine lv_imul hx hb dX0_room_7 ?_
  refine lv_topi (fun z_4 ez_4 => ?_)
  refine lv_aload_n hx hb dX0_room_8 rfl (lv_at hl 0 rfl) ?_
  refine T_get (ci := 0) (C := RX0) (T := TX0) (N := 8) (t := tI) hx hb hts inw_X0_room_0 hown hK hP hT 0 rfl rfl 2 (by decide) (hts (.fieldLink RX0 24 "VatHouse$Cloth" "loose" "I") (List.mem_of_getElem? (i := 2) (by exact rfl))) (fun _ h9 => h9) rfl dX0_room_9 (fun v_7 hv_5 hr_6 => ?_)
  obtain rfl : v_7 = .int lo := hr_6.symm.trans hm_lo
  refine lv_isub hx hb dX0_room_12 ?_
  refine lv_topi (fun z_8 ez_8 => ?_)
  refine lv_aload_n hx hb dX0_room_13 rfl (lv_at hl 0 rfl) ?_
  refine T_get (ci := 0) (C := RX0) (T := TX0) (N := 8) (t := tI) hx hb hts inw_X0_room_0 hown hK hP hT 0 rfl rfl 3 (by decide) (hts (.fieldLink RX0 21 "VatHouse$Cloth" "fast" "I") (List.mem_of_getElem? (i := 3) (by exact rfl))) (fun _ h9 => h9) rfl dX0_room_14 (fun v_11 hv_9 hr_10 => ?_)
  obtain rfl : v_11 = .int fa := hr_10.symm.trans hm_fa
  refine lv_isub hx hb dX0_room_17 ?_
  refine lv_topi (fun z_12 ez_12 => ?_)
  exact K_i hx hb hr hlocks hP hD hK hS hT hE ⟨⟨_, rfl⟩, hF, (by simp only [← ez_4, ← ez_8, ← ez_12])⟩ (Nat.le_of_ble_eq_true rfl) (Nat.le_of_ble_eq_true rfl) dX0_room_18

noncomputable abbrev rm_X0_shadeE : Room := { frames := 0, cells := 0, slots := 0, locals := 0 }
set_option maxHeartbeats 800000 in
set_option maxRecDepth 100000 in
theorem t_X0_shadeE (l : Launch) (dC : Nat → ClassId) (dI : Nat → Nat → Nat) (sa : Nat → Nat) (hlt : l.stackTraces = false) (g : Nat → Nat) (L : List Nat) (f : Nat → va_E) (h0 : Nat) (we : Int32) (fa : Int32) (sz : Nat) (hT : TP g L f [(h0, (0, 0, 0))]) (hm_we : rd f h0 1 = .int we) (hm_fa : rd f h0 3 = .int fa) : KC l dC dI sa g yX0_shade wsX0_shade rm_X0_shadeE [.ref h0] L f sz (fun r L' f' => (∃ z : Int32, r = some (.int z)) ∧ Fr [] L f f' ∧ (r = some (.int (shC we fa)))) 0 0 := by
  refine CT.start (cc := cX0_shade) (maxL := 1) (ret := (some .int)) (by decide) rfl (Nat.le_of_ble_eq_true rfl) ?_
  intro p e s m below meth c ls hst hP hK hD hev hS hl
  obtain ⟨hx, hb, hr, hml, hts, hown, hlocks, hin⟩ := hst
  have hown : s.vm.findClass RX0 = some m.cls := hown
  have hin : meth.name = yX0_shade.name := hin
  have hA : ∀ q : Nat, s.heap.size ≤ q → va_A (va_pl L f) s.heap.size q := fun _ h => Or.inr h
  have hE : Ext L f L f := Ext.rf
  have hF : Fr [] L f f := Fr.rf
  have hl : lv_has ls 1 [(0, .ref h0)] := hl
  refine lv_aload_n hx hb dX0_shade_0 rfl (lv_at hl 0 rfl) ?_
  refine T_get (ci := 0) (C := RX0) (T := TX0) (N := 8) (t := tI) hx hb hts inw_X0_shade_0 hown hK hP hT 0 rfl rfl 1 (by decide) (hts (.fieldLink RX0 18 "VatHouse$Cloth" "weight" "I") (List.mem_of_getElem? (i := 1) (by exact rfl))) (fun _ h9 => h9) rfl dX0_shade_1 (fun v_3 hv_1 hr_2 => ?_)
  obtain rfl : v_3 = .int we := hr_2.symm.trans hm_we
  refine lv_iconst (v := 1) hx hb dX0_shade_4 (by decide) ?_
  refine lv_icmp_ge (tgt := 12) hx hb dX0_shade_5 (by decide) (fun c_4 => ?_) (fun c_4 => ?_)
  · refine lv_aload_n hx hb dX0_shade_12 rfl (lv_at hl 0 rfl) ?_
    refine T_get (ci := 0) (C := RX0) (T := TX0) (N := 8) (t := tI) hx hb hts inw_X0_shade_0 hown hK hP hT 0 rfl rfl 3 (by decide) (hts (.fieldLink RX0 21 "VatHouse$Cloth" "fast" "I") (List.mem_of_getElem? (i := 2) (by exact rfl))) (fun _ h9 => h9) rfl dX0_shade_13 (fun v_7 hv_5 hr_6 => ?_)
    obtain rfl : v_7 = .int fa := hr_6.symm.trans hm_fa
    refine lv_aload_n hx hb dX0_shade_16 rfl (lv_at hl 0 rfl) ?_
    refine T_get (ci := 0) (C := RX0) (T := TX0) (N := 8) (t := tI) hx hb hts inw_X0_shade_0 hown hK hP hT 0 rfl rfl 1 (by decide) (hts (.fieldLink RX0 18 "VatHouse$Cloth" "weight" "I") (List.mem_of_getElem? (i := 1) (by exact rfl))) (fun _ h9 => h9) rfl dX0_shade_17 (fun v_10 hv_8 hr_9 => ?_)
    obtain rfl : v_10 = .int we := hr_9.symm.trans hm_we
    refine lv_idiv hx hb dX0_shade_20 (by first | exact nz (by assumption) | exact nz1 (by assumption)) ?_
    refine lv_topi (fun z_11 ez_11 => ?_)
    exact K_i hx hb hr hlocks hP hD hK hS hT hE ⟨⟨_, rfl⟩, hF, (by simp only [shC, if_pos c_4, ← ez_11])⟩ (Nat.le_of_ble_eq_true rfl) (Nat.le_of_ble_eq_true rfl) dX0_shade_21
  · refine lv_iconst (v := 0) hx hb dX0_shade_8 (by decide) ?_
    refine lv_goto (tgt := 21) hx hb dX0_shade_9 (by decide) ?_
    exact K_i hx hb hr hlocks hP hD hK hS hT hE ⟨⟨_, rfl⟩, hF, (by simp only [shC, if_neg c_4])⟩ (Nat.le_of_ble_eq_true rfl) (Nat.le_of_ble_eq_true rfl) dX0_shade_21

noncomputable abbrev rm_X0_loseByAirE : Room := { frames := 0, cells := 0, slots := 0, locals := 0 }
set_option maxHeartbeats 800000 in
set_option maxRecDepth 100000 in
theorem t_X0_loseByAirE (l : Launch) (dC : Nat → ClassId) (dI : Nat → Nat → Nat) (sa : Nat → Nat) (hlt : l.stackTraces = false) (g : Nat → Nat) (L : List Nat) (f : Nat → va_E) (h0 : Nat) (lo : Int32) (fa : Int32) (sz : Nat) (hT : TP g L f [(h0, (0, 0, 0))]) (hm_lo : rd f h0 2 = .int lo) (hm_fa : rd f h0 3 = .int fa) : KC l dC dI sa g yX0_loseByAir wsX0_loseByAir rm_X0_loseByAirE [.ref h0] L f sz (fun r L' f' => (∃ z : Int32, r = some (.int z)) ∧ Fr [(0, 2), (0, 3)] L f f' ∧ (∃ lo' : Int32, ∃ fa' : Int32, rd f' h0 2 = .int lo' ∧ rd f' h0 3 = .int fa' ∧ (lo' = 0) ∧ (fa' = fa + (lo - lo / 8)) ∧ (OF 0 [h0] L f f' ∧ (r = some (.int (lo / 8)))))) 0 0 := by
  refine CT.start (cc := cX0_loseByAir) (maxL := 2) (ret := (some .int)) (by decide) rfl (Nat.le_of_ble_eq_true rfl) ?_
  intro p e s m below meth c ls hst hP hK hD hev hS hl
  obtain ⟨hx, hb, hr, hml, hts, hown, hlocks, hin⟩ := hst
  have hown : s.vm.findClass RX0 = some m.cls := hown
  have hin : meth.name = yX0_loseByAir.name := hin
  have hA : ∀ q : Nat, s.heap.size ≤ q → va_A (va_pl L f) s.heap.size q := fun _ h => Or.inr h
  have hE : Ext L f L f := Ext.rf
  have hF : Fr [(0, 2), (0, 3)] L f f := Fr.rf
  have hO0 : OF 0 [h0] L f f := OF.rf
  have hl : lv_has ls 2 [(0, .ref h0)] := hl
  refine lv_aload_n hx hb dX0_loseByAir_0 rfl (lv_at hl 0 rfl) ?_
  refine T_get (ci := 0) (C := RX0) (T := TX0) (N := 8) (t := tI) hx hb hts inw_X0_loseByAir_0 hown hK hP hT 0 rfl rfl 2 (by decide) (hts (.fieldLink RX0 24 "VatHouse$Cloth" "loose" "I") (List.mem_of_getElem? (i := 1) (by exact rfl))) (fun _ h9 => h9) rfl dX0_loseByAir_1 (fun v_3 hv_1 hr_2 => ?_)
  obtain rfl : v_3 = .int lo := hr_2.symm.trans hm_lo
  refine lv_bipush (v := 8) hx hb dX0_loseByAir_4 (by decide) ?_
  refine lv_idiv hx hb dX0_loseByAir_6 (by decide) ?_
  refine lv_topi (fun z_4 ez_4 => ?_)
  refine lv_istore_n (lv' := [(1, .int z_4), (0, .ref h0)]) hx hb dX0_loseByAir_7 rfl hl (by decide) rfl (fun ls hl => ?_)
  refine lv_aload_n hx hb dX0_loseByAir_8 rfl (lv_at hl 1 rfl) ?_
  refine lv_dup hx hb dX0_loseByAir_9 rfl ?_
  refine T_get (ci := 0) (C := RX0) (T := TX0) (N := 8) (t := tI) hx hb hts inw_X0_loseByAir_0 hown hK hP hT 0 rfl rfl 3 (by decide) (hts (.fieldLink RX0 21 "VatHouse$Cloth" "fast" "I") (List.mem_of_getElem? (i := 2) (by exact rfl))) (fun _ h9 => h9) rfl dX0_loseByAir_10 (fun v_7 hv_5 hr_6 => ?_)
  obtain rfl : v_7 = .int fa := hr_6.symm.trans hm_fa
  refine lv_aload_n hx hb dX0_loseByAir_13 rfl (lv_at hl 1 rfl) ?_
  refine T_get (ci := 0) (C := RX0) (T := TX0) (N := 8) (t := tI) hx hb hts inw_X0_loseByAir_0 hown hK hP hT 0 rfl rfl 2 (by decide) (hts (.fieldLink RX0 24 "VatHouse$Cloth" "loose" "I") (List.mem_of_getElem? (i := 1) (by exact rfl))) (fun _ h9 => h9) rfl dX0_loseByAir_14 (fun v_10 hv_8 hr_9 => ?_)
  obtain rfl : v_10 = .int lo := hr_9.symm.trans hm_lo
  refine lv_iload_n hx hb dX0_loseByAir_17 rfl (lv_at hl 0 rfl) ?_
  refine lv_isub hx hb dX0_loseByAir_18 ?_
  refine lv_topi (fun z_11 ez_11 => ?_)
  refine lv_iadd hx hb dX0_loseByAir_19 ?_
  refine lv_topi (fun z_12 ez_12 => ?_)
  have hTo := hT
  refine T_put (ci := 0) (v := .int z_12) (ty := .int) (t := tI) (C := RX0) (T := TX0) (N := 8) hx hb hts inw_X0_loseByAir_0 tyX0 tyX0_ok nmX0 hown hK hP hD hS hT 0 rfl rfl 3 (by decide) (hts (.fieldLink RX0 21 "VatHouse$Cloth" "fast" "I") (List.mem_of_getElem? (i := 2) (by exact rfl))) (fun _ h9 => h9) rfl (tyX0_ok 3 (by decide)) rfl rfl rfl ⟨_, rfl⟩ dX0_loseByAir_20 (fun f_13 H locs hP hD hS hT hE1 hrd_14 hup_15 => ?_)
  have hO0 := hO0.put hrd_14 (by simp)
  have hF := Fr.put (a := h0) (ci := 0) hF hE ((hE1 h0 (hT.at 0 rfl).1).2.symm.trans (hT.at 0 rfl).2) (by decide) hrd_14 hup_15
  have hE := hE.tr hE1
  have hk_16 : rd f_13 h0 2 = .int lo := ((Fr.put (cs := [(0, 3)]) (a := h0) (ci := 0) Fr.rf Ext.rf (hTo.at 0 rfl).2 (by decide) hrd_14 hup_15).1 h0 (hTo.at 0 rfl).1 0 (hTo.at 0 rfl).2 2 (by decide)).trans hm_lo
  have hk_17 : rd f_13 h0 3 = .int z_12 := (hrd_14 h0 3).trans (if_pos ⟨rfl, rfl⟩)
  refine lv_aload_n hx hb dX0_loseByAir_23 rfl (lv_at hl 1 rfl) ?_
  refine lv_iconst (v := 0) hx hb dX0_loseByAir_24 (by decide) ?_
  have hTo := hT
  refine T_put (ci := 0) (v := .int 0) (ty := .int) (t := tI) (C := RX0) (T := TX0) (N := 8) hx hb hts inw_X0_loseByAir_0 tyX0 tyX0_ok nmX0 hown hK hP hD hS hT 0 rfl rfl 2 (by decide) (hts (.fieldLink RX0 24 "VatHouse$Cloth" "loose" "I") (List.mem_of_getElem? (i := 1) (by exact rfl))) (fun _ h9 => h9) rfl (tyX0_ok 2 (by decide)) rfl rfl rfl ⟨_, rfl⟩ dX0_loseByAir_25 (fun f_18 H locs hP hD hS hT hE1 hrd_19 hup_20 => ?_)
  have hO0 := hO0.put hrd_19 (by simp)
  have hF := Fr.put (a := h0) (ci := 0) hF hE ((hE1 h0 (hT.at 0 rfl).1).2.symm.trans (hT.at 0 rfl).2) (by decide) hrd_19 hup_20
  have hE := hE.tr hE1
  have hk_21 : rd f_18 h0 2 = .int 0 := (hrd_19 h0 2).trans (if_pos ⟨rfl, rfl⟩)
  have hk_22 : rd f_18 h0 3 = .int z_12 := ((Fr.put (cs := [(0, 2)]) (a := h0) (ci := 0) Fr.rf Ext.rf (hTo.at 0 rfl).2 (by decide) hrd_19 hup_20).1 h0 (hTo.at 0 rfl).1 0 (hTo.at 0 rfl).2 3 (by decide)).trans hk_17
  refine lv_iload_n hx hb dX0_loseByAir_28 rfl (lv_at hl 0 rfl) ?_
  exact K_i hx hb hr hlocks hP hD hK hS hT hE ⟨⟨_, rfl⟩, hF, _, _, hk_21, hk_22, (by simp only [← ez_4, ← ez_11, ← ez_12]), (by simp only [← ez_4, ← ez_11, ← ez_12]), hO0, (by simp only [← ez_4, ← ez_11, ← ez_12])⟩ (Nat.le_of_ble_eq_true rfl) (Nat.le_of_ble_eq_true rfl) dX0_loseByAir_29

noncomputable abbrev rm_X0_loseByWashE : Room := { frames := 0, cells := 0, slots := 0, locals := 0 }
set_option maxHeartbeats 800000 in
set_option maxRecDepth 100000 in
theorem t_X0_loseByWashE (l : Launch) (dC : Nat → ClassId) (dI : Nat → Nat → Nat) (sa : Nat → Nat) (hlt : l.stackTraces = false) (g : Nat → Nat) (L : List Nat) (f : Nat → va_E) (h0 : Nat) (lo : Int32) (fa : Int32) (sz : Nat) (hT : TP g L f [(h0, (0, 0, 0))]) (hm_lo : rd f h0 2 = .int lo) (hm_fa : rd f h0 3 = .int fa) : KC l dC dI sa g yX0_loseByWash wsX0_loseByWash rm_X0_loseByWashE [.ref h0] L f sz (fun r L' f' => (∃ z : Int32, r = some (.int z)) ∧ Fr [(0, 2), (0, 3)] L f f' ∧ (∃ lo' : Int32, ∃ fa' : Int32, rd f' h0 2 = .int lo' ∧ rd f' h0 3 = .int fa' ∧ (lo' = 0) ∧ (fa' = fa - fa / 20) ∧ (OF 0 [h0] L f f' ∧ (r = some (.int (lo + fa / 20)))))) 0 0 := by
  refine CT.start (cc := cX0_loseByWash) (maxL := 3) (ret := (some .int)) (by decide) rfl (Nat.le_of_ble_eq_true rfl) ?_
  intro p e s m below meth c ls hst hP hK hD hev hS hl
  obtain ⟨hx, hb, hr, hml, hts, hown, hlocks, hin⟩ := hst
  have hown : s.vm.findClass RX0 = some m.cls := hown
  have hin : meth.name = yX0_loseByWash.name := hin
  have hA : ∀ q : Nat, s.heap.size ≤ q → va_A (va_pl L f) s.heap.size q := fun _ h => Or.inr h
  have hE : Ext L f L f := Ext.rf
  have hF : Fr [(0, 2), (0, 3)] L f f := Fr.rf
  have hO0 : OF 0 [h0] L f f := OF.rf
  have hl : lv_has ls 3 [(0, .ref h0)] := hl
  refine lv_aload_n hx hb dX0_loseByWash_0 rfl (lv_at hl 0 rfl) ?_
  refine T_get (ci := 0) (C := RX0) (T := TX0) (N := 8) (t := tI) hx hb hts inw_X0_loseByWash_0 hown hK hP hT 0 rfl rfl 3 (by decide) (hts (.fieldLink RX0 21 "VatHouse$Cloth" "fast" "I") (List.mem_of_getElem? (i := 1) (by exact rfl))) (fun _ h9 => h9) rfl dX0_loseByWash_1 (fun v_3 hv_1 hr_2 => ?_)
  obtain rfl : v_3 = .int fa := hr_2.symm.trans hm_fa
  refine lv_bipush (v := 20) hx hb dX0_loseByWash_4 (by decide) ?_
  refine lv_idiv hx hb dX0_loseByWash_6 (by decide) ?_
  refine lv_topi (fun z_4 ez_4 => ?_)
  refine lv_istore_n (lv' := [(1, .int z_4), (0, .ref h0)]) hx hb dX0_loseByWash_7 rfl hl (by decide) rfl (fun ls hl => ?_)
  refine lv_aload_n hx hb dX0_loseByWash_8 rfl (lv_at hl 1 rfl) ?_
  refine T_get (ci := 0) (C := RX0) (T := TX0) (N := 8) (t := tI) hx hb hts inw_X0_loseByWash_0 hown hK hP hT 0 rfl rfl 2 (by decide) (hts (.fieldLink RX0 24 "VatHouse$Cloth" "loose" "I") (List.mem_of_getElem? (i := 2) (by exact rfl))) (fun _ h9 => h9) rfl dX0_loseByWash_9 (fun v_7 hv_5 hr_6 => ?_)
  obtain rfl : v_7 = .int lo := hr_6.symm.trans hm_lo
  refine lv_iload_n hx hb dX0_loseByWash_12 rfl (lv_at hl 0 rfl) ?_
  refine lv_iadd hx hb dX0_loseByWash_13 ?_
  refine lv_topi (fun z_8 ez_8 => ?_)
  refine lv_istore_n (lv' := [(2, .int z_8), (1, .int z_4), (0, .ref h0)]) hx hb dX0_loseByWash_14 rfl hl (by decide) rfl (fun ls hl => ?_)
  refine lv_aload_n hx hb dX0_loseByWash_15 rfl (lv_at hl 2 rfl) ?_
  refine lv_dup hx hb dX0_loseByWash_16 rfl ?_
  refine T_get (ci := 0) (C := RX0) (T := TX0) (N := 8) (t := tI) hx hb hts inw_X0_loseByWash_0 hown hK hP hT 0 rfl rfl 3 (by decide) (hts (.fieldLink RX0 21 "VatHouse$Cloth" "fast" "I") (List.mem_of_getElem? (i := 1) (by exact rfl))) (fun _ h9 => h9) rfl dX0_loseByWash_17 (fun v_11 hv_9 hr_10 => ?_)
  obtain rfl : v_11 = .int fa := hr_10.symm.trans hm_fa
  refine lv_iload_n hx hb dX0_loseByWash_20 rfl (lv_at hl 1 rfl) ?_
  refine lv_isub hx hb dX0_loseByWash_21 ?_
  refine lv_topi (fun z_12 ez_12 => ?_)
  have hTo := hT
  refine T_put (ci := 0) (v := .int z_12) (ty := .int) (t := tI) (C := RX0) (T := TX0) (N := 8) hx hb hts inw_X0_loseByWash_0 tyX0 tyX0_ok nmX0 hown hK hP hD hS hT 0 rfl rfl 3 (by decide) (hts (.fieldLink RX0 21 "VatHouse$Cloth" "fast" "I") (List.mem_of_getElem? (i := 1) (by exact rfl))) (fun _ h9 => h9) rfl (tyX0_ok 3 (by decide)) rfl rfl rfl ⟨_, rfl⟩ dX0_loseByWash_22 (fun f_13 H locs hP hD hS hT hE1 hrd_14 hup_15 => ?_)
  have hO0 := hO0.put hrd_14 (by simp)
  have hF := Fr.put (a := h0) (ci := 0) hF hE ((hE1 h0 (hT.at 0 rfl).1).2.symm.trans (hT.at 0 rfl).2) (by decide) hrd_14 hup_15
  have hE := hE.tr hE1
  have hk_16 : rd f_13 h0 2 = .int lo := ((Fr.put (cs := [(0, 3)]) (a := h0) (ci := 0) Fr.rf Ext.rf (hTo.at 0 rfl).2 (by decide) hrd_14 hup_15).1 h0 (hTo.at 0 rfl).1 0 (hTo.at 0 rfl).2 2 (by decide)).trans hm_lo
  have hk_17 : rd f_13 h0 3 = .int z_12 := (hrd_14 h0 3).trans (if_pos ⟨rfl, rfl⟩)
  refine lv_aload_n hx hb dX0_loseByWash_25 rfl (lv_at hl 2 rfl) ?_
  refine lv_iconst (v := 0) hx hb dX0_loseByWash_26 (by decide) ?_
  have hTo := hT
  refine T_put (ci := 0) (v := .int 0) (ty := .int) (t := tI) (C := RX0) (T := TX0) (N := 8) hx hb hts inw_X0_loseByWash_0 tyX0 tyX0_ok nmX0 hown hK hP hD hS hT 0 rfl rfl 2 (by decide) (hts (.fieldLink RX0 24 "VatHouse$Cloth" "loose" "I") (List.mem_of_getElem? (i := 2) (by exact rfl))) (fun _ h9 => h9) rfl (tyX0_ok 2 (by decide)) rfl rfl rfl ⟨_, rfl⟩ dX0_loseByWash_27 (fun f_18 H locs hP hD hS hT hE1 hrd_19 hup_20 => ?_)
  have hO0 := hO0.put hrd_19 (by simp)
  have hF := Fr.put (a := h0) (ci := 0) hF hE ((hE1 h0 (hT.at 0 rfl).1).2.symm.trans (hT.at 0 rfl).2) (by decide) hrd_19 hup_20
  have hE := hE.tr hE1
  have hk_21 : rd f_18 h0 2 = .int 0 := (hrd_19 h0 2).trans (if_pos ⟨rfl, rfl⟩)
  have hk_22 : rd f_18 h0 3 = .int z_12 := ((Fr.put (cs := [(0, 2)]) (a := h0) (ci := 0) Fr.rf Ext.rf (hTo.at 0 rfl).2 (by decide) hrd_19 hup_20).1 h0 (hTo.at 0 rfl).1 0 (hTo.at 0 rfl).2 3 (by decide)).trans hk_17
  refine lv_iload_n hx hb dX0_loseByWash_30 rfl (lv_at hl 0 rfl) ?_
  exact K_i hx hb hr hlocks hP hD hK hS hT hE ⟨⟨_, rfl⟩, hF, _, _, hk_21, hk_22, (by simp only [← ez_4, ← ez_8, ← ez_12]), (by simp only [← ez_4, ← ez_8, ← ez_12]), hO0, (by simp only [← ez_4, ← ez_8, ← ez_12])⟩ (Nat.le_of_ble_eq_true rfl) (Nat.le_of_ble_eq_true rfl) dX0_loseByWash_31

noncomputable abbrev rm_X7_givesToE : Room := { frames := 1, cells := 0, slots := 0, locals := 20 }
set_option maxHeartbeats 800000 in
set_option maxRecDepth 100000 in
theorem t_X7_givesToE (l : Launch) (dC : Nat → ClassId) (dI : Nat → Nat → Nat) (sa : Nat → Nat) (hlt : l.stackTraces = false) (g : Nat → Nat) (L : List Nat) (f : Nat → va_E) (h0 : Nat) (o : Nat) (mm : Int32) (gr : Int32) (sta : Int32) (we : Int32) (lo : Int32) (fa : Int32) (sz : Nat) (hT : TP g L f [(h0, (0, 7, 0)), (o, (0, 0, 0))]) (hm_gr : rd f h0 1 = .int gr) (hm_sta : rd f h0 4 = .int sta) (hm_we : rd f o 1 = .int we) (hm_lo : rd f o 2 = .int lo) (hm_fa : rd f o 3 = .int fa) (hwe : 1 ≤ 100 + we) : KC l dC dI sa g yX7_givesTo wsX7_givesTo rm_X7_givesToE [.ref h0, .ref o, .int mm] L f sz (fun r L' f' => (∃ z : Int32, r = some (.int z)) ∧ Fr [] L f f' ∧ (r = some (.int (if sta = 2 then 0 else mvV gr sta we lo fa mm)))) 0 0 := by
  refine CT.start (cc := cX7_givesTo) (maxL := 5) (ret := (some .int)) (by decide) rfl (Nat.le_of_ble_eq_true rfl) ?_
  intro p e s m below meth c ls hst hP hK hD hev hS hl
  obtain ⟨hx, hb, hr, hml, hts, hown, hlocks, hin⟩ := hst
  have hown : s.vm.findClass RX7 = some m.cls := hown
  have hin : meth.name = yX7_givesTo.name := hin
  have hA : ∀ q : Nat, s.heap.size ≤ q → va_A (va_pl L f) s.heap.size q := fun _ h => Or.inr h
  have hE : Ext L f L f := Ext.rf
  have hF : Fr [] L f f := Fr.rf
  have hl : lv_has ls 5 [(0, .ref h0), (1, .ref o), (2, .int mm)] := hl
  refine lv_bipush (v := 100) hx hb dX7_givesTo_0 (by decide) ?_
  refine lv_aload_n hx hb dX7_givesTo_2 rfl (lv_at hl 1 rfl) ?_
  refine T_get (ci := 0) (C := RX0) (T := TX0) (N := 8) (t := tI) hx hb hts inw_X7_givesTo_0 hown hK hP hT 1 rfl rfl 1 (by decide) (hts (.fieldLink RX7 21 "VatHouse$Cloth" "weight" "I") (List.mem_of_getElem? (i := 1) (by exact rfl))) (fun _ h9 => h9) rfl dX7_givesTo_3 (fun v_3 hv_1 hr_2 => ?_)
  obtain rfl : v_3 = .int we := hr_2.symm.trans hm_we
  refine lv_iadd hx hb dX7_givesTo_6 ?_
  refine lv_topi (fun z_4 ez_4 => ?_)
  refine lv_istore_n (lv' := [(3, .int z_4), (0, .ref h0), (1, .ref o), (2, .int mm)]) hx hb dX7_givesTo_7 rfl hl (by decide) rfl (fun ls hl => ?_)
  refine lv_aload_n hx hb dX7_givesTo_8 rfl (lv_at hl 1 rfl) ?_
  refine T_get (ci := 7) (C := RX7) (T := TX7) (N := 8) (t := tI) hx hb hts inw_X7_givesTo_7 hown hK hP hT 0 rfl rfl 4 (by decide) (hts (.fieldLink RX7 9 "VatHouse$Vat" "state" "I") (List.mem_of_getElem? (i := 2) (by exact rfl))) (fun _ h9 => h9) rfl dX7_givesTo_9 (fun v_7 hv_5 hr_6 => ?_)
  obtain rfl : v_7 = .int sta := hr_6.symm.trans hm_sta
  refine lv_iconst (v := 2) hx hb dX7_givesTo_12 (by decide) ?_
  refine lv_icmp_eq (tgt := 21) hx hb dX7_givesTo_13 (by decide) (fun c_8 => ?_) (fun c_8 => ?_)
  · refine lv_iconst (v := 0) hx hb dX7_givesTo_21 (by decide) ?_
    exact K_i hx hb hr hlocks hP hD hK hS hT hE ⟨⟨_, rfl⟩, hF, (by rw [if_pos c_8])⟩ (Nat.le_of_ble_eq_true rfl) (Nat.le_of_ble_eq_true rfl) dX7_givesTo_22
  · refine lv_iload_n hx hb dX7_givesTo_16 rfl (lv_at hl 0 rfl) ?_
    refine lv_iconst (v := 1) hx hb dX7_givesTo_17 (by decide) ?_
    refine lv_icmp_ge (tgt := 23) hx hb dX7_givesTo_18 (by decide) (fun c_9 => ?_) (fun c_9 => ?_)
    · refine lv_aload_n hx hb dX7_givesTo_23 rfl (lv_at hl 1 rfl) ?_
      refine T_get (ci := 7) (C := RX7) (T := TX7) (N := 8) (t := tI) hx hb hts inw_X7_givesTo_7 hown hK hP hT 0 rfl rfl 1 (by decide) (hts (.fieldLink RX7 26 "VatHouse$Vat" "grains" "I") (List.mem_of_getElem? (i := 3) (by exact rfl))) (fun _ h9 => h9) rfl dX7_givesTo_24 (fun v_12 hv_10 hr_11 => ?_)
      obtain rfl : v_12 = .int gr := hr_11.symm.trans hm_gr
      refine lv_iload_n hx hb dX7_givesTo_27 rfl (lv_at hl 3 rfl) ?_
      refine lv_imul hx hb dX7_givesTo_28 ?_
      refine lv_topi (fun z_13 ez_13 => ?_)
      refine lv_iload_n hx hb dX7_givesTo_29 rfl (lv_at hl 0 rfl) ?_
      refine lv_idiv hx hb dX7_givesTo_30 (by first | exact nz (by assumption) | exact nz1 (by assumption)) ?_
      refine lv_topi (fun z_14 ez_14 => ?_)
      refine lv_istore (lv' := [(4, .int z_14), (3, .int z_4), (0, .ref h0), (1, .ref o), (2, .int mm)]) hx hb dX7_givesTo_31 hl (by decide) rfl (fun ls hl => ?_)
      refine lv_aload_n hx hb dX7_givesTo_33 rfl (lv_at hl 2 rfl) ?_
      refine T_get (ci := 7) (C := RX7) (T := TX7) (N := 8) (t := tI) hx hb hts inw_X7_givesTo_7 hown hK hP hT 0 rfl rfl 4 (by decide) (hts (.fieldLink RX7 9 "VatHouse$Vat" "state" "I") (List.mem_of_getElem? (i := 2) (by exact rfl))) (fun _ h9 => h9) rfl dX7_givesTo_34 (fun v_17 hv_15 hr_16 => ?_)
      obtain rfl : v_17 = .int sta := hr_16.symm.trans hm_sta
      refine lv_iconst (v := 1) hx hb dX7_givesTo_37 (by decide) ?_
      refine lv_icmp_ne (tgt := 47) hx hb dX7_givesTo_38 (by decide) (fun c_18 => ?_) (fun c_18 => ?_)
      · refine lv_iload hx hb dX7_givesTo_47 (lv_at hl 0 rfl) ?_
        refine lv_aload_n hx hb dX7_givesTo_49 rfl (lv_at hl 3 rfl) ?_
        have hTo := hT
        refine K_V ⟨hx, hb, hml, hown, hts⟩ (t_X0_roomE l dC dI sa hlt g _ _ o we lo fa _ (hT.sub [1] rfl)  hm_we hm_lo hm_fa ) (cwV 0 hts gX7_givesTo_X0_room rfl rfl rfl (by decide +kernel) ⟨Nat.le_of_ble_eq_true rfl, Nat.le_of_ble_eq_true rfl⟩) hP hD hK hS hA hev hT 1 0 rfl rfl rfl rfl hl.1 rfl (Nat.le_of_ble_eq_true rfl) dX7_givesTo_50 ⟨Nat.le_of_ble_eq_true rfl, Nat.le_of_ble_eq_true rfl⟩ (fun r L_19 f_20 H locs hw_21 hP hD hS hT hE1 => ?_)
        have hF := Fr.call hF hE hw_21.2.1 (by decide)
        have hE := hE.tr hE1
        obtain ⟨⟨z_22, rfl⟩, hw_21⟩ := hw_21
        obtain ⟨hfr_23, hex_24⟩ := hw_21
        have hk_25 : rd f_20 h0 1 = .int gr := (hfr_23.1 h0 (hTo.at 0 rfl).1 7 (hTo.at 0 rfl).2 1 (by decide)).trans hm_gr
        have hk_26 : rd f_20 h0 4 = .int sta := (hfr_23.1 h0 (hTo.at 0 rfl).1 7 (hTo.at 0 rfl).2 4 (by decide)).trans hm_sta
        have hk_27 : rd f_20 o 1 = .int we := (hfr_23.1 o (hTo.at 1 rfl).1 0 (hTo.at 1 rfl).2 1 (by decide)).trans hm_we
        have hk_28 : rd f_20 o 2 = .int lo := (hfr_23.1 o (hTo.at 1 rfl).1 0 (hTo.at 1 rfl).2 2 (by decide)).trans hm_lo
        have hk_29 : rd f_20 o 3 = .int fa := (hfr_23.1 o (hTo.at 1 rfl).1 0 (hTo.at 1 rfl).2 3 (by decide)).trans hm_fa
        have ez_22 : z_22 = 200 * we - lo - fa := sv hex_24
        refine W.eq (g2 := F0 m 53 ls [.int z_22, .int z_14]) rfl ?_
        refine va_mmin hx hb (hml.trans hl.1.symm) hown (hts (.methodLink RX7 33 Lib.Math.min.name) (List.mem_of_getElem? (i := 4) (by exact rfl))) (hts (.static Lib.Math.min.name) (List.mem_of_getElem? (i := 5) (by exact rfl))) (hts (.initialized "java/lang/Math") (List.mem_of_getElem? (i := 6) (by exact rfl))) (hts (.code Lib.Math.min.name Lib.Math.min.code 2 (some .int)) (List.mem_of_getElem? (i := 7) (by exact rfl))) (Nat.le_of_ble_eq_true rfl) (Nat.le_of_ble_eq_true rfl) (Nat.le_of_ble_eq_true rfl) (Nat.le_of_ble_eq_true rfl) dX7_givesTo_53 ?_
        refine lv_topi (fun z_30 ez_30 => ?_)
        exact K_i hx hb hr hlocks hP hD hK hS hT hE ⟨⟨_, rfl⟩, hF, (by rw [ez_30, mn_sw]; simp only [mvV, if_neg c_8, ← ez_4, if_neg c_8, if_pos c_9, ← ez_13, ← ez_14, if_neg c_18, ← ez_22])⟩ (Nat.le_of_ble_eq_true rfl) (Nat.le_of_ble_eq_true rfl) dX7_givesTo_56
      · refine lv_iload hx hb dX7_givesTo_41 (lv_at hl 0 rfl) ?_
        refine lv_iconst (v := 2) hx hb dX7_givesTo_43 (by decide) ?_
        refine lv_idiv hx hb dX7_givesTo_44 (by decide) ?_
        refine lv_topi (fun z_31 ez_31 => ?_)
        refine lv_istore (lv' := [(4, .int z_31), (3, .int z_4), (0, .ref h0), (1, .ref o), (2, .int mm)]) hx hb dX7_givesTo_45 hl (by decide) rfl (fun ls hl => ?_)
        refine lv_iload hx hb dX7_givesTo_47 (lv_at hl 0 rfl) ?_
        refine lv_aload_n hx hb dX7_givesTo_49 rfl (lv_at hl 3 rfl) ?_
        have hTo := hT
        refine K_V ⟨hx, hb, hml, hown, hts⟩ (t_X0_roomE l dC dI sa hlt g _ _ o we lo fa _ (hT.sub [1] rfl)  hm_we hm_lo hm_fa ) (cwV 0 hts gX7_givesTo_X0_room rfl rfl rfl (by decide +kernel) ⟨Nat.le_of_ble_eq_true rfl, Nat.le_of_ble_eq_true rfl⟩) hP hD hK hS hA hev hT 1 0 rfl rfl rfl rfl hl.1 rfl (Nat.le_of_ble_eq_true rfl) dX7_givesTo_50 ⟨Nat.le_of_ble_eq_true rfl, Nat.le_of_ble_eq_true rfl⟩ (fun r L_32 f_33 H locs hw_34 hP hD hS hT hE1 => ?_)
        have hF := Fr.call hF hE hw_34.2.1 (by decide)
        have hE := hE.tr hE1
        obtain ⟨⟨z_35, rfl⟩, hw_34⟩ := hw_34
        obtain ⟨hfr_36, hex_37⟩ := hw_34
        have hk_38 : rd f_33 h0 1 = .int gr := (hfr_36.1 h0 (hTo.at 0 rfl).1 7 (hTo.at 0 rfl).2 1 (by decide)).trans hm_gr
        have hk_39 : rd f_33 h0 4 = .int sta := (hfr_36.1 h0 (hTo.at 0 rfl).1 7 (hTo.at 0 rfl).2 4 (by decide)).trans hm_sta
        have hk_40 : rd f_33 o 1 = .int we := (hfr_36.1 o (hTo.at 1 rfl).1 0 (hTo.at 1 rfl).2 1 (by decide)).trans hm_we
        have hk_41 : rd f_33 o 2 = .int lo := (hfr_36.1 o (hTo.at 1 rfl).1 0 (hTo.at 1 rfl).2 2 (by decide)).trans hm_lo
        have hk_42 : rd f_33 o 3 = .int fa := (hfr_36.1 o (hTo.at 1 rfl).1 0 (hTo.at 1 rfl).2 3 (by decide)).trans hm_fa
        have ez_35 : z_35 = 200 * we - lo - fa := sv hex_37
        refine W.eq (g2 := F0 m 53 ls [.int z_35, .int z_31]) rfl ?_
        refine va_mmin hx hb (hml.trans hl.1.symm) hown (hts (.methodLink RX7 33 Lib.Math.min.name) (List.mem_of_getElem? (i := 4) (by exact rfl))) (hts (.static Lib.Math.min.name) (List.mem_of_getElem? (i := 5) (by exact rfl))) (hts (.initialized "java/lang/Math") (List.mem_of_getElem? (i := 6) (by exact rfl))) (hts (.code Lib.Math.min.name Lib.Math.min.code 2 (some .int)) (List.mem_of_getElem? (i := 7) (by exact rfl))) (Nat.le_of_ble_eq_true rfl) (Nat.le_of_ble_eq_true rfl) (Nat.le_of_ble_eq_true rfl) (Nat.le_of_ble_eq_true rfl) dX7_givesTo_53 ?_
        refine lv_topi (fun z_43 ez_43 => ?_)
        exact K_i hx hb hr hlocks hP hD hK hS hT hE ⟨⟨_, rfl⟩, hF, (by rw [ez_43, mn_sw]; simp only [mvV, if_neg c_8, ← ez_4, if_neg c_8, if_pos c_9, ← ez_13, ← ez_14, if_pos c_18, ← ez_31, ← ez_35])⟩ (Nat.le_of_ble_eq_true rfl) (Nat.le_of_ble_eq_true rfl) dX7_givesTo_56
    · refine lv_iconst (v := 0) hx hb dX7_givesTo_21 (by decide) ?_
      exact K_i hx hb hr hlocks hP hD hK hS hT hE ⟨⟨_, rfl⟩, hF, (absurd (by rw [ez_4]; exact hwe) c_9)⟩ (Nat.le_of_ble_eq_true rfl) (Nat.le_of_ble_eq_true rfl) dX7_givesTo_22

noncomputable abbrev rm_X7_soakE : Room := { frames := 0, cells := 0, slots := 0, locals := 0 }
set_option maxHeartbeats 800000 in
set_option maxRecDepth 100000 in
theorem t_X7_soakE (l : Launch) (dC : Nat → ClassId) (dI : Nat → Nat → Nat) (sa : Nat → Nat) (hlt : l.stackTraces = false) (g : Nat → Nat) (L : List Nat) (f : Nat → va_E) (h0 : Nat) (o : Nat) (mm : Int32) (mv : Int32) (gr : Int32) (fo : Int32) (mi : Int32) (sta : Int32) (lo : Int32) (sz : Nat) (hT : TP g L f [(h0, (0, 7, 0)), (o, (0, 0, 0))]) (hm_gr : rd f h0 1 = .int gr) (hm_fo : rd f h0 2 = .int fo) (hm_mi : rd f h0 3 = .int mi) (hm_sta : rd f h0 4 = .int sta) (hm_lo : rd f o 2 = .int lo) : KC l dC dI sa g yX7_soak wsX7_soak rm_X7_soakE [.ref h0, .ref o, .int mm, .int mv] L f sz (fun r L' f' => (r = none) ∧ Fr [(7, 1), (7, 2), (7, 3), (7, 4), (0, 2)] L f f' ∧ (∃ gr' : Int32, ∃ fo' : Int32, ∃ mi' : Int32, ∃ sta' : Int32, ∃ lo' : Int32, rd f' h0 1 = .int gr' ∧ rd f' h0 2 = .int fo' ∧ rd f' h0 3 = .int mi' ∧ rd f' h0 4 = .int sta' ∧ rd f' o 2 = .int lo' ∧ (gr' = gr - mv) ∧ (fo' = skF fo mm) ∧ (mi' = mi + mm) ∧ (sta' = skS mi fo sta mm) ∧ (lo' = lo + mv) ∧ (OF 0 [o] L f f' ∧ OF 7 [h0] L f f'))) 0 0 := by
  refine CT.start (cc := cX7_soak) (maxL := 4) (ret := none) (by decide) rfl (Nat.le_of_ble_eq_true rfl) ?_
  intro p e s m below meth c ls hst hP hK hD hev hS hl
  obtain ⟨hx, hb, hr, hml, hts, hown, hlocks, hin⟩ := hst
  have hown : s.vm.findClass RX7 = some m.cls := hown
  have hin : meth.name = yX7_soak.name := hin
  have hA : ∀ q : Nat, s.heap.size ≤ q → va_A (va_pl L f) s.heap.size q := fun _ h => Or.inr h
  have hE : Ext L f L f := Ext.rf
  have hF : Fr [(7, 1), (7, 2), (7, 3), (7, 4), (0, 2)] L f f := Fr.rf
  have hO0 : OF 0 [o] L f f := OF.rf
  have hO7 : OF 7 [h0] L f f := OF.rf
  have hl : lv_has ls 4 [(0, .ref h0), (1, .ref o), (2, .int mm), (3, .int mv)] := hl
  refine lv_aload_n hx hb dX7_soak_0 rfl (lv_at hl 0 rfl) ?_
  refine lv_dup hx hb dX7_soak_1 rfl ?_
  refine T_get (ci := 7) (C := RX7) (T := TX7) (N := 8) (t := tI) hx hb hts inw_X7_soak_7 hown hK hP hT 0 rfl rfl 1 (by decide) (hts (.fieldLink RX7 26 "VatHouse$Vat" "grains" "I") (List.mem_of_getElem? (i := 1) (by exact rfl))) (fun _ h9 => h9) rfl dX7_soak_2 (fun v_3 hv_1 hr_2 => ?_)
  obtain rfl : v_3 = .int gr := hr_2.symm.trans hm_gr
  refine lv_iload_n hx hb dX7_soak_5 rfl (lv_at hl 3 rfl) ?_
  refine lv_isub hx hb dX7_soak_6 ?_
  refine lv_topi (fun z_4 ez_4 => ?_)
  have hTo := hT
  refine T_put (ci := 7) (v := .int z_4) (ty := .int) (t := tI) (C := RX7) (T := TX7) (N := 8) hx hb hts inw_X7_soak_7 tyX7 tyX7_ok nmX7 hown hK hP hD hS hT 0 rfl rfl 1 (by decide) (hts (.fieldLink RX7 26 "VatHouse$Vat" "grains" "I") (List.mem_of_getElem? (i := 1) (by exact rfl))) (fun _ h9 => h9) rfl (tyX7_ok 1 (by decide)) rfl rfl rfl ⟨_, rfl⟩ dX7_soak_7 (fun f_5 H locs hP hD hS hT hE1 hrd_6 hup_7 => ?_)
  have hO0 := OF.putN (a := h0) (cj := 7) hO0 hE ((hE1 h0 (hT.at 0 rfl).1).2.symm.trans (hT.at 0 rfl).2) (by decide) hrd_6
  have hO7 := hO7.put hrd_6 (by simp)
  have hF := Fr.put (a := h0) (ci := 7) hF hE ((hE1 h0 (hT.at 0 rfl).1).2.symm.trans (hT.at 0 rfl).2) (by decide) hrd_6 hup_7
  have hE := hE.tr hE1
  have hk_8 : rd f_5 h0 1 = .int z_4 := (hrd_6 h0 1).trans (if_pos ⟨rfl, rfl⟩)
  have hk_9 : rd f_5 h0 2 = .int fo := ((Fr.put (cs := [(7, 1)]) (a := h0) (ci := 7) Fr.rf Ext.rf (hTo.at 0 rfl).2 (by decide) hrd_6 hup_7).1 h0 (hTo.at 0 rfl).1 7 (hTo.at 0 rfl).2 2 (by decide)).trans hm_fo
  have hk_10 : rd f_5 h0 3 = .int mi := ((Fr.put (cs := [(7, 1)]) (a := h0) (ci := 7) Fr.rf Ext.rf (hTo.at 0 rfl).2 (by decide) hrd_6 hup_7).1 h0 (hTo.at 0 rfl).1 7 (hTo.at 0 rfl).2 3 (by decide)).trans hm_mi
  have hk_11 : rd f_5 h0 4 = .int sta := ((Fr.put (cs := [(7, 1)]) (a := h0) (ci := 7) Fr.rf Ext.rf (hTo.at 0 rfl).2 (by decide) hrd_6 hup_7).1 h0 (hTo.at 0 rfl).1 7 (hTo.at 0 rfl).2 4 (by decide)).trans hm_sta
  have hk_12 : rd f_5 o 2 = .int lo := ((Fr.put (cs := [(7, 1)]) (a := h0) (ci := 7) Fr.rf Ext.rf (hTo.at 0 rfl).2 (by decide) hrd_6 hup_7).1 o (hTo.at 1 rfl).1 0 (hTo.at 1 rfl).2 2 (by decide)).trans hm_lo
  refine lv_aload_n hx hb dX7_soak_10 rfl (lv_at hl 1 rfl) ?_
  refine lv_dup hx hb dX7_soak_11 rfl ?_
  refine T_get (ci := 0) (C := RX0) (T := TX0) (N := 8) (t := tI) hx hb hts inw_X7_soak_0 hown hK hP hT 1 rfl rfl 2 (by decide) (hts (.fieldLink RX7 39 "VatHouse$Cloth" "loose" "I") (List.mem_of_getElem? (i := 2) (by exact rfl))) (fun _ h9 => h9) rfl dX7_soak_12 (fun v_15 hv_13 hr_14 => ?_)
  obtain rfl : v_15 = .int lo := hr_14.symm.trans hk_12
  refine lv_iload_n hx hb dX7_soak_15 rfl (lv_at hl 3 rfl) ?_
  refine lv_iadd hx hb dX7_soak_16 ?_
  refine lv_topi (fun z_16 ez_16 => ?_)
  have hTo := hT
  refine T_put (ci := 0) (v := .int z_16) (ty := .int) (t := tI) (C := RX0) (T := TX0) (N := 8) hx hb hts inw_X7_soak_0 tyX0 tyX0_ok nmX0 hown hK hP hD hS hT 1 rfl rfl 2 (by decide) (hts (.fieldLink RX7 39 "VatHouse$Cloth" "loose" "I") (List.mem_of_getElem? (i := 2) (by exact rfl))) (fun _ h9 => h9) rfl (tyX0_ok 2 (by decide)) rfl rfl rfl ⟨_, rfl⟩ dX7_soak_17 (fun f_17 H locs hP hD hS hT hE1 hrd_18 hup_19 => ?_)
  have hO0 := hO0.put hrd_18 (by simp)
  have hO7 := OF.putN (a := o) (cj := 0) hO7 hE ((hE1 o (hT.at 1 rfl).1).2.symm.trans (hT.at 1 rfl).2) (by decide) hrd_18
  have hF := Fr.put (a := o) (ci := 0) hF hE ((hE1 o (hT.at 1 rfl).1).2.symm.trans (hT.at 1 rfl).2) (by decide) hrd_18 hup_19
  have hE := hE.tr hE1
  have hk_20 : rd f_17 h0 1 = .int z_4 := ((Fr.put (cs := [(0, 2)]) (a := o) (ci := 0) Fr.rf Ext.rf (hTo.at 1 rfl).2 (by decide) hrd_18 hup_19).1 h0 (hTo.at 0 rfl).1 7 (hTo.at 0 rfl).2 1 (by decide)).trans hk_8
  have hk_21 : rd f_17 h0 2 = .int fo := ((Fr.put (cs := [(0, 2)]) (a := o) (ci := 0) Fr.rf Ext.rf (hTo.at 1 rfl).2 (by decide) hrd_18 hup_19).1 h0 (hTo.at 0 rfl).1 7 (hTo.at 0 rfl).2 2 (by decide)).trans hk_9
  have hk_22 : rd f_17 h0 3 = .int mi := ((Fr.put (cs := [(0, 2)]) (a := o) (ci := 0) Fr.rf Ext.rf (hTo.at 1 rfl).2 (by decide) hrd_18 hup_19).1 h0 (hTo.at 0 rfl).1 7 (hTo.at 0 rfl).2 3 (by decide)).trans hk_10
  have hk_23 : rd f_17 h0 4 = .int sta := ((Fr.put (cs := [(0, 2)]) (a := o) (ci := 0) Fr.rf Ext.rf (hTo.at 1 rfl).2 (by decide) hrd_18 hup_19).1 h0 (hTo.at 0 rfl).1 7 (hTo.at 0 rfl).2 4 (by decide)).trans hk_11
  have hk_24 : rd f_17 o 2 = .int z_16 := (hrd_18 o 2).trans (if_pos ⟨rfl, rfl⟩)
  refine lv_aload_n hx hb dX7_soak_20 rfl (lv_at hl 0 rfl) ?_
  refine lv_dup hx hb dX7_soak_21 rfl ?_
  refine T_get (ci := 7) (C := RX7) (T := TX7) (N := 8) (t := tI) hx hb hts inw_X7_soak_7 hown hK hP hT 0 rfl rfl 3 (by decide) (hts (.fieldLink RX7 42 "VatHouse$Vat" "minutes" "I") (List.mem_of_getElem? (i := 3) (by exact rfl))) (fun _ h9 => h9) rfl dX7_soak_22 (fun v_27 hv_25 hr_26 => ?_)
  obtain rfl : v_27 = .int mi := hr_26.symm.trans hk_22
  refine lv_iload_n hx hb dX7_soak_25 rfl (lv_at hl 2 rfl) ?_
  refine lv_iadd hx hb dX7_soak_26 ?_
  refine lv_topi (fun z_28 ez_28 => ?_)
  have hTo := hT
  refine T_put (ci := 7) (v := .int z_28) (ty := .int) (t := tI) (C := RX7) (T := TX7) (N := 8) hx hb hts inw_X7_soak_7 tyX7 tyX7_ok nmX7 hown hK hP hD hS hT 0 rfl rfl 3 (by decide) (hts (.fieldLink RX7 42 "VatHouse$Vat" "minutes" "I") (List.mem_of_getElem? (i := 3) (by exact rfl))) (fun _ h9 => h9) rfl (tyX7_ok 3 (by decide)) rfl rfl rfl ⟨_, rfl⟩ dX7_soak_27 (fun f_29 H locs hP hD hS hT hE1 hrd_30 hup_31 => ?_)
  have hO0 := OF.putN (a := h0) (cj := 7) hO0 hE ((hE1 h0 (hT.at 0 rfl).1).2.symm.trans (hT.at 0 rfl).2) (by decide) hrd_30
  have hO7 := hO7.put hrd_30 (by simp)
  have hF := Fr.put (a := h0) (ci := 7) hF hE ((hE1 h0 (hT.at 0 rfl).1).2.symm.trans (hT.at 0 rfl).2) (by decide) hrd_30 hup_31
  have hE := hE.tr hE1
  have hk_32 : rd f_29 h0 1 = .int z_4 := ((Fr.put (cs := [(7, 3)]) (a := h0) (ci := 7) Fr.rf Ext.rf (hTo.at 0 rfl).2 (by decide) hrd_30 hup_31).1 h0 (hTo.at 0 rfl).1 7 (hTo.at 0 rfl).2 1 (by decide)).trans hk_20
  have hk_33 : rd f_29 h0 2 = .int fo := ((Fr.put (cs := [(7, 3)]) (a := h0) (ci := 7) Fr.rf Ext.rf (hTo.at 0 rfl).2 (by decide) hrd_30 hup_31).1 h0 (hTo.at 0 rfl).1 7 (hTo.at 0 rfl).2 2 (by decide)).trans hk_21
  have hk_34 : rd f_29 h0 3 = .int z_28 := (hrd_30 h0 3).trans (if_pos ⟨rfl, rfl⟩)
  have hk_35 : rd f_29 h0 4 = .int sta := ((Fr.put (cs := [(7, 3)]) (a := h0) (ci := 7) Fr.rf Ext.rf (hTo.at 0 rfl).2 (by decide) hrd_30 hup_31).1 h0 (hTo.at 0 rfl).1 7 (hTo.at 0 rfl).2 4 (by decide)).trans hk_23
  have hk_36 : rd f_29 o 2 = .int z_16 := ((Fr.put (cs := [(7, 3)]) (a := h0) (ci := 7) Fr.rf Ext.rf (hTo.at 0 rfl).2 (by decide) hrd_30 hup_31).1 o (hTo.at 1 rfl).1 0 (hTo.at 1 rfl).2 2 (by decide)).trans hk_24
  refine lv_aload_n hx hb dX7_soak_30 rfl (lv_at hl 0 rfl) ?_
  refine T_get (ci := 7) (C := RX7) (T := TX7) (N := 8) (t := tI) hx hb hts inw_X7_soak_7 hown hK hP hT 0 rfl rfl 3 (by decide) (hts (.fieldLink RX7 42 "VatHouse$Vat" "minutes" "I") (List.mem_of_getElem? (i := 3) (by exact rfl))) (fun _ h9 => h9) rfl dX7_soak_31 (fun v_39 hv_37 hr_38 => ?_)
  obtain rfl : v_39 = .int z_28 := hr_38.symm.trans hk_34
  refine lv_bipush (v := 60) hx hb dX7_soak_34 (by decide) ?_
  refine lv_icmp_le (tgt := 44) hx hb dX7_soak_36 (by decide) (fun c_40 => ?_) (fun c_40 => ?_)
  · refine lv_aload_n hx hb dX7_soak_44 rfl (lv_at hl 0 rfl) ?_
    refine lv_dup hx hb dX7_soak_45 rfl ?_
    refine T_get (ci := 7) (C := RX7) (T := TX7) (N := 8) (t := tI) hx hb hts inw_X7_soak_7 hown hK hP hT 0 rfl rfl 2 (by decide) (hts (.fieldLink RX7 45 "VatHouse$Vat" "food" "I") (List.mem_of_getElem? (i := 5) (by exact rfl))) (fun _ h9 => h9) rfl dX7_soak_46 (fun v_43 hv_41 hr_42 => ?_)
    obtain rfl : v_43 = .int fo := hr_42.symm.trans hk_33
    refine lv_iload_n hx hb dX7_soak_49 rfl (lv_at hl 2 rfl) ?_
    refine lv_isub hx hb dX7_soak_50 ?_
    refine lv_topi (fun z_44 ez_44 => ?_)
    have hTo := hT
    refine T_put (ci := 7) (v := .int z_44) (ty := .int) (t := tI) (C := RX7) (T := TX7) (N := 8) hx hb hts inw_X7_soak_7 tyX7 tyX7_ok nmX7 hown hK hP hD hS hT 0 rfl rfl 2 (by decide) (hts (.fieldLink RX7 45 "VatHouse$Vat" "food" "I") (List.mem_of_getElem? (i := 5) (by exact rfl))) (fun _ h9 => h9) rfl (tyX7_ok 2 (by decide)) rfl rfl rfl ⟨_, rfl⟩ dX7_soak_51 (fun f_45 H locs hP hD hS hT hE1 hrd_46 hup_47 => ?_)
    have hO0 := OF.putN (a := h0) (cj := 7) hO0 hE ((hE1 h0 (hT.at 0 rfl).1).2.symm.trans (hT.at 0 rfl).2) (by decide) hrd_46
    have hO7 := hO7.put hrd_46 (by simp)
    have hF := Fr.put (a := h0) (ci := 7) hF hE ((hE1 h0 (hT.at 0 rfl).1).2.symm.trans (hT.at 0 rfl).2) (by decide) hrd_46 hup_47
    have hE := hE.tr hE1
    have hk_48 : rd f_45 h0 1 = .int z_4 := ((Fr.put (cs := [(7, 2)]) (a := h0) (ci := 7) Fr.rf Ext.rf (hTo.at 0 rfl).2 (by decide) hrd_46 hup_47).1 h0 (hTo.at 0 rfl).1 7 (hTo.at 0 rfl).2 1 (by decide)).trans hk_32
    have hk_49 : rd f_45 h0 2 = .int z_44 := (hrd_46 h0 2).trans (if_pos ⟨rfl, rfl⟩)
    have hk_50 : rd f_45 h0 3 = .int z_28 := ((Fr.put (cs := [(7, 2)]) (a := h0) (ci := 7) Fr.rf Ext.rf (hTo.at 0 rfl).2 (by decide) hrd_46 hup_47).1 h0 (hTo.at 0 rfl).1 7 (hTo.at 0 rfl).2 3 (by decide)).trans hk_34
    have hk_51 : rd f_45 h0 4 = .int sta := ((Fr.put (cs := [(7, 2)]) (a := h0) (ci := 7) Fr.rf Ext.rf (hTo.at 0 rfl).2 (by decide) hrd_46 hup_47).1 h0 (hTo.at 0 rfl).1 7 (hTo.at 0 rfl).2 4 (by decide)).trans hk_35
    have hk_52 : rd f_45 o 2 = .int z_16 := ((Fr.put (cs := [(7, 2)]) (a := h0) (ci := 7) Fr.rf Ext.rf (hTo.at 0 rfl).2 (by decide) hrd_46 hup_47).1 o (hTo.at 1 rfl).1 0 (hTo.at 1 rfl).2 2 (by decide)).trans hk_36
    refine lv_aload_n hx hb dX7_soak_54 rfl (lv_at hl 0 rfl) ?_
    refine T_get (ci := 7) (C := RX7) (T := TX7) (N := 8) (t := tI) hx hb hts inw_X7_soak_7 hown hK hP hT 0 rfl rfl 2 (by decide) (hts (.fieldLink RX7 45 "VatHouse$Vat" "food" "I") (List.mem_of_getElem? (i := 5) (by exact rfl))) (fun _ h9 => h9) rfl dX7_soak_55 (fun v_55 hv_53 hr_54 => ?_)
    obtain rfl : v_55 = .int z_44 := hr_54.symm.trans hk_49
    refine lv_iconst (v := 1) hx hb dX7_soak_58 (by decide) ?_
    refine lv_icmp_ge (tgt := 72) hx hb dX7_soak_59 (by decide) (fun c_56 => ?_) (fun c_56 => ?_)
    · exact K_v hx hb hr hlocks hP hD hK hS hT hE ⟨rfl, hF, _, _, _, _, _, hk_48, hk_49, hk_50, hk_51, hk_52, (by simp only [← ez_4, ← ez_16, ← ez_28, if_pos c_40, ← ez_44, if_pos c_56]), (by simp only [skF, ← ez_4, ← ez_16, ← ez_28, if_pos c_40, ← ez_44, if_pos c_56]), (by simp only [← ez_4, ← ez_16, ← ez_28, if_pos c_40, ← ez_44, if_pos c_56]), (by simp only [skS, ← ez_4, ← ez_16, ← ez_28, if_pos c_40, ← ez_44, if_pos c_56]), (by simp only [← ez_4, ← ez_16, ← ez_28, if_pos c_40, ← ez_44, if_pos c_56]), hO0, hO7⟩ (Nat.le_of_ble_eq_true rfl) (Nat.le_of_ble_eq_true rfl) dX7_soak_72
    · refine lv_aload_n hx hb dX7_soak_62 rfl (lv_at hl 0 rfl) ?_
      refine lv_iconst (v := 0) hx hb dX7_soak_63 (by decide) ?_
      have hTo := hT
      refine T_put (ci := 7) (v := .int 0) (ty := .int) (t := tI) (C := RX7) (T := TX7) (N := 8) hx hb hts inw_X7_soak_7 tyX7 tyX7_ok nmX7 hown hK hP hD hS hT 0 rfl rfl 2 (by decide) (hts (.fieldLink RX7 45 "VatHouse$Vat" "food" "I") (List.mem_of_getElem? (i := 5) (by exact rfl))) (fun _ h9 => h9) rfl (tyX7_ok 2 (by decide)) rfl rfl rfl ⟨_, rfl⟩ dX7_soak_64 (fun f_57 H locs hP hD hS hT hE1 hrd_58 hup_59 => ?_)
      have hO0 := OF.putN (a := h0) (cj := 7) hO0 hE ((hE1 h0 (hT.at 0 rfl).1).2.symm.trans (hT.at 0 rfl).2) (by decide) hrd_58
      have hO7 := hO7.put hrd_58 (by simp)
      have hF := Fr.put (a := h0) (ci := 7) hF hE ((hE1 h0 (hT.at 0 rfl).1).2.symm.trans (hT.at 0 rfl).2) (by decide) hrd_58 hup_59
      have hE := hE.tr hE1
      have hk_60 : rd f_57 h0 1 = .int z_4 := ((Fr.put (cs := [(7, 2)]) (a := h0) (ci := 7) Fr.rf Ext.rf (hTo.at 0 rfl).2 (by decide) hrd_58 hup_59).1 h0 (hTo.at 0 rfl).1 7 (hTo.at 0 rfl).2 1 (by decide)).trans hk_48
      have hk_61 : rd f_57 h0 2 = .int 0 := (hrd_58 h0 2).trans (if_pos ⟨rfl, rfl⟩)
      have hk_62 : rd f_57 h0 3 = .int z_28 := ((Fr.put (cs := [(7, 2)]) (a := h0) (ci := 7) Fr.rf Ext.rf (hTo.at 0 rfl).2 (by decide) hrd_58 hup_59).1 h0 (hTo.at 0 rfl).1 7 (hTo.at 0 rfl).2 3 (by decide)).trans hk_50
      have hk_63 : rd f_57 h0 4 = .int sta := ((Fr.put (cs := [(7, 2)]) (a := h0) (ci := 7) Fr.rf Ext.rf (hTo.at 0 rfl).2 (by decide) hrd_58 hup_59).1 h0 (hTo.at 0 rfl).1 7 (hTo.at 0 rfl).2 4 (by decide)).trans hk_51
      have hk_64 : rd f_57 o 2 = .int z_16 := ((Fr.put (cs := [(7, 2)]) (a := h0) (ci := 7) Fr.rf Ext.rf (hTo.at 0 rfl).2 (by decide) hrd_58 hup_59).1 o (hTo.at 1 rfl).1 0 (hTo.at 1 rfl).2 2 (by decide)).trans hk_52
      refine lv_aload_n hx hb dX7_soak_67 rfl (lv_at hl 0 rfl) ?_
      refine lv_iconst (v := 2) hx hb dX7_soak_68 (by decide) ?_
      have hTo := hT
      refine T_put (ci := 7) (v := .int 2) (ty := .int) (t := tI) (C := RX7) (T := TX7) (N := 8) hx hb hts inw_X7_soak_7 tyX7 tyX7_ok nmX7 hown hK hP hD hS hT 0 rfl rfl 4 (by decide) (hts (.fieldLink RX7 9 "VatHouse$Vat" "state" "I") (List.mem_of_getElem? (i := 4) (by exact rfl))) (fun _ h9 => h9) rfl (tyX7_ok 4 (by decide)) rfl rfl rfl ⟨_, rfl⟩ dX7_soak_69 (fun f_65 H locs hP hD hS hT hE1 hrd_66 hup_67 => ?_)
      have hO0 := OF.putN (a := h0) (cj := 7) hO0 hE ((hE1 h0 (hT.at 0 rfl).1).2.symm.trans (hT.at 0 rfl).2) (by decide) hrd_66
      have hO7 := hO7.put hrd_66 (by simp)
      have hF := Fr.put (a := h0) (ci := 7) hF hE ((hE1 h0 (hT.at 0 rfl).1).2.symm.trans (hT.at 0 rfl).2) (by decide) hrd_66 hup_67
      have hE := hE.tr hE1
      have hk_68 : rd f_65 h0 1 = .int z_4 := ((Fr.put (cs := [(7, 4)]) (a := h0) (ci := 7) Fr.rf Ext.rf (hTo.at 0 rfl).2 (by decide) hrd_66 hup_67).1 h0 (hTo.at 0 rfl).1 7 (hTo.at 0 rfl).2 1 (by decide)).trans hk_60
      have hk_69 : rd f_65 h0 2 = .int 0 := ((Fr.put (cs := [(7, 4)]) (a := h0) (ci := 7) Fr.rf Ext.rf (hTo.at 0 rfl).2 (by decide) hrd_66 hup_67).1 h0 (hTo.at 0 rfl).1 7 (hTo.at 0 rfl).2 2 (by decide)).trans hk_61
      have hk_70 : rd f_65 h0 3 = .int z_28 := ((Fr.put (cs := [(7, 4)]) (a := h0) (ci := 7) Fr.rf Ext.rf (hTo.at 0 rfl).2 (by decide) hrd_66 hup_67).1 h0 (hTo.at 0 rfl).1 7 (hTo.at 0 rfl).2 3 (by decide)).trans hk_62
      have hk_71 : rd f_65 h0 4 = .int 2 := (hrd_66 h0 4).trans (if_pos ⟨rfl, rfl⟩)
      have hk_72 : rd f_65 o 2 = .int z_16 := ((Fr.put (cs := [(7, 4)]) (a := h0) (ci := 7) Fr.rf Ext.rf (hTo.at 0 rfl).2 (by decide) hrd_66 hup_67).1 o (hTo.at 1 rfl).1 0 (hTo.at 1 rfl).2 2 (by decide)).trans hk_64
      exact K_v hx hb hr hlocks hP hD hK hS hT hE ⟨rfl, hF, _, _, _, _, _, hk_68, hk_69, hk_70, hk_71, hk_72, (by simp only [← ez_4, ← ez_16, ← ez_28, if_pos c_40, ← ez_44, if_neg c_56]), (by simp only [skF, ← ez_4, ← ez_16, ← ez_28, if_pos c_40, ← ez_44, if_neg c_56]), (by simp only [← ez_4, ← ez_16, ← ez_28, if_pos c_40, ← ez_44, if_neg c_56]), (by simp only [skS, ← ez_4, ← ez_16, ← ez_28, if_pos c_40, ← ez_44, if_neg c_56]), (by simp only [← ez_4, ← ez_16, ← ez_28, if_pos c_40, ← ez_44, if_neg c_56]), hO0, hO7⟩ (Nat.le_of_ble_eq_true rfl) (Nat.le_of_ble_eq_true rfl) dX7_soak_72
  · refine lv_aload_n hx hb dX7_soak_39 rfl (lv_at hl 0 rfl) ?_
    refine lv_iconst (v := 1) hx hb dX7_soak_40 (by decide) ?_
    have hTo := hT
    refine T_put (ci := 7) (v := .int 1) (ty := .int) (t := tI) (C := RX7) (T := TX7) (N := 8) hx hb hts inw_X7_soak_7 tyX7 tyX7_ok nmX7 hown hK hP hD hS hT 0 rfl rfl 4 (by decide) (hts (.fieldLink RX7 9 "VatHouse$Vat" "state" "I") (List.mem_of_getElem? (i := 4) (by exact rfl))) (fun _ h9 => h9) rfl (tyX7_ok 4 (by decide)) rfl rfl rfl ⟨_, rfl⟩ dX7_soak_41 (fun f_73 H locs hP hD hS hT hE1 hrd_74 hup_75 => ?_)
    have hO0 := OF.putN (a := h0) (cj := 7) hO0 hE ((hE1 h0 (hT.at 0 rfl).1).2.symm.trans (hT.at 0 rfl).2) (by decide) hrd_74
    have hO7 := hO7.put hrd_74 (by simp)
    have hF := Fr.put (a := h0) (ci := 7) hF hE ((hE1 h0 (hT.at 0 rfl).1).2.symm.trans (hT.at 0 rfl).2) (by decide) hrd_74 hup_75
    have hE := hE.tr hE1
    have hk_76 : rd f_73 h0 1 = .int z_4 := ((Fr.put (cs := [(7, 4)]) (a := h0) (ci := 7) Fr.rf Ext.rf (hTo.at 0 rfl).2 (by decide) hrd_74 hup_75).1 h0 (hTo.at 0 rfl).1 7 (hTo.at 0 rfl).2 1 (by decide)).trans hk_32
    have hk_77 : rd f_73 h0 2 = .int fo := ((Fr.put (cs := [(7, 4)]) (a := h0) (ci := 7) Fr.rf Ext.rf (hTo.at 0 rfl).2 (by decide) hrd_74 hup_75).1 h0 (hTo.at 0 rfl).1 7 (hTo.at 0 rfl).2 2 (by decide)).trans hk_33
    have hk_78 : rd f_73 h0 3 = .int z_28 := ((Fr.put (cs := [(7, 4)]) (a := h0) (ci := 7) Fr.rf Ext.rf (hTo.at 0 rfl).2 (by decide) hrd_74 hup_75).1 h0 (hTo.at 0 rfl).1 7 (hTo.at 0 rfl).2 3 (by decide)).trans hk_34
    have hk_79 : rd f_73 h0 4 = .int 1 := (hrd_74 h0 4).trans (if_pos ⟨rfl, rfl⟩)
    have hk_80 : rd f_73 o 2 = .int z_16 := ((Fr.put (cs := [(7, 4)]) (a := h0) (ci := 7) Fr.rf Ext.rf (hTo.at 0 rfl).2 (by decide) hrd_74 hup_75).1 o (hTo.at 1 rfl).1 0 (hTo.at 1 rfl).2 2 (by decide)).trans hk_36
    refine lv_aload_n hx hb dX7_soak_44 rfl (lv_at hl 0 rfl) ?_
    refine lv_dup hx hb dX7_soak_45 rfl ?_
    refine T_get (ci := 7) (C := RX7) (T := TX7) (N := 8) (t := tI) hx hb hts inw_X7_soak_7 hown hK hP hT 0 rfl rfl 2 (by decide) (hts (.fieldLink RX7 45 "VatHouse$Vat" "food" "I") (List.mem_of_getElem? (i := 5) (by exact rfl))) (fun _ h9 => h9) rfl dX7_soak_46 (fun v_83 hv_81 hr_82 => ?_)
    obtain rfl : v_83 = .int fo := hr_82.symm.trans hk_77
    refine lv_iload_n hx hb dX7_soak_49 rfl (lv_at hl 2 rfl) ?_
    refine lv_isub hx hb dX7_soak_50 ?_
    refine lv_topi (fun z_84 ez_84 => ?_)
    have hTo := hT
    refine T_put (ci := 7) (v := .int z_84) (ty := .int) (t := tI) (C := RX7) (T := TX7) (N := 8) hx hb hts inw_X7_soak_7 tyX7 tyX7_ok nmX7 hown hK hP hD hS hT 0 rfl rfl 2 (by decide) (hts (.fieldLink RX7 45 "VatHouse$Vat" "food" "I") (List.mem_of_getElem? (i := 5) (by exact rfl))) (fun _ h9 => h9) rfl (tyX7_ok 2 (by decide)) rfl rfl rfl ⟨_, rfl⟩ dX7_soak_51 (fun f_85 H locs hP hD hS hT hE1 hrd_86 hup_87 => ?_)
    have hO0 := OF.putN (a := h0) (cj := 7) hO0 hE ((hE1 h0 (hT.at 0 rfl).1).2.symm.trans (hT.at 0 rfl).2) (by decide) hrd_86
    have hO7 := hO7.put hrd_86 (by simp)
    have hF := Fr.put (a := h0) (ci := 7) hF hE ((hE1 h0 (hT.at 0 rfl).1).2.symm.trans (hT.at 0 rfl).2) (by decide) hrd_86 hup_87
    have hE := hE.tr hE1
    have hk_88 : rd f_85 h0 1 = .int z_4 := ((Fr.put (cs := [(7, 2)]) (a := h0) (ci := 7) Fr.rf Ext.rf (hTo.at 0 rfl).2 (by decide) hrd_86 hup_87).1 h0 (hTo.at 0 rfl).1 7 (hTo.at 0 rfl).2 1 (by decide)).trans hk_76
    have hk_89 : rd f_85 h0 2 = .int z_84 := (hrd_86 h0 2).trans (if_pos ⟨rfl, rfl⟩)
    have hk_90 : rd f_85 h0 3 = .int z_28 := ((Fr.put (cs := [(7, 2)]) (a := h0) (ci := 7) Fr.rf Ext.rf (hTo.at 0 rfl).2 (by decide) hrd_86 hup_87).1 h0 (hTo.at 0 rfl).1 7 (hTo.at 0 rfl).2 3 (by decide)).trans hk_78
    have hk_91 : rd f_85 h0 4 = .int 1 := ((Fr.put (cs := [(7, 2)]) (a := h0) (ci := 7) Fr.rf Ext.rf (hTo.at 0 rfl).2 (by decide) hrd_86 hup_87).1 h0 (hTo.at 0 rfl).1 7 (hTo.at 0 rfl).2 4 (by decide)).trans hk_79
    have hk_92 : rd f_85 o 2 = .int z_16 := ((Fr.put (cs := [(7, 2)]) (a := h0) (ci := 7) Fr.rf Ext.rf (hTo.at 0 rfl).2 (by decide) hrd_86 hup_87).1 o (hTo.at 1 rfl).1 0 (hTo.at 1 rfl).2 2 (by decide)).trans hk_80
    refine lv_aload_n hx hb dX7_soak_54 rfl (lv_at hl 0 rfl) ?_
    refine T_get (ci := 7) (C := RX7) (T := TX7) (N := 8) (t := tI) hx hb hts inw_X7_soak_7 hown hK hP hT 0 rfl rfl 2 (by decide) (hts (.fieldLink RX7 45 "VatHouse$Vat" "food" "I") (List.mem_of_getElem? (i := 5) (by exact rfl))) (fun _ h9 => h9) rfl dX7_soak_55 (fun v_95 hv_93 hr_94 => ?_)
    obtain rfl : v_95 = .int z_84 := hr_94.symm.trans hk_89
    refine lv_iconst (v := 1) hx hb dX7_soak_58 (by decide) ?_
    refine lv_icmp_ge (tgt := 72) hx hb dX7_soak_59 (by decide) (fun c_96 => ?_) (fun c_96 => ?_)
    · exact K_v hx hb hr hlocks hP hD hK hS hT hE ⟨rfl, hF, _, _, _, _, _, hk_88, hk_89, hk_90, hk_91, hk_92, (by simp only [← ez_4, ← ez_16, ← ez_28, if_neg c_40, ← ez_84, if_pos c_96]), (by simp only [skF, ← ez_4, ← ez_16, ← ez_28, if_neg c_40, ← ez_84, if_pos c_96]), (by simp only [← ez_4, ← ez_16, ← ez_28, if_neg c_40, ← ez_84, if_pos c_96]), (by simp only [skS, ← ez_4, ← ez_16, ← ez_28, if_neg c_40, ← ez_84, if_pos c_96]), (by simp only [← ez_4, ← ez_16, ← ez_28, if_neg c_40, ← ez_84, if_pos c_96]), hO0, hO7⟩ (Nat.le_of_ble_eq_true rfl) (Nat.le_of_ble_eq_true rfl) dX7_soak_72
    · refine lv_aload_n hx hb dX7_soak_62 rfl (lv_at hl 0 rfl) ?_
      refine lv_iconst (v := 0) hx hb dX7_soak_63 (by decide) ?_
      have hTo := hT
      refine T_put (ci := 7) (v := .int 0) (ty := .int) (t := tI) (C := RX7) (T := TX7) (N := 8) hx hb hts inw_X7_soak_7 tyX7 tyX7_ok nmX7 hown hK hP hD hS hT 0 rfl rfl 2 (by decide) (hts (.fieldLink RX7 45 "VatHouse$Vat" "food" "I") (List.mem_of_getElem? (i := 5) (by exact rfl))) (fun _ h9 => h9) rfl (tyX7_ok 2 (by decide)) rfl rfl rfl ⟨_, rfl⟩ dX7_soak_64 (fun f_97 H locs hP hD hS hT hE1 hrd_98 hup_99 => ?_)
      have hO0 := OF.putN (a := h0) (cj := 7) hO0 hE ((hE1 h0 (hT.at 0 rfl).1).2.symm.trans (hT.at 0 rfl).2) (by decide) hrd_98
      have hO7 := hO7.put hrd_98 (by simp)
      have hF := Fr.put (a := h0) (ci := 7) hF hE ((hE1 h0 (hT.at 0 rfl).1).2.symm.trans (hT.at 0 rfl).2) (by decide) hrd_98 hup_99
      have hE := hE.tr hE1
      have hk_100 : rd f_97 h0 1 = .int z_4 := ((Fr.put (cs := [(7, 2)]) (a := h0) (ci := 7) Fr.rf Ext.rf (hTo.at 0 rfl).2 (by decide) hrd_98 hup_99).1 h0 (hTo.at 0 rfl).1 7 (hTo.at 0 rfl).2 1 (by decide)).trans hk_88
      have hk_101 : rd f_97 h0 2 = .int 0 := (hrd_98 h0 2).trans (if_pos ⟨rfl, rfl⟩)
      have hk_102 : rd f_97 h0 3 = .int z_28 := ((Fr.put (cs := [(7, 2)]) (a := h0) (ci := 7) Fr.rf Ext.rf (hTo.at 0 rfl).2 (by decide) hrd_98 hup_99).1 h0 (hTo.at 0 rfl).1 7 (hTo.at 0 rfl).2 3 (by decide)).trans hk_90
      have hk_103 : rd f_97 h0 4 = .int 1 := ((Fr.put (cs := [(7, 2)]) (a := h0) (ci := 7) Fr.rf Ext.rf (hTo.at 0 rfl).2 (by decide) hrd_98 hup_99).1 h0 (hTo.at 0 rfl).1 7 (hTo.at 0 rfl).2 4 (by decide)).trans hk_91
      have hk_104 : rd f_97 o 2 = .int z_16 := ((Fr.put (cs := [(7, 2)]) (a := h0) (ci := 7) Fr.rf Ext.rf (hTo.at 0 rfl).2 (by decide) hrd_98 hup_99).1 o (hTo.at 1 rfl).1 0 (hTo.at 1 rfl).2 2 (by decide)).trans hk_92
      refine lv_aload_n hx hb dX7_soak_67 rfl (lv_at hl 0 rfl) ?_
      refine lv_iconst (v := 2) hx hb dX7_soak_68 (by decide) ?_
      have hTo := hT
      refine T_put (ci := 7) (v := .int 2) (ty := .int) (t := tI) (C := RX7) (T := TX7) (N := 8) hx hb hts inw_X7_soak_7 tyX7 tyX7_ok nmX7 hown hK hP hD hS hT 0 rfl rfl 4 (by decide) (hts (.fieldLink RX7 9 "VatHouse$Vat" "state" "I") (List.mem_of_getElem? (i := 4) (by exact rfl))) (fun _ h9 => h9) rfl (tyX7_ok 4 (by decide)) rfl rfl rfl ⟨_, rfl⟩ dX7_soak_69 (fun f_105 H locs hP hD hS hT hE1 hrd_106 hup_107 => ?_)
      have hO0 := OF.putN (a := h0) (cj := 7) hO0 hE ((hE1 h0 (hT.at 0 rfl).1).2.symm.trans (hT.at 0 rfl).2) (by decide) hrd_106
      have hO7 := hO7.put hrd_106 (by simp)
      have hF := Fr.put (a := h0) (ci := 7) hF hE ((hE1 h0 (hT.at 0 rfl).1).2.symm.trans (hT.at 0 rfl).2) (by decide) hrd_106 hup_107
      have hE := hE.tr hE1
      have hk_108 : rd f_105 h0 1 = .int z_4 := ((Fr.put (cs := [(7, 4)]) (a := h0) (ci := 7) Fr.rf Ext.rf (hTo.at 0 rfl).2 (by decide) hrd_106 hup_107).1 h0 (hTo.at 0 rfl).1 7 (hTo.at 0 rfl).2 1 (by decide)).trans hk_100
      have hk_109 : rd f_105 h0 2 = .int 0 := ((Fr.put (cs := [(7, 4)]) (a := h0) (ci := 7) Fr.rf Ext.rf (hTo.at 0 rfl).2 (by decide) hrd_106 hup_107).1 h0 (hTo.at 0 rfl).1 7 (hTo.at 0 rfl).2 2 (by decide)).trans hk_101
      have hk_110 : rd f_105 h0 3 = .int z_28 := ((Fr.put (cs := [(7, 4)]) (a := h0) (ci := 7) Fr.rf Ext.rf (hTo.at 0 rfl).2 (by decide) hrd_106 hup_107).1 h0 (hTo.at 0 rfl).1 7 (hTo.at 0 rfl).2 3 (by decide)).trans hk_102
      have hk_111 : rd f_105 h0 4 = .int 2 := (hrd_106 h0 4).trans (if_pos ⟨rfl, rfl⟩)
      have hk_112 : rd f_105 o 2 = .int z_16 := ((Fr.put (cs := [(7, 4)]) (a := h0) (ci := 7) Fr.rf Ext.rf (hTo.at 0 rfl).2 (by decide) hrd_106 hup_107).1 o (hTo.at 1 rfl).1 0 (hTo.at 1 rfl).2 2 (by decide)).trans hk_104
      exact K_v hx hb hr hlocks hP hD hK hS hT hE ⟨rfl, hF, _, _, _, _, _, hk_108, hk_109, hk_110, hk_111, hk_112, (by simp only [← ez_4, ← ez_16, ← ez_28, if_neg c_40, ← ez_84, if_neg c_96]), (by simp only [skF, ← ez_4, ← ez_16, ← ez_28, if_neg c_40, ← ez_84, if_neg c_96]), (by simp only [← ez_4, ← ez_16, ← ez_28, if_neg c_40, ← ez_84, if_neg c_96]), (by simp only [skS, ← ez_4, ← ez_16, ← ez_28, if_neg c_40, ← ez_84, if_neg c_96]), (by simp only [← ez_4, ← ez_16, ← ez_28, if_neg c_40, ← ez_84, if_neg c_96]), hO0, hO7⟩ (Nat.le_of_ble_eq_true rfl) (Nat.le_of_ble_eq_true rfl) dX7_soak_72

noncomputable abbrev rm_X7_takeFoodE : Room := { frames := 0, cells := 0, slots := 0, locals := 0 }
set_option maxHeartbeats 800000 in
set_option maxRecDepth 100000 in
theorem t_X7_takeFoodE (l : Launch) (dC : Nat → ClassId) (dI : Nat → Nat → Nat) (sa : Nat → Nat) (hlt : l.stackTraces = false) (g : Nat → Nat) (L : List Nat) (f : Nat → va_E) (h0 : Nat) (n : Int32) (fo : Int32) (sta : Int32) (sz : Nat) (hT : TP g L f [(h0, (0, 7, 0))]) (hm_fo : rd f h0 2 = .int fo) (hm_sta : rd f h0 4 = .int sta) : KC l dC dI sa g yX7_takeFood wsX7_takeFood rm_X7_takeFoodE [.ref h0, .int n] L f sz (fun r L' f' => ((r = some (.int 0) ∧ (1000 < fo + n)) ∨ (r = some (.int 1) ∧ (¬ 1000 < fo + n))) ∧ Fr [(7, 2), (7, 4)] L f f' ∧ (∃ fo' : Int32, ∃ sta' : Int32, rd f' h0 2 = .int fo' ∧ rd f' h0 4 = .int sta' ∧ (fo' = tfF fo n) ∧ (sta' = tfS fo sta n) ∧ (OF 7 [h0] L f f'))) 0 0 := by
  refine CT.start (cc := cX7_takeFood) (maxL := 2) (ret := (some .boolean)) (by decide) rfl (Nat.le_of_ble_eq_true rfl) ?_
  intro p e s m below meth c ls hst hP hK hD hev hS hl
  obtain ⟨hx, hb, hr, hml, hts, hown, hlocks, hin⟩ := hst
  have hown : s.vm.findClass RX7 = some m.cls := hown
  have hin : meth.name = yX7_takeFood.name := hin
  have hA : ∀ q : Nat, s.heap.size ≤ q → va_A (va_pl L f) s.heap.size q := fun _ h => Or.inr h
  have hE : Ext L f L f := Ext.rf
  have hF : Fr [(7, 2), (7, 4)] L f f := Fr.rf
  have hO7 : OF 7 [h0] L f f := OF.rf
  have hl : lv_has ls 2 [(0, .ref h0), (1, .int n)] := hl
  refine lv_aload_n hx hb dX7_takeFood_0 rfl (lv_at hl 0 rfl) ?_
  refine lv_dup hx hb dX7_takeFood_1 rfl ?_
  refine T_get (ci := 7) (C := RX7) (T := TX7) (N := 8) (t := tI) hx hb hts inw_X7_takeFood_7 hown hK hP hT 0 rfl rfl 2 (by decide) (hts (.fieldLink RX7 45 "VatHouse$Vat" "food" "I") (List.mem_of_getElem? (i := 1) (by exact rfl))) (fun _ h9 => h9) rfl dX7_takeFood_2 (fun v_3 hv_1 hr_2 => ?_)
  obtain rfl : v_3 = .int fo := hr_2.symm.trans hm_fo
  refine lv_iload_n hx hb dX7_takeFood_5 rfl (lv_at hl 1 rfl) ?_
  refine lv_iadd hx hb dX7_takeFood_6 ?_
  refine lv_topi (fun z_4 ez_4 => ?_)
  have hTo := hT
  refine T_put (ci := 7) (v := .int z_4) (ty := .int) (t := tI) (C := RX7) (T := TX7) (N := 8) hx hb hts inw_X7_takeFood_7 tyX7 tyX7_ok nmX7 hown hK hP hD hS hT 0 rfl rfl 2 (by decide) (hts (.fieldLink RX7 45 "VatHouse$Vat" "food" "I") (List.mem_of_getElem? (i := 1) (by exact rfl))) (fun _ h9 => h9) rfl (tyX7_ok 2 (by decide)) rfl rfl rfl ⟨_, rfl⟩ dX7_takeFood_7 (fun f_5 H locs hP hD hS hT hE1 hrd_6 hup_7 => ?_)
  have hO7 := hO7.put hrd_6 (by simp)
  have hF := Fr.put (a := h0) (ci := 7) hF hE ((hE1 h0 (hT.at 0 rfl).1).2.symm.trans (hT.at 0 rfl).2) (by decide) hrd_6 hup_7
  have hE := hE.tr hE1
  have hk_8 : rd f_5 h0 2 = .int z_4 := (hrd_6 h0 2).trans (if_pos ⟨rfl, rfl⟩)
  have hk_9 : rd f_5 h0 4 = .int sta := ((Fr.put (cs := [(7, 2)]) (a := h0) (ci := 7) Fr.rf Ext.rf (hTo.at 0 rfl).2 (by decide) hrd_6 hup_7).1 h0 (hTo.at 0 rfl).1 7 (hTo.at 0 rfl).2 4 (by decide)).trans hm_sta
  refine lv_aload_n hx hb dX7_takeFood_10 rfl (lv_at hl 0 rfl) ?_
  refine T_get (ci := 7) (C := RX7) (T := TX7) (N := 8) (t := tI) hx hb hts inw_X7_takeFood_7 hown hK hP hT 0 rfl rfl 2 (by decide) (hts (.fieldLink RX7 45 "VatHouse$Vat" "food" "I") (List.mem_of_getElem? (i := 1) (by exact rfl))) (fun _ h9 => h9) rfl dX7_takeFood_11 (fun v_12 hv_10 hr_11 => ?_)
  obtain rfl : v_12 = .int z_4 := hr_11.symm.trans hk_8
  refine lv_sipush (v := 1000) hx hb dX7_takeFood_14 (by decide) ?_
  refine lv_icmp_gt (tgt := 22) hx hb dX7_takeFood_17 (by decide) (fun c_13 => ?_) (fun c_13 => ?_)
  · refine lv_aload_n hx hb dX7_takeFood_22 rfl (lv_at hl 0 rfl) ?_
    refine lv_sipush (v := 1000) hx hb dX7_takeFood_23 (by decide) ?_
    have hTo := hT
    refine T_put (ci := 7) (v := .int 1000) (ty := .int) (t := tI) (C := RX7) (T := TX7) (N := 8) hx hb hts inw_X7_takeFood_7 tyX7 tyX7_ok nmX7 hown hK hP hD hS hT 0 rfl rfl 2 (by decide) (hts (.fieldLink RX7 45 "VatHouse$Vat" "food" "I") (List.mem_of_getElem? (i := 1) (by exact rfl))) (fun _ h9 => h9) rfl (tyX7_ok 2 (by decide)) rfl rfl rfl ⟨_, rfl⟩ dX7_takeFood_26 (fun f_14 H locs hP hD hS hT hE1 hrd_15 hup_16 => ?_)
    have hO7 := hO7.put hrd_15 (by simp)
    have hF := Fr.put (a := h0) (ci := 7) hF hE ((hE1 h0 (hT.at 0 rfl).1).2.symm.trans (hT.at 0 rfl).2) (by decide) hrd_15 hup_16
    have hE := hE.tr hE1
    have hk_17 : rd f_14 h0 2 = .int 1000 := (hrd_15 h0 2).trans (if_pos ⟨rfl, rfl⟩)
    have hk_18 : rd f_14 h0 4 = .int sta := ((Fr.put (cs := [(7, 2)]) (a := h0) (ci := 7) Fr.rf Ext.rf (hTo.at 0 rfl).2 (by decide) hrd_15 hup_16).1 h0 (hTo.at 0 rfl).1 7 (hTo.at 0 rfl).2 4 (by decide)).trans hk_9
    refine lv_aload_n hx hb dX7_takeFood_29 rfl (lv_at hl 0 rfl) ?_
    refine lv_iconst (v := 2) hx hb dX7_takeFood_30 (by decide) ?_
    have hTo := hT
    refine T_put (ci := 7) (v := .int 2) (ty := .int) (t := tI) (C := RX7) (T := TX7) (N := 8) hx hb hts inw_X7_takeFood_7 tyX7 tyX7_ok nmX7 hown hK hP hD hS hT 0 rfl rfl 4 (by decide) (hts (.fieldLink RX7 9 "VatHouse$Vat" "state" "I") (List.mem_of_getElem? (i := 2) (by exact rfl))) (fun _ h9 => h9) rfl (tyX7_ok 4 (by decide)) rfl rfl rfl ⟨_, rfl⟩ dX7_takeFood_31 (fun f_19 H locs hP hD hS hT hE1 hrd_20 hup_21 => ?_)
    have hO7 := hO7.put hrd_20 (by simp)
    have hF := Fr.put (a := h0) (ci := 7) hF hE ((hE1 h0 (hT.at 0 rfl).1).2.symm.trans (hT.at 0 rfl).2) (by decide) hrd_20 hup_21
    have hE := hE.tr hE1
    have hk_22 : rd f_19 h0 2 = .int 1000 := ((Fr.put (cs := [(7, 4)]) (a := h0) (ci := 7) Fr.rf Ext.rf (hTo.at 0 rfl).2 (by decide) hrd_20 hup_21).1 h0 (hTo.at 0 rfl).1 7 (hTo.at 0 rfl).2 2 (by decide)).trans hk_17
    have hk_23 : rd f_19 h0 4 = .int 2 := (hrd_20 h0 4).trans (if_pos ⟨rfl, rfl⟩)
    refine lv_iconst (v := 0) hx hb dX7_takeFood_34 (by decide) ?_
    exact K_z hx hb hr rfl hlocks hP hD hK hS hT hE ⟨Or.inl ⟨rfl, (by rw [← ez_4]; exact c_13)⟩, hF, _, _, hk_22, hk_23, (by simp only [tfF, ← ez_4, if_pos c_13]), (by simp only [tfS, ← ez_4, if_pos c_13]), hO7⟩ (Nat.le_of_ble_eq_true rfl) (Nat.le_of_ble_eq_true rfl) dX7_takeFood_35
  · refine lv_iconst (v := 1) hx hb dX7_takeFood_20 (by decide) ?_
    exact K_z hx hb hr rfl hlocks hP hD hK hS hT hE ⟨Or.inr ⟨rfl, (by rw [← ez_4]; exact c_13)⟩, hF, _, _, hk_8, hk_9, (by simp only [tfF, ← ez_4, if_neg c_13]), (by simp only [tfS, ← ez_4, if_neg c_13]), hO7⟩ (Nat.le_of_ble_eq_true rfl) (Nat.le_of_ble_eq_true rfl) dX7_takeFood_21

noncomputable abbrev rm_X7_takeLimeE : Room := { frames := 0, cells := 0, slots := 0, locals := 0 }
set_option maxHeartbeats 800000 in
set_option maxRecDepth 100000 in
theorem t_X7_takeLimeE (l : Launch) (dC : Nat → ClassId) (dI : Nat → Nat → Nat) (sa : Nat → Nat) (hlt : l.stackTraces = false) (g : Nat → Nat) (L : List Nat) (f : Nat → va_E) (h0 : Nat) (fo : Int32) (mi : Int32) (sta : Int32) (sz : Nat) (hT : TP g L f [(h0, (0, 7, 0))]) (hm_fo : rd f h0 2 = .int fo) (hm_mi : rd f h0 3 = .int mi) (hm_sta : rd f h0 4 = .int sta) : KC l dC dI sa g yX7_takeLime wsX7_takeLime rm_X7_takeLimeE [.ref h0] L f sz (fun r L' f' => (r = none) ∧ Fr [(7, 2), (7, 3), (7, 4)] L f f' ∧ (∃ fo' : Int32, ∃ mi' : Int32, ∃ sta' : Int32, rd f' h0 2 = .int fo' ∧ rd f' h0 3 = .int mi' ∧ rd f' h0 4 = .int sta' ∧ (fo' = fo / 2) ∧ (mi' = liM sta mi) ∧ (sta' = liS sta fo) ∧ (OF 7 [h0] L f f'))) 0 0 := by
  refine CT.start (cc := cX7_takeLime) (maxL := 1) (ret := none) (by decide) rfl (Nat.le_of_ble_eq_true rfl) ?_
  intro p e s m below meth c ls hst hP hK hD hev hS hl
  obtain ⟨hx, hb, hr, hml, hts, hown, hlocks, hin⟩ := hst
  have hown : s.vm.findClass RX7 = some m.cls := hown
  have hin : meth.name = yX7_takeLime.name := hin
  have hA : ∀ q : Nat, s.heap.size ≤ q → va_A (va_pl L f) s.heap.size q := fun _ h => Or.inr h
  have hE : Ext L f L f := Ext.rf
  have hF : Fr [(7, 2), (7, 3), (7, 4)] L f f := Fr.rf
  have hO7 : OF 7 [h0] L f f := OF.rf
  have hl : lv_has ls 1 [(0, .ref h0)] := hl
  refine lv_aload_n hx hb dX7_takeLime_0 rfl (lv_at hl 0 rfl) ?_
  refine T_get (ci := 7) (C := RX7) (T := TX7) (N := 8) (t := tI) hx hb hts inw_X7_takeLime_7 hown hK hP hT 0 rfl rfl 4 (by decide) (hts (.fieldLink RX7 9 "VatHouse$Vat" "state" "I") (List.mem_of_getElem? (i := 1) (by exact rfl))) (fun _ h9 => h9) rfl dX7_takeLime_1 (fun v_3 hv_1 hr_2 => ?_)
  obtain rfl : v_3 = .int sta := hr_2.symm.trans hm_sta
  refine lv_iconst (v := 2) hx hb dX7_takeLime_4 (by decide) ?_
  refine lv_icmp_ne (tgt := 25) hx hb dX7_takeLime_5 (by decide) (fun c_4 => ?_) (fun c_4 => ?_)
  · refine lv_aload_n hx hb dX7_takeLime_25 rfl (lv_at hl 0 rfl) ?_
    refine lv_aload_n hx hb dX7_takeLime_26 rfl (lv_at hl 0 rfl) ?_
    refine T_get (ci := 7) (C := RX7) (T := TX7) (N := 8) (t := tI) hx hb hts inw_X7_takeLime_7 hown hK hP hT 0 rfl rfl 2 (by decide) (hts (.fieldLink RX7 45 "VatHouse$Vat" "food" "I") (List.mem_of_getElem? (i := 3) (by exact rfl))) (fun _ h9 => h9) rfl dX7_takeLime_27 (fun v_7 hv_5 hr_6 => ?_)
    obtain rfl : v_7 = .int fo := hr_6.symm.trans hm_fo
    refine lv_iconst (v := 2) hx hb dX7_takeLime_30 (by decide) ?_
    refine lv_idiv hx hb dX7_takeLime_31 (by decide) ?_
    refine lv_topi (fun z_8 ez_8 => ?_)
    have hTo := hT
    refine T_put (ci := 7) (v := .int z_8) (ty := .int) (t := tI) (C := RX7) (T := TX7) (N := 8) hx hb hts inw_X7_takeLime_7 tyX7 tyX7_ok nmX7 hown hK hP hD hS hT 0 rfl rfl 2 (by decide) (hts (.fieldLink RX7 45 "VatHouse$Vat" "food" "I") (List.mem_of_getElem? (i := 3) (by exact rfl))) (fun _ h9 => h9) rfl (tyX7_ok 2 (by decide)) rfl rfl rfl ⟨_, rfl⟩ dX7_takeLime_32 (fun f_9 H locs hP hD hS hT hE1 hrd_10 hup_11 => ?_)
    have hO7 := hO7.put hrd_10 (by simp)
    have hF := Fr.put (a := h0) (ci := 7) hF hE ((hE1 h0 (hT.at 0 rfl).1).2.symm.trans (hT.at 0 rfl).2) (by decide) hrd_10 hup_11
    have hE := hE.tr hE1
    have hk_12 : rd f_9 h0 2 = .int z_8 := (hrd_10 h0 2).trans (if_pos ⟨rfl, rfl⟩)
    have hk_13 : rd f_9 h0 3 = .int mi := ((Fr.put (cs := [(7, 2)]) (a := h0) (ci := 7) Fr.rf Ext.rf (hTo.at 0 rfl).2 (by decide) hrd_10 hup_11).1 h0 (hTo.at 0 rfl).1 7 (hTo.at 0 rfl).2 3 (by decide)).trans hm_mi
    have hk_14 : rd f_9 h0 4 = .int sta := ((Fr.put (cs := [(7, 2)]) (a := h0) (ci := 7) Fr.rf Ext.rf (hTo.at 0 rfl).2 (by decide) hrd_10 hup_11).1 h0 (hTo.at 0 rfl).1 7 (hTo.at 0 rfl).2 4 (by decide)).trans hm_sta
    exact K_v hx hb hr hlocks hP hD hK hS hT hE ⟨rfl, hF, _, _, _, hk_12, hk_13, hk_14, (by simp only [if_neg c_4, ← ez_8]), (by simp only [liM, if_neg c_4, ← ez_8]), (by simp only [liS, if_neg c_4, ← ez_8]), hO7⟩ (Nat.le_of_ble_eq_true rfl) (Nat.le_of_ble_eq_true rfl) dX7_takeLime_35
  · refine lv_aload_n hx hb dX7_takeLime_8 rfl (lv_at hl 0 rfl) ?_
    refine lv_iconst (v := 0) hx hb dX7_takeLime_9 (by decide) ?_
    have hTo := hT
    refine T_put (ci := 7) (v := .int 0) (ty := .int) (t := tI) (C := RX7) (T := TX7) (N := 8) hx hb hts inw_X7_takeLime_7 tyX7 tyX7_ok nmX7 hown hK hP hD hS hT 0 rfl rfl 3 (by decide) (hts (.fieldLink RX7 42 "VatHouse$Vat" "minutes" "I") (List.mem_of_getElem? (i := 2) (by exact rfl))) (fun _ h9 => h9) rfl (tyX7_ok 3 (by decide)) rfl rfl rfl ⟨_, rfl⟩ dX7_takeLime_10 (fun f_15 H locs hP hD hS hT hE1 hrd_16 hup_17 => ?_)
    have hO7 := hO7.put hrd_16 (by simp)
    have hF := Fr.put (a := h0) (ci := 7) hF hE ((hE1 h0 (hT.at 0 rfl).1).2.symm.trans (hT.at 0 rfl).2) (by decide) hrd_16 hup_17
    have hE := hE.tr hE1
    have hk_18 : rd f_15 h0 2 = .int fo := ((Fr.put (cs := [(7, 3)]) (a := h0) (ci := 7) Fr.rf Ext.rf (hTo.at 0 rfl).2 (by decide) hrd_16 hup_17).1 h0 (hTo.at 0 rfl).1 7 (hTo.at 0 rfl).2 2 (by decide)).trans hm_fo
    have hk_19 : rd f_15 h0 3 = .int 0 := (hrd_16 h0 3).trans (if_pos ⟨rfl, rfl⟩)
    have hk_20 : rd f_15 h0 4 = .int sta := ((Fr.put (cs := [(7, 3)]) (a := h0) (ci := 7) Fr.rf Ext.rf (hTo.at 0 rfl).2 (by decide) hrd_16 hup_17).1 h0 (hTo.at 0 rfl).1 7 (hTo.at 0 rfl).2 4 (by decide)).trans hm_sta
    refine lv_aload_n hx hb dX7_takeLime_13 rfl (lv_at hl 0 rfl) ?_
    refine T_get (ci := 7) (C := RX7) (T := TX7) (N := 8) (t := tI) hx hb hts inw_X7_takeLime_7 hown hK hP hT 0 rfl rfl 2 (by decide) (hts (.fieldLink RX7 45 "VatHouse$Vat" "food" "I") (List.mem_of_getElem? (i := 3) (by exact rfl))) (fun _ h9 => h9) rfl dX7_takeLime_14 (fun v_23 hv_21 hr_22 => ?_)
    obtain rfl : v_23 = .int fo := hr_22.symm.trans hk_18
    refine lv_if_le (tgt := 25) hx hb dX7_takeLime_17 (by decide) (fun c_24 => ?_) (fun c_24 => ?_)
    · refine lv_aload_n hx hb dX7_takeLime_25 rfl (lv_at hl 0 rfl) ?_
      refine lv_aload_n hx hb dX7_takeLime_26 rfl (lv_at hl 0 rfl) ?_
      refine T_get (ci := 7) (C := RX7) (T := TX7) (N := 8) (t := tI) hx hb hts inw_X7_takeLime_7 hown hK hP hT 0 rfl rfl 2 (by decide) (hts (.fieldLink RX7 45 "VatHouse$Vat" "food" "I") (List.mem_of_getElem? (i := 3) (by exact rfl))) (fun _ h9 => h9) rfl dX7_takeLime_27 (fun v_27 hv_25 hr_26 => ?_)
      obtain rfl : v_27 = .int fo := hr_26.symm.trans hk_18
      refine lv_iconst (v := 2) hx hb dX7_takeLime_30 (by decide) ?_
      refine lv_idiv hx hb dX7_takeLime_31 (by decide) ?_
      refine lv_topi (fun z_28 ez_28 => ?_)
      have hTo := hT
      refine T_put (ci := 7) (v := .int z_28) (ty := .int) (t := tI) (C := RX7) (T := TX7) (N := 8) hx hb hts inw_X7_takeLime_7 tyX7 tyX7_ok nmX7 hown hK hP hD hS hT 0 rfl rfl 2 (by decide) (hts (.fieldLink RX7 45 "VatHouse$Vat" "food" "I") (List.mem_of_getElem? (i := 3) (by exact rfl))) (fun _ h9 => h9) rfl (tyX7_ok 2 (by decide)) rfl rfl rfl ⟨_, rfl⟩ dX7_takeLime_32 (fun f_29 H locs hP hD hS hT hE1 hrd_30 hup_31 => ?_)
      have hO7 := hO7.put hrd_30 (by simp)
      have hF := Fr.put (a := h0) (ci := 7) hF hE ((hE1 h0 (hT.at 0 rfl).1).2.symm.trans (hT.at 0 rfl).2) (by decide) hrd_30 hup_31
      have hE := hE.tr hE1
      have hk_32 : rd f_29 h0 2 = .int z_28 := (hrd_30 h0 2).trans (if_pos ⟨rfl, rfl⟩)
      have hk_33 : rd f_29 h0 3 = .int 0 := ((Fr.put (cs := [(7, 2)]) (a := h0) (ci := 7) Fr.rf Ext.rf (hTo.at 0 rfl).2 (by decide) hrd_30 hup_31).1 h0 (hTo.at 0 rfl).1 7 (hTo.at 0 rfl).2 3 (by decide)).trans hk_19
      have hk_34 : rd f_29 h0 4 = .int sta := ((Fr.put (cs := [(7, 2)]) (a := h0) (ci := 7) Fr.rf Ext.rf (hTo.at 0 rfl).2 (by decide) hrd_30 hup_31).1 h0 (hTo.at 0 rfl).1 7 (hTo.at 0 rfl).2 4 (by decide)).trans hk_20
      exact K_v hx hb hr hlocks hP hD hK hS hT hE ⟨rfl, hF, _, _, _, hk_32, hk_33, hk_34, (by simp only [if_pos c_4, if_pos c_24, ← ez_28]), (by simp only [liM, if_pos c_4, if_pos c_24, ← ez_28]), (by simp only [liS, if_pos c_4, if_pos c_24, ← ez_28]), hO7⟩ (Nat.le_of_ble_eq_true rfl) (Nat.le_of_ble_eq_true rfl) dX7_takeLime_35
    · refine lv_aload_n hx hb dX7_takeLime_20 rfl (lv_at hl 0 rfl) ?_
      refine lv_iconst (v := 1) hx hb dX7_takeLime_21 (by decide) ?_
      have hTo := hT
      refine T_put (ci := 7) (v := .int 1) (ty := .int) (t := tI) (C := RX7) (T := TX7) (N := 8) hx hb hts inw_X7_takeLime_7 tyX7 tyX7_ok nmX7 hown hK hP hD hS hT 0 rfl rfl 4 (by decide) (hts (.fieldLink RX7 9 "VatHouse$Vat" "state" "I") (List.mem_of_getElem? (i := 1) (by exact rfl))) (fun _ h9 => h9) rfl (tyX7_ok 4 (by decide)) rfl rfl rfl ⟨_, rfl⟩ dX7_takeLime_22 (fun f_35 H locs hP hD hS hT hE1 hrd_36 hup_37 => ?_)
      have hO7 := hO7.put hrd_36 (by simp)
      have hF := Fr.put (a := h0) (ci := 7) hF hE ((hE1 h0 (hT.at 0 rfl).1).2.symm.trans (hT.at 0 rfl).2) (by decide) hrd_36 hup_37
      have hE := hE.tr hE1
      have hk_38 : rd f_35 h0 2 = .int fo := ((Fr.put (cs := [(7, 4)]) (a := h0) (ci := 7) Fr.rf Ext.rf (hTo.at 0 rfl).2 (by decide) hrd_36 hup_37).1 h0 (hTo.at 0 rfl).1 7 (hTo.at 0 rfl).2 2 (by decide)).trans hk_18
      have hk_39 : rd f_35 h0 3 = .int 0 := ((Fr.put (cs := [(7, 4)]) (a := h0) (ci := 7) Fr.rf Ext.rf (hTo.at 0 rfl).2 (by decide) hrd_36 hup_37).1 h0 (hTo.at 0 rfl).1 7 (hTo.at 0 rfl).2 3 (by decide)).trans hk_19
      have hk_40 : rd f_35 h0 4 = .int 1 := (hrd_36 h0 4).trans (if_pos ⟨rfl, rfl⟩)
      refine lv_aload_n hx hb dX7_takeLime_25 rfl (lv_at hl 0 rfl) ?_
      refine lv_aload_n hx hb dX7_takeLime_26 rfl (lv_at hl 0 rfl) ?_
      refine T_get (ci := 7) (C := RX7) (T := TX7) (N := 8) (t := tI) hx hb hts inw_X7_takeLime_7 hown hK hP hT 0 rfl rfl 2 (by decide) (hts (.fieldLink RX7 45 "VatHouse$Vat" "food" "I") (List.mem_of_getElem? (i := 3) (by exact rfl))) (fun _ h9 => h9) rfl dX7_takeLime_27 (fun v_43 hv_41 hr_42 => ?_)
      obtain rfl : v_43 = .int fo := hr_42.symm.trans hk_38
      refine lv_iconst (v := 2) hx hb dX7_takeLime_30 (by decide) ?_
      refine lv_idiv hx hb dX7_takeLime_31 (by decide) ?_
      refine lv_topi (fun z_44 ez_44 => ?_)
      have hTo := hT
      refine T_put (ci := 7) (v := .int z_44) (ty := .int) (t := tI) (C := RX7) (T := TX7) (N := 8) hx hb hts inw_X7_takeLime_7 tyX7 tyX7_ok nmX7 hown hK hP hD hS hT 0 rfl rfl 2 (by decide) (hts (.fieldLink RX7 45 "VatHouse$Vat" "food" "I") (List.mem_of_getElem? (i := 3) (by exact rfl))) (fun _ h9 => h9) rfl (tyX7_ok 2 (by decide)) rfl rfl rfl ⟨_, rfl⟩ dX7_takeLime_32 (fun f_45 H locs hP hD hS hT hE1 hrd_46 hup_47 => ?_)
      have hO7 := hO7.put hrd_46 (by simp)
      have hF := Fr.put (a := h0) (ci := 7) hF hE ((hE1 h0 (hT.at 0 rfl).1).2.symm.trans (hT.at 0 rfl).2) (by decide) hrd_46 hup_47
      have hE := hE.tr hE1
      have hk_48 : rd f_45 h0 2 = .int z_44 := (hrd_46 h0 2).trans (if_pos ⟨rfl, rfl⟩)
      have hk_49 : rd f_45 h0 3 = .int 0 := ((Fr.put (cs := [(7, 2)]) (a := h0) (ci := 7) Fr.rf Ext.rf (hTo.at 0 rfl).2 (by decide) hrd_46 hup_47).1 h0 (hTo.at 0 rfl).1 7 (hTo.at 0 rfl).2 3 (by decide)).trans hk_39
      have hk_50 : rd f_45 h0 4 = .int 1 := ((Fr.put (cs := [(7, 2)]) (a := h0) (ci := 7) Fr.rf Ext.rf (hTo.at 0 rfl).2 (by decide) hrd_46 hup_47).1 h0 (hTo.at 0 rfl).1 7 (hTo.at 0 rfl).2 4 (by decide)).trans hk_40
      exact K_v hx hb hr hlocks hP hD hK hS hT hE ⟨rfl, hF, _, _, _, hk_48, hk_49, hk_50, (by simp only [if_pos c_4, if_neg c_24, ← ez_44]), (by simp only [liM, if_pos c_4, if_neg c_24, ← ez_44]), (by simp only [liS, if_pos c_4, if_neg c_24, ← ez_44]), hO7⟩ (Nat.le_of_ble_eq_true rfl) (Nat.le_of_ble_eq_true rfl) dX7_takeLime_35


noncomputable abbrev rm_X8_airOutE : Room := { frames := 1, cells := 0, slots := 0, locals := 21 }
set_option maxHeartbeats 800000 in
set_option maxRecDepth 100000 in
theorem t_X8_airOutE (l : Launch) (dC : Nat → ClassId) (dI : Nat → Nat → Nat) (sa : Nat → Nat) (hlt : l.stackTraces = false) (g : Nat → Nat) (L : List Nat) (f : Nat → va_E) (h0 : Nat) (o : Nat) (lo : Int32) (fa : Int32) (dr : Int32) (sz : Nat) (hT : TP g L f [(h0, (0, 8, 0)), (o, (0, 0, 0))]) (hm_lo : rd f o 2 = .int lo) (hm_fa : rd f o 3 = .int fa) (hm_dr : rd f h0 2 = .int dr) : KC l dC dI sa g yX8_airOut wsX8_airOut rm_X8_airOutE [.ref h0, .ref o] L f sz (fun r L' f' => (∃ z : Int32, r = some (.int z)) ∧ Fr [(0, 2), (0, 3), (8, 2)] L f f' ∧ (∃ lo' : Int32, ∃ fa' : Int32, ∃ dr' : Int32, rd f' o 2 = .int lo' ∧ rd f' o 3 = .int fa' ∧ rd f' h0 2 = .int dr' ∧ (lo' = 0) ∧ (fa' = fa + (lo - lo / 8)) ∧ (dr' = dr + lo / 8) ∧ (OF 0 [o] L f f' ∧ OF 8 [h0] L f f' ∧ (r = some (.int (lo / 8)))))) 0 0 := by
  refine CT.start (cc := cX8_airOut) (maxL := 3) (ret := (some .int)) (by decide) rfl (Nat.le_of_ble_eq_true rfl) ?_
  intro p e s m below meth c ls hst hP hK hD hev hS hl
  obtain ⟨hx, hb, hr, hml, hts, hown, hlocks, hin⟩ := hst
  have hown : s.vm.findClass RX8 = some m.cls := hown
  have hin : meth.name = yX8_airOut.name := hin
  have hA : ∀ q : Nat, s.heap.size ≤ q → va_A (va_pl L f) s.heap.size q := fun _ h => Or.inr h
  have hE : Ext L f L f := Ext.rf
  have hF : Fr [(0, 2), (0, 3), (8, 2)] L f f := Fr.rf
  have hO0 : OF 0 [o] L f f := OF.rf
  have hO8 : OF 8 [h0] L f f := OF.rf
  have hl : lv_has ls 3 [(0, .ref h0), (1, .ref o)] := hl
  refine lv_aload_n hx hb dX8_airOut_0 rfl (lv_at hl 1 rfl) ?_
  have hTo := hT
  refine K_V ⟨hx, hb, hml, hown, hts⟩ (t_X0_loseByAirE l dC dI sa hlt g _ _ o lo fa _ (hT.sub [1] rfl)  hm_lo hm_fa ) (cwV 0 hts gX8_airOut_X0_loseByAir rfl rfl rfl (by decide +kernel) ⟨Nat.le_of_ble_eq_true rfl, Nat.le_of_ble_eq_true rfl⟩) hP hD hK hS hA hev hT 1 0 rfl rfl rfl rfl hl.1 rfl (Nat.le_of_ble_eq_true rfl) dX8_airOut_1 ⟨Nat.le_of_ble_eq_true rfl, Nat.le_of_ble_eq_true rfl⟩ (fun r L_1 f_2 H locs hw_3 hP hD hS hT hE1 => ?_)
  have hEo := hE
  have hO8 := hO8.call hE (OF.fr hw_3.2.1 (by decide)) (by simp)
  have hF := Fr.call hF hE hw_3.2.1 (by decide)
  have hE := hE.tr hE1
  obtain ⟨⟨z_4, rfl⟩, hw_3⟩ := hw_3
  obtain ⟨hfr_5, lo_6, fa_7, hk_8, hk_9, hrel_10, hrel_11, hex_12⟩ := hw_3
  obtain ⟨hof_13, hex_14⟩ := hex_12
  have hO0 := hO0.call hEo hof_13 (by simp)
  have hk_15 : rd f_2 h0 2 = .int dr := (hfr_5.1 h0 (hTo.at 0 rfl).1 8 (hTo.at 0 rfl).2 2 (by decide)).trans hm_dr
  have ez_4 : z_4 = lo / 8 := sv hex_14
  refine W.eq (g2 := F0 m 4 ls [.int z_4]) rfl ?_
  refine lv_istore_n (lv' := [(2, .int z_4), (0, .ref h0), (1, .ref o)]) hx hb dX8_airOut_4 rfl hl (by decide) rfl (fun ls hl => ?_)
  refine lv_aload_n hx hb dX8_airOut_5 rfl (lv_at hl 1 rfl) ?_
  refine lv_dup hx hb dX8_airOut_6 rfl ?_
  refine T_get (ci := 8) (C := RX8) (T := TX8) (N := 3) (t := tI) hx hb hts inw_X8_airOut_8 hown hK hP hT 0 rfl rfl 2 (by decide) (hts (.fieldLink RX8 58 "VatHouse$Works" "drain" "I") (List.mem_of_getElem? (i := 1) (by exact rfl))) (fun _ h9 => h9) rfl dX8_airOut_7 (fun v_18 hv_16 hr_17 => ?_)
  obtain rfl : v_18 = .int dr := hr_17.symm.trans hk_15
  refine lv_iload_n hx hb dX8_airOut_10 rfl (lv_at hl 0 rfl) ?_
  refine lv_iadd hx hb dX8_airOut_11 ?_
  refine lv_topi (fun z_19 ez_19 => ?_)
  have hTo := hT
  refine T_put (ci := 8) (v := .int z_19) (ty := .int) (t := tI) (C := RX8) (T := TX8) (N := 3) hx hb hts inw_X8_airOut_8 tyX8 tyX8_ok nmX8 hown hK hP hD hS hT 0 rfl rfl 2 (by decide) (hts (.fieldLink RX8 58 "VatHouse$Works" "drain" "I") (List.mem_of_getElem? (i := 1) (by exact rfl))) (fun _ h9 => h9) rfl (tyX8_ok 2 (by decide)) rfl rfl rfl ⟨_, rfl⟩ dX8_airOut_12 (fun f_20 H locs hP hD hS hT hE1 hrd_21 hup_22 => ?_)
  have hO0 := OF.putN (a := h0) (cj := 8) hO0 hE ((hE1 h0 (hT.at 0 rfl).1).2.symm.trans (hT.at 0 rfl).2) (by decide) hrd_21
  have hO8 := hO8.put hrd_21 (by simp)
  have hF := Fr.put (a := h0) (ci := 8) hF hE ((hE1 h0 (hT.at 0 rfl).1).2.symm.trans (hT.at 0 rfl).2) (by decide) hrd_21 hup_22
  have hE := hE.tr hE1
  have hk_23 : rd f_20 o 2 = .int lo_6 := ((Fr.put (cs := [(8, 2)]) (a := h0) (ci := 8) Fr.rf Ext.rf (hTo.at 0 rfl).2 (by decide) hrd_21 hup_22).1 o (hTo.at 1 rfl).1 0 (hTo.at 1 rfl).2 2 (by decide)).trans hk_8
  have hk_24 : rd f_20 o 3 = .int fa_7 := ((Fr.put (cs := [(8, 2)]) (a := h0) (ci := 8) Fr.rf Ext.rf (hTo.at 0 rfl).2 (by decide) hrd_21 hup_22).1 o (hTo.at 1 rfl).1 0 (hTo.at 1 rfl).2 3 (by decide)).trans hk_9
  have hk_25 : rd f_20 h0 2 = .int z_19 := (hrd_21 h0 2).trans (if_pos ⟨rfl, rfl⟩)
  refine lv_iload_n hx hb dX8_airOut_15 rfl (lv_at hl 0 rfl) ?_
  exact K_i hx hb hr hlocks hP hD hK hS hT hE ⟨⟨_, rfl⟩, hF, _, _, _, hk_23, hk_24, hk_25, hrel_10, hrel_11, (by simp only [← ez_4, ← ez_19]), hO0, hO8, (by simp only [← ez_4, ← ez_19])⟩ (Nat.le_of_ble_eq_true rfl) (Nat.le_of_ble_eq_true rfl) dX8_airOut_16

noncomputable abbrev rm_X8_washOutE : Room := { frames := 1, cells := 0, slots := 0, locals := 22 }
set_option maxHeartbeats 800000 in
set_option maxRecDepth 100000 in
theorem t_X8_washOutE (l : Launch) (dC : Nat → ClassId) (dI : Nat → Nat → Nat) (sa : Nat → Nat) (hlt : l.stackTraces = false) (g : Nat → Nat) (L : List Nat) (f : Nat → va_E) (h0 : Nat) (o : Nat) (lo : Int32) (fa : Int32) (dr : Int32) (sz : Nat) (hT : TP g L f [(h0, (0, 8, 0)), (o, (0, 0, 0))]) (hm_lo : rd f o 2 = .int lo) (hm_fa : rd f o 3 = .int fa) (hm_dr : rd f h0 2 = .int dr) : KC l dC dI sa g yX8_washOut wsX8_washOut rm_X8_washOutE [.ref h0, .ref o] L f sz (fun r L' f' => (∃ z : Int32, r = some (.int z)) ∧ Fr [(0, 2), (0, 3), (8, 2)] L f f' ∧ (∃ lo' : Int32, ∃ fa' : Int32, ∃ dr' : Int32, rd f' o 2 = .int lo' ∧ rd f' o 3 = .int fa' ∧ rd f' h0 2 = .int dr' ∧ (lo' = 0) ∧ (fa' = fa - fa / 20) ∧ (dr' = dr + (lo + fa / 20)) ∧ (OF 0 [o] L f f' ∧ OF 8 [h0] L f f' ∧ (r = some (.int (lo + fa / 20)))))) 0 0 := by
  refine CT.start (cc := cX8_washOut) (maxL := 3) (ret := (some .int)) (by decide) rfl (Nat.le_of_ble_eq_true rfl) ?_
  intro p e s m below meth c ls hst hP hK hD hev hS hl
  obtain ⟨hx, hb, hr, hml, hts, hown, hlocks, hin⟩ := hst
  have hown : s.vm.findClass RX8 = some m.cls := hown
  have hin : meth.name = yX8_washOut.name := hin
  have hA : ∀ q : Nat, s.heap.size ≤ q → va_A (va_pl L f) s.heap.size q := fun _ h => Or.inr h
  have hE : Ext L f L f := Ext.rf
  have hF : Fr [(0, 2), (0, 3), (8, 2)] L f f := Fr.rf
  have hO0 : OF 0 [o] L f f := OF.rf
  have hO8 : OF 8 [h0] L f f := OF.rf
  have hl : lv_has ls 3 [(0, .ref h0), (1, .ref o)] := hl
  refine lv_aload_n hx hb dX8_washOut_0 rfl (lv_at hl 1 rfl) ?_
  have hTo := hT
  refine K_V ⟨hx, hb, hml, hown, hts⟩ (t_X0_loseByWashE l dC dI sa hlt g _ _ o lo fa _ (hT.sub [1] rfl)  hm_lo hm_fa ) (cwV 0 hts gX8_washOut_X0_loseByWash rfl rfl rfl (by decide +kernel) ⟨Nat.le_of_ble_eq_true rfl, Nat.le_of_ble_eq_true rfl⟩) hP hD hK hS hA hev hT 1 0 rfl rfl rfl rfl hl.1 rfl (Nat.le_of_ble_eq_true rfl) dX8_washOut_1 ⟨Nat.le_of_ble_eq_true rfl, Nat.le_of_ble_eq_true rfl⟩ (fun r L_1 f_2 H locs hw_3 hP hD hS hT hE1 => ?_)
  have hEo := hE
  have hO8 := hO8.call hE (OF.fr hw_3.2.1 (by decide)) (by simp)
  have hF := Fr.call hF hE hw_3.2.1 (by decide)
  have hE := hE.tr hE1
  obtain ⟨⟨z_4, rfl⟩, hw_3⟩ := hw_3
  obtain ⟨hfr_5, lo_6, fa_7, hk_8, hk_9, hrel_10, hrel_11, hex_12⟩ := hw_3
  obtain ⟨hof_13, hex_14⟩ := hex_12
  have hO0 := hO0.call hEo hof_13 (by simp)
  have hk_15 : rd f_2 h0 2 = .int dr := (hfr_5.1 h0 (hTo.at 0 rfl).1 8 (hTo.at 0 rfl).2 2 (by decide)).trans hm_dr
  have ez_4 : z_4 = lo + fa / 20 := sv hex_14
  refine W.eq (g2 := F0 m 4 ls [.int z_4]) rfl ?_
  refine lv_istore_n (lv' := [(2, .int z_4), (0, .ref h0), (1, .ref o)]) hx hb dX8_washOut_4 rfl hl (by decide) rfl (fun ls hl => ?_)
  refine lv_aload_n hx hb dX8_washOut_5 rfl (lv_at hl 1 rfl) ?_
  refine lv_dup hx hb dX8_washOut_6 rfl ?_
  refine T_get (ci := 8) (C := RX8) (T := TX8) (N := 3) (t := tI) hx hb hts inw_X8_washOut_8 hown hK hP hT 0 rfl rfl 2 (by decide) (hts (.fieldLink RX8 58 "VatHouse$Works" "drain" "I") (List.mem_of_getElem? (i := 1) (by exact rfl))) (fun _ h9 => h9) rfl dX8_washOut_7 (fun v_18 hv_16 hr_17 => ?_)
  obtain rfl : v_18 = .int dr := hr_17.symm.trans hk_15
  refine lv_iload_n hx hb dX8_washOut_10 rfl (lv_at hl 0 rfl) ?_
  refine lv_iadd hx hb dX8_washOut_11 ?_
  refine lv_topi (fun z_19 ez_19 => ?_)
  have hTo := hT
  refine T_put (ci := 8) (v := .int z_19) (ty := .int) (t := tI) (C := RX8) (T := TX8) (N := 3) hx hb hts inw_X8_washOut_8 tyX8 tyX8_ok nmX8 hown hK hP hD hS hT 0 rfl rfl 2 (by decide) (hts (.fieldLink RX8 58 "VatHouse$Works" "drain" "I") (List.mem_of_getElem? (i := 1) (by exact rfl))) (fun _ h9 => h9) rfl (tyX8_ok 2 (by decide)) rfl rfl rfl ⟨_, rfl⟩ dX8_washOut_12 (fun f_20 H locs hP hD hS hT hE1 hrd_21 hup_22 => ?_)
  have hO0 := OF.putN (a := h0) (cj := 8) hO0 hE ((hE1 h0 (hT.at 0 rfl).1).2.symm.trans (hT.at 0 rfl).2) (by decide) hrd_21
  have hO8 := hO8.put hrd_21 (by simp)
  have hF := Fr.put (a := h0) (ci := 8) hF hE ((hE1 h0 (hT.at 0 rfl).1).2.symm.trans (hT.at 0 rfl).2) (by decide) hrd_21 hup_22
  have hE := hE.tr hE1
  have hk_23 : rd f_20 o 2 = .int lo_6 := ((Fr.put (cs := [(8, 2)]) (a := h0) (ci := 8) Fr.rf Ext.rf (hTo.at 0 rfl).2 (by decide) hrd_21 hup_22).1 o (hTo.at 1 rfl).1 0 (hTo.at 1 rfl).2 2 (by decide)).trans hk_8
  have hk_24 : rd f_20 o 3 = .int fa_7 := ((Fr.put (cs := [(8, 2)]) (a := h0) (ci := 8) Fr.rf Ext.rf (hTo.at 0 rfl).2 (by decide) hrd_21 hup_22).1 o (hTo.at 1 rfl).1 0 (hTo.at 1 rfl).2 3 (by decide)).trans hk_9
  have hk_25 : rd f_20 h0 2 = .int z_19 := (hrd_21 h0 2).trans (if_pos ⟨rfl, rfl⟩)
  refine lv_iload_n hx hb dX8_washOut_15 rfl (lv_at hl 0 rfl) ?_
  exact K_i hx hb hr hlocks hP hD hK hS hT hE ⟨⟨_, rfl⟩, hF, _, _, _, hk_23, hk_24, hk_25, hrel_10, hrel_11, (by simp only [← ez_4, ← ez_19]), hO0, hO8, (by simp only [← ez_4, ← ez_19])⟩ (Nat.le_of_ble_eq_true rfl) (Nat.le_of_ble_eq_true rfl) dX8_washOut_16

noncomputable abbrev rm_X8_dryOutE : Room := { frames := 2, cells := 0, slots := 0, locals := 43 }
set_option maxHeartbeats 800000 in
set_option maxRecDepth 100000 in
theorem t_X8_dryOutE (l : Launch) (dC : Nat → ClassId) (dI : Nat → Nat → Nat) (sa : Nat → Nat) (hlt : l.stackTraces = false) (g : Nat → Nat) (L : List Nat) (f : Nat → va_E) (h0 : Nat) (o : Nat) (lo : Int32) (fa : Int32) (dr : Int32) (dy : Int32) (da : Int32) (ho : Int32) (sz : Nat) (hT : TP g L f [(h0, (0, 8, 0)), (o, (0, 0, 0))]) (hm_lo : rd f o 2 = .int lo) (hm_fa : rd f o 3 = .int fa) (hm_dr : rd f h0 2 = .int dr) (hm_dy : rd f o 4 = .int dy) (hm_da : rd f o 5 = .int da) (hm_ho : rd f h0 1 = .int ho) : KC l dC dI sa g yX8_dryOut wsX8_dryOut rm_X8_dryOutE [.ref h0, .ref o] L f sz (fun r L' f' => (∃ z : Int32, r = some (.int z)) ∧ Fr [(0, 2), (0, 3), (0, 4), (0, 5), (8, 2)] L f f' ∧ (∃ lo' : Int32, ∃ fa' : Int32, ∃ dr' : Int32, ∃ dy' : Int32, ∃ da' : Int32, rd f' o 2 = .int lo' ∧ rd f' o 3 = .int fa' ∧ rd f' h0 2 = .int dr' ∧ rd f' o 4 = .int dy' ∧ rd f' o 5 = .int da' ∧ (lo' = 0) ∧ (fa' = fa + (lo - lo / 8)) ∧ (dr' = dr + lo / 8) ∧ (dy' = 1) ∧ (da' = ho / 24) ∧ (OF 0 [o] L f f' ∧ OF 8 [h0] L f f' ∧ (r = some (.int (lo / 8)))))) 0 0 := by
  refine CT.start (cc := cX8_dryOut) (maxL := 3) (ret := (some .int)) (by decide) rfl (Nat.le_of_ble_eq_true rfl) ?_
  intro p e s m below meth c ls hst hP hK hD hev hS hl
  obtain ⟨hx, hb, hr, hml, hts, hown, hlocks, hin⟩ := hst
  have hown : s.vm.findClass RX8 = some m.cls := hown
  have hin : meth.name = yX8_dryOut.name := hin
  have hA : ∀ q : Nat, s.heap.size ≤ q → va_A (va_pl L f) s.heap.size q := fun _ h => Or.inr h
  have hE : Ext L f L f := Ext.rf
  have hF : Fr [(0, 2), (0, 3), (0, 4), (0, 5), (8, 2)] L f f := Fr.rf
  have hO0 : OF 0 [o] L f f := OF.rf
  have hO8 : OF 8 [h0] L f f := OF.rf
  have hl : lv_has ls 3 [(0, .ref h0), (1, .ref o)] := hl
  refine lv_aload_n hx hb dX8_dryOut_0 rfl (lv_at hl 0 rfl) ?_
  refine lv_aload_n hx hb dX8_dryOut_1 rfl (lv_at hl 1 rfl) ?_
  have hTo := hT
  refine K_V ⟨hx, hb, hml, hown, hts⟩ (t_X8_airOutE l dC dI sa hlt g _ _ h0 o lo fa dr _ (hT.sub [0, 1] rfl)  hm_lo hm_fa hm_dr ) (cwV 1 hts gX8_dryOut_X8_airOut rfl rfl rfl (by decide +kernel) ⟨Nat.le_of_ble_eq_true rfl, Nat.le_of_ble_eq_true rfl⟩) hP hD hK hS hA hev hT 0 8 rfl rfl rfl rfl hl.1 rfl (Nat.le_of_ble_eq_true rfl) dX8_dryOut_2 ⟨Nat.le_of_ble_eq_true rfl, Nat.le_of_ble_eq_true rfl⟩ (fun r L_1 f_2 H locs hw_3 hP hD hS hT hE1 => ?_)
  have hEo := hE
  have hF := Fr.call hF hE hw_3.2.1 (by decide)
  have hE := hE.tr hE1
  obtain ⟨⟨z_4, rfl⟩, hw_3⟩ := hw_3
  obtain ⟨hfr_5, lo_6, fa_7, dr_8, hk_9, hk_10, hk_11, hrel_12, hrel_13, hrel_14, hex_15⟩ := hw_3
  obtain ⟨hof_16, hof_17, hex_18⟩ := hex_15
  have hO0 := hO0.call hEo hof_16 (by simp)
  have hO8 := hO8.call hEo hof_17 (by simp)
  have hk_19 : rd f_2 o 4 = .int dy := (hfr_5.1 o (hTo.at 1 rfl).1 0 (hTo.at 1 rfl).2 4 (by decide)).trans hm_dy
  have hk_20 : rd f_2 o 5 = .int da := (hfr_5.1 o (hTo.at 1 rfl).1 0 (hTo.at 1 rfl).2 5 (by decide)).trans hm_da
  have hk_21 : rd f_2 h0 1 = .int ho := (hfr_5.1 h0 (hTo.at 0 rfl).1 8 (hTo.at 0 rfl).2 1 (by decide)).trans hm_ho
  have ez_4 : z_4 = lo / 8 := sv hex_18
  refine W.eq (g2 := F0 m 5 ls [.int z_4]) rfl ?_
  refine lv_istore_n (lv' := [(2, .int z_4), (0, .ref h0), (1, .ref o)]) hx hb dX8_dryOut_5 rfl hl (by decide) rfl (fun ls hl => ?_)
  refine lv_aload_n hx hb dX8_dryOut_6 rfl (lv_at hl 2 rfl) ?_
  refine lv_iconst (v := 1) hx hb dX8_dryOut_7 (by decide) ?_
  have hTo := hT
  refine T_put (ci := 0) (v := .int 1) (ty := .boolean) (t := tI) (C := RX0) (T := TX0) (N := 8) hx hb hts inw_X8_dryOut_0 tyX0 tyX0_ok nmX0 hown hK hP hD hS hT 1 rfl rfl 4 (by decide) (hts (.fieldLink RX8 68 "VatHouse$Cloth" "dry" "Z") (List.mem_of_getElem? (i := 1) (by exact rfl))) (fun _ h9 => h9) rfl (tyX0_ok 4 (by decide)) rfl rfl rfl ⟨_, rfl⟩ dX8_dryOut_8 (fun f_22 H locs hP hD hS hT hE1 hrd_23 hup_24 => ?_)
  have hO0 := hO0.put hrd_23 (by simp)
  have hO8 := OF.putN (a := o) (cj := 0) hO8 hE ((hE1 o (hT.at 1 rfl).1).2.symm.trans (hT.at 1 rfl).2) (by decide) hrd_23
  have hF := Fr.put (a := o) (ci := 0) hF hE ((hE1 o (hT.at 1 rfl).1).2.symm.trans (hT.at 1 rfl).2) (by decide) hrd_23 hup_24
  have hE := hE.tr hE1
  have hk_25 : rd f_22 o 2 = .int lo_6 := ((Fr.put (cs := [(0, 4)]) (a := o) (ci := 0) Fr.rf Ext.rf (hTo.at 1 rfl).2 (by decide) hrd_23 hup_24).1 o (hTo.at 1 rfl).1 0 (hTo.at 1 rfl).2 2 (by decide)).trans hk_9
  have hk_26 : rd f_22 o 3 = .int fa_7 := ((Fr.put (cs := [(0, 4)]) (a := o) (ci := 0) Fr.rf Ext.rf (hTo.at 1 rfl).2 (by decide) hrd_23 hup_24).1 o (hTo.at 1 rfl).1 0 (hTo.at 1 rfl).2 3 (by decide)).trans hk_10
  have hk_27 : rd f_22 h0 2 = .int dr_8 := ((Fr.put (cs := [(0, 4)]) (a := o) (ci := 0) Fr.rf Ext.rf (hTo.at 1 rfl).2 (by decide) hrd_23 hup_24).1 h0 (hTo.at 0 rfl).1 8 (hTo.at 0 rfl).2 2 (by decide)).trans hk_11
  have hk_28 : rd f_22 o 4 = .int 1 := (hrd_23 o 4).trans (if_pos ⟨rfl, rfl⟩)
  have hk_29 : rd f_22 o 5 = .int da := ((Fr.put (cs := [(0, 4)]) (a := o) (ci := 0) Fr.rf Ext.rf (hTo.at 1 rfl).2 (by decide) hrd_23 hup_24).1 o (hTo.at 1 rfl).1 0 (hTo.at 1 rfl).2 5 (by decide)).trans hk_20
  have hk_30 : rd f_22 h0 1 = .int ho := ((Fr.put (cs := [(0, 4)]) (a := o) (ci := 0) Fr.rf Ext.rf (hTo.at 1 rfl).2 (by decide) hrd_23 hup_24).1 h0 (hTo.at 0 rfl).1 8 (hTo.at 0 rfl).2 1 (by decide)).trans hk_21
  refine lv_aload_n hx hb dX8_dryOut_11 rfl (lv_at hl 2 rfl) ?_
  refine lv_aload_n hx hb dX8_dryOut_12 rfl (lv_at hl 1 rfl) ?_
  refine T_get (ci := 8) (C := RX8) (T := TX8) (N := 3) (t := tI) hx hb hts inw_X8_dryOut_8 hown hK hP hT 0 rfl rfl 1 (by decide) (hts (.fieldLink RX8 31 "VatHouse$Works" "hours" "I") (List.mem_of_getElem? (i := 2) (by exact rfl))) (fun _ h9 => h9) rfl dX8_dryOut_13 (fun v_33 hv_31 hr_32 => ?_)
  obtain rfl : v_33 = .int ho := hr_32.symm.trans hk_30
  refine lv_bipush (v := 24) hx hb dX8_dryOut_16 (by decide) ?_
  refine lv_idiv hx hb dX8_dryOut_18 (by decide) ?_
  refine lv_topi (fun z_34 ez_34 => ?_)
  have hTo := hT
  refine T_put (ci := 0) (v := .int z_34) (ty := .int) (t := tI) (C := RX0) (T := TX0) (N := 8) hx hb hts inw_X8_dryOut_0 tyX0 tyX0_ok nmX0 hown hK hP hD hS hT 1 rfl rfl 5 (by decide) (hts (.fieldLink RX8 72 "VatHouse$Cloth" "day" "I") (List.mem_of_getElem? (i := 3) (by exact rfl))) (fun _ h9 => h9) rfl (tyX0_ok 5 (by decide)) rfl rfl rfl ⟨_, rfl⟩ dX8_dryOut_19 (fun f_35 H locs hP hD hS hT hE1 hrd_36 hup_37 => ?_)
  have hO0 := hO0.put hrd_36 (by simp)
  have hO8 := OF.putN (a := o) (cj := 0) hO8 hE ((hE1 o (hT.at 1 rfl).1).2.symm.trans (hT.at 1 rfl).2) (by decide) hrd_36
  have hF := Fr.put (a := o) (ci := 0) hF hE ((hE1 o (hT.at 1 rfl).1).2.symm.trans (hT.at 1 rfl).2) (by decide) hrd_36 hup_37
  have hE := hE.tr hE1
  have hk_38 : rd f_35 o 2 = .int lo_6 := ((Fr.put (cs := [(0, 5)]) (a := o) (ci := 0) Fr.rf Ext.rf (hTo.at 1 rfl).2 (by decide) hrd_36 hup_37).1 o (hTo.at 1 rfl).1 0 (hTo.at 1 rfl).2 2 (by decide)).trans hk_25
  have hk_39 : rd f_35 o 3 = .int fa_7 := ((Fr.put (cs := [(0, 5)]) (a := o) (ci := 0) Fr.rf Ext.rf (hTo.at 1 rfl).2 (by decide) hrd_36 hup_37).1 o (hTo.at 1 rfl).1 0 (hTo.at 1 rfl).2 3 (by decide)).trans hk_26
  have hk_40 : rd f_35 h0 2 = .int dr_8 := ((Fr.put (cs := [(0, 5)]) (a := o) (ci := 0) Fr.rf Ext.rf (hTo.at 1 rfl).2 (by decide) hrd_36 hup_37).1 h0 (hTo.at 0 rfl).1 8 (hTo.at 0 rfl).2 2 (by decide)).trans hk_27
  have hk_41 : rd f_35 o 4 = .int 1 := ((Fr.put (cs := [(0, 5)]) (a := o) (ci := 0) Fr.rf Ext.rf (hTo.at 1 rfl).2 (by decide) hrd_36 hup_37).1 o (hTo.at 1 rfl).1 0 (hTo.at 1 rfl).2 4 (by decide)).trans hk_28
  have hk_42 : rd f_35 o 5 = .int z_34 := (hrd_36 o 5).trans (if_pos ⟨rfl, rfl⟩)
  have hk_43 : rd f_35 h0 1 = .int ho := ((Fr.put (cs := [(0, 5)]) (a := o) (ci := 0) Fr.rf Ext.rf (hTo.at 1 rfl).2 (by decide) hrd_36 hup_37).1 h0 (hTo.at 0 rfl).1 8 (hTo.at 0 rfl).2 1 (by decide)).trans hk_30
  refine lv_iload_n hx hb dX8_dryOut_22 rfl (lv_at hl 0 rfl) ?_
  exact K_i hx hb hr hlocks hP hD hK hS hT hE ⟨⟨_, rfl⟩, hF, _, _, _, _, _, hk_38, hk_39, hk_40, hk_41, hk_42, hrel_12, hrel_13, hrel_14, (by simp only [← ez_4, ← ez_34]), (by simp only [← ez_4, ← ez_34]), hO0, hO8, (by simp only [← ez_4, ← ez_34])⟩ (Nat.le_of_ble_eq_true rfl) (Nat.le_of_ble_eq_true rfl) dX8_dryOut_23

