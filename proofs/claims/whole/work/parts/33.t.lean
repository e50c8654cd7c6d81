theorem up_ge {ii : Int32} {a k : Nat} (hii : ii = nI a) (ha : a ≤ k) (hk : k < 2 ^ 31) (h : nI k ≤ ii) : a = k := by
  subst hii
  rcases Nat.lt_or_ge a k with h1 | h1
  · exact absurd (nI_lt h1 (by omega)) (fun g => by rw [Int32.lt_iff_toInt_lt] at g; rw [Int32.le_iff_toInt_le] at h; omega)
  · omega
theorem nI_cl {x : Int32} (h : 0 ≤ x.toInt) : x = nI x.toNatClampNeg := by
  have := clamp_i h
  refine Int32.toInt_inj.mp ?_
  rw [nI_toInt (by have := Int32.toInt_lt x; omega)]
  omega
theorem lt1_0 {a : Int32} (h : 0 ≤ a.toInt) (ck : ¬ 1 ≤ a) : a = 0 := by
  rw [Int32.le_iff_toInt_le] at ck
  have c1 : (1 : Int32).toInt = 1 := by decide
  exact Int32.toInt_inj.mp (by show a.toInt = 0; omega)
theorem ge1_n {a : Int32} (ck : 1 ≤ a) : ¬ a = 0 := fun e => by
  subst e
  exact absurd ck (by decide)

noncomputable abbrev rm_X8_vatAtE : Room := { frames := 0, cells := 0, slots := 0, locals := 0 }
set_option maxHeartbeats 800000 in
set_option maxRecDepth 100000 in
theorem t_X8_vatAtE (l : Launch) (dC : Nat → ClassId) (dI : Nat → Nat → Nat) (sa : Nat → Nat) (hlt : l.stackTraces = false) (g : Nat → Nat) (L : List Nat) (f : Nat → va_E) (k : Nat) (b : Nat) (h0 : Nat) (num : Int32) (vs : Nat) (sz : Nat) (hT : TP g L f [(h0, (0, 8, 0)), (vs, (2, g 2, 6))]) (h_vs : rd f h0 0 = .ref vs) (hnum : num = nI k) (hk : k < 6) (hra0 : ra f vs k = some b) : KC l dC dI sa g yX8_vatAt wsX8_vatAt rm_X8_vatAtE [.ref h0, .int num] L f sz (fun r L' f' => (∃ v : Value, r = some v ∧ okv L' f' (1, 0, 7, 0) v) ∧ Fr [] L f f' ∧ (r = some (.ref b))) 0 0 := by
  refine CT.start (cc := cX8_vatAt) (maxL := 2) (ret := (some (.object "VatHouse$Vat"))) (by decide) rfl (Nat.le_of_ble_eq_true rfl) ?_
  intro p e s m below meth c ls hst hP hK hD hev hS hl
  obtain ⟨hx, hb, hr, hml, hts, hown, hlocks, hin⟩ := hst
  have hown : s.vm.findClass RX8 = some m.cls := hown
  have hin : meth.name = yX8_vatAt.name := hin
  have hA : ∀ q : Nat, s.heap.size ≤ q → va_A (va_pl L f) s.heap.size q := fun _ h => Or.inr h
  have hE : Ext L f L f := Ext.rf
  have hF : Fr [] L f f := Fr.rf
  have hl : lv_has ls 2 [(0, .ref h0), (1, .int num)] := hl
  have hT0 := hT
  refine lv_iload_n hx hb dX8_vatAt_0 rfl (lv_at hl 1 rfl) ?_
  refine lv_if_lt (tgt := 13) hx hb dX8_vatAt_1 (by decide) (fun c_1 => ?_) (fun c_1 => ?_)
  · exact absurd c_1 (by rw [hnum]; exact nI_pos (by omega))
  refine lv_iload_n hx hb dX8_vatAt_4 rfl (lv_at hl 1 rfl) ?_
  refine lv_aload_n hx hb dX8_vatAt_5 rfl (lv_at hl 0 rfl) ?_
  refine T_get (ci := 8) (C := RX8) (T := TX8) (N := 3) (t := (1, 2, g 2, 6)) hx hb hts inw_X8_vatAt_8 hown hK hP hT 0 rfl rfl 0 (by decide) (hts (.fieldLink RX8 11 "VatHouse$Works" "vats" "[LVatHouse$Vat;") (List.mem_of_getElem? (i := 3) (by exact rfl))) (fun _ h9 => h9) rfl dX8_vatAt_6 (fun v_4 hv_2 hr_3 => ?_)
  obtain rfl : v_4 = .ref vs := hr_3.symm.trans ((hF.1 h0 (hT0.at 0 rfl).1 8 (hT0.at 0 rfl).2 0 (by decide)).trans h_vs)
  refine T_alen hx hb hK hP hT 1 2 rfl rfl (v := 6) rfl dX8_vatAt_9 ?_
  refine lv_icmp_lt (tgt := 23) hx hb dX8_vatAt_10 (by decide) (fun c_5 => ?_) (fun c_5 => ?_)
  rotate_left
  · exact absurd c_5 (fun h9 => h9 (by rw [hnum]; exact nI_lt hk (by decide)))
  refine lv_aload_n hx hb dX8_vatAt_23 rfl (lv_at hl 0 rfl) ?_
  refine T_get (ci := 8) (C := RX8) (T := TX8) (N := 3) (t := (1, 2, g 2, 6)) hx hb hts inw_X8_vatAt_8 hown hK hP hT 0 rfl rfl 0 (by decide) (hts (.fieldLink RX8 11 "VatHouse$Works" "vats" "[LVatHouse$Vat;") (List.mem_of_getElem? (i := 3) (by exact rfl))) (fun _ h9 => h9) rfl dX8_vatAt_24 (fun v_8 hv_6 hr_7 => ?_)
  obtain rfl : v_8 = .ref vs := hr_7.symm.trans ((hF.1 h0 (hT0.at 0 rfl).1 8 (hT0.at 0 rfl).2 0 (by decide)).trans h_vs)
  refine lv_iload_n hx hb dX8_vatAt_27 rfl (lv_at hl 1 rfl) ?_
  refine T_vald hx hb hK hP hT 1 2 (Or.inl rfl) rfl rfl (by rw [hnum]; exact vp_in_nI hk (by decide)) dX8_vatAt_28 (fun b_9 hb9 hra => ?_)
  have hT := hT.add hb9
  exact K_a hx hb hr (Or.inl ⟨_, rfl⟩) (Or.inr ⟨_, rfl⟩) hlocks hP hD hK hS hT hE ⟨⟨_, rfl, _, rfl, hT.at 0 rfl⟩, hF, (by rw [hnum, nI_clamp (by omega)] at hra; rw [Option.some.inj (hra.symm.trans hra0)])⟩ (Nat.le_of_ble_eq_true rfl) (Nat.le_of_ble_eq_true rfl) dX8_vatAt_29


section CFS
variable {g : Nat → Nat} {L : List Nat} {f : Nat → va_E} {x0 wk vs cl ru b ck : Nat} {va : Nat → Nat} {sA : AS}
theorem SR.cf1 (h : SR g L f (x0, wk, vs, cl, ru, va) sA) (hc : (ck : Int) < (sA.1 12).toInt) (hb : ra f cl ck = some b) : rd f b 1 = .int (sA.2 13 ck) := by
  obtain ⟨b2, e2, h2⟩ := h.2.2.1 ck hc
  cases e2.symm.trans hb
  exact h2.2.2.1
theorem SR.cf2 (h : SR g L f (x0, wk, vs, cl, ru, va) sA) (hc : (ck : Int) < (sA.1 12).toInt) (hb : ra f cl ck = some b) : rd f b 2 = .int (sA.2 14 ck) := by
  obtain ⟨b2, e2, h2⟩ := h.2.2.1 ck hc
  cases e2.symm.trans hb
  exact h2.2.2.2.1
theorem SR.cf3 (h : SR g L f (x0, wk, vs, cl, ru, va) sA) (hc : (ck : Int) < (sA.1 12).toInt) (hb : ra f cl ck = some b) : rd f b 3 = .int (sA.2 15 ck) := by
  obtain ⟨b2, e2, h2⟩ := h.2.2.1 ck hc
  cases e2.symm.trans hb
  exact h2.2.2.2.2.1
theorem SR.cf4 (h : SR g L f (x0, wk, vs, cl, ru, va) sA) (hc : (ck : Int) < (sA.1 12).toInt) (hb : ra f cl ck = some b) : rd f b 4 = .int (dyA (sA.2 16 ck)) := by
  obtain ⟨b2, e2, h2⟩ := h.2.2.1 ck hc
  cases e2.symm.trans hb
  exact h2.2.2.2.2.2.1
theorem SR.cf5 (h : SR g L f (x0, wk, vs, cl, ru, va) sA) (hc : (ck : Int) < (sA.1 12).toInt) (hb : ra f cl ck = some b) : rd f b 5 = .int (sA.2 16 ck) := by
  obtain ⟨b2, e2, h2⟩ := h.2.2.1 ck hc
  cases e2.symm.trans hb
  exact h2.2.2.2.2.2.2.1
end CFS

noncomputable abbrev rm_X7_takeFoodS : Room := rm_X7_takeFoodE
theorem t_X7_takeFoodS (l : Launch) (dC : Nat → ClassId) (dI : Nat → Nat → Nat) (sa : Nat → Nat) (hlt : l.stackTraces = false) (g : Nat → Nat) (L : List Nat) (f : Nat → va_E) (x0 : Nat) (wk : Nat) (vs : Nat) (cl : Nat) (ru : Nat) (va : Nat → Nat) (sA : AS) (k : Nat) (h0 : Nat) (n : Int32) (sz : Nat) (hT : TP g L f [(h0, (0, 7, 0))]) (hSR : SR g L f (x0, wk, vs, cl, ru, va) sA) (hk : k < 6) (hb : h0 = va k) : KC l dC dI sa g yX7_takeFood wsX7_takeFood rm_X7_takeFoodS [.ref h0, .int n] L f sz (fun r L' f' => ((r = some (.int 0) ∧ (1000 < sA.2 5 k + n)) ∨ (r = some (.int 1) ∧ (¬ 1000 < sA.2 5 k + n))) ∧ Fr [(7, 2), (7, 4)] L f f' ∧ (SR g L' f' (x0, wk, vs, cl, ru, va) (feA sA k n))) 0 0 := by
  refine (t_X7_takeFoodE l dC dI sa hlt g L f h0 n (sA.2 5 k) (sA.2 7 k) sz hT (by rw [hb]; exact (hSR.2.1 k hk).2.2.2.2.1) (by rw [hb]; exact (hSR.2.1 k hk).2.2.2.2.2.2.1)).mono (fun r L' f' hE h => ?_)
  obtain ⟨hr, hF, fo2, st2, k1, k2, rfl, rfl, hO⟩ := h
  exact ⟨hr, hF, hSR.fe hk hb hE hF k1 k2 hO⟩

noncomputable abbrev rm_X7_takeLimeS : Room := rm_X7_takeLimeE
theorem t_X7_takeLimeS (l : Launch) (dC : Nat → ClassId) (dI : Nat → Nat → Nat) (sa : Nat → Nat) (hlt : l.stackTraces = false) (g : Nat → Nat) (L : List Nat) (f : Nat → va_E) (x0 : Nat) (wk : Nat) (vs : Nat) (cl : Nat) (ru : Nat) (va : Nat → Nat) (sA : AS) (k : Nat) (h0 : Nat) (sz : Nat) (hT : TP g L f [(h0, (0, 7, 0))]) (hSR : SR g L f (x0, wk, vs, cl, ru, va) sA) (hk : k < 6) (hb : h0 = va k) : KC l dC dI sa g yX7_takeLime wsX7_takeLime rm_X7_takeLimeS [.ref h0] L f sz (fun r L' f' => (r = none) ∧ Fr [(7, 2), (7, 3), (7, 4)] L f f' ∧ (SR g L' f' (x0, wk, vs, cl, ru, va) (lmA sA k))) 0 0 := by
  refine (t_X7_takeLimeE l dC dI sa hlt g L f h0 (sA.2 5 k) (sA.2 6 k) (sA.2 7 k) sz hT (by rw [hb]; exact (hSR.2.1 k hk).2.2.2.2.1) (by rw [hb]; exact (hSR.2.1 k hk).2.2.2.2.2.1) (by rw [hb]; exact (hSR.2.1 k hk).2.2.2.2.2.2.1)).mono (fun r L' f' hE h => ?_)
  obtain ⟨hr, hF, fo2, mi2, st2, k1, k2, k3, rfl, rfl, rfl, hO⟩ := h
  exact ⟨hr, hF, hSR.lm hk hb hE hF k1 k2 k3 hO⟩

noncomputable abbrev rm_X8_airOutS : Room := rm_X8_airOutE
theorem t_X8_airOutS (l : Launch) (dC : Nat → ClassId) (dI : Nat → Nat → Nat) (sa : Nat → Nat) (hlt : l.stackTraces = false) (g : Nat → Nat) (L : List Nat) (f : Nat → va_E) (x0 : Nat) (vs : Nat) (cl : Nat) (ru : Nat) (va : Nat → Nat) (sA : AS) (ck : Nat) (h0 : Nat) (o : Nat) (sz : Nat) (hT : TP g L f [(h0, (0, 8, 0)), (o, (0, 0, 0))]) (hSR : SR g L f (x0, h0, vs, cl, ru, va) sA) (hn : (sA.1 12).toInt ≤ 30) (hc : (ck : Int) < (sA.1 12).toInt) (hcl : ra f cl ck = some o) : KC l dC dI sa g yX8_airOut wsX8_airOut rm_X8_airOutS [.ref h0, .ref o] L f sz (fun r L' f' => (∃ z : Int32, r = some (.int z)) ∧ Fr [(0, 2), (0, 3), (8, 2)] L f f' ∧ (r = some (.int (sA.2 14 ck / 8)) ∧ SR g L' f' (x0, h0, vs, cl, ru, va) (aiA sA ck))) 0 0 := by
  refine (t_X8_airOutE l dC dI sa hlt g L f h0 o (sA.2 14 ck) (sA.2 15 ck) (sA.1 2) sz hT (SR.cf2 hSR hc hcl) (SR.cf3 hSR hc hcl) hSR.2.2.2.1.2).mono (fun r L' f' hE h => ?_)
  obtain ⟨hr, hF, lo2, fa2, dr2, k1, k2, k3, rfl, rfl, rfl, hO, -, hx⟩ := h
  exact ⟨hr, hF, hx, hSR.ai hn hc hcl hE hF k1 k2 k3 hO⟩

noncomputable abbrev rm_X8_washOutS : Room := rm_X8_washOutE
theorem t_X8_washOutS (l : Launch) (dC : Nat → ClassId) (dI : Nat → Nat → Nat) (sa : Nat → Nat) (hlt : l.stackTraces = false) (g : Nat → Nat) (L : List Nat) (f : Nat → va_E) (x0 : Nat) (vs : Nat) (cl : Nat) (ru : Nat) (va : Nat → Nat) (sA : AS) (ck : Nat) (h0 : Nat) (o : Nat) (sz : Nat) (hT : TP g L f [(h0, (0, 8, 0)), (o, (0, 0, 0))]) (hSR : SR g L f (x0, h0, vs, cl, ru, va) sA) (hn : (sA.1 12).toInt ≤ 30) (hc : (ck : Int) < (sA.1 12).toInt) (hcl : ra f cl ck = some o) : KC l dC dI sa g yX8_washOut wsX8_washOut rm_X8_washOutS [.ref h0, .ref o] L f sz (fun r L' f' => (∃ z : Int32, r = some (.int z)) ∧ Fr [(0, 2), (0, 3), (8, 2)] L f f' ∧ (r = some (.int (sA.2 14 ck + sA.2 15 ck / 20)) ∧ SR g L' f' (x0, h0, vs, cl, ru, va) (waA sA ck))) 0 0 := by
  refine (t_X8_washOutE l dC dI sa hlt g L f h0 o (sA.2 14 ck) (sA.2 15 ck) (sA.1 2) sz hT (SR.cf2 hSR hc hcl) (SR.cf3 hSR hc hcl) hSR.2.2.2.1.2).mono (fun r L' f' hE h => ?_)
  obtain ⟨hr, hF, lo2, fa2, dr2, k1, k2, k3, rfl, rfl, rfl, hO, -, hx⟩ := h
  exact ⟨hr, hF, hx, hSR.wa hn hc hcl hE hF k1 k2 k3 hO⟩

noncomputable abbrev rm_X8_dryOutS : Room := rm_X8_dryOutE
theorem t_X8_dryOutS (l : Launch) (dC : Nat → ClassId) (dI : Nat → Nat → Nat) (sa : Nat → Nat) (hlt : l.stackTraces = false) (g : Nat → Nat) (L : List Nat) (f : Nat → va_E) (x0 : Nat) (vs : Nat) (cl : Nat) (ru : Nat) (va : Nat → Nat) (sA : AS) (ck : Nat) (h0 : Nat) (o : Nat) (sz : Nat) (hT : TP g L f [(h0, (0, 8, 0)), (o, (0, 0, 0))]) (hSR : SR g L f (x0, h0, vs, cl, ru, va) sA) (hn : (sA.1 12).toInt ≤ 30) (hc : (ck : Int) < (sA.1 12).toInt) (hcl : ra f cl ck = some o) (h24 : ¬ sA.1 1 / 24 = -1) : KC l dC dI sa g yX8_dryOut wsX8_dryOut rm_X8_dryOutS [.ref h0, .ref o] L f sz (fun r L' f' => (∃ z : Int32, r = some (.int z)) ∧ Fr [(0, 2), (0, 3), (0, 4), (0, 5), (8, 2)] L f f' ∧ (r = some (.int (sA.2 14 ck / 8)) ∧ SR g L' f' (x0, h0, vs, cl, ru, va) (dyS sA ck))) 0 0 := by
  refine (t_X8_dryOutE l dC dI sa hlt g L f h0 o (sA.2 14 ck) (sA.2 15 ck) (sA.1 2) (dyA (sA.2 16 ck)) (sA.2 16 ck) (sA.1 1) sz hT (SR.cf2 hSR hc hcl) (SR.cf3 hSR hc hcl) hSR.2.2.2.1.2 (SR.cf4 hSR hc hcl) (SR.cf5 hSR hc hcl) hSR.2.2.2.1.1).mono (fun r L' f' hE h => ?_)
  obtain ⟨hr, hF, lo2, fa2, dr2, dy2, da2, k1, k2, k3, k4, k5, rfl, rfl, rfl, rfl, rfl, hO, -, hx⟩ := h
  exact ⟨hr, hF, hx, hSR.dy hn hc hcl hE hF k1 k2 k4 k5 h24 k3 hO⟩



