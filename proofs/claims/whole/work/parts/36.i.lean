noncomputable abbrev rm_X0_initE : Room := { frames := 1, cells := 0, slots := 0, locals := 12 }
set_option maxHeartbeats 800000 in
set_option maxRecDepth 100000 in
theorem t_X0_initE (l : Launch) (dC : Nat → ClassId) (dI : Nat → Nat → Nat) (sa : Nat → Nat) (hlt : l.stackTraces = false) (g : Nat → Nat) (L : List Nat) (f : Nat → va_E) (h0 : Nat) (nu : Int32) (we : Int32) (sz : Nat) (hT : TP g L f [(h0, (0, 0, 0))]) : KC l dC dI sa g yX0_init wsX0_init rm_X0_initE [.ref h0, .int nu, .int we] L f sz (fun r L' f' => (r = none) ∧ Fr [(0, 0), (0, 1), (0, 5)] L f f' ∧ (∃ q0' : Int32, ∃ q1' : Int32, ∃ q5' : Int32, rd f' h0 0 = .int q0' ∧ rd f' h0 1 = .int q1' ∧ rd f' h0 5 = .int q5' ∧ (q0' = nu) ∧ (q1' = we) ∧ (q5' = -1) ∧ (OF 0 [h0] L f f'))) 0 0 := by
  refine CT.start (cc := cX0_init) (maxL := 3) (ret := none) (by decide) rfl (Nat.le_of_ble_eq_true rfl) ?_
  intro p e s m below meth c ls hst hP hK hD hev hS hl
  obtain ⟨hx, hb, hr, hml, hts, hown, hlocks, hin⟩ := hst
  have hown : s.vm.findClass RX0 = some m.cls := hown
  have hin : meth.name = yX0_init.name := hin
  have hA : ∀ q : Nat, s.heap.size ≤ q → va_A (va_pl L f) s.heap.size q := fun _ h => Or.inr h
  have hE : Ext L f L f := Ext.rf
  have hF : Fr [(0, 0), (0, 1), (0, 5)] L f f := Fr.rf
  have hO0 : OF 0 [h0] L f f := OF.rf
  have hl : lv_has ls 3 [(0, .ref h0), (1, .int nu), (2, .int we)] := hl
  refine lv_aload_n hx hb dX0_init_0 rfl (lv_at hl 0 rfl) ?_
  refine W.objInit hx hb hown (hts (.methodLink RX0 3 objectInit) (List.mem_of_getElem? (i := 1) (by exact rfl))) (hts (.instanceMethod objectInit) (List.mem_of_getElem? (i := 2) (by exact rfl))) (hts (.code objectInit ⟨#[0xb1]⟩ 1 none) (List.mem_of_getElem? (i := 3) (by exact rfl))) rfl (by rw [hml]; exact hl.1) rfl dX0_init_1 (Nat.le_of_ble_eq_true rfl) (Nat.le_of_ble_eq_true rfl) ?_
  refine W.eq (g2 := F0 m 4 ls []) rfl ?_
  refine lv_aload_n hx hb dX0_init_4 rfl (lv_at hl 0 rfl) ?_
  refine lv_iconst (v := (-1)) hx hb dX0_init_5 (by decide) ?_
  refine T_put (ci := 0) (v := .int (-1)) (ty := .int) (t := tI) (C := RX0) (T := TX0) (N := 8) hx hb hts inw_X0_init_0 tyX0 tyX0_ok nmX0 hown hK hP hD hS hT 0 rfl rfl 5 (by decide) (hts (.fieldLink RX0 9 "VatHouse$Cloth" "day" "I") (List.mem_of_getElem? (i := 4) (by exact rfl))) (fun _ h9 => h9) rfl (tyX0_ok 5 (by decide)) rfl rfl rfl ⟨_, rfl⟩ dX0_init_6 (fun f_1 H locs hP hD hS hT hE1 hrd_2 hup_3 => ?_)
  have hO0 := hO0.put hrd_2 (by simp)
  have hF := Fr.put (a := h0) (ci := 0) hF hE ((hE1 h0 (hT.at 0 rfl).1).2.symm.trans (hT.at 0 rfl).2) (by decide) hrd_2 hup_3
  have hE := hE.tr hE1
  have hk_4 : rd f_1 h0 5 = .int (-1) := (hrd_2 h0 5).trans (if_pos ⟨rfl, rfl⟩)
  refine lv_aload_n hx hb dX0_init_9 rfl (lv_at hl 0 rfl) ?_
  refine lv_iload_n hx hb dX0_init_10 rfl (lv_at hl 1 rfl) ?_
  have hTo := hT
  refine T_putF (ci := 0) (v := .int nu) (ty := .int) (t := tI) (C := RX0) (T := TX0) (N := 8) hx hb hts inw_X0_init_0 tyX0 tyX0_ok nmX0 hown hK hP hD hS hT 0 rfl rfl 0 (by decide) (hts (.fieldLink RX0 15 "VatHouse$Cloth" "number" "I") (List.mem_of_getElem? (i := 5) (by exact rfl))) (fun _ h9 => h9) rfl hin rfl (tyX0_ok 0 (by decide)) rfl rfl rfl ⟨_, rfl⟩ dX0_init_11 (fun f_5 H locs hP hD hS hT hE1 hrd_6 hup_7 => ?_)
  have hO0 := hO0.put hrd_6 (by simp)
  have hF := Fr.put (a := h0) (ci := 0) hF hE ((hE1 h0 (hT.at 0 rfl).1).2.symm.trans (hT.at 0 rfl).2) (by decide) hrd_6 hup_7
  have hE := hE.tr hE1
  have hk_8 : rd f_5 h0 5 = .int (-1) := ((Fr.put (cs := [(0, 0)]) (a := h0) (ci := 0) Fr.rf Ext.rf (hTo.at 0 rfl).2 (by decide) hrd_6 hup_7).1 h0 (hTo.at 0 rfl).1 0 (hTo.at 0 rfl).2 5 (by decide)).trans hk_4
  have hk_9 : rd f_5 h0 0 = .int nu := (hrd_6 h0 0).trans (if_pos ⟨rfl, rfl⟩)
  refine lv_aload_n hx hb dX0_init_14 rfl (lv_at hl 0 rfl) ?_
  refine lv_iload_n hx hb dX0_init_15 rfl (lv_at hl 2 rfl) ?_
  have hTo := hT
  refine T_put (ci := 0) (v := .int we) (ty := .int) (t := tI) (C := RX0) (T := TX0) (N := 8) hx hb hts inw_X0_init_0 tyX0 tyX0_ok nmX0 hown hK hP hD hS hT 0 rfl rfl 1 (by decide) (hts (.fieldLink RX0 18 "VatHouse$Cloth" "weight" "I") (List.mem_of_getElem? (i := 6) (by exact rfl))) (fun _ h9 => h9) rfl (tyX0_ok 1 (by decide)) rfl rfl rfl ⟨_, rfl⟩ dX0_init_16 (fun f_10 H locs hP hD hS hT hE1 hrd_11 hup_12 => ?_)
  have hO0 := hO0.put hrd_11 (by simp)
  have hF := Fr.put (a := h0) (ci := 0) hF hE ((hE1 h0 (hT.at 0 rfl).1).2.symm.trans (hT.at 0 rfl).2) (by decide) hrd_11 hup_12
  have hE := hE.tr hE1
  have hk_13 : rd f_10 h0 5 = .int (-1) := ((Fr.put (cs := [(0, 1)]) (a := h0) (ci := 0) Fr.rf Ext.rf (hTo.at 0 rfl).2 (by decide) hrd_11 hup_12).1 h0 (hTo.at 0 rfl).1 0 (hTo.at 0 rfl).2 5 (by decide)).trans hk_8
  have hk_14 : rd f_10 h0 0 = .int nu := ((Fr.put (cs := [(0, 1)]) (a := h0) (ci := 0) Fr.rf Ext.rf (hTo.at 0 rfl).2 (by decide) hrd_11 hup_12).1 h0 (hTo.at 0 rfl).1 0 (hTo.at 0 rfl).2 0 (by decide)).trans hk_9
  have hk_15 : rd f_10 h0 1 = .int we := (hrd_11 h0 1).trans (if_pos ⟨rfl, rfl⟩)
  exact K_v hx hb hr hlocks hP hD hK hS hT hE ⟨rfl, hF, _, _, _, hk_14, hk_15, hk_13, rfl, rfl, rfl, hO0⟩ (Nat.le_of_ble_eq_true rfl) (Nat.le_of_ble_eq_true rfl) dX0_init_19

theorem c30_of {n : Int32} (h0 : ¬ n < 0) (h : ¬ 30 ≤ n) : 0 ≤ n.toInt ∧ n.toInt < 30 := by
  rw [Int32.lt_iff_toInt_lt] at h0
  rw [Int32.le_iff_toInt_le] at h
  have c0 : (0 : Int32).toInt = 0 := by decide
  have c3 : (30 : Int32).toInt = 30 := by decide
  omega
theorem c30_eq {n : Int32} (h : n.toInt ≤ 30) (h3 : 30 ≤ n) : n = 30 := by
  rw [Int32.le_iff_toInt_le] at h3
  have c3 : (30 : Int32).toInt = 30 := by decide
  exact Int32.toInt_inj.mp (by omega)

theorem nneg {a : Int32} (h : 0 ≤ a.toInt) : ¬ a < 0 := fun g => by
  rw [Int32.lt_iff_toInt_lt] at g
  have c0 : (0 : Int32).toInt = 0 := by decide
  omega

